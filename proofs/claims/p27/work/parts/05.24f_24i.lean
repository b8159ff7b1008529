section MZ
variable {c0 c1 c2 c3 c4 c5 c6 c7 c8 c9 c10 c11 c12 c13 : va_E} {f0 f9 f10 f11 f12 f13 f15 f16 f17 f20 f21 f22 f23 f26 f28 f31 f32 f33 f38 f41 f44 : Int} {x14 : Int64} {g15 g16 g17 g18 g19 g20 g21 g22 g23 g24 g25 g26 g27 g28 g29 g30 g31 g32 g33 g34 g35 g36 g37 g38 g39 g40 g41 g42 g43 g44 : Nat → Int32} {t : zW}
theorem m_findFar31 (d : Nat) (a1 a2 : Int) (hb30 : zB 0 5460 g30) (hr1 : 0 ≤ f23 ∧ f23 ≤ 5) (hr2 : 0 ≤ a1 ∧ a1 ≤ 5460) (hr3 : zB 0 5460 g33) (Q : zQ) (h : ∀ (y38 : Int) (k33 : Nat → Int32) (k31 : Nat → Int32), zB 0 5460 k33 → (1 ≤ y38 ∧ y38 ≤ 5461) → (ffI k31 k33 y38) → Q (none) (zMi c0 c1 c2 c3 c4 c5 c6 c7 c8 c9 c10 c11 c12 c13 f0 f9 f10 f11 f12 f13 f15 f16 f17 f20 f21 f22 f23 f26 f28 f31 f32 f33 y38 f41 f44 x14 g15 g16 g17 g18 g19 g20 g21 g22 g23 g24 g25 g26 g27 g28 g29 g30 k31 g32 k33 g34 g35 g36 g37 g38 g39 g40 g41 g42 g43 g44 t)) : zCl zTab (d + 2) iX12_findFar [.ref 14, .int (Int32.ofInt a1), .int (Int32.ofInt a2), .ref 31] (zMi c0 c1 c2 c3 c4 c5 c6 c7 c8 c9 c10 c11 c12 c13 f0 f9 f10 f11 f12 f13 f15 f16 f17 f20 f21 f22 f23 f26 f28 f31 f32 f33 f38 f41 f44 x14 g15 g16 g17 g18 g19 g20 g21 g22 g23 g24 g25 g26 g27 g28 g29 g30 g31 g32 g33 g34 g35 g36 g37 g38 g39 g40 g41 g42 g43 g44 t) 0 0 Q := by
  refine zCl_i (M := kX12_findFar) rfl (Nat.le_of_ble_eq_true rfl) fun R hR => ?_
  iterate 2 refine hR (?_ : R (_, _, _, _, _, _))
  have lp3 : ∀ (N : Nat) (i : Int) (q31_3 : Nat → Int32), (0 ≤ i ∧ i ≤ 5461) → (∀ j : Nat, (j : Int) < i → (q31_3 j).toInt = 1000000) → (5461 - i < N) → R (3, [some (.ref 14), some (.int (Int32.ofInt a1)), some (.int (Int32.ofInt a2)), some (.ref 31), some (.int (Int32.ofInt i)), none, none], [], (zMi c0 c1 c2 c3 c4 c5 c6 c7 c8 c9 c10 c11 c12 c13 f0 f9 f10 f11 f12 f13 f15 f16 f17 f20 f21 f22 f23 f26 f28 f31 f32 f33 f38 f41 f44 x14 g15 g16 g17 g18 g19 g20 g21 g22 g23 g24 g25 g26 g27 g28 g29 g30 q31_3 g32 g33 g34 g35 g36 g37 g38 g39 g40 g41 g42 g43 g44 t), 0, 0) := by
    intro N
    induction N with
    | zero => intros; omega
    | succ N ih3 =>
      intro i q31_3 hf0_3 hp0_3 hN3
      refine hR (?_ : R (_, _, _, _, _, _))
      refine hR (t_c 5461 (by decide) ?_)
      refine hR (j_ge (by omega) (by omega) (fun hc1 => ?_) (fun hc1 => ?_))
      rotate_left
      · skip
        iterate 2 refine hR (?_ : R (_, _, _, _, _, _))
        refine hR (t_c 1000000 (by decide) ?_)
        refine hR (t_st (by omega) (by omega) (Nat.le_of_ble_eq_true rfl) (?_ : R (_, _, _, (zMi c0 c1 c2 c3 c4 c5 c6 c7 c8 c9 c10 c11 c12 c13 f0 f9 f10 f11 f12 f13 f15 f16 f17 f20 f21 f22 f23 f26 f28 f31 f32 f33 f38 f41 f44 x14 g15 g16 g17 g18 g19 g20 g21 g22 g23 g24 g25 g26 g27 g28 g29 g30 (upd q31_3 i.toNat (Int32.ofInt 1000000)) g32 g33 g34 g35 g36 g37 g38 g39 g40 g41 g42 g43 g44 t), _, _)))
        refine hR (t_inc ?_)
        refine hR (?_ : R (_, _, _, _, _, _))
        exact ih3 _ _ (by omega) (ff_i hp0_3 (by omega)) (by omega)
      iterate 3 refine hR (?_ : R (_, _, _, _, _, _))
      refine hR (t_st (by omega) (by omega) (Nat.le_of_ble_eq_true rfl) (?_ : R (_, _, _, (zMi c0 c1 c2 c3 c4 c5 c6 c7 c8 c9 c10 c11 c12 c13 f0 f9 f10 f11 f12 f13 f15 f16 f17 f20 f21 f22 f23 f26 f28 f31 f32 f33 f38 f41 f44 x14 g15 g16 g17 g18 g19 g20 g21 g22 g23 g24 g25 g26 g27 g28 g29 g30 (upd q31_3 a1.toNat (Int32.ofInt 0)) g32 g33 g34 g35 g36 g37 g38 g39 g40 g41 g42 g43 g44 t), _, _)))
      iterate 4 refine hR (?_ : R (_, _, _, _, _, _))
      refine hR (t_st (by omega) (by omega) (Nat.le_of_ble_eq_true rfl) (?_ : R (_, _, _, (zMi c0 c1 c2 c3 c4 c5 c6 c7 c8 c9 c10 c11 c12 c13 f0 f9 f10 f11 f12 f13 f15 f16 f17 f20 f21 f22 f23 f26 f28 f31 f32 f33 f38 f41 f44 x14 g15 g16 g17 g18 g19 g20 g21 g22 g23 g24 g25 g26 g27 g28 g29 g30 (upd q31_3 a1.toNat (Int32.ofInt 0)) g32 (upd g33 (0 : Int).toNat (Int32.ofInt a1)) g34 g35 g36 g37 g38 g39 g40 g41 g42 g43 g44 t), _, _)))
      iterate 2 refine hR (?_ : R (_, _, _, _, _, _))
      refine hR (?_ : R (_, _, _, (zMi c0 c1 c2 c3 c4 c5 c6 c7 c8 c9 c10 c11 c12 c13 f0 f9 f10 f11 f12 f13 f15 f16 f17 f20 f21 f22 f23 f26 f28 f31 f32 f33 1 f41 f44 x14 g15 g16 g17 g18 g19 g20 g21 g22 g23 g24 g25 g26 g27 g28 g29 g30 (upd q31_3 a1.toNat (Int32.ofInt 0)) g32 (upd g33 (0 : Int).toNat (Int32.ofInt a1)) g34 g35 g36 g37 g38 g39 g40 g41 g42 g43 g44 t), _, _))
      iterate 2 refine hR (?_ : R (_, _, _, _, _, _))
      have lp43 : ∀ (N : Nat) (k : Int) (o5_43 : Option Value) (o6_43 : Option Value) (e38_43 : Int) (q33_43 : Nat → Int32) (q31_43 : Nat → Int32), (zc2 o5_43 = false) → (zc2 o6_43 = false) → (0 ≤ k ∧ k ≤ 5461) → (ffI q31_43 q33_43 e38_43) → (zB 0 5460 q33_43) → (1 ≤ e38_43 ∧ e38_43 ≤ 5461) → (k ≤ e38_43) → (5461 - k < N) → R (43, [some (.ref 14), some (.int (Int32.ofInt a1)), some (.int (Int32.ofInt a2)), some (.ref 31), some (.int (Int32.ofInt k)), o5_43, o6_43], [], (zMi c0 c1 c2 c3 c4 c5 c6 c7 c8 c9 c10 c11 c12 c13 f0 f9 f10 f11 f12 f13 f15 f16 f17 f20 f21 f22 f23 f26 f28 f31 f32 f33 e38_43 f41 f44 x14 g15 g16 g17 g18 g19 g20 g21 g22 g23 g24 g25 g26 g27 g28 g29 g30 q31_43 g32 q33_43 g34 g35 g36 g37 g38 g39 g40 g41 g42 g43 g44 t), 0, 0) := by
        intro N
        induction N with
        | zero => intros; omega
        | succ N ih43 =>
          intro k o5_43 o6_43 e38_43 q33_43 q31_43 hzo5_43 hzo6_43 hf0_43 hp0_43 hp1_43 hp2_43 hp3_43 hN43
          iterate 3 refine hR (?_ : R (_, _, _, _, _, _))
          refine hR (j_ge (by omega) (by omega) (fun hc4 => ?_) (fun hc4 => ?_))
          · skip
            exact hR (zret_i rfl (Nat.le_refl _) rfl (h _ _ _ hp1_43 (by omega) hp0_43))
          iterate 2 refine hR (?_ : R (_, _, _, _, _, _))
          have lp55 : ∀ (N : Nat) (r : Int) (o6_55 : Option Value) (e38_55 : Int) (q33_55 : Nat → Int32) (q31_55 : Nat → Int32), (zc2 o6_55 = false) → (0 ≤ r ∧ r ≤ f23) → (ffI q31_55 q33_55 e38_55) → (zB 0 5460 q33_55) → (1 ≤ e38_55 ∧ e38_55 ≤ 5461) → (k < e38_55) → (f23 - r < N) → R (55, [some (.ref 14), some (.int (Int32.ofInt a1)), some (.int (Int32.ofInt a2)), some (.ref 31), some (.int (Int32.ofInt k)), some (.int (Int32.ofInt r)), o6_55], [], (zMi c0 c1 c2 c3 c4 c5 c6 c7 c8 c9 c10 c11 c12 c13 f0 f9 f10 f11 f12 f13 f15 f16 f17 f20 f21 f22 f23 f26 f28 f31 f32 f33 e38_55 f41 f44 x14 g15 g16 g17 g18 g19 g20 g21 g22 g23 g24 g25 g26 g27 g28 g29 g30 q31_55 g32 q33_55 g34 g35 g36 g37 g38 g39 g40 g41 g42 g43 g44 t), 0, 0) := by
            intro N
            induction N with
            | zero => intros; omega
            | succ N ih55 =>
              intro r o6_55 e38_55 q33_55 q31_55 hzo6_55 hf0_55 hp0_55 hp1_55 hp2_55 hp3_55 hN55
              iterate 3 refine hR (?_ : R (_, _, _, _, _, _))
              refine hR (j_ge (by omega) (by omega) (fun hc5 => ?_) (fun hc5 => ?_))
              · skip
                refine hR (t_inc ?_)
                refine hR (?_ : R (_, _, _, _, _, _))
                exact ih43 _ _ _ _ _ _ (by rfl) hzo6_55 (by omega) hp0_55 hp1_55 (by omega) (by omega) (by omega)
              iterate 2 refine hR (?_ : R (_, _, _, _, _, _))
              refine hR (t_c 5461 (by decide) ?_)
              refine hR (?_ : R (_, _, _, _, _, _))
              refine hR (t_mul ?_)
              iterate 3 refine hR (?_ : R (_, _, _, _, _, _))
              refine hR (t_ldE (by omega) (by omega) (Nat.le_of_ble_eq_true rfl) fun v6 ev6 rv6 => ?_)
              have bv6 := hp1_55 k.toNat
              rw [← ev6] at bv6
              refine hR (t_add ?_)
              refine hR (t_ldB hb30 (by omega) (by omega) (Nat.le_of_ble_eq_true rfl) fun v7 ev7 lv7 uv7 => ?_)
              clear ev7
              iterate 3 refine hR (?_ : R (_, _, _, _, _, _))
              refine hR (zcall_i 0 0 (Nat.le_of_ble_eq_true rfl) (Nat.le_of_ble_eq_true rfl) (m_has _ a2 r _ _ fun v8 hp9 => ?_))
              refine (?_ : R (_, _, (.int (Int32.ofInt v8)) :: [], (zMi c0 c1 c2 c3 c4 c5 c6 c7 c8 c9 c10 c11 c12 c13 f0 f9 f10 f11 f12 f13 f15 f16 f17 f20 f21 f22 f23 f26 f28 f31 f32 f33 e38_55 f41 f44 x14 g15 g16 g17 g18 g19 g20 g21 g22 g23 g24 g25 g26 g27 g28 g29 g30 q31_55 g32 q33_55 g34 g35 g36 g37 g38 g39 g40 g41 g42 g43 g44 t), 0, 0))
              refine hR (k_ne (by omega) (fun hc10 => ?_) (fun hc10 => ?_))
              · skip
                refine hR (t_inc ?_)
                refine hR (?_ : R (_, _, _, _, _, _))
                exact ih55 _ _ _ _ _ (by rfl) (by omega) hp0_55 hp1_55 (by omega) (by omega) (by omega)
              iterate 2 refine hR (?_ : R (_, _, _, _, _, _))
              refine hR (t_ldE (by omega) (by omega) (Nat.le_of_ble_eq_true rfl) fun v11 ev11 rv11 => ?_)
              refine hR (t_c 1000000 (by decide) ?_)
              refine hR (j_ne (by omega) (by omega) (fun hc12 => ?_) (fun hc12 => ?_))
              · skip
                refine hR (t_inc ?_)
                refine hR (?_ : R (_, _, _, _, _, _))
                exact ih55 _ _ _ _ _ (by rfl) (by omega) hp0_55 hp1_55 (by omega) (by omega) (by omega)
              have hfar : (q31_55 v7.toNat).toInt = 1000000 := by rw [← ev11]; omega
              have hlt := ff_lt hp0_55 (by omega) hfar
              iterate 6 refine hR (?_ : R (_, _, _, _, _, _))
              refine hR (t_ldE (by omega) (by omega) (Nat.le_of_ble_eq_true rfl) fun v13 ev13 rv13 => ?_)
              have bv13 := hp1_55 k.toNat
              rw [← ev13] at bv13
              refine hR (t_ldE (by omega) (by omega) (Nat.le_of_ble_eq_true rfl) fun v14 ev14 rv14 => ?_)
              have cv14 := ff_v (v := v14) hp0_55 hp1_55 (k := k.toNat) (by omega) (by rw [← ev13]; exact ev14)
              refine hR (?_ : R (_, _, _, _, _, _))
              refine hR (t_add ?_)
              refine hR (t_st (by omega) (by omega) (Nat.le_of_ble_eq_true rfl) (?_ : R (_, _, _, (zMi c0 c1 c2 c3 c4 c5 c6 c7 c8 c9 c10 c11 c12 c13 f0 f9 f10 f11 f12 f13 f15 f16 f17 f20 f21 f22 f23 f26 f28 f31 f32 f33 e38_55 f41 f44 x14 g15 g16 g17 g18 g19 g20 g21 g22 g23 g24 g25 g26 g27 g28 g29 g30 (upd q31_55 v7.toNat (Int32.ofInt (v14 + 1))) g32 q33_55 g34 g35 g36 g37 g38 g39 g40 g41 g42 g43 g44 t), _, _)))
              iterate 5 refine hR (?_ : R (_, _, _, _, _, _))
              refine hR (t_st (by omega) (by omega) (Nat.le_of_ble_eq_true rfl) (?_ : R (_, _, _, (zMi c0 c1 c2 c3 c4 c5 c6 c7 c8 c9 c10 c11 c12 c13 f0 f9 f10 f11 f12 f13 f15 f16 f17 f20 f21 f22 f23 f26 f28 f31 f32 f33 e38_55 f41 f44 x14 g15 g16 g17 g18 g19 g20 g21 g22 g23 g24 g25 g26 g27 g28 g29 g30 (upd q31_55 v7.toNat (Int32.ofInt (v14 + 1))) g32 (upd q33_55 e38_55.toNat (Int32.ofInt v7)) g34 g35 g36 g37 g38 g39 g40 g41 g42 g43 g44 t), _, _)))
              iterate 4 refine hR (?_ : R (_, _, _, _, _, _))
              refine hR (t_add ?_)
              refine hR (?_ : R (_, _, _, (zMi c0 c1 c2 c3 c4 c5 c6 c7 c8 c9 c10 c11 c12 c13 f0 f9 f10 f11 f12 f13 f15 f16 f17 f20 f21 f22 f23 f26 f28 f31 f32 f33 (e38_55 + 1) f41 f44 x14 g15 g16 g17 g18 g19 g20 g21 g22 g23 g24 g25 g26 g27 g28 g29 g30 (upd q31_55 v7.toNat (Int32.ofInt (v14 + 1))) g32 (upd q33_55 e38_55.toNat (Int32.ofInt v7)) g34 g35 g36 g37 g38 g39 g40 g41 g42 g43 g44 t), _, _))
              refine hR (t_inc ?_)
              refine hR (?_ : R (_, _, _, _, _, _))
              exact ih55 _ _ _ _ _ (by rfl) (by omega) (ff_s hp0_55 (by omega) (by omega) hfar (by omega) hlt (by omega) (by omega)) (zB_u hp1_55 (by omega) (by omega) (by omega) (by omega)) (by omega) (by omega) (by omega)
          exact lp55 400000000 _ _ _ _ _ hzo6_43 (by omega) hp0_43 hp1_43 (by omega) (by omega) (by omega)
      exact lp43 400000000 _ _ _ _ _ _ (by rfl) (by rfl) (by omega) (ff_1 hp0_3 (by omega) (by omega) (by omega)) (zB_u hr3 (by omega) (by omega) (by omega) (by omega)) (by omega) (by omega) (by omega)
  exact lp3 400000000 _ _ (by omega) (fun j hj => by omega) (by omega)
theorem m_findFar32 (d : Nat) (a1 a2 : Int) (hb30 : zB 0 5460 g30) (hr1 : 0 ≤ f23 ∧ f23 ≤ 5) (hr2 : 0 ≤ a1 ∧ a1 ≤ 5460) (hr3 : zB 0 5460 g33) (Q : zQ) (h : ∀ (y38 : Int) (k33 : Nat → Int32) (k32 : Nat → Int32), zB 0 5460 k33 → (1 ≤ y38 ∧ y38 ≤ 5461) → (ffI k32 k33 y38) → Q (none) (zMi c0 c1 c2 c3 c4 c5 c6 c7 c8 c9 c10 c11 c12 c13 f0 f9 f10 f11 f12 f13 f15 f16 f17 f20 f21 f22 f23 f26 f28 f31 f32 f33 y38 f41 f44 x14 g15 g16 g17 g18 g19 g20 g21 g22 g23 g24 g25 g26 g27 g28 g29 g30 g31 k32 k33 g34 g35 g36 g37 g38 g39 g40 g41 g42 g43 g44 t)) : zCl zTab (d + 2) iX12_findFar [.ref 14, .int (Int32.ofInt a1), .int (Int32.ofInt a2), .ref 32] (zMi c0 c1 c2 c3 c4 c5 c6 c7 c8 c9 c10 c11 c12 c13 f0 f9 f10 f11 f12 f13 f15 f16 f17 f20 f21 f22 f23 f26 f28 f31 f32 f33 f38 f41 f44 x14 g15 g16 g17 g18 g19 g20 g21 g22 g23 g24 g25 g26 g27 g28 g29 g30 g31 g32 g33 g34 g35 g36 g37 g38 g39 g40 g41 g42 g43 g44 t) 0 0 Q := by
  refine zCl_i (M := kX12_findFar) rfl (Nat.le_of_ble_eq_true rfl) fun R hR => ?_
  iterate 2 refine hR (?_ : R (_, _, _, _, _, _))
  have lp3 : ∀ (N : Nat) (i : Int) (q32_3 : Nat → Int32), (0 ≤ i ∧ i ≤ 5461) → (∀ j : Nat, (j : Int) < i → (q32_3 j).toInt = 1000000) → (5461 - i < N) → R (3, [some (.ref 14), some (.int (Int32.ofInt a1)), some (.int (Int32.ofInt a2)), some (.ref 32), some (.int (Int32.ofInt i)), none, none], [], (zMi c0 c1 c2 c3 c4 c5 c6 c7 c8 c9 c10 c11 c12 c13 f0 f9 f10 f11 f12 f13 f15 f16 f17 f20 f21 f22 f23 f26 f28 f31 f32 f33 f38 f41 f44 x14 g15 g16 g17 g18 g19 g20 g21 g22 g23 g24 g25 g26 g27 g28 g29 g30 g31 q32_3 g33 g34 g35 g36 g37 g38 g39 g40 g41 g42 g43 g44 t), 0, 0) := by
    intro N
    induction N with
    | zero => intros; omega
    | succ N ih3 =>
      intro i q32_3 hf0_3 hp0_3 hN3
      refine hR (?_ : R (_, _, _, _, _, _))
      refine hR (t_c 5461 (by decide) ?_)
      refine hR (j_ge (by omega) (by omega) (fun hc1 => ?_) (fun hc1 => ?_))
      rotate_left
      · skip
        iterate 2 refine hR (?_ : R (_, _, _, _, _, _))
        refine hR (t_c 1000000 (by decide) ?_)
        refine hR (t_st (by omega) (by omega) (Nat.le_of_ble_eq_true rfl) (?_ : R (_, _, _, (zMi c0 c1 c2 c3 c4 c5 c6 c7 c8 c9 c10 c11 c12 c13 f0 f9 f10 f11 f12 f13 f15 f16 f17 f20 f21 f22 f23 f26 f28 f31 f32 f33 f38 f41 f44 x14 g15 g16 g17 g18 g19 g20 g21 g22 g23 g24 g25 g26 g27 g28 g29 g30 g31 (upd q32_3 i.toNat (Int32.ofInt 1000000)) g33 g34 g35 g36 g37 g38 g39 g40 g41 g42 g43 g44 t), _, _)))
        refine hR (t_inc ?_)
        refine hR (?_ : R (_, _, _, _, _, _))
        exact ih3 _ _ (by omega) (ff_i hp0_3 (by omega)) (by omega)
      iterate 3 refine hR (?_ : R (_, _, _, _, _, _))
      refine hR (t_st (by omega) (by omega) (Nat.le_of_ble_eq_true rfl) (?_ : R (_, _, _, (zMi c0 c1 c2 c3 c4 c5 c6 c7 c8 c9 c10 c11 c12 c13 f0 f9 f10 f11 f12 f13 f15 f16 f17 f20 f21 f22 f23 f26 f28 f31 f32 f33 f38 f41 f44 x14 g15 g16 g17 g18 g19 g20 g21 g22 g23 g24 g25 g26 g27 g28 g29 g30 g31 (upd q32_3 a1.toNat (Int32.ofInt 0)) g33 g34 g35 g36 g37 g38 g39 g40 g41 g42 g43 g44 t), _, _)))
      iterate 4 refine hR (?_ : R (_, _, _, _, _, _))
      refine hR (t_st (by omega) (by omega) (Nat.le_of_ble_eq_true rfl) (?_ : R (_, _, _, (zMi c0 c1 c2 c3 c4 c5 c6 c7 c8 c9 c10 c11 c12 c13 f0 f9 f10 f11 f12 f13 f15 f16 f17 f20 f21 f22 f23 f26 f28 f31 f32 f33 f38 f41 f44 x14 g15 g16 g17 g18 g19 g20 g21 g22 g23 g24 g25 g26 g27 g28 g29 g30 g31 (upd q32_3 a1.toNat (Int32.ofInt 0)) (upd g33 (0 : Int).toNat (Int32.ofInt a1)) g34 g35 g36 g37 g38 g39 g40 g41 g42 g43 g44 t), _, _)))
      iterate 2 refine hR (?_ : R (_, _, _, _, _, _))
      refine hR (?_ : R (_, _, _, (zMi c0 c1 c2 c3 c4 c5 c6 c7 c8 c9 c10 c11 c12 c13 f0 f9 f10 f11 f12 f13 f15 f16 f17 f20 f21 f22 f23 f26 f28 f31 f32 f33 1 f41 f44 x14 g15 g16 g17 g18 g19 g20 g21 g22 g23 g24 g25 g26 g27 g28 g29 g30 g31 (upd q32_3 a1.toNat (Int32.ofInt 0)) (upd g33 (0 : Int).toNat (Int32.ofInt a1)) g34 g35 g36 g37 g38 g39 g40 g41 g42 g43 g44 t), _, _))
      iterate 2 refine hR (?_ : R (_, _, _, _, _, _))
      have lp43 : ∀ (N : Nat) (k : Int) (o5_43 : Option Value) (o6_43 : Option Value) (e38_43 : Int) (q33_43 : Nat → Int32) (q32_43 : Nat → Int32), (zc2 o5_43 = false) → (zc2 o6_43 = false) → (0 ≤ k ∧ k ≤ 5461) → (ffI q32_43 q33_43 e38_43) → (zB 0 5460 q33_43) → (1 ≤ e38_43 ∧ e38_43 ≤ 5461) → (k ≤ e38_43) → (5461 - k < N) → R (43, [some (.ref 14), some (.int (Int32.ofInt a1)), some (.int (Int32.ofInt a2)), some (.ref 32), some (.int (Int32.ofInt k)), o5_43, o6_43], [], (zMi c0 c1 c2 c3 c4 c5 c6 c7 c8 c9 c10 c11 c12 c13 f0 f9 f10 f11 f12 f13 f15 f16 f17 f20 f21 f22 f23 f26 f28 f31 f32 f33 e38_43 f41 f44 x14 g15 g16 g17 g18 g19 g20 g21 g22 g23 g24 g25 g26 g27 g28 g29 g30 g31 q32_43 q33_43 g34 g35 g36 g37 g38 g39 g40 g41 g42 g43 g44 t), 0, 0) := by
        intro N
        induction N with
        | zero => intros; omega
        | succ N ih43 =>
          intro k o5_43 o6_43 e38_43 q33_43 q32_43 hzo5_43 hzo6_43 hf0_43 hp0_43 hp1_43 hp2_43 hp3_43 hN43
          iterate 3 refine hR (?_ : R (_, _, _, _, _, _))
          refine hR (j_ge (by omega) (by omega) (fun hc4 => ?_) (fun hc4 => ?_))
          · skip
            exact hR (zret_i rfl (Nat.le_refl _) rfl (h _ _ _ hp1_43 (by omega) hp0_43))
          iterate 2 refine hR (?_ : R (_, _, _, _, _, _))
          have lp55 : ∀ (N : Nat) (r : Int) (o6_55 : Option Value) (e38_55 : Int) (q33_55 : Nat → Int32) (q32_55 : Nat → Int32), (zc2 o6_55 = false) → (0 ≤ r ∧ r ≤ f23) → (ffI q32_55 q33_55 e38_55) → (zB 0 5460 q33_55) → (1 ≤ e38_55 ∧ e38_55 ≤ 5461) → (k < e38_55) → (f23 - r < N) → R (55, [some (.ref 14), some (.int (Int32.ofInt a1)), some (.int (Int32.ofInt a2)), some (.ref 32), some (.int (Int32.ofInt k)), some (.int (Int32.ofInt r)), o6_55], [], (zMi c0 c1 c2 c3 c4 c5 c6 c7 c8 c9 c10 c11 c12 c13 f0 f9 f10 f11 f12 f13 f15 f16 f17 f20 f21 f22 f23 f26 f28 f31 f32 f33 e38_55 f41 f44 x14 g15 g16 g17 g18 g19 g20 g21 g22 g23 g24 g25 g26 g27 g28 g29 g30 g31 q32_55 q33_55 g34 g35 g36 g37 g38 g39 g40 g41 g42 g43 g44 t), 0, 0) := by
            intro N
            induction N with
            | zero => intros; omega
            | succ N ih55 =>
              intro r o6_55 e38_55 q33_55 q32_55 hzo6_55 hf0_55 hp0_55 hp1_55 hp2_55 hp3_55 hN55
              iterate 3 refine hR (?_ : R (_, _, _, _, _, _))
              refine hR (j_ge (by omega) (by omega) (fun hc5 => ?_) (fun hc5 => ?_))
              · skip
                refine hR (t_inc ?_)
                refine hR (?_ : R (_, _, _, _, _, _))
                exact ih43 _ _ _ _ _ _ (by rfl) hzo6_55 (by omega) hp0_55 hp1_55 (by omega) (by omega) (by omega)
              iterate 2 refine hR (?_ : R (_, _, _, _, _, _))
              refine hR (t_c 5461 (by decide) ?_)
              refine hR (?_ : R (_, _, _, _, _, _))
              refine hR (t_mul ?_)
              iterate 3 refine hR (?_ : R (_, _, _, _, _, _))
              refine hR (t_ldE (by omega) (by omega) (Nat.le_of_ble_eq_true rfl) fun v6 ev6 rv6 => ?_)
              have bv6 := hp1_55 k.toNat
              rw [← ev6] at bv6
              refine hR (t_add ?_)
              refine hR (t_ldB hb30 (by omega) (by omega) (Nat.le_of_ble_eq_true rfl) fun v7 ev7 lv7 uv7 => ?_)
              clear ev7
              iterate 3 refine hR (?_ : R (_, _, _, _, _, _))
              refine hR (zcall_i 0 0 (Nat.le_of_ble_eq_true rfl) (Nat.le_of_ble_eq_true rfl) (m_has _ a2 r _ _ fun v8 hp9 => ?_))
              refine (?_ : R (_, _, (.int (Int32.ofInt v8)) :: [], (zMi c0 c1 c2 c3 c4 c5 c6 c7 c8 c9 c10 c11 c12 c13 f0 f9 f10 f11 f12 f13 f15 f16 f17 f20 f21 f22 f23 f26 f28 f31 f32 f33 e38_55 f41 f44 x14 g15 g16 g17 g18 g19 g20 g21 g22 g23 g24 g25 g26 g27 g28 g29 g30 g31 q32_55 q33_55 g34 g35 g36 g37 g38 g39 g40 g41 g42 g43 g44 t), 0, 0))
              refine hR (k_ne (by omega) (fun hc10 => ?_) (fun hc10 => ?_))
              · skip
                refine hR (t_inc ?_)
                refine hR (?_ : R (_, _, _, _, _, _))
                exact ih55 _ _ _ _ _ (by rfl) (by omega) hp0_55 hp1_55 (by omega) (by omega) (by omega)
              iterate 2 refine hR (?_ : R (_, _, _, _, _, _))
              refine hR (t_ldE (by omega) (by omega) (Nat.le_of_ble_eq_true rfl) fun v11 ev11 rv11 => ?_)
              refine hR (t_c 1000000 (by decide) ?_)
              refine hR (j_ne (by omega) (by omega) (fun hc12 => ?_) (fun hc12 => ?_))
              · skip
                refine hR (t_inc ?_)
                refine hR (?_ : R (_, _, _, _, _, _))
                exact ih55 _ _ _ _ _ (by rfl) (by omega) hp0_55 hp1_55 (by omega) (by omega) (by omega)
              have hfar : (q32_55 v7.toNat).toInt = 1000000 := by rw [← ev11]; omega
              have hlt := ff_lt hp0_55 (by omega) hfar
              iterate 6 refine hR (?_ : R (_, _, _, _, _, _))
              refine hR (t_ldE (by omega) (by omega) (Nat.le_of_ble_eq_true rfl) fun v13 ev13 rv13 => ?_)
              have bv13 := hp1_55 k.toNat
              rw [← ev13] at bv13
              refine hR (t_ldE (by omega) (by omega) (Nat.le_of_ble_eq_true rfl) fun v14 ev14 rv14 => ?_)
              have cv14 := ff_v (v := v14) hp0_55 hp1_55 (k := k.toNat) (by omega) (by rw [← ev13]; exact ev14)
              refine hR (?_ : R (_, _, _, _, _, _))
              refine hR (t_add ?_)
              refine hR (t_st (by omega) (by omega) (Nat.le_of_ble_eq_true rfl) (?_ : R (_, _, _, (zMi c0 c1 c2 c3 c4 c5 c6 c7 c8 c9 c10 c11 c12 c13 f0 f9 f10 f11 f12 f13 f15 f16 f17 f20 f21 f22 f23 f26 f28 f31 f32 f33 e38_55 f41 f44 x14 g15 g16 g17 g18 g19 g20 g21 g22 g23 g24 g25 g26 g27 g28 g29 g30 g31 (upd q32_55 v7.toNat (Int32.ofInt (v14 + 1))) q33_55 g34 g35 g36 g37 g38 g39 g40 g41 g42 g43 g44 t), _, _)))
              iterate 5 refine hR (?_ : R (_, _, _, _, _, _))
              refine hR (t_st (by omega) (by omega) (Nat.le_of_ble_eq_true rfl) (?_ : R (_, _, _, (zMi c0 c1 c2 c3 c4 c5 c6 c7 c8 c9 c10 c11 c12 c13 f0 f9 f10 f11 f12 f13 f15 f16 f17 f20 f21 f22 f23 f26 f28 f31 f32 f33 e38_55 f41 f44 x14 g15 g16 g17 g18 g19 g20 g21 g22 g23 g24 g25 g26 g27 g28 g29 g30 g31 (upd q32_55 v7.toNat (Int32.ofInt (v14 + 1))) (upd q33_55 e38_55.toNat (Int32.ofInt v7)) g34 g35 g36 g37 g38 g39 g40 g41 g42 g43 g44 t), _, _)))
              iterate 4 refine hR (?_ : R (_, _, _, _, _, _))
              refine hR (t_add ?_)
              refine hR (?_ : R (_, _, _, (zMi c0 c1 c2 c3 c4 c5 c6 c7 c8 c9 c10 c11 c12 c13 f0 f9 f10 f11 f12 f13 f15 f16 f17 f20 f21 f22 f23 f26 f28 f31 f32 f33 (e38_55 + 1) f41 f44 x14 g15 g16 g17 g18 g19 g20 g21 g22 g23 g24 g25 g26 g27 g28 g29 g30 g31 (upd q32_55 v7.toNat (Int32.ofInt (v14 + 1))) (upd q33_55 e38_55.toNat (Int32.ofInt v7)) g34 g35 g36 g37 g38 g39 g40 g41 g42 g43 g44 t), _, _))
              refine hR (t_inc ?_)
              refine hR (?_ : R (_, _, _, _, _, _))
              exact ih55 _ _ _ _ _ (by rfl) (by omega) (ff_s hp0_55 (by omega) (by omega) hfar (by omega) hlt (by omega) (by omega)) (zB_u hp1_55 (by omega) (by omega) (by omega) (by omega)) (by omega) (by omega) (by omega)
          exact lp55 400000000 _ _ _ _ _ hzo6_43 (by omega) hp0_43 hp1_43 (by omega) (by omega) (by omega)
      exact lp43 400000000 _ _ _ _ _ _ (by rfl) (by rfl) (by omega) (ff_1 hp0_3 (by omega) (by omega) (by omega)) (zB_u hr3 (by omega) (by omega) (by omega) (by omega)) (by omega) (by omega) (by omega)
  exact lp3 400000000 _ _ (by omega) (fun j hj => by omega) (by omega)
theorem m_ring (d : Nat) (a1 a2 : Int) (hb19 : zB 0 2 g19) (hb25 : zB 0 3 g25) (hb30 : zB 0 5460 g30) (hb33 : zB 0 5460 g33) (hr4 : bkOK g20) (hr5 : -2147483648 ≤ a1 ∧ a1 ≤ 2147483647) (hr6 : -2147483648 ≤ a2 ∧ a2 ≤ 2147483647) (Q : zQ) (h : ∀ (v : Int) (y0 : Int) (y20 : Int) (y21 : Int) (y22 : Int) (y23 : Int) (y26 : Int) (y38 : Int) (k25 : Nat → Int32) (k30 : Nat → Int32) (k31 : Nat → Int32) (k33 : Nat → Int32), zB 0 3 k25 → zB 0 5460 k30 → zB 0 5460 k33 → Q (some (.int (Int32.ofInt v))) (zMi c0 c1 c2 c3 c4 c5 c6 c7 c8 c9 c10 c11 c12 c13 y0 f9 f10 f11 f12 f13 f15 f16 f17 y20 y21 y22 y23 y26 f28 f31 f32 f33 y38 f41 f44 x14 g15 g16 g17 g18 g19 g20 g21 g22 g23 g24 k25 g26 g27 g28 g29 k30 k31 g32 k33 g34 g35 g36 g37 g38 g39 g40 g41 g42 g43 g44 t)) : zCl zTab (d + 7) iX12_ring [.ref 14, .int (Int32.ofInt a1), .int (Int32.ofInt a2)] (zMi c0 c1 c2 c3 c4 c5 c6 c7 c8 c9 c10 c11 c12 c13 f0 f9 f10 f11 f12 f13 f15 f16 f17 f20 f21 f22 f23 f26 f28 f31 f32 f33 f38 f41 f44 x14 g15 g16 g17 g18 g19 g20 g21 g22 g23 g24 g25 g26 g27 g28 g29 g30 g31 g32 g33 g34 g35 g36 g37 g38 g39 g40 g41 g42 g43 g44 t) 0 0 Q := by
  refine zCl_i (M := kX12_ring) rfl (Nat.le_of_ble_eq_true rfl) fun R hR => ?_
  iterate 2 refine hR (?_ : R (_, _, _, _, _, _))
  refine hR (?_ : R (_, _, _, (zMi c0 c1 c2 c3 c4 c5 c6 c7 c8 c9 c10 c11 c12 c13 0 f9 f10 f11 f12 f13 f15 f16 f17 f20 f21 f22 f23 f26 f28 f31 f32 f33 f38 f41 f44 x14 g15 g16 g17 g18 g19 g20 g21 g22 g23 g24 g25 g26 g27 g28 g29 g30 g31 g32 g33 g34 g35 g36 g37 g38 g39 g40 g41 g42 g43 g44 t), _, _))
  refine hR (?_ : R (_, _, _, _, _, _))
  refine hR (zcall_i 0 0 (Nat.le_of_ble_eq_true rfl) (Nat.le_of_ble_eq_true rfl) (m_isText _ a2 _ (by omega) _ fun v1 hp2 => ?_))
  refine (?_ : R (_, _, (.int (Int32.ofInt v1)) :: [], (zMi c0 c1 c2 c3 c4 c5 c6 c7 c8 c9 c10 c11 c12 c13 0 f9 f10 f11 f12 f13 f15 f16 f17 f20 f21 f22 f23 f26 f28 f31 f32 f33 f38 f41 f44 x14 g15 g16 g17 g18 g19 g20 g21 g22 g23 g24 g25 g26 g27 g28 g29 g30 g31 g32 g33 g34 g35 g36 g37 g38 g39 g40 g41 g42 g43 g44 t), 0, 0))
  refine hR (k_eq (by omega) (fun hc3 => ?_) (fun hc3 => ?_))
  · skip
    refine hR (?_ : R (_, _, _, _, _, _))
    exact hR (zret_i rfl (Nat.le_refl _) trivial (h _ _ _ _ _ _ _ _ _ _ _ _ hb25 hb30 hb33))
  iterate 2 refine hR (?_ : R (_, _, _, _, _, _))
  refine hR (zcall_i 0 0 (Nat.le_of_ble_eq_true rfl) (Nat.le_of_ble_eq_true rfl) (m_handAll _ a1 hb19 hb25 hb30 hr4 (by omega) _ fun v4 y20_5 y21_6 y22_7 y23_8 y26_9 k25_10 k30_11 hp12 hp13 hp14 => ?_))
  refine (?_ : R (_, _, (.int (Int32.ofInt v4)) :: [], (zMi c0 c1 c2 c3 c4 c5 c6 c7 c8 c9 c10 c11 c12 c13 0 f9 f10 f11 f12 f13 f15 f16 f17 y20_5 y21_6 y22_7 y23_8 y26_9 f28 f31 f32 f33 f38 f41 f44 x14 g15 g16 g17 g18 g19 g20 g21 g22 g23 g24 k25_10 g26 g27 g28 g29 k30_11 g31 g32 g33 g34 g35 g36 g37 g38 g39 g40 g41 g42 g43 g44 t), 0, 0))
  refine hR (k_ne (by omega) (fun hc15 => ?_) (fun hc15 => ?_))
  rotate_left
  · skip
    refine hR (?_ : R (_, _, _, _, _, _))
    exact hR (zret_i rfl (Nat.le_refl _) trivial (h _ _ _ _ _ _ _ _ _ _ _ _ hp12 hp13 hb33))
  iterate 5 refine hR (?_ : R (_, _, _, _, _, _))
  refine hR (zcall_i 0 0 (Nat.le_of_ble_eq_true rfl) (Nat.le_of_ble_eq_true rfl) (m_findFar31 _ a2 0 hp13 (by omega) (by omega) hb33 _ fun y38_16 k33_17 k31_18 hp19 hp20 hp21 => ?_))
  refine (?_ : R (_, _, [], (zMi c0 c1 c2 c3 c4 c5 c6 c7 c8 c9 c10 c11 c12 c13 0 f9 f10 f11 f12 f13 f15 f16 f17 y20_5 y21_6 y22_7 y23_8 y26_9 f28 f31 f32 f33 y38_16 f41 f44 x14 g15 g16 g17 g18 g19 g20 g21 g22 g23 g24 k25_10 g26 g27 g28 g29 k30_11 k31_18 g32 k33_17 g34 g35 g36 g37 g38 g39 g40 g41 g42 g43 g44 t), 0, 0))
  refine hR (t_c 1000000 (by decide) ?_)
  iterate 3 refine hR (?_ : R (_, _, _, _, _, _))
  have lp39 : ∀ (N : Nat) (be : Int) (i : Int), (0 ≤ i ∧ i ≤ 27305) → (27305 - i < N) → R (39, [some (.ref 14), some (.int (Int32.ofInt a1)), some (.int (Int32.ofInt a2)), some (.int (Int32.ofInt be)), some (.int (Int32.ofInt i))], [], (zMi c0 c1 c2 c3 c4 c5 c6 c7 c8 c9 c10 c11 c12 c13 0 f9 f10 f11 f12 f13 f15 f16 f17 y20_5 y21_6 y22_7 y23_8 y26_9 f28 f31 f32 f33 y38_16 f41 f44 x14 g15 g16 g17 g18 g19 g20 g21 g22 g23 g24 k25_10 g26 g27 g28 g29 k30_11 k31_18 g32 k33_17 g34 g35 g36 g37 g38 g39 g40 g41 g42 g43 g44 t), 0, 0) := by
    intro N
    induction N with
    | zero => intros; omega
    | succ N ih39 =>
      intro be i hf0_39 hN39
      refine hR (?_ : R (_, _, _, _, _, _))
      refine hR (t_c 5461 (by decide) ?_)
      iterate 2 refine hR (?_ : R (_, _, _, _, _, _))
      refine hR (t_mul ?_)
      refine hR (j_ge (by omega) (by omega) (fun hc22 => ?_) (fun hc22 => ?_))
      · skip
        refine hR (?_ : R (_, _, _, _, _, _))
        refine hR (t_c 1000000 (by decide) ?_)
        refine hR (j_any ?_ ?_)
        · skip
          refine hR (?_ : R (_, _, _, _, _, _))
          exact hR (zret_i rfl (Nat.le_refl _) trivial (h _ _ _ _ _ _ _ _ _ _ _ _ hp12 hp13 hp19))
        iterate 2 refine hR (?_ : R (_, _, _, _, _, _))
        exact hR (zret_i rfl (Nat.le_refl _) trivial (h _ _ _ _ _ _ _ _ _ _ _ _ hp12 hp13 hp19))
      iterate 3 refine hR (?_ : R (_, _, _, _, _, _))
      refine hR (t_ldB hp13 (by omega) (by omega) (Nat.le_of_ble_eq_true rfl) fun v23 ev23 lv23 uv23 => ?_)
      clear ev23
      refine hR (?_ : R (_, _, _, _, _, _))
      refine hR (j_ne (by omega) (by omega) (fun hc24 => ?_) (fun hc24 => ?_))
      · skip
        iterate 2 refine hR (?_ : R (_, _, _, _, _, _))
        refine hR (t_inc ?_)
        refine hR (?_ : R (_, _, _, _, _, _))
        exact ih39 _ _ (by omega) (by omega)
      iterate 4 refine hR (?_ : R (_, _, _, _, _, _))
      refine hR (t_c 5461 (by decide) ?_)
      refine hR (t_rem (by omega) (by omega) (by omega) (by omega) ?_)
      refine hR (t_ldo (by omega) (by omega) (Nat.le_of_ble_eq_true rfl) fun v25 rv25 => ?_)
      refine hR (?_ : R (_, _, _, _, _, _))
      refine hR (t_add ?_)
      refine hR (zcall_i 0 0 (Nat.le_of_ble_eq_true rfl) (Nat.le_of_ble_eq_true rfl) (m_lesserx _ be (v25 + 1) _ _ fun v26 => ?_))
      refine (?_ : R (_, _, (.int (Int32.ofInt v26)) :: [], (zMi c0 c1 c2 c3 c4 c5 c6 c7 c8 c9 c10 c11 c12 c13 0 f9 f10 f11 f12 f13 f15 f16 f17 y20_5 y21_6 y22_7 y23_8 y26_9 f28 f31 f32 f33 y38_16 f41 f44 x14 g15 g16 g17 g18 g19 g20 g21 g22 g23 g24 k25_10 g26 g27 g28 g29 k30_11 k31_18 g32 k33_17 g34 g35 g36 g37 g38 g39 g40 g41 g42 g43 g44 t), 0, 0))
      iterate 2 refine hR (?_ : R (_, _, _, _, _, _))
      refine hR (t_inc ?_)
      refine hR (?_ : R (_, _, _, _, _, _))
      exact ih39 _ _ (by omega) (by omega)
  exact lp39 400000000 _ _ (by omega) (by omega)
theorem m_reach (d : Nat) (a1 a2 a3 : Int) (hb19 : zB 0 2 g19) (hb25 : zB 0 3 g25) (hb30 : zB 0 5460 g30) (hb33 : zB 0 5460 g33) (hr4 : bkOK g20) (hr5 : -2147483648 ≤ a1 ∧ a1 ≤ 2147483647) (hr6 : -2147483648 ≤ a2 ∧ a2 ≤ 2147483647) (hr7 : -2147483648 ≤ a3 ∧ a3 ≤ 2147483647) (Q : zQ) (h : ∀ (v : Int) (y0 : Int) (y20 : Int) (y21 : Int) (y22 : Int) (y23 : Int) (y26 : Int) (y38 : Int) (k25 : Nat → Int32) (k30 : Nat → Int32) (k31 : Nat → Int32) (k33 : Nat → Int32), zB 0 3 k25 → zB 0 5460 k30 → zB 0 5460 k33 → Q (some (.int (Int32.ofInt v))) (zMi c0 c1 c2 c3 c4 c5 c6 c7 c8 c9 c10 c11 c12 c13 y0 f9 f10 f11 f12 f13 f15 f16 f17 y20 y21 y22 y23 y26 f28 f31 f32 f33 y38 f41 f44 x14 g15 g16 g17 g18 g19 g20 g21 g22 g23 g24 k25 g26 g27 g28 g29 k30 k31 g32 k33 g34 g35 g36 g37 g38 g39 g40 g41 g42 g43 g44 t)) : zCl zTab (d + 7) iX12_reach [.ref 14, .int (Int32.ofInt a1), .int (Int32.ofInt a2), .int (Int32.ofInt a3)] (zMi c0 c1 c2 c3 c4 c5 c6 c7 c8 c9 c10 c11 c12 c13 f0 f9 f10 f11 f12 f13 f15 f16 f17 f20 f21 f22 f23 f26 f28 f31 f32 f33 f38 f41 f44 x14 g15 g16 g17 g18 g19 g20 g21 g22 g23 g24 g25 g26 g27 g28 g29 g30 g31 g32 g33 g34 g35 g36 g37 g38 g39 g40 g41 g42 g43 g44 t) 0 0 Q := by
  refine zCl_i (M := kX12_reach) rfl (Nat.le_of_ble_eq_true rfl) fun R hR => ?_
  iterate 2 refine hR (?_ : R (_, _, _, _, _, _))
  refine hR (?_ : R (_, _, _, (zMi c0 c1 c2 c3 c4 c5 c6 c7 c8 c9 c10 c11 c12 c13 0 f9 f10 f11 f12 f13 f15 f16 f17 f20 f21 f22 f23 f26 f28 f31 f32 f33 f38 f41 f44 x14 g15 g16 g17 g18 g19 g20 g21 g22 g23 g24 g25 g26 g27 g28 g29 g30 g31 g32 g33 g34 g35 g36 g37 g38 g39 g40 g41 g42 g43 g44 t), _, _))
  refine hR (?_ : R (_, _, _, _, _, _))
  refine hR (zcall_i 0 0 (Nat.le_of_ble_eq_true rfl) (Nat.le_of_ble_eq_true rfl) (m_isText _ a2 _ (by omega) _ fun v1 hp2 => ?_))
  refine (?_ : R (_, _, (.int (Int32.ofInt v1)) :: [], (zMi c0 c1 c2 c3 c4 c5 c6 c7 c8 c9 c10 c11 c12 c13 0 f9 f10 f11 f12 f13 f15 f16 f17 f20 f21 f22 f23 f26 f28 f31 f32 f33 f38 f41 f44 x14 g15 g16 g17 g18 g19 g20 g21 g22 g23 g24 g25 g26 g27 g28 g29 g30 g31 g32 g33 g34 g35 g36 g37 g38 g39 g40 g41 g42 g43 g44 t), 0, 0))
  refine hR (k_eq (by omega) (fun hc3 => ?_) (fun hc3 => ?_))
  · skip
    refine hR (?_ : R (_, _, _, _, _, _))
    exact hR (zret_i rfl (Nat.le_refl _) trivial (h _ _ _ _ _ _ _ _ _ _ _ _ hb25 hb30 hb33))
  iterate 2 refine hR (?_ : R (_, _, _, _, _, _))
  refine hR (zcall_i 0 0 (Nat.le_of_ble_eq_true rfl) (Nat.le_of_ble_eq_true rfl) (m_handAll _ a1 hb19 hb25 hb30 hr4 (by omega) _ fun v4 y20_5 y21_6 y22_7 y23_8 y26_9 k25_10 k30_11 hp12 hp13 hp14 => ?_))
  refine (?_ : R (_, _, (.int (Int32.ofInt v4)) :: [], (zMi c0 c1 c2 c3 c4 c5 c6 c7 c8 c9 c10 c11 c12 c13 0 f9 f10 f11 f12 f13 f15 f16 f17 y20_5 y21_6 y22_7 y23_8 y26_9 f28 f31 f32 f33 f38 f41 f44 x14 g15 g16 g17 g18 g19 g20 g21 g22 g23 g24 k25_10 g26 g27 g28 g29 k30_11 g31 g32 g33 g34 g35 g36 g37 g38 g39 g40 g41 g42 g43 g44 t), 0, 0))
  refine hR (k_ne (by omega) (fun hc15 => ?_) (fun hc15 => ?_))
  rotate_left
  · skip
    refine hR (?_ : R (_, _, _, _, _, _))
    exact hR (zret_i rfl (Nat.le_refl _) trivial (h _ _ _ _ _ _ _ _ _ _ _ _ hp12 hp13 hb33))
  iterate 5 refine hR (?_ : R (_, _, _, _, _, _))
  refine hR (zcall_i 0 0 (Nat.le_of_ble_eq_true rfl) (Nat.le_of_ble_eq_true rfl) (m_findFar31 _ a2 0 hp13 (by omega) (by omega) hb33 _ fun y38_16 k33_17 k31_18 hp19 hp20 hp21 => ?_))
  refine (?_ : R (_, _, [], (zMi c0 c1 c2 c3 c4 c5 c6 c7 c8 c9 c10 c11 c12 c13 0 f9 f10 f11 f12 f13 f15 f16 f17 y20_5 y21_6 y22_7 y23_8 y26_9 f28 f31 f32 f33 y38_16 f41 f44 x14 g15 g16 g17 g18 g19 g20 g21 g22 g23 g24 k25_10 g26 g27 g28 g29 k30_11 k31_18 g32 k33_17 g34 g35 g36 g37 g38 g39 g40 g41 g42 g43 g44 t), 0, 0))
  refine hR (?_ : R (_, _, _, _, _, _))
  refine hR (k_eq (by omega) (fun hc22 => ?_) (fun hc22 => ?_))
  · skip
    iterate 2 refine hR (?_ : R (_, _, _, _, _, _))
    exact hR (zret_i rfl (Nat.le_refl _) trivial (h _ _ _ _ _ _ _ _ _ _ _ _ hp12 hp13 hp19))
  iterate 7 refine hR (?_ : R (_, _, _, _, _, _))
  refine hR (t_sub ?_)
  refine hR (t_ldB hp19 (by omega) (by omega) (Nat.le_of_ble_eq_true rfl) fun v23 ev23 lv23 uv23 => ?_)
  clear ev23
  refine hR (t_ldo (by omega) (by omega) (Nat.le_of_ble_eq_true rfl) fun v24 rv24 => ?_)
  refine hR (?_ : R (_, _, _, _, _, _))
  exact hR (zret_i rfl (Nat.le_refl _) trivial (h _ _ _ _ _ _ _ _ _ _ _ _ hp12 hp13 hp19))
theorem m_joined (d : Nat) (a1 a2 a3 a4 : Int) (hb19 : zB 0 2 g19) (hb25 : zB 0 3 g25) (hb30 : zB 0 5460 g30) (hb33 : zB 0 5460 g33) (hr4 : bkOK g20) (hr5 : -2147483648 ≤ a1 ∧ a1 ≤ 2147483647) (hr6 : -2147483648 ≤ a2 ∧ a2 ≤ 2147483647) (hr7 : -2147483648 ≤ a3 ∧ a3 ≤ 2147483647) (hr8 : -2147483648 ≤ a4 ∧ a4 ≤ 2147483647) (Q : zQ) (h : ∀ (v : Int) (y0 : Int) (y20 : Int) (y21 : Int) (y22 : Int) (y23 : Int) (y26 : Int) (y38 : Int) (k25 : Nat → Int32) (k30 : Nat → Int32) (k31 : Nat → Int32) (k32 : Nat → Int32) (k33 : Nat → Int32), zB 0 3 k25 → zB 0 5460 k30 → zB 0 5460 k33 → Q (some (.int (Int32.ofInt v))) (zMi c0 c1 c2 c3 c4 c5 c6 c7 c8 c9 c10 c11 c12 c13 y0 f9 f10 f11 f12 f13 f15 f16 f17 y20 y21 y22 y23 y26 f28 f31 f32 f33 y38 f41 f44 x14 g15 g16 g17 g18 g19 g20 g21 g22 g23 g24 k25 g26 g27 g28 g29 k30 k31 k32 k33 g34 g35 g36 g37 g38 g39 g40 g41 g42 g43 g44 t)) : zCl zTab (d + 7) iX12_joined [.ref 14, .int (Int32.ofInt a1), .int (Int32.ofInt a2), .int (Int32.ofInt a3), .int (Int32.ofInt a4)] (zMi c0 c1 c2 c3 c4 c5 c6 c7 c8 c9 c10 c11 c12 c13 f0 f9 f10 f11 f12 f13 f15 f16 f17 f20 f21 f22 f23 f26 f28 f31 f32 f33 f38 f41 f44 x14 g15 g16 g17 g18 g19 g20 g21 g22 g23 g24 g25 g26 g27 g28 g29 g30 g31 g32 g33 g34 g35 g36 g37 g38 g39 g40 g41 g42 g43 g44 t) 0 0 Q := by
  refine zCl_i (M := kX12_joined) rfl (Nat.le_of_ble_eq_true rfl) fun R hR => ?_
  iterate 2 refine hR (?_ : R (_, _, _, _, _, _))
  refine hR (?_ : R (_, _, _, (zMi c0 c1 c2 c3 c4 c5 c6 c7 c8 c9 c10 c11 c12 c13 0 f9 f10 f11 f12 f13 f15 f16 f17 f20 f21 f22 f23 f26 f28 f31 f32 f33 f38 f41 f44 x14 g15 g16 g17 g18 g19 g20 g21 g22 g23 g24 g25 g26 g27 g28 g29 g30 g31 g32 g33 g34 g35 g36 g37 g38 g39 g40 g41 g42 g43 g44 t), _, _))
  refine hR (?_ : R (_, _, _, _, _, _))
  refine hR (zcall_i 0 0 (Nat.le_of_ble_eq_true rfl) (Nat.le_of_ble_eq_true rfl) (m_isText _ a2 _ (by omega) _ fun v1 hp2 => ?_))
  refine (?_ : R (_, _, (.int (Int32.ofInt v1)) :: [], (zMi c0 c1 c2 c3 c4 c5 c6 c7 c8 c9 c10 c11 c12 c13 0 f9 f10 f11 f12 f13 f15 f16 f17 f20 f21 f22 f23 f26 f28 f31 f32 f33 f38 f41 f44 x14 g15 g16 g17 g18 g19 g20 g21 g22 g23 g24 g25 g26 g27 g28 g29 g30 g31 g32 g33 g34 g35 g36 g37 g38 g39 g40 g41 g42 g43 g44 t), 0, 0))
  refine hR (k_eq (by omega) (fun hc3 => ?_) (fun hc3 => ?_))
  · skip
    refine hR (?_ : R (_, _, _, _, _, _))
    exact hR (zret_i rfl (Nat.le_refl _) trivial (h _ _ _ _ _ _ _ _ _ _ _ _ _ hb25 hb30 hb33))
  refine hR (?_ : R (_, _, _, _, _, _))
  refine hR (zcall_i 0 0 (Nat.le_of_ble_eq_true rfl) (Nat.le_of_ble_eq_true rfl) (m_isText _ a3 _ (by omega) _ fun v4 hp5 => ?_))
  refine (?_ : R (_, _, (.int (Int32.ofInt v4)) :: [], (zMi c0 c1 c2 c3 c4 c5 c6 c7 c8 c9 c10 c11 c12 c13 0 f9 f10 f11 f12 f13 f15 f16 f17 f20 f21 f22 f23 f26 f28 f31 f32 f33 f38 f41 f44 x14 g15 g16 g17 g18 g19 g20 g21 g22 g23 g24 g25 g26 g27 g28 g29 g30 g31 g32 g33 g34 g35 g36 g37 g38 g39 g40 g41 g42 g43 g44 t), 0, 0))
  refine hR (k_eq (by omega) (fun hc6 => ?_) (fun hc6 => ?_))
  · skip
    refine hR (?_ : R (_, _, _, _, _, _))
    exact hR (zret_i rfl (Nat.le_refl _) trivial (h _ _ _ _ _ _ _ _ _ _ _ _ _ hb25 hb30 hb33))
  iterate 2 refine hR (?_ : R (_, _, _, _, _, _))
  refine hR (zcall_i 0 0 (Nat.le_of_ble_eq_true rfl) (Nat.le_of_ble_eq_true rfl) (m_handAll _ a1 hb19 hb25 hb30 hr4 (by omega) _ fun v7 y20_8 y21_9 y22_10 y23_11 y26_12 k25_13 k30_14 hp15 hp16 hp17 => ?_))
  refine (?_ : R (_, _, (.int (Int32.ofInt v7)) :: [], (zMi c0 c1 c2 c3 c4 c5 c6 c7 c8 c9 c10 c11 c12 c13 0 f9 f10 f11 f12 f13 f15 f16 f17 y20_8 y21_9 y22_10 y23_11 y26_12 f28 f31 f32 f33 f38 f41 f44 x14 g15 g16 g17 g18 g19 g20 g21 g22 g23 g24 k25_13 g26 g27 g28 g29 k30_14 g31 g32 g33 g34 g35 g36 g37 g38 g39 g40 g41 g42 g43 g44 t), 0, 0))
  refine hR (k_ne (by omega) (fun hc18 => ?_) (fun hc18 => ?_))
  rotate_left
  · skip
    refine hR (?_ : R (_, _, _, _, _, _))
    exact hR (zret_i rfl (Nat.le_refl _) trivial (h _ _ _ _ _ _ _ _ _ _ _ _ _ hp15 hp16 hb33))
  iterate 5 refine hR (?_ : R (_, _, _, _, _, _))
  refine hR (zcall_i 0 0 (Nat.le_of_ble_eq_true rfl) (Nat.le_of_ble_eq_true rfl) (m_findFar31 _ a2 0 hp16 (by omega) (by omega) hb33 _ fun y38_19 k33_20 k31_21 hp22 hp23 hp24 => ?_))
  refine (?_ : R (_, _, [], (zMi c0 c1 c2 c3 c4 c5 c6 c7 c8 c9 c10 c11 c12 c13 0 f9 f10 f11 f12 f13 f15 f16 f17 y20_8 y21_9 y22_10 y23_11 y26_12 f28 f31 f32 f33 y38_19 f41 f44 x14 g15 g16 g17 g18 g19 g20 g21 g22 g23 g24 k25_13 g26 g27 g28 g29 k30_14 k31_21 g32 k33_20 g34 g35 g36 g37 g38 g39 g40 g41 g42 g43 g44 t), 0, 0))
  iterate 5 refine hR (?_ : R (_, _, _, _, _, _))
  refine hR (zcall_i 0 0 (Nat.le_of_ble_eq_true rfl) (Nat.le_of_ble_eq_true rfl) (m_findFar32 _ a3 0 hp16 (by omega) (by omega) hp22 _ fun y38_25 k33_26 k32_27 hp28 hp29 hp30 => ?_))
  refine (?_ : R (_, _, [], (zMi c0 c1 c2 c3 c4 c5 c6 c7 c8 c9 c10 c11 c12 c13 0 f9 f10 f11 f12 f13 f15 f16 f17 y20_8 y21_9 y22_10 y23_11 y26_12 f28 f31 f32 f33 y38_25 f41 f44 x14 g15 g16 g17 g18 g19 g20 g21 g22 g23 g24 k25_13 g26 g27 g28 g29 k30_14 k31_21 k32_27 k33_26 g34 g35 g36 g37 g38 g39 g40 g41 g42 g43 g44 t), 0, 0))
  iterate 2 refine hR (?_ : R (_, _, _, _, _, _))
  refine hR (t_c 1000000 (by decide) ?_)
  iterate 3 refine hR (?_ : R (_, _, _, _, _, _))
  have lp60 : ∀ (N : Nat) (be : Int) (fe : Int) (i : Int) (o8_60 : Option Value), (zc2 o8_60 = false) → (-1 ≤ be ∧ be ≤ 5460) → (0 ≤ i ∧ i ≤ 5461) → (5461 - i < N) → R (60, [some (.ref 14), some (.int (Int32.ofInt a1)), some (.int (Int32.ofInt a2)), some (.int (Int32.ofInt a3)), some (.int (Int32.ofInt a4)), some (.int (Int32.ofInt be)), some (.int (Int32.ofInt fe)), some (.int (Int32.ofInt i)), o8_60], [], (zMi c0 c1 c2 c3 c4 c5 c6 c7 c8 c9 c10 c11 c12 c13 0 f9 f10 f11 f12 f13 f15 f16 f17 y20_8 y21_9 y22_10 y23_11 y26_12 f28 f31 f32 f33 y38_25 f41 f44 x14 g15 g16 g17 g18 g19 g20 g21 g22 g23 g24 k25_13 g26 g27 g28 g29 k30_14 k31_21 k32_27 k33_26 g34 g35 g36 g37 g38 g39 g40 g41 g42 g43 g44 t), 0, 0) := by
    intro N
    induction N with
    | zero => intros; omega
    | succ N ih60 =>
      intro be fe i o8_60 hzo8_60 hf0_60 hf1_60 hN60
      refine hR (?_ : R (_, _, _, _, _, _))
      refine hR (t_c 5461 (by decide) ?_)
      refine hR (j_ge (by omega) (by omega) (fun hc31 => ?_) (fun hc31 => ?_))
      · skip
        iterate 2 refine hR (?_ : R (_, _, _, _, _, _))
        refine hR (j_eq (by omega) (by omega) (fun hc32 => ?_) (fun hc32 => ?_))
        · skip
          iterate 2 refine hR (?_ : R (_, _, _, _, _, _))
          exact hR (zret_i rfl (Nat.le_refl _) trivial (h _ _ _ _ _ _ _ _ _ _ _ _ _ hp15 hp16 hp28))
        refine hR (?_ : R (_, _, _, _, _, _))
        refine hR (k_eq (by omega) (fun hc33 => ?_) (fun hc33 => ?_))
        · skip
          refine hR (?_ : R (_, _, _, _, _, _))
          exact hR (zret_i rfl (Nat.le_refl _) trivial (h _ _ _ _ _ _ _ _ _ _ _ _ _ hp15 hp16 hp28))
        iterate 2 refine hR (?_ : R (_, _, _, _, _, _))
        exact hR (zret_i rfl (Nat.le_refl _) trivial (h _ _ _ _ _ _ _ _ _ _ _ _ _ hp15 hp16 hp28))
      iterate 3 refine hR (?_ : R (_, _, _, _, _, _))
      refine hR (t_ldo (by omega) (by omega) (Nat.le_of_ble_eq_true rfl) fun v34 rv34 => ?_)
      iterate 3 refine hR (?_ : R (_, _, _, _, _, _))
      refine hR (t_ldo (by omega) (by omega) (Nat.le_of_ble_eq_true rfl) fun v35 rv35 => ?_)
      refine hR (t_add ?_)
      iterate 3 refine hR (?_ : R (_, _, _, _, _, _))
      refine hR (j_any ?_ ?_)
      · skip
        iterate 4 refine hR (?_ : R (_, _, _, _, _, _))
        refine hR (zcall_i 0 0 (Nat.le_of_ble_eq_true rfl) (Nat.le_of_ble_eq_true rfl) (m_lesserx _ fe (v34 + v35) _ _ fun v36 => ?_))
        refine (?_ : R (_, _, (.int (Int32.ofInt v36)) :: [], (zMi c0 c1 c2 c3 c4 c5 c6 c7 c8 c9 c10 c11 c12 c13 0 f9 f10 f11 f12 f13 f15 f16 f17 y20_8 y21_9 y22_10 y23_11 y26_12 f28 f31 f32 f33 y38_25 f41 f44 x14 g15 g16 g17 g18 g19 g20 g21 g22 g23 g24 k25_13 g26 g27 g28 g29 k30_14 k31_21 k32_27 k33_26 g34 g35 g36 g37 g38 g39 g40 g41 g42 g43 g44 t), 0, 0))
        refine hR (?_ : R (_, _, _, _, _, _))
        refine hR (t_inc ?_)
        refine hR (?_ : R (_, _, _, _, _, _))
        exact ih60 _ _ _ _ (by rfl) (by omega) (by omega) (by omega)
      iterate 5 refine hR (?_ : R (_, _, _, _, _, _))
      refine hR (zcall_i 0 0 (Nat.le_of_ble_eq_true rfl) (Nat.le_of_ble_eq_true rfl) (m_lesserx _ fe (v34 + v35) _ _ fun v37 => ?_))
      refine (?_ : R (_, _, (.int (Int32.ofInt v37)) :: [], (zMi c0 c1 c2 c3 c4 c5 c6 c7 c8 c9 c10 c11 c12 c13 0 f9 f10 f11 f12 f13 f15 f16 f17 y20_8 y21_9 y22_10 y23_11 y26_12 f28 f31 f32 f33 y38_25 f41 f44 x14 g15 g16 g17 g18 g19 g20 g21 g22 g23 g24 k25_13 g26 g27 g28 g29 k30_14 k31_21 k32_27 k33_26 g34 g35 g36 g37 g38 g39 g40 g41 g42 g43 g44 t), 0, 0))
      refine hR (?_ : R (_, _, _, _, _, _))
      refine hR (t_inc ?_)
      refine hR (?_ : R (_, _, _, _, _, _))
      exact ih60 _ _ _ _ (by rfl) (by omega) (by omega) (by omega)
  exact lp60 400000000 _ _ _ _ (by rfl) (by omega) (by omega) (by omega)
theorem m_nearest (d : Nat) (a1 a2 a3 a4 : Int) (hb19 : zB 0 2 g19) (hb25 : zB 0 3 g25) (hb26 : zB 0 3 g26) (hb30 : zB 0 5460 g30) (hb33 : zB 0 5460 g33) (hr5 : bkOK g20) (hr6 : -2147483648 ≤ a1 ∧ a1 ≤ 2147483647) (hr7 : -2147483648 ≤ a2 ∧ a2 ≤ 2147483647) (hr8 : -2147483648 ≤ a3 ∧ a3 ≤ 2147483647) (hr9 : -2147483648 ≤ a4 ∧ a4 ≤ 2147483647) (Q : zQ) (h : ∀ (v : Int) (y0 : Int) (y20 : Int) (y21 : Int) (y22 : Int) (y23 : Int) (y26 : Int) (y38 : Int) (k25 : Nat → Int32) (k26 : Nat → Int32) (k27 : Nat → Int32) (k30 : Nat → Int32) (k31 : Nat → Int32) (k33 : Nat → Int32), zB 0 3 k25 → zB 0 3 k26 → zB 0 5460 k30 → zB 0 5460 k33 → Q (some (.int (Int32.ofInt v))) (zMi c0 c1 c2 c3 c4 c5 c6 c7 c8 c9 c10 c11 c12 c13 y0 f9 f10 f11 f12 f13 f15 f16 f17 y20 y21 y22 y23 y26 f28 f31 f32 f33 y38 f41 f44 x14 g15 g16 g17 g18 g19 g20 g21 g22 g23 g24 k25 k26 k27 g28 g29 k30 k31 g32 k33 g34 g35 g36 g37 g38 g39 g40 g41 g42 g43 g44 t)) : zCl zTab (d + 7) iX12_nearest [.ref 14, .int (Int32.ofInt a1), .int (Int32.ofInt a2), .int (Int32.ofInt a3), .int (Int32.ofInt a4)] (zMi c0 c1 c2 c3 c4 c5 c6 c7 c8 c9 c10 c11 c12 c13 f0 f9 f10 f11 f12 f13 f15 f16 f17 f20 f21 f22 f23 f26 f28 f31 f32 f33 f38 f41 f44 x14 g15 g16 g17 g18 g19 g20 g21 g22 g23 g24 g25 g26 g27 g28 g29 g30 g31 g32 g33 g34 g35 g36 g37 g38 g39 g40 g41 g42 g43 g44 t) 0 0 Q := by
  refine zCl_i (M := kX12_nearest) rfl (Nat.le_of_ble_eq_true rfl) fun R hR => ?_
  iterate 2 refine hR (?_ : R (_, _, _, _, _, _))
  refine hR (?_ : R (_, _, _, (zMi c0 c1 c2 c3 c4 c5 c6 c7 c8 c9 c10 c11 c12 c13 0 f9 f10 f11 f12 f13 f15 f16 f17 f20 f21 f22 f23 f26 f28 f31 f32 f33 f38 f41 f44 x14 g15 g16 g17 g18 g19 g20 g21 g22 g23 g24 g25 g26 g27 g28 g29 g30 g31 g32 g33 g34 g35 g36 g37 g38 g39 g40 g41 g42 g43 g44 t), _, _))
  refine hR (?_ : R (_, _, _, _, _, _))
  refine hR (zcall_i 0 0 (Nat.le_of_ble_eq_true rfl) (Nat.le_of_ble_eq_true rfl) (m_isText _ a2 _ (by omega) _ fun v1 hp2 => ?_))
  refine (?_ : R (_, _, (.int (Int32.ofInt v1)) :: [], (zMi c0 c1 c2 c3 c4 c5 c6 c7 c8 c9 c10 c11 c12 c13 0 f9 f10 f11 f12 f13 f15 f16 f17 f20 f21 f22 f23 f26 f28 f31 f32 f33 f38 f41 f44 x14 g15 g16 g17 g18 g19 g20 g21 g22 g23 g24 g25 g26 g27 g28 g29 g30 g31 g32 g33 g34 g35 g36 g37 g38 g39 g40 g41 g42 g43 g44 t), 0, 0))
  refine hR (k_eq (by omega) (fun hc3 => ?_) (fun hc3 => ?_))
  · skip
    refine hR (?_ : R (_, _, _, _, _, _))
    exact hR (zret_i rfl (Nat.le_refl _) trivial (h _ _ _ _ _ _ _ _ _ _ _ _ _ _ hb25 hb26 hb30 hb33))
  refine hR (?_ : R (_, _, _, _, _, _))
  refine hR (zcall_i 0 0 (Nat.le_of_ble_eq_true rfl) (Nat.le_of_ble_eq_true rfl) (m_isText _ a3 _ (by omega) _ fun v4 hp5 => ?_))
  refine (?_ : R (_, _, (.int (Int32.ofInt v4)) :: [], (zMi c0 c1 c2 c3 c4 c5 c6 c7 c8 c9 c10 c11 c12 c13 0 f9 f10 f11 f12 f13 f15 f16 f17 f20 f21 f22 f23 f26 f28 f31 f32 f33 f38 f41 f44 x14 g15 g16 g17 g18 g19 g20 g21 g22 g23 g24 g25 g26 g27 g28 g29 g30 g31 g32 g33 g34 g35 g36 g37 g38 g39 g40 g41 g42 g43 g44 t), 0, 0))
  refine hR (k_eq (by omega) (fun hc6 => ?_) (fun hc6 => ?_))
  · skip
    refine hR (?_ : R (_, _, _, _, _, _))
    exact hR (zret_i rfl (Nat.le_refl _) trivial (h _ _ _ _ _ _ _ _ _ _ _ _ _ _ hb25 hb26 hb30 hb33))
  iterate 2 refine hR (?_ : R (_, _, _, _, _, _))
  refine hR (zcall_i 0 0 (Nat.le_of_ble_eq_true rfl) (Nat.le_of_ble_eq_true rfl) (m_handAll _ a1 hb19 hb25 hb30 hr5 (by omega) _ fun v7 y20_8 y21_9 y22_10 y23_11 y26_12 k25_13 k30_14 hp15 hp16 hp17 => ?_))
  refine (?_ : R (_, _, (.int (Int32.ofInt v7)) :: [], (zMi c0 c1 c2 c3 c4 c5 c6 c7 c8 c9 c10 c11 c12 c13 0 f9 f10 f11 f12 f13 f15 f16 f17 y20_8 y21_9 y22_10 y23_11 y26_12 f28 f31 f32 f33 f38 f41 f44 x14 g15 g16 g17 g18 g19 g20 g21 g22 g23 g24 k25_13 g26 g27 g28 g29 k30_14 g31 g32 g33 g34 g35 g36 g37 g38 g39 g40 g41 g42 g43 g44 t), 0, 0))
  refine hR (k_ne (by omega) (fun hc18 => ?_) (fun hc18 => ?_))
  rotate_left
  · skip
    refine hR (?_ : R (_, _, _, _, _, _))
    exact hR (zret_i rfl (Nat.le_refl _) trivial (h _ _ _ _ _ _ _ _ _ _ _ _ _ _ hp15 hb26 hp16 hb33))
  iterate 5 refine hR (?_ : R (_, _, _, _, _, _))
  refine hR (zcall_i 0 0 (Nat.le_of_ble_eq_true rfl) (Nat.le_of_ble_eq_true rfl) (m_findFar31 _ a2 0 hp16 (by omega) (by omega) hb33 _ fun y38_19 k33_20 k31_21 hp22 hp23 hp24 => ?_))
  refine (?_ : R (_, _, [], (zMi c0 c1 c2 c3 c4 c5 c6 c7 c8 c9 c10 c11 c12 c13 0 f9 f10 f11 f12 f13 f15 f16 f17 y20_8 y21_9 y22_10 y23_11 y26_12 f28 f31 f32 f33 y38_19 f41 f44 x14 g15 g16 g17 g18 g19 g20 g21 g22 g23 g24 k25_13 g26 g27 g28 g29 k30_14 k31_21 g32 k33_20 g34 g35 g36 g37 g38 g39 g40 g41 g42 g43 g44 t), 0, 0))
  iterate 2 refine hR (?_ : R (_, _, _, _, _, _))
  refine hR (t_c 1000000 (by decide) ?_)
  iterate 3 refine hR (?_ : R (_, _, _, _, _, _))
  have lp50 : ∀ (N : Nat) (be : Int) (fe : Int) (i : Int) (o8_50 : Option Value) (q25_50 : Nat → Int32) (q26_50 : Nat → Int32) (q27_50 : Nat → Int32), (zc2 o8_50 = false) → (-1 ≤ be ∧ be ≤ 5460) → (0 ≤ i ∧ i ≤ 5461) → (zB 0 3 q25_50) → (zB 0 3 q26_50) → (5461 - i < N) → R (50, [some (.ref 14), some (.int (Int32.ofInt a1)), some (.int (Int32.ofInt a2)), some (.int (Int32.ofInt a3)), some (.int (Int32.ofInt a4)), some (.int (Int32.ofInt be)), some (.int (Int32.ofInt fe)), some (.int (Int32.ofInt i)), o8_50], [], (zMi c0 c1 c2 c3 c4 c5 c6 c7 c8 c9 c10 c11 c12 c13 0 f9 f10 f11 f12 f13 f15 f16 f17 y20_8 y21_9 y22_10 y23_11 y26_12 f28 f31 f32 f33 y38_19 f41 f44 x14 g15 g16 g17 g18 g19 g20 g21 g22 g23 g24 q25_50 q26_50 q27_50 g28 g29 k30_14 k31_21 g32 k33_20 g34 g35 g36 g37 g38 g39 g40 g41 g42 g43 g44 t), 0, 0) := by
    intro N
    induction N with
    | zero => intros; omega
    | succ N ih50 =>
      intro be fe i o8_50 q25_50 q26_50 q27_50 hzo8_50 hf0_50 hf1_50 hq25_50 hq26_50 hN50
      refine hR (?_ : R (_, _, _, _, _, _))
      refine hR (t_c 5461 (by decide) ?_)
      refine hR (j_ge (by omega) (by omega) (fun hc25 => ?_) (fun hc25 => ?_))
      · skip
        refine hR (?_ : R (_, _, _, _, _, _))
        refine hR (k_eq (by omega) (fun hc26 => ?_) (fun hc26 => ?_))
        · skip
          refine hR (?_ : R (_, _, _, _, _, _))
          exact hR (zret_i rfl (Nat.le_refl _) trivial (h _ _ _ _ _ _ _ _ _ _ _ _ _ _ hq25_50 hq26_50 hp16 hp22))
        iterate 2 refine hR (?_ : R (_, _, _, _, _, _))
        exact hR (zret_i rfl (Nat.le_refl _) trivial (h _ _ _ _ _ _ _ _ _ _ _ _ _ _ hq25_50 hq26_50 hp16 hp22))
      iterate 3 refine hR (?_ : R (_, _, _, _, _, _))
      refine hR (t_ldo (by omega) (by omega) (Nat.le_of_ble_eq_true rfl) fun v27 rv27 => ?_)
      refine hR (t_c 1000000 (by decide) ?_)
      refine hR (j_any ?_ ?_)
      · skip
        refine hR (t_c 1000000 (by decide) ?_)
        iterate 3 refine hR (?_ : R (_, _, _, _, _, _))
        refine hR (j_any ?_ ?_)
        · skip
          iterate 4 refine hR (?_ : R (_, _, _, _, _, _))
          refine hR (zcall_i 0 0 (Nat.le_of_ble_eq_true rfl) (Nat.le_of_ble_eq_true rfl) (m_lesserx _ fe 1000000 _ _ fun v28 => ?_))
          refine (?_ : R (_, _, (.int (Int32.ofInt v28)) :: [], (zMi c0 c1 c2 c3 c4 c5 c6 c7 c8 c9 c10 c11 c12 c13 0 f9 f10 f11 f12 f13 f15 f16 f17 y20_8 y21_9 y22_10 y23_11 y26_12 f28 f31 f32 f33 y38_19 f41 f44 x14 g15 g16 g17 g18 g19 g20 g21 g22 g23 g24 q25_50 q26_50 q27_50 g28 g29 k30_14 k31_21 g32 k33_20 g34 g35 g36 g37 g38 g39 g40 g41 g42 g43 g44 t), 0, 0))
          refine hR (?_ : R (_, _, _, _, _, _))
          refine hR (t_inc ?_)
          refine hR (?_ : R (_, _, _, _, _, _))
          exact ih50 _ _ _ _ _ _ _ (by rfl) (by omega) (by omega) hq25_50 hq26_50 (by omega)
        iterate 5 refine hR (?_ : R (_, _, _, _, _, _))
        refine hR (zcall_i 0 0 (Nat.le_of_ble_eq_true rfl) (Nat.le_of_ble_eq_true rfl) (m_lesserx _ fe 1000000 _ _ fun v29 => ?_))
        refine (?_ : R (_, _, (.int (Int32.ofInt v29)) :: [], (zMi c0 c1 c2 c3 c4 c5 c6 c7 c8 c9 c10 c11 c12 c13 0 f9 f10 f11 f12 f13 f15 f16 f17 y20_8 y21_9 y22_10 y23_11 y26_12 f28 f31 f32 f33 y38_19 f41 f44 x14 g15 g16 g17 g18 g19 g20 g21 g22 g23 g24 q25_50 q26_50 q27_50 g28 g29 k30_14 k31_21 g32 k33_20 g34 g35 g36 g37 g38 g39 g40 g41 g42 g43 g44 t), 0, 0))
        refine hR (?_ : R (_, _, _, _, _, _))
        refine hR (t_inc ?_)
        refine hR (?_ : R (_, _, _, _, _, _))
        exact ih50 _ _ _ _ _ _ _ (by rfl) (by omega) (by omega) hq25_50 hq26_50 (by omega)
      iterate 3 refine hR (?_ : R (_, _, _, _, _, _))
      refine hR (zcall_i 0 0 (Nat.le_of_ble_eq_true rfl) (Nat.le_of_ble_eq_true rfl) (m_apart _ i a3 hq25_50 hq26_50 (by omega) (by omega) _ fun v30 k25_31 k26_32 k27_33 hp34 hp35 hp36 hp37 => ?_))
      refine (?_ : R (_, _, (.int (Int32.ofInt v30)) :: [], (zMi c0 c1 c2 c3 c4 c5 c6 c7 c8 c9 c10 c11 c12 c13 0 f9 f10 f11 f12 f13 f15 f16 f17 y20_8 y21_9 y22_10 y23_11 y26_12 f28 f31 f32 f33 y38_19 f41 f44 x14 g15 g16 g17 g18 g19 g20 g21 g22 g23 g24 k25_31 k26_32 k27_33 g28 g29 k30_14 k31_21 g32 k33_20 g34 g35 g36 g37 g38 g39 g40 g41 g42 g43 g44 t), 0, 0))
      iterate 4 refine hR (?_ : R (_, _, _, _, _, _))
      refine hR (j_any ?_ ?_)
      · skip
        iterate 4 refine hR (?_ : R (_, _, _, _, _, _))
        refine hR (zcall_i 0 0 (Nat.le_of_ble_eq_true rfl) (Nat.le_of_ble_eq_true rfl) (m_lesserx _ fe v30 _ _ fun v38 => ?_))
        refine (?_ : R (_, _, (.int (Int32.ofInt v38)) :: [], (zMi c0 c1 c2 c3 c4 c5 c6 c7 c8 c9 c10 c11 c12 c13 0 f9 f10 f11 f12 f13 f15 f16 f17 y20_8 y21_9 y22_10 y23_11 y26_12 f28 f31 f32 f33 y38_19 f41 f44 x14 g15 g16 g17 g18 g19 g20 g21 g22 g23 g24 k25_31 k26_32 k27_33 g28 g29 k30_14 k31_21 g32 k33_20 g34 g35 g36 g37 g38 g39 g40 g41 g42 g43 g44 t), 0, 0))
        refine hR (?_ : R (_, _, _, _, _, _))
        refine hR (t_inc ?_)
        refine hR (?_ : R (_, _, _, _, _, _))
        exact ih50 _ _ _ _ _ _ _ (by rfl) (by omega) (by omega) hp34 hp35 (by omega)
      iterate 5 refine hR (?_ : R (_, _, _, _, _, _))
      refine hR (zcall_i 0 0 (Nat.le_of_ble_eq_true rfl) (Nat.le_of_ble_eq_true rfl) (m_lesserx _ fe v30 _ _ fun v39 => ?_))
      refine (?_ : R (_, _, (.int (Int32.ofInt v39)) :: [], (zMi c0 c1 c2 c3 c4 c5 c6 c7 c8 c9 c10 c11 c12 c13 0 f9 f10 f11 f12 f13 f15 f16 f17 y20_8 y21_9 y22_10 y23_11 y26_12 f28 f31 f32 f33 y38_19 f41 f44 x14 g15 g16 g17 g18 g19 g20 g21 g22 g23 g24 k25_31 k26_32 k27_33 g28 g29 k30_14 k31_21 g32 k33_20 g34 g35 g36 g37 g38 g39 g40 g41 g42 g43 g44 t), 0, 0))
      refine hR (?_ : R (_, _, _, _, _, _))
      refine hR (t_inc ?_)
      refine hR (?_ : R (_, _, _, _, _, _))
      exact ih50 _ _ _ _ _ _ _ (by rfl) (by omega) (by omega) hp34 hp35 (by omega)
  exact lp50 400000000 _ _ _ _ _ _ _ (by rfl) (by omega) (by omega) hp15 hb26 (by omega)
theorem m_settles (d : Nat) (a1 a2 a3 : Int) (hb19 : zB 0 2 g19) (hb25 : zB 0 3 g25) (hb30 : zB 0 5460 g30) (hb33 : zB 0 5460 g33) (hr4 : bkOK g20) (hr5 : -2147483648 ≤ a1 ∧ a1 ≤ 2147483647) (hr6 : -2147483648 ≤ a2 ∧ a2 ≤ 2147483647) (hr7 : -2147483648 ≤ a3 ∧ a3 ≤ 2147483647) (Q : zQ) (h : ∀ (v : Int) (y0 : Int) (y20 : Int) (y21 : Int) (y22 : Int) (y23 : Int) (y26 : Int) (y38 : Int) (k25 : Nat → Int32) (k30 : Nat → Int32) (k31 : Nat → Int32) (k33 : Nat → Int32), zB 0 3 k25 → zB 0 5460 k30 → zB 0 5460 k33 → Q (some (.int (Int32.ofInt v))) (zMi c0 c1 c2 c3 c4 c5 c6 c7 c8 c9 c10 c11 c12 c13 y0 f9 f10 f11 f12 f13 f15 f16 f17 y20 y21 y22 y23 y26 f28 f31 f32 f33 y38 f41 f44 x14 g15 g16 g17 g18 g19 g20 g21 g22 g23 g24 k25 g26 g27 g28 g29 k30 k31 g32 k33 g34 g35 g36 g37 g38 g39 g40 g41 g42 g43 g44 t)) : zCl zTab (d + 7) iX12_settles [.ref 14, .int (Int32.ofInt a1), .int (Int32.ofInt a2), .int (Int32.ofInt a3)] (zMi c0 c1 c2 c3 c4 c5 c6 c7 c8 c9 c10 c11 c12 c13 f0 f9 f10 f11 f12 f13 f15 f16 f17 f20 f21 f22 f23 f26 f28 f31 f32 f33 f38 f41 f44 x14 g15 g16 g17 g18 g19 g20 g21 g22 g23 g24 g25 g26 g27 g28 g29 g30 g31 g32 g33 g34 g35 g36 g37 g38 g39 g40 g41 g42 g43 g44 t) 0 0 Q := by
  refine zCl_i (M := kX12_settles) rfl (Nat.le_of_ble_eq_true rfl) fun R hR => ?_
  iterate 2 refine hR (?_ : R (_, _, _, _, _, _))
  refine hR (?_ : R (_, _, _, (zMi c0 c1 c2 c3 c4 c5 c6 c7 c8 c9 c10 c11 c12 c13 0 f9 f10 f11 f12 f13 f15 f16 f17 f20 f21 f22 f23 f26 f28 f31 f32 f33 f38 f41 f44 x14 g15 g16 g17 g18 g19 g20 g21 g22 g23 g24 g25 g26 g27 g28 g29 g30 g31 g32 g33 g34 g35 g36 g37 g38 g39 g40 g41 g42 g43 g44 t), _, _))
  refine hR (?_ : R (_, _, _, _, _, _))
  refine hR (zcall_i 0 0 (Nat.le_of_ble_eq_true rfl) (Nat.le_of_ble_eq_true rfl) (m_isText _ a2 _ (by omega) _ fun v1 hp2 => ?_))
  refine (?_ : R (_, _, (.int (Int32.ofInt v1)) :: [], (zMi c0 c1 c2 c3 c4 c5 c6 c7 c8 c9 c10 c11 c12 c13 0 f9 f10 f11 f12 f13 f15 f16 f17 f20 f21 f22 f23 f26 f28 f31 f32 f33 f38 f41 f44 x14 g15 g16 g17 g18 g19 g20 g21 g22 g23 g24 g25 g26 g27 g28 g29 g30 g31 g32 g33 g34 g35 g36 g37 g38 g39 g40 g41 g42 g43 g44 t), 0, 0))
  refine hR (k_eq (by omega) (fun hc3 => ?_) (fun hc3 => ?_))
  · skip
    refine hR (?_ : R (_, _, _, _, _, _))
    exact hR (zret_i rfl (Nat.le_refl _) trivial (h _ _ _ _ _ _ _ _ _ _ _ _ hb25 hb30 hb33))
  iterate 2 refine hR (?_ : R (_, _, _, _, _, _))
  refine hR (zcall_i 0 0 (Nat.le_of_ble_eq_true rfl) (Nat.le_of_ble_eq_true rfl) (m_handAll _ a1 hb19 hb25 hb30 hr4 (by omega) _ fun v4 y20_5 y21_6 y22_7 y23_8 y26_9 k25_10 k30_11 hp12 hp13 hp14 => ?_))
  refine (?_ : R (_, _, (.int (Int32.ofInt v4)) :: [], (zMi c0 c1 c2 c3 c4 c5 c6 c7 c8 c9 c10 c11 c12 c13 0 f9 f10 f11 f12 f13 f15 f16 f17 y20_5 y21_6 y22_7 y23_8 y26_9 f28 f31 f32 f33 f38 f41 f44 x14 g15 g16 g17 g18 g19 g20 g21 g22 g23 g24 k25_10 g26 g27 g28 g29 k30_11 g31 g32 g33 g34 g35 g36 g37 g38 g39 g40 g41 g42 g43 g44 t), 0, 0))
  refine hR (k_ne (by omega) (fun hc15 => ?_) (fun hc15 => ?_))
  rotate_left
  · skip
    refine hR (?_ : R (_, _, _, _, _, _))
    exact hR (zret_i rfl (Nat.le_refl _) trivial (h _ _ _ _ _ _ _ _ _ _ _ _ hp12 hp13 hb33))
  iterate 5 refine hR (?_ : R (_, _, _, _, _, _))
  refine hR (zcall_i 0 0 (Nat.le_of_ble_eq_true rfl) (Nat.le_of_ble_eq_true rfl) (m_findFar31 _ a2 0 hp13 (by omega) (by omega) hb33 _ fun y38_16 k33_17 k31_18 hp19 hp20 hp21 => ?_))
  refine (?_ : R (_, _, [], (zMi c0 c1 c2 c3 c4 c5 c6 c7 c8 c9 c10 c11 c12 c13 0 f9 f10 f11 f12 f13 f15 f16 f17 y20_5 y21_6 y22_7 y23_8 y26_9 f28 f31 f32 f33 y38_16 f41 f44 x14 g15 g16 g17 g18 g19 g20 g21 g22 g23 g24 k25_10 g26 g27 g28 g29 k30_11 k31_18 g32 k33_17 g34 g35 g36 g37 g38 g39 g40 g41 g42 g43 g44 t), 0, 0))
  iterate 2 refine hR (?_ : R (_, _, _, _, _, _))
  refine hR (t_c 1000000 (by decide) ?_)
  iterate 3 refine hR (?_ : R (_, _, _, _, _, _))
  have lp43 : ∀ (N : Nat) (be : Int) (fe : Int) (i : Int) (o7_43 : Option Value), (zc2 o7_43 = false) → (-1 ≤ be ∧ be ≤ 5460) → (0 ≤ i ∧ i ≤ 5461) → (5461 - i < N) → R (43, [some (.ref 14), some (.int (Int32.ofInt a1)), some (.int (Int32.ofInt a2)), some (.int (Int32.ofInt a3)), some (.int (Int32.ofInt be)), some (.int (Int32.ofInt fe)), some (.int (Int32.ofInt i)), o7_43], [], (zMi c0 c1 c2 c3 c4 c5 c6 c7 c8 c9 c10 c11 c12 c13 0 f9 f10 f11 f12 f13 f15 f16 f17 y20_5 y21_6 y22_7 y23_8 y26_9 f28 f31 f32 f33 y38_16 f41 f44 x14 g15 g16 g17 g18 g19 g20 g21 g22 g23 g24 k25_10 g26 g27 g28 g29 k30_11 k31_18 g32 k33_17 g34 g35 g36 g37 g38 g39 g40 g41 g42 g43 g44 t), 0, 0) := by
    intro N
    induction N with
    | zero => intros; omega
    | succ N ih43 =>
      intro be fe i o7_43 hzo7_43 hf0_43 hf1_43 hN43
      refine hR (?_ : R (_, _, _, _, _, _))
      refine hR (t_c 5461 (by decide) ?_)
      refine hR (j_ge (by omega) (by omega) (fun hc22 => ?_) (fun hc22 => ?_))
      · skip
        iterate 2 refine hR (?_ : R (_, _, _, _, _, _))
        refine hR (j_eq (by omega) (by omega) (fun hc23 => ?_) (fun hc23 => ?_))
        · skip
          iterate 2 refine hR (?_ : R (_, _, _, _, _, _))
          exact hR (zret_i rfl (Nat.le_refl _) trivial (h _ _ _ _ _ _ _ _ _ _ _ _ hp12 hp13 hp19))
        refine hR (?_ : R (_, _, _, _, _, _))
        refine hR (k_eq (by omega) (fun hc24 => ?_) (fun hc24 => ?_))
        · skip
          refine hR (?_ : R (_, _, _, _, _, _))
          exact hR (zret_i rfl (Nat.le_refl _) trivial (h _ _ _ _ _ _ _ _ _ _ _ _ hp12 hp13 hp19))
        iterate 2 refine hR (?_ : R (_, _, _, _, _, _))
        exact hR (zret_i rfl (Nat.le_refl _) trivial (h _ _ _ _ _ _ _ _ _ _ _ _ hp12 hp13 hp19))
      iterate 3 refine hR (?_ : R (_, _, _, _, _, _))
      refine hR (t_ldo (by omega) (by omega) (Nat.le_of_ble_eq_true rfl) fun v25 rv25 => ?_)
      refine hR (?_ : R (_, _, _, _, _, _))
      refine hR (j_any ?_ ?_)
      · skip
        iterate 3 refine hR (?_ : R (_, _, _, _, _, _))
        refine hR (k_eq (by omega) (fun _ => ?_) (fun hc => by omega))
        iterate 3 refine hR (?_ : R (_, _, _, _, _, _))
        refine hR (k_eq (by omega) (fun _ => ?_) (fun hc => by omega))
        iterate 2 refine hR (?_ : R (_, _, _, _, _, _))
        refine hR (t_inc ?_)
        refine hR (?_ : R (_, _, _, _, _, _))
        exact ih43 _ _ _ _ (by rfl) (by omega) (by omega) (by omega)
      iterate 3 refine hR (?_ : R (_, _, _, _, _, _))
      refine hR (zcall_i 0 0 (Nat.le_of_ble_eq_true rfl) (Nat.le_of_ble_eq_true rfl) (m_everybody _ (by omega) _ fun v26 hp27 => ?_))
      refine (?_ : R (_, _, (.int (Int32.ofInt v26)) :: (.int (Int32.ofInt i)) :: (.ref 14) :: [], (zMi c0 c1 c2 c3 c4 c5 c6 c7 c8 c9 c10 c11 c12 c13 0 f9 f10 f11 f12 f13 f15 f16 f17 y20_5 y21_6 y22_7 y23_8 y26_9 f28 f31 f32 f33 y38_16 f41 f44 x14 g15 g16 g17 g18 g19 g20 g21 g22 g23 g24 k25_10 g26 g27 g28 g29 k30_11 k31_18 g32 k33_17 g34 g35 g36 g37 g38 g39 g40 g41 g42 g43 g44 t), 0, 0))
      refine hR (zcall_i 0 0 (Nat.le_of_ble_eq_true rfl) (Nat.le_of_ble_eq_true rfl) (m_isKept _ i v26 hp13 (by omega) (by omega) _ fun v28 hp29 => ?_))
      refine (?_ : R (_, _, (.int (Int32.ofInt v28)) :: [], (zMi c0 c1 c2 c3 c4 c5 c6 c7 c8 c9 c10 c11 c12 c13 0 f9 f10 f11 f12 f13 f15 f16 f17 y20_5 y21_6 y22_7 y23_8 y26_9 f28 f31 f32 f33 y38_16 f41 f44 x14 g15 g16 g17 g18 g19 g20 g21 g22 g23 g24 k25_10 g26 g27 g28 g29 k30_11 k31_18 g32 k33_17 g34 g35 g36 g37 g38 g39 g40 g41 g42 g43 g44 t), 0, 0))
      refine hR (k_eq (by omega) (fun hc30 => ?_) (fun hc30 => ?_))
      · skip
        iterate 3 refine hR (?_ : R (_, _, _, _, _, _))
        refine hR (k_eq (by omega) (fun _ => ?_) (fun hc => by omega))
        iterate 3 refine hR (?_ : R (_, _, _, _, _, _))
        refine hR (k_eq (by omega) (fun _ => ?_) (fun hc => by omega))
        iterate 2 refine hR (?_ : R (_, _, _, _, _, _))
        refine hR (t_inc ?_)
        refine hR (?_ : R (_, _, _, _, _, _))
        exact ih43 _ _ _ _ (by rfl) (by omega) (by omega) (by omega)
      iterate 4 refine hR (?_ : R (_, _, _, _, _, _))
      refine hR (k_eq (by omega) (fun hc => by omega) (fun _ => ?_))
      iterate 4 refine hR (?_ : R (_, _, _, _, _, _))
      refine hR (k_eq (by omega) (fun hc => by omega) (fun _ => ?_))
      iterate 3 refine hR (?_ : R (_, _, _, _, _, _))
      refine hR (t_ldo (by omega) (by omega) (Nat.le_of_ble_eq_true rfl) fun v31 rv31 => ?_)
      iterate 2 refine hR (?_ : R (_, _, _, _, _, _))
      refine hR (t_inc ?_)
      refine hR (?_ : R (_, _, _, _, _, _))
      exact ih43 _ _ _ _ (by rfl) (by omega) (by omega) (by omega)
  exact lp43 400000000 _ _ _ _ (by rfl) (by omega) (by omega) (by omega)
theorem m_silenced (d : Nat) (a1 a2 a3 : Int) (hb19 : zB 0 2 g19) (hb25 : zB 0 3 g25) (hb30 : zB 0 5460 g30) (hb33 : zB 0 5460 g33) (hr4 : bkOK g20) (hr5 : -2147483648 ≤ a1 ∧ a1 ≤ 2147483647) (hr6 : -2147483648 ≤ a2 ∧ a2 ≤ 2147483647) (hr7 : -2147483648 ≤ a3 ∧ a3 ≤ 2147483647) (Q : zQ) (h : ∀ (v : Int) (y0 : Int) (y20 : Int) (y21 : Int) (y22 : Int) (y23 : Int) (y26 : Int) (y38 : Int) (k25 : Nat → Int32) (k30 : Nat → Int32) (k31 : Nat → Int32) (k33 : Nat → Int32), zB 0 3 k25 → zB 0 5460 k30 → zB 0 5460 k33 → Q (some (.int (Int32.ofInt v))) (zMi c0 c1 c2 c3 c4 c5 c6 c7 c8 c9 c10 c11 c12 c13 y0 f9 f10 f11 f12 f13 f15 f16 f17 y20 y21 y22 y23 y26 f28 f31 f32 f33 y38 f41 f44 x14 g15 g16 g17 g18 g19 g20 g21 g22 g23 g24 k25 g26 g27 g28 g29 k30 k31 g32 k33 g34 g35 g36 g37 g38 g39 g40 g41 g42 g43 g44 t)) : zCl zTab (d + 7) iX12_silenced [.ref 14, .int (Int32.ofInt a1), .int (Int32.ofInt a2), .int (Int32.ofInt a3)] (zMi c0 c1 c2 c3 c4 c5 c6 c7 c8 c9 c10 c11 c12 c13 f0 f9 f10 f11 f12 f13 f15 f16 f17 f20 f21 f22 f23 f26 f28 f31 f32 f33 f38 f41 f44 x14 g15 g16 g17 g18 g19 g20 g21 g22 g23 g24 g25 g26 g27 g28 g29 g30 g31 g32 g33 g34 g35 g36 g37 g38 g39 g40 g41 g42 g43 g44 t) 0 0 Q := by
  refine zCl_i (M := kX12_silenced) rfl (Nat.le_of_ble_eq_true rfl) fun R hR => ?_
  iterate 2 refine hR (?_ : R (_, _, _, _, _, _))
  refine hR (?_ : R (_, _, _, (zMi c0 c1 c2 c3 c4 c5 c6 c7 c8 c9 c10 c11 c12 c13 0 f9 f10 f11 f12 f13 f15 f16 f17 f20 f21 f22 f23 f26 f28 f31 f32 f33 f38 f41 f44 x14 g15 g16 g17 g18 g19 g20 g21 g22 g23 g24 g25 g26 g27 g28 g29 g30 g31 g32 g33 g34 g35 g36 g37 g38 g39 g40 g41 g42 g43 g44 t), _, _))
  refine hR (?_ : R (_, _, _, _, _, _))
  refine hR (zcall_i 0 0 (Nat.le_of_ble_eq_true rfl) (Nat.le_of_ble_eq_true rfl) (m_isText _ a2 _ (by omega) _ fun v1 hp2 => ?_))
  refine (?_ : R (_, _, (.int (Int32.ofInt v1)) :: [], (zMi c0 c1 c2 c3 c4 c5 c6 c7 c8 c9 c10 c11 c12 c13 0 f9 f10 f11 f12 f13 f15 f16 f17 f20 f21 f22 f23 f26 f28 f31 f32 f33 f38 f41 f44 x14 g15 g16 g17 g18 g19 g20 g21 g22 g23 g24 g25 g26 g27 g28 g29 g30 g31 g32 g33 g34 g35 g36 g37 g38 g39 g40 g41 g42 g43 g44 t), 0, 0))
  refine hR (k_eq (by omega) (fun hc3 => ?_) (fun hc3 => ?_))
  · skip
    refine hR (?_ : R (_, _, _, _, _, _))
    exact hR (zret_i rfl (Nat.le_refl _) trivial (h _ _ _ _ _ _ _ _ _ _ _ _ hb25 hb30 hb33))
  refine hR (?_ : R (_, _, _, _, _, _))
  refine hR (zcall_i 0 0 (Nat.le_of_ble_eq_true rfl) (Nat.le_of_ble_eq_true rfl) (m_isText _ a3 _ (by omega) _ fun v4 hp5 => ?_))
  refine (?_ : R (_, _, (.int (Int32.ofInt v4)) :: [], (zMi c0 c1 c2 c3 c4 c5 c6 c7 c8 c9 c10 c11 c12 c13 0 f9 f10 f11 f12 f13 f15 f16 f17 f20 f21 f22 f23 f26 f28 f31 f32 f33 f38 f41 f44 x14 g15 g16 g17 g18 g19 g20 g21 g22 g23 g24 g25 g26 g27 g28 g29 g30 g31 g32 g33 g34 g35 g36 g37 g38 g39 g40 g41 g42 g43 g44 t), 0, 0))
  refine hR (k_eq (by omega) (fun hc6 => ?_) (fun hc6 => ?_))
  · skip
    refine hR (?_ : R (_, _, _, _, _, _))
    exact hR (zret_i rfl (Nat.le_refl _) trivial (h _ _ _ _ _ _ _ _ _ _ _ _ hb25 hb30 hb33))
  iterate 2 refine hR (?_ : R (_, _, _, _, _, _))
  refine hR (j_eq (by omega) (by omega) (fun hc7 => ?_) (fun hc7 => ?_))
  · skip
    refine hR (?_ : R (_, _, _, _, _, _))
    exact hR (zret_i rfl (Nat.le_refl _) trivial (h _ _ _ _ _ _ _ _ _ _ _ _ hb25 hb30 hb33))
  iterate 2 refine hR (?_ : R (_, _, _, _, _, _))
  refine hR (zcall_i 0 0 (Nat.le_of_ble_eq_true rfl) (Nat.le_of_ble_eq_true rfl) (m_handAll _ a1 hb19 hb25 hb30 hr4 (by omega) _ fun v8 y20_9 y21_10 y22_11 y23_12 y26_13 k25_14 k30_15 hp16 hp17 hp18 => ?_))
  refine (?_ : R (_, _, (.int (Int32.ofInt v8)) :: [], (zMi c0 c1 c2 c3 c4 c5 c6 c7 c8 c9 c10 c11 c12 c13 0 f9 f10 f11 f12 f13 f15 f16 f17 y20_9 y21_10 y22_11 y23_12 y26_13 f28 f31 f32 f33 f38 f41 f44 x14 g15 g16 g17 g18 g19 g20 g21 g22 g23 g24 k25_14 g26 g27 g28 g29 k30_15 g31 g32 g33 g34 g35 g36 g37 g38 g39 g40 g41 g42 g43 g44 t), 0, 0))
  refine hR (k_ne (by omega) (fun hc19 => ?_) (fun hc19 => ?_))
  rotate_left
  · skip
    refine hR (?_ : R (_, _, _, _, _, _))
    exact hR (zret_i rfl (Nat.le_refl _) trivial (h _ _ _ _ _ _ _ _ _ _ _ _ hp16 hp17 hb33))
  iterate 2 refine hR (?_ : R (_, _, _, _, _, _))
  refine hR (t_c 1000000 (by decide) ?_)
  iterate 3 refine hR (?_ : R (_, _, _, _, _, _))
  have lp45 : ∀ (N : Nat) (be : Int) (fe : Int) (se : Int) (o7_45 : Option Value) (o8_45 : Option Value) (e38_45 : Int) (q31_45 : Nat → Int32) (q33_45 : Nat → Int32), (zc2 o7_45 = false) → (zc2 o8_45 = false) → (0 ≤ se ∧ se ≤ 32) → (zB 0 5460 q33_45) → (32 - se < N) → R (45, [some (.ref 14), some (.int (Int32.ofInt a1)), some (.int (Int32.ofInt a2)), some (.int (Int32.ofInt a3)), some (.int (Int32.ofInt be)), some (.int (Int32.ofInt fe)), some (.int (Int32.ofInt se)), o7_45, o8_45], [], (zMi c0 c1 c2 c3 c4 c5 c6 c7 c8 c9 c10 c11 c12 c13 0 f9 f10 f11 f12 f13 f15 f16 f17 y20_9 y21_10 y22_11 y23_12 y26_13 f28 f31 f32 f33 e38_45 f41 f44 x14 g15 g16 g17 g18 g19 g20 g21 g22 g23 g24 k25_14 g26 g27 g28 g29 k30_15 q31_45 g32 q33_45 g34 g35 g36 g37 g38 g39 g40 g41 g42 g43 g44 t), 0, 0) := by
    intro N
    induction N with
    | zero => intros; omega
    | succ N ih45 =>
      intro be fe se o7_45 o8_45 e38_45 q31_45 q33_45 hzo7_45 hzo8_45 hf0_45 hq33_45 hN45
      iterate 2 refine hR (?_ : R (_, _, _, _, _, _))
      refine hR (zcall_i 0 0 (Nat.le_of_ble_eq_true rfl) (Nat.le_of_ble_eq_true rfl) (m_everybody _ (by omega) _ fun v20 hp21 => ?_))
      refine (?_ : R (_, _, (.int (Int32.ofInt v20)) :: (.int (Int32.ofInt se)) :: [], (zMi c0 c1 c2 c3 c4 c5 c6 c7 c8 c9 c10 c11 c12 c13 0 f9 f10 f11 f12 f13 f15 f16 f17 y20_9 y21_10 y22_11 y23_12 y26_13 f28 f31 f32 f33 e38_45 f41 f44 x14 g15 g16 g17 g18 g19 g20 g21 g22 g23 g24 k25_14 g26 g27 g28 g29 k30_15 q31_45 g32 q33_45 g34 g35 g36 g37 g38 g39 g40 g41 g42 g43 g44 t), 0, 0))
      refine hR (j_gt (by omega) (by omega) (fun hc22 => ?_) (fun hc22 => ?_))
      · skip
        refine hR (?_ : R (_, _, _, _, _, _))
        exact hR (zret_i rfl (Nat.le_refl _) trivial (h _ _ _ _ _ _ _ _ _ _ _ _ hp16 hp17 hq33_45))
      iterate 4 refine hR (?_ : R (_, _, _, _, _, _))
      have lp60 : ∀ (N : Nat) (n : Int) (r : Int), (0 ≤ r ∧ r ≤ 5) → (r ≤ y23_12) → (5 - r < N) → R (60, [some (.ref 14), some (.int (Int32.ofInt a1)), some (.int (Int32.ofInt a2)), some (.int (Int32.ofInt a3)), some (.int (Int32.ofInt be)), some (.int (Int32.ofInt fe)), some (.int (Int32.ofInt se)), some (.int (Int32.ofInt n)), some (.int (Int32.ofInt r))], [], (zMi c0 c1 c2 c3 c4 c5 c6 c7 c8 c9 c10 c11 c12 c13 0 f9 f10 f11 f12 f13 f15 f16 f17 y20_9 y21_10 y22_11 y23_12 y26_13 f28 f31 f32 f33 e38_45 f41 f44 x14 g15 g16 g17 g18 g19 g20 g21 g22 g23 g24 k25_14 g26 g27 g28 g29 k30_15 q31_45 g32 q33_45 g34 g35 g36 g37 g38 g39 g40 g41 g42 g43 g44 t), 0, 0) := by
        intro N
        induction N with
        | zero => intros; omega
        | succ N ih60 =>
          intro n r hf0_60 hp0_60 hN60
          iterate 3 refine hR (?_ : R (_, _, _, _, _, _))
          refine hR (j_ge (by omega) (by omega) (fun hc23 => ?_) (fun hc23 => ?_))
          rotate_left
          · skip
            iterate 3 refine hR (?_ : R (_, _, _, _, _, _))
            refine hR (zcall_i 0 0 (Nat.le_of_ble_eq_true rfl) (Nat.le_of_ble_eq_true rfl) (m_has _ se r _ _ fun v31 hp32 => ?_))
            refine (?_ : R (_, _, (.int (Int32.ofInt v31)) :: (.int (Int32.ofInt n)) :: [], (zMi c0 c1 c2 c3 c4 c5 c6 c7 c8 c9 c10 c11 c12 c13 0 f9 f10 f11 f12 f13 f15 f16 f17 y20_9 y21_10 y22_11 y23_12 y26_13 f28 f31 f32 f33 e38_45 f41 f44 x14 g15 g16 g17 g18 g19 g20 g21 g22 g23 g24 k25_14 g26 g27 g28 g29 k30_15 q31_45 g32 q33_45 g34 g35 g36 g37 g38 g39 g40 g41 g42 g43 g44 t), 0, 0))
            refine hR (k_eq (by omega) (fun hc33 => ?_) (fun hc33 => ?_))
            · skip
              refine hR (?_ : R (_, _, _, _, _, _))
              refine hR (t_add ?_)
              refine hR (?_ : R (_, _, _, _, _, _))
              refine hR (t_inc ?_)
              refine hR (?_ : R (_, _, _, _, _, _))
              exact ih60 _ _ (by omega) (by omega) (by omega)
            iterate 2 refine hR (?_ : R (_, _, _, _, _, _))
            refine hR (t_add ?_)
            refine hR (?_ : R (_, _, _, _, _, _))
            refine hR (t_inc ?_)
            refine hR (?_ : R (_, _, _, _, _, _))
            exact ih60 _ _ (by omega) (by omega) (by omega)
          iterate 2 refine hR (?_ : R (_, _, _, _, _, _))
          refine hR (j_any ?_ ?_)
          · skip
            refine hR (t_inc ?_)
            refine hR (?_ : R (_, _, _, _, _, _))
            exact ih45 _ _ _ _ _ _ _ _ (by rfl) (by rfl) (by omega) hq33_45 (by omega)
          iterate 5 refine hR (?_ : R (_, _, _, _, _, _))
          refine hR (zcall_i 0 0 (Nat.le_of_ble_eq_true rfl) (Nat.le_of_ble_eq_true rfl) (m_findFar31 _ a2 se hp17 (by omega) (by omega) hq33_45 _ fun y38_24 k33_25 k31_26 hp27 hp28 hp29 => ?_))
          refine (?_ : R (_, _, [], (zMi c0 c1 c2 c3 c4 c5 c6 c7 c8 c9 c10 c11 c12 c13 0 f9 f10 f11 f12 f13 f15 f16 f17 y20_9 y21_10 y22_11 y23_12 y26_13 f28 f31 f32 f33 y38_24 f41 f44 x14 g15 g16 g17 g18 g19 g20 g21 g22 g23 g24 k25_14 g26 g27 g28 g29 k30_15 k31_26 g32 k33_25 g34 g35 g36 g37 g38 g39 g40 g41 g42 g43 g44 t), 0, 0))
          iterate 3 refine hR (?_ : R (_, _, _, _, _, _))
          refine hR (t_ldo (by omega) (by omega) (Nat.le_of_ble_eq_true rfl) fun v30 rv30 => ?_)
          refine hR (t_c 1000000 (by decide) ?_)
          refine hR (j_any ?_ ?_)
          · skip
            iterate 3 refine hR (?_ : R (_, _, _, _, _, _))
            refine hR (k_eq (by omega) (fun _ => ?_) (fun hc => by omega))
            iterate 3 refine hR (?_ : R (_, _, _, _, _, _))
            refine hR (k_eq (by omega) (fun _ => ?_) (fun hc => by omega))
            iterate 2 refine hR (?_ : R (_, _, _, _, _, _))
            refine hR (t_inc ?_)
            refine hR (?_ : R (_, _, _, _, _, _))
            exact ih45 _ _ _ _ _ _ _ _ (by rfl) (by rfl) (by omega) hp27 (by omega)
          iterate 4 refine hR (?_ : R (_, _, _, _, _, _))
          refine hR (k_eq (by omega) (fun hc => by omega) (fun _ => ?_))
          iterate 4 refine hR (?_ : R (_, _, _, _, _, _))
          refine hR (k_eq (by omega) (fun hc => by omega) (fun _ => ?_))
          iterate 3 refine hR (?_ : R (_, _, _, _, _, _))
          refine hR (t_inc ?_)
          refine hR (?_ : R (_, _, _, _, _, _))
          exact ih45 _ _ _ _ _ _ _ _ (by rfl) (by rfl) (by omega) hp27 (by omega)
      exact lp60 400000000 _ _ (by omega) (by omega) (by omega)
  exact lp45 400000000 _ _ _ _ _ _ _ _ (by rfl) (by rfl) (by omega) hb33 (by omega)
end MZ
noncomputable def fbA (D : Nat → Int32) : Prop := zNb 5461 0 1000000 D
noncomputable def fbW (D M : Nat → Int32) (rd : Int) : Prop := ∀ t, t < 5461 → (D t).toInt = 1000000 ∨ (D t).toInt = 0 ∨ ∃ r : Nat, (r : Int) < rd ∧ (D (M (5461 * r + t)).toInt.toNat).toInt < (D t).toInt
noncomputable def fbC (D M : Nat → Int32) (n : Nat) : Prop := ∀ k, k < n → (D (k % 5461)).toInt ≤ (D (M k).toInt.toNat).toInt + 1
theorem fb_i {D : Nat → Int32} {i x : Int} (h : ∀ j : Nat, (j : Int) < i → (D j).toInt = 0 ∨ (D j).toInt = 1000000) (h0 : 0 ≤ i) (hx : x = 0 ∨ x = 1000000) : ∀ j : Nat, (j : Int) < i + 1 → (upd D i.toNat (Int32.ofInt x) j).toInt = 0 ∨ (upd D i.toNat (Int32.ofInt x) j).toInt = 1000000 := by
  intro j hj
  by_cases e : j = i.toNat
  · subst e; rw [pk_us, zti (by omega) (by omega)]; exact hx
  · rw [pk_un e]; exact h j (by omega)
theorem fb_1 {D : Nat → Int32} {i : Int} (h : ∀ j : Nat, (j : Int) < i → (D j).toInt = 0 ∨ (D j).toInt = 1000000) (hi : 5461 ≤ i) : fbA D ∧ ∀ M rd, fbW D M rd := by
  refine ⟨fun t ht => ?_, fun M rd t ht => ?_⟩
  · have := h t (by omega); omega
  · have := h t (by omega)
    rcases this with q | q
    · exact Or.inr (Or.inl q)
    · exact Or.inl q
theorem fb_sb {D : Nat → Int32} (h : fbA D) : 0 ≤ sumI D 5461 ∧ sumI D 5461 ≤ 5461000000 := by
  have := sumI_b D 5461 h
  omega
theorem fb_sum : ∃ S : (Nat → Int32) → Int, (∀ D t (x : Int32), t < 5461 → S (upd D t x) = S D - (D t).toInt + x.toInt) ∧ (∀ D, fbA D → 0 ≤ S D ∧ S D ≤ 5461000000) :=
  ⟨fun D => sumI D 5461, fun D _ _ h => sumI_u D 5461 h, fun _ h => fb_sb h⟩
theorem fb_W {D M : Nat → Int32} {rd k v1 v2 v3 b : Int} (h : fbW D M rd) (hM : zB 0 5460 M) (h0 : 0 ≤ k) (hk : k < 5461 * rd) (e1 : v1 = (M k.toNat).toInt) (e2 : v2 = (D v1.toNat).toInt) (e3 : v3 = (D (k % 5461).toNat).toInt) (hb : b = v2 + 1) (hlt : b < v3) : fbW (upd D (k % 5461).toNat (Int32.ofInt b)) M rd := by
  have hv1 := hM k.toNat
  have r2 := zrg (D v1.toNat)
  have r3 := zrg (D (k % 5461).toNat)
  have eb : (Int32.ofInt b).toInt = b := zti (by omega) (by omega)
  have hle : ∀ s, (upd D (k % 5461).toNat (Int32.ofInt b) s).toInt ≤ (D s).toInt := by
    intro s
    by_cases e : s = (k % 5461).toNat
    · subst e; rw [pk_us, eb]; omega
    · rw [pk_un e]; exact Int.le_refl _
  intro t ht
  by_cases e : t = (k % 5461).toNat
  · subst e
    refine Or.inr (Or.inr ⟨(k / 5461).toNat, by omega, ?_⟩)
    have ek : 5461 * (k / 5461).toNat + (k % 5461).toNat = k.toNat := by omega
    rw [ek, pk_us, eb, ← e1]
    have hne : v1.toNat ≠ (k % 5461).toNat := by
      intro z
      rw [z] at e2
      omega
    rw [pk_un hne]
    omega
  · rw [pk_un e]
    rcases h t ht with q | q | ⟨r, hr, q⟩
    · exact Or.inl q
    · exact Or.inr (Or.inl q)
    · refine Or.inr (Or.inr ⟨r, hr, ?_⟩)
      have := hle (M (5461 * r + t)).toInt.toNat
      omega
theorem fb_C {D M : Nat → Int32} {k v1 v2 v3 : Int} (h : fbC D M k.toNat) (h0 : 0 ≤ k) (e1 : v1 = (M k.toNat).toInt) (e2 : v2 = (D v1.toNat).toInt) (e3 : v3 = (D (k % 5461).toNat).toInt) (hle : ¬ v2 + 1 < v3) : fbC D M (k + 1).toNat := by
  intro j hj
  by_cases e : j = k.toNat
  · subst e
    have ek : (k % 5461).toNat = k.toNat % 5461 := by omega
    rw [← ek, ← e1]
    omega
  · exact h j (by omega)
theorem fb_e {D M : Nat → Int32} {k : Int} {rd : Int} (h : fbC D M k.toNat) (hk : 5461 * rd ≤ k) : fbC D M (5461 * rd).toNat := fun j hj => h j (by omega)
theorem fb_wit {D M : Nat → Int32} {rd : Int} (hA : fbA D) (hW : fbW D M rd) (hC : fbC D M (5461 * rd).toNat) {t : Nat} (ht : t < 5461) (h1 : 1 ≤ (D t).toInt) (h2 : (D t).toInt < 1000000) : ∃ r0 : Nat, (r0 : Int) < rd ∧ (D (M (5461 * r0 + t)).toInt.toNat).toInt = (D t).toInt - 1 := by
  rcases hW t ht with q | q | ⟨r, hr, q⟩
  · omega
  · omega
  · refine ⟨r, hr, ?_⟩
    have := hC (5461 * r + t) (by omega)
    rw [show (5461 * r + t) % 5461 = t by omega] at this
    omega
theorem mk_ne {D M : Nat → Int32} {la a v1 v2 v3 : Int} {r0 : Nat} (h0 : 0 ≤ la) (ha : 0 ≤ a) (e1 : v1 = (M (5461 * la + a).toNat).toInt) (e2 : v2 = (D v1.toNat).toInt) (e3 : v3 = (D a.toNat).toInt) (hr : (D (M (5461 * r0 + a.toNat)).toInt.toNat).toInt = (D a.toNat).toInt - 1) (hc : ¬ v2 = v3 - 1) : la ≠ r0 := by
  intro e
  apply hc
  rw [e2, e1, e3, ← hr, show (5461 * la + a).toNat = 5461 * r0 + a.toNat by omega]
theorem mk_nx {D M : Nat → Int32} {la a v1 v2 v3 v4 n i : Int} (h0 : 0 ≤ la) (ha : 0 ≤ a) (e1 : v1 = (M (5461 * la + a).toNat).toInt) (e2 : v2 = (D v1.toNat).toInt) (e3 : v3 = (D a.toNat).toInt) (e4 : v4 = (M (5461 * la + a).toNat).toInt) (hc : v2 = v3 - 1) (hn : (D a.toNat).toInt = n - i) : (D v4.toNat).toInt = n - (i + 1) := by
  rw [e4, ← e1, ← e2]
  omega
theorem fc_i {D : Nat → Int32} {i : Int} (h : ∀ j : Nat, (j : Int) < i → (D j).toInt = 0) (h0 : 0 ≤ i) : ∀ j : Nat, (j : Int) < i + 1 → (upd D i.toNat (Int32.ofInt 0) j).toInt = 0 := by
  intro j hj
  by_cases e : j = i.toNat
  · subst e; rw [pk_us]; rfl
  · rw [pk_un e]; exact h j (by omega)
theorem fc_0 {D : Nat → Int32} {i : Int} (h : ∀ j : Nat, (j : Int) < i → (D j).toInt = 0) (hi : 5461 ≤ i) : zNb 5461 0 0 D := fun t ht => by
  have := h t (by omega); omega
theorem fa_1 {D : Nat → Int32} {en en' i v : Int} (h : en ≤ cP D i.toNat) (h0 : 0 ≤ i) (e : v = (D i.toNat).toInt) (hv : en' = en ∨ (en' = en + 1 ∧ v = 0)) : en' ≤ cP D (i + 1).toNat := by
  rw [show (i + 1).toNat = i.toNat + 1 by omega, cP_s, ← e]
  split <;> omega
theorem fa_2 {D : Nat → Int32} {en i : Int} (h : en ≤ cP D i.toNat) (h0 : 5461 ≤ i) (h1 : i ≤ 5461) : en ≤ cP D 5461 := by
  rw [show i.toNat = 5461 by omega] at h; exact h
theorem fa_3 {D : Nat → Int32} {en en' t v : Int} (h : en ≤ cP D 5461) (h0 : 0 ≤ t) (ht : t ≤ 5460) (e : v = (D t.toNat).toInt) (hr : -2147483647 ≤ v) (hv : (en' = en ∧ v - 1 ≠ 0) ∨ (en' = en + 1 ∧ v - 1 = 0)) : en' ≤ cP (upd D t.toNat (Int32.ofInt (v - 1))) 5461 := by
  have r := zrg (D t.toNat)
  have e1 : (Int32.ofInt (v - 1)).toInt = v - 1 := zti (by omega) (by omega)
  rcases hv with ⟨q1, q2⟩ | ⟨q1, q2⟩
  · rw [cP_same 5461 (by omega)]; omega
  · rw [cP_up (by omega) (by omega) (by omega)]; omega
section MZ
variable {c0 c1 c2 c3 c4 c5 c6 c7 c8 c9 c10 c11 c12 c13 : va_E} {f0 f9 f10 f11 f12 f13 f15 f16 f17 f20 f21 f22 f23 f26 f28 f31 f32 f33 f38 f41 f44 : Int} {x14 : Int64} {g15 g16 g17 g18 g19 g20 g21 g22 g23 g24 g25 g26 g27 g28 g29 g30 g31 g32 g33 g34 g35 g36 g37 g38 g39 g40 g41 g42 g43 g44 : Nat → Int32} {t : zW}
theorem m_findBack (d : Nat) (a1 : Int) (hb30 : zB 0 5460 g30) (hr1 : 0 ≤ f23 ∧ f23 ≤ 5) (hr2 : 0 ≤ a1 ∧ a1 ≤ 5460) (Q : zQ) (h : ∀ (k32 : Nat → Int32), (fbA k32) → (fbW k32 g30 f23) → (fbC k32 g30 (5461 * f23).toNat) → Q (none) (zMi c0 c1 c2 c3 c4 c5 c6 c7 c8 c9 c10 c11 c12 c13 f0 f9 f10 f11 f12 f13 f15 f16 f17 f20 f21 f22 f23 f26 f28 f31 f32 f33 f38 f41 f44 x14 g15 g16 g17 g18 g19 g20 g21 g22 g23 g24 g25 g26 g27 g28 g29 g30 g31 k32 g33 g34 g35 g36 g37 g38 g39 g40 g41 g42 g43 g44 t)) : zCl zTab (d + 1) iX12_findBack [.ref 14, .int (Int32.ofInt a1)] (zMi c0 c1 c2 c3 c4 c5 c6 c7 c8 c9 c10 c11 c12 c13 f0 f9 f10 f11 f12 f13 f15 f16 f17 f20 f21 f22 f23 f26 f28 f31 f32 f33 f38 f41 f44 x14 g15 g16 g17 g18 g19 g20 g21 g22 g23 g24 g25 g26 g27 g28 g29 g30 g31 g32 g33 g34 g35 g36 g37 g38 g39 g40 g41 g42 g43 g44 t) 0 0 Q := by
  refine zCl_i (M := kX12_findBack) rfl (Nat.le_of_ble_eq_true rfl) fun R hR => ?_
  obtain ⟨S, hS1, hS2⟩ := fb_sum
  iterate 2 refine hR (?_ : R (_, _, _, _, _, _))
  have lp2 : ∀ (N : Nat) (i : Int) (q32_2 : Nat → Int32), (0 ≤ i ∧ i ≤ 5461) → (∀ j : Nat, (j : Int) < i → (q32_2 j).toInt = 0 ∨ (q32_2 j).toInt = 1000000) → (5461 - i < N) → R (2, [some (.ref 14), some (.int (Int32.ofInt a1)), some (.int (Int32.ofInt i)), none, none], [], (zMi c0 c1 c2 c3 c4 c5 c6 c7 c8 c9 c10 c11 c12 c13 f0 f9 f10 f11 f12 f13 f15 f16 f17 f20 f21 f22 f23 f26 f28 f31 f32 f33 f38 f41 f44 x14 g15 g16 g17 g18 g19 g20 g21 g22 g23 g24 g25 g26 g27 g28 g29 g30 g31 q32_2 g33 g34 g35 g36 g37 g38 g39 g40 g41 g42 g43 g44 t), 0, 0) := by
    intro N
    induction N with
    | zero => intros; omega
    | succ N ih2 =>
      intro i q32_2 hf0_2 hp0_2 hN2
      refine hR (?_ : R (_, _, _, _, _, _))
      refine hR (t_c 5461 (by decide) ?_)
      refine hR (j_ge (by omega) (by omega) (fun hc1 => ?_) (fun hc1 => ?_))
      rotate_left
      · skip
        iterate 5 refine hR (?_ : R (_, _, _, _, _, _))
        refine hR (j_ne (by omega) (by omega) (fun hc9 => ?_) (fun hc9 => ?_))
        · skip
          refine hR (t_c 1000000 (by decide) ?_)
          refine hR (t_st (by omega) (by omega) (Nat.le_of_ble_eq_true rfl) (?_ : R (_, _, _, (zMi c0 c1 c2 c3 c4 c5 c6 c7 c8 c9 c10 c11 c12 c13 f0 f9 f10 f11 f12 f13 f15 f16 f17 f20 f21 f22 f23 f26 f28 f31 f32 f33 f38 f41 f44 x14 g15 g16 g17 g18 g19 g20 g21 g22 g23 g24 g25 g26 g27 g28 g29 g30 g31 (upd q32_2 i.toNat (Int32.ofInt 1000000)) g33 g34 g35 g36 g37 g38 g39 g40 g41 g42 g43 g44 t), _, _)))
          refine hR (t_inc ?_)
          refine hR (?_ : R (_, _, _, _, _, _))
          exact ih2 _ _ (by omega) (fb_i hp0_2 (by omega) (by omega)) (by omega)
        iterate 2 refine hR (?_ : R (_, _, _, _, _, _))
        refine hR (t_st (by omega) (by omega) (Nat.le_of_ble_eq_true rfl) (?_ : R (_, _, _, (zMi c0 c1 c2 c3 c4 c5 c6 c7 c8 c9 c10 c11 c12 c13 f0 f9 f10 f11 f12 f13 f15 f16 f17 f20 f21 f22 f23 f26 f28 f31 f32 f33 f38 f41 f44 x14 g15 g16 g17 g18 g19 g20 g21 g22 g23 g24 g25 g26 g27 g28 g29 g30 g31 (upd q32_2 i.toNat (Int32.ofInt 0)) g33 g34 g35 g36 g37 g38 g39 g40 g41 g42 g43 g44 t), _, _)))
        refine hR (t_inc ?_)
        refine hR (?_ : R (_, _, _, _, _, _))
        exact ih2 _ _ (by omega) (fb_i hp0_2 (by omega) (by omega)) (by omega)
      iterate 2 refine hR (?_ : R (_, _, _, _, _, _))
      have lp35 : ∀ (N : Nat) (mo : Int) (o3_35 : Option Value) (o4_35 : Option Value) (q32_35 : Nat → Int32), (zc2 o3_35 = false) → (zc2 o4_35 = false) → (0 ≤ mo ∧ mo ≤ 1) → (fbA q32_35) → (fbW q32_35 g30 f23) → (mo = 0 → fbC q32_35 g30 (5461 * f23).toNat) → (0 ≤ S q32_35 ∧ S q32_35 ≤ 5461000000) → (2 * S q32_35 + mo < N) → R (35, [some (.ref 14), some (.int (Int32.ofInt a1)), some (.int (Int32.ofInt mo)), o3_35, o4_35], [], (zMi c0 c1 c2 c3 c4 c5 c6 c7 c8 c9 c10 c11 c12 c13 f0 f9 f10 f11 f12 f13 f15 f16 f17 f20 f21 f22 f23 f26 f28 f31 f32 f33 f38 f41 f44 x14 g15 g16 g17 g18 g19 g20 g21 g22 g23 g24 g25 g26 g27 g28 g29 g30 g31 q32_35 g33 g34 g35 g36 g37 g38 g39 g40 g41 g42 g43 g44 t), 0, 0) := by
        intro N
        induction N with
        | zero => intros; omega
        | succ N ih35 =>
          intro mo o3_35 o4_35 q32_35 hzo3_35 hzo4_35 hf0_35 hp0_35 hp1_35 hp2_35 hp3_35 hN35
          refine hR (?_ : R (_, _, _, _, _, _))
          refine hR (k_eq (by omega) (fun hc2 => ?_) (fun hc2 => ?_))
          · skip
            exact hR (zret_i rfl (Nat.le_refl _) rfl (h _ hp0_35 hp1_35 (hp2_35 (by omega))))
          iterate 4 refine hR (?_ : R (_, _, _, _, _, _))
          have lp43 : ∀ (N : Nat) (mi : Int) (k : Int) (o4_43 : Option Value) (q32_43 : Nat → Int32), (zc2 o4_43 = false) → (0 ≤ mi ∧ mi ≤ 1) → (0 ≤ k ∧ k ≤ 5461 * f23) → (fbA q32_43) → (fbW q32_43 g30 f23) → (mi = 0 → fbC q32_43 g30 k.toNat) → ((mi = 0 ∧ S q32_43 = S q32_35) ∨ (mi = 1 ∧ S q32_43 < S q32_35)) → (0 ≤ S q32_43 ∧ S q32_43 ≤ 5461000000) → (5461 * f23 - k < N) → R (43, [some (.ref 14), some (.int (Int32.ofInt a1)), some (.int (Int32.ofInt mi)), some (.int (Int32.ofInt k)), o4_43], [], (zMi c0 c1 c2 c3 c4 c5 c6 c7 c8 c9 c10 c11 c12 c13 f0 f9 f10 f11 f12 f13 f15 f16 f17 f20 f21 f22 f23 f26 f28 f31 f32 f33 f38 f41 f44 x14 g15 g16 g17 g18 g19 g20 g21 g22 g23 g24 g25 g26 g27 g28 g29 g30 g31 q32_43 g33 g34 g35 g36 g37 g38 g39 g40 g41 g42 g43 g44 t), 0, 0) := by
            intro N
            induction N with
            | zero => intros; omega
            | succ N ih43 =>
              intro mi k o4_43 q32_43 hzo4_43 hf0_43 hf1_43 hp0_43 hp1_43 hp2_43 hp3_43 hp4_43 hN43
              refine hR (?_ : R (_, _, _, _, _, _))
              refine hR (t_c 5461 (by decide) ?_)
              iterate 2 refine hR (?_ : R (_, _, _, _, _, _))
              refine hR (t_mul ?_)
              refine hR (j_ge (by omega) (by omega) (fun hc3 => ?_) (fun hc3 => ?_))
              · skip
                refine hR (?_ : R (_, _, _, _, _, _))
                exact ih35 _ _ _ _ (by rfl) hzo4_43 (by omega) hp0_43 hp1_43 (fun h => fb_e (hp2_43 h) (by omega)) hp4_43 (by omega)
              iterate 5 refine hR (?_ : R (_, _, _, _, _, _))
              refine hR (t_ldB hb30 (by omega) (by omega) (Nat.le_of_ble_eq_true rfl) fun v4 ev4 lv4 uv4 => ?_)
              refine hR (t_ldE (by omega) (by omega) (Nat.le_of_ble_eq_true rfl) fun v5 ev5 rv5 => ?_)
              have bv5 := hp0_43 v4.toNat (by omega)
              rw [← ev5] at bv5
              refine hR (?_ : R (_, _, _, _, _, _))
              refine hR (t_add ?_)
              iterate 5 refine hR (?_ : R (_, _, _, _, _, _))
              refine hR (t_c 5461 (by decide) ?_)
              refine hR (t_rem (by omega) (by omega) (by omega) (by omega) ?_)
              refine hR (t_ldE (by omega) (by omega) (Nat.le_of_ble_eq_true rfl) fun v6 ev6 rv6 => ?_)
              have bv6 := hp0_43 (k % 5461).toNat (by omega)
              rw [← ev6] at bv6
              refine hR (j_ge (by omega) (by omega) (fun hc7 => ?_) (fun hc7 => ?_))
              · skip
                refine hR (t_inc ?_)
                refine hR (?_ : R (_, _, _, _, _, _))
                exact ih43 _ _ _ _ (by rfl) (by omega) (by omega) hp0_43 hp1_43 (fun h => fb_C (hp2_43 h) (by omega) ev4 ev5 ev6 (by omega)) (by omega) hp4_43 (by omega)
              iterate 3 refine hR (?_ : R (_, _, _, _, _, _))
              refine hR (t_c 5461 (by decide) ?_)
              refine hR (t_rem (by omega) (by omega) (by omega) (by omega) ?_)
              refine hR (?_ : R (_, _, _, _, _, _))
              refine hR (t_st (by omega) (by omega) (Nat.le_of_ble_eq_true rfl) (?_ : R (_, _, _, (zMi c0 c1 c2 c3 c4 c5 c6 c7 c8 c9 c10 c11 c12 c13 f0 f9 f10 f11 f12 f13 f15 f16 f17 f20 f21 f22 f23 f26 f28 f31 f32 f33 f38 f41 f44 x14 g15 g16 g17 g18 g19 g20 g21 g22 g23 g24 g25 g26 g27 g28 g29 g30 g31 (upd q32_43 (k % 5461).toNat (Int32.ofInt (v5 + 1))) g33 g34 g35 g36 g37 g38 g39 g40 g41 g42 g43 g44 t), _, _)))
              have hsu := hS1 q32_43 (k % 5461).toNat (Int32.ofInt (v5 + 1)) (by omega)
              rw [zti (e := v5 + 1) (by omega) (by omega), ← ev6] at hsu
              iterate 2 refine hR (?_ : R (_, _, _, _, _, _))
              refine hR (t_inc ?_)
              refine hR (?_ : R (_, _, _, _, _, _))
              exact ih43 _ _ _ _ (by rfl) (by omega) (by omega) (zNb_u hp0_43 (by omega) (by omega) (by omega) (by omega)) (fb_W hp1_43 hb30 (by omega) (by omega) ev4 ev5 ev6 (by omega) (by omega)) (fun h => by omega) (by omega) (hS2 _ (zNb_u hp0_43 (by omega) (by omega) (by omega) (by omega))) (by omega)
          exact lp43 400000000 _ _ _ _ hzo4_35 (by omega) (by omega) hp0_35 hp1_35 (fun _ k hk => absurd hk (Nat.not_lt_zero k)) (by omega) hp3_35 (by omega)
      have hent := hS2 _ (fb_1 hp0_2 (by omega)).1
      exact lp35 20000000000 _ _ _ _ (by rfl) (by rfl) (by omega) (fb_1 hp0_2 (by omega)).1 ((fb_1 hp0_2 (by omega)).2 _ _) (fun h => by omega) (hS2 _ (fb_1 hp0_2 (by omega)).1) (by omega)
  exact lp2 400000000 _ _ (by omega) (fun j hj => by omega) (by omega)
theorem m_making (d : Nat) (a1 a2 a3 a4 : Int) (hb19 : zB 0 2 g19) (hb25 : zB 0 3 g25) (hb30 : zB 0 5460 g30) (hr3 : bkOK g20) (hr4 : -2147483648 ≤ a1 ∧ a1 ≤ 2147483647) (hr5 : -2147483648 ≤ a2 ∧ a2 ≤ 2147483647) (hr6 : -2147483648 ≤ a3 ∧ a3 ≤ 2147483647) (hr7 : -2147483648 ≤ a4 ∧ a4 ≤ 2147483647) (Q : zQ) (h : ∀ (v : Int) (y0 : Int) (y20 : Int) (y21 : Int) (y22 : Int) (y23 : Int) (y26 : Int) (k25 : Nat → Int32) (k30 : Nat → Int32) (k32 : Nat → Int32), zB 0 3 k25 → zB 0 5460 k30 → Q (some (.int (Int32.ofInt v))) (zMi c0 c1 c2 c3 c4 c5 c6 c7 c8 c9 c10 c11 c12 c13 y0 f9 f10 f11 f12 f13 f15 f16 f17 y20 y21 y22 y23 y26 f28 f31 f32 f33 f38 f41 f44 x14 g15 g16 g17 g18 g19 g20 g21 g22 g23 g24 k25 g26 g27 g28 g29 k30 g31 k32 g33 g34 g35 g36 g37 g38 g39 g40 g41 g42 g43 g44 t)) : zCl zTab (d + 7) iX12_making [.ref 14, .int (Int32.ofInt a1), .int (Int32.ofInt a2), .int (Int32.ofInt a3), .int (Int32.ofInt a4)] (zMi c0 c1 c2 c3 c4 c5 c6 c7 c8 c9 c10 c11 c12 c13 f0 f9 f10 f11 f12 f13 f15 f16 f17 f20 f21 f22 f23 f26 f28 f31 f32 f33 f38 f41 f44 x14 g15 g16 g17 g18 g19 g20 g21 g22 g23 g24 g25 g26 g27 g28 g29 g30 g31 g32 g33 g34 g35 g36 g37 g38 g39 g40 g41 g42 g43 g44 t) 0 0 Q := by
  refine zCl_i (M := kX12_making) rfl (Nat.le_of_ble_eq_true rfl) fun R hR => ?_
  iterate 2 refine hR (?_ : R (_, _, _, _, _, _))
  refine hR (?_ : R (_, _, _, (zMi c0 c1 c2 c3 c4 c5 c6 c7 c8 c9 c10 c11 c12 c13 0 f9 f10 f11 f12 f13 f15 f16 f17 f20 f21 f22 f23 f26 f28 f31 f32 f33 f38 f41 f44 x14 g15 g16 g17 g18 g19 g20 g21 g22 g23 g24 g25 g26 g27 g28 g29 g30 g31 g32 g33 g34 g35 g36 g37 g38 g39 g40 g41 g42 g43 g44 t), _, _))
  refine hR (?_ : R (_, _, _, _, _, _))
  refine hR (zcall_i 0 0 (Nat.le_of_ble_eq_true rfl) (Nat.le_of_ble_eq_true rfl) (m_isText _ a2 _ (by omega) _ fun v1 hp2 => ?_))
  refine (?_ : R (_, _, (.int (Int32.ofInt v1)) :: [], (zMi c0 c1 c2 c3 c4 c5 c6 c7 c8 c9 c10 c11 c12 c13 0 f9 f10 f11 f12 f13 f15 f16 f17 f20 f21 f22 f23 f26 f28 f31 f32 f33 f38 f41 f44 x14 g15 g16 g17 g18 g19 g20 g21 g22 g23 g24 g25 g26 g27 g28 g29 g30 g31 g32 g33 g34 g35 g36 g37 g38 g39 g40 g41 g42 g43 g44 t), 0, 0))
  refine hR (k_eq (by omega) (fun hc3 => ?_) (fun hc3 => ?_))
  · skip
    refine hR (?_ : R (_, _, _, _, _, _))
    exact hR (zret_i rfl (Nat.le_refl _) trivial (h _ _ _ _ _ _ _ _ _ _ hb25 hb30))
  refine hR (?_ : R (_, _, _, _, _, _))
  refine hR (zcall_i 0 0 (Nat.le_of_ble_eq_true rfl) (Nat.le_of_ble_eq_true rfl) (m_isText _ a3 _ (by omega) _ fun v4 hp5 => ?_))
  refine (?_ : R (_, _, (.int (Int32.ofInt v4)) :: [], (zMi c0 c1 c2 c3 c4 c5 c6 c7 c8 c9 c10 c11 c12 c13 0 f9 f10 f11 f12 f13 f15 f16 f17 f20 f21 f22 f23 f26 f28 f31 f32 f33 f38 f41 f44 x14 g15 g16 g17 g18 g19 g20 g21 g22 g23 g24 g25 g26 g27 g28 g29 g30 g31 g32 g33 g34 g35 g36 g37 g38 g39 g40 g41 g42 g43 g44 t), 0, 0))
  refine hR (k_eq (by omega) (fun hc6 => ?_) (fun hc6 => ?_))
  · skip
    refine hR (?_ : R (_, _, _, _, _, _))
    exact hR (zret_i rfl (Nat.le_refl _) trivial (h _ _ _ _ _ _ _ _ _ _ hb25 hb30))
  iterate 2 refine hR (?_ : R (_, _, _, _, _, _))
  refine hR (zcall_i 0 0 (Nat.le_of_ble_eq_true rfl) (Nat.le_of_ble_eq_true rfl) (m_handAll _ a1 hb19 hb25 hb30 hr3 (by omega) _ fun v7 y20_8 y21_9 y22_10 y23_11 y26_12 k25_13 k30_14 hp15 hp16 hp17 => ?_))
  refine (?_ : R (_, _, (.int (Int32.ofInt v7)) :: [], (zMi c0 c1 c2 c3 c4 c5 c6 c7 c8 c9 c10 c11 c12 c13 0 f9 f10 f11 f12 f13 f15 f16 f17 y20_8 y21_9 y22_10 y23_11 y26_12 f28 f31 f32 f33 f38 f41 f44 x14 g15 g16 g17 g18 g19 g20 g21 g22 g23 g24 k25_13 g26 g27 g28 g29 k30_14 g31 g32 g33 g34 g35 g36 g37 g38 g39 g40 g41 g42 g43 g44 t), 0, 0))
  refine hR (k_ne (by omega) (fun hc18 => ?_) (fun hc18 => ?_))
  rotate_left
  · skip
    refine hR (?_ : R (_, _, _, _, _, _))
    exact hR (zret_i rfl (Nat.le_refl _) trivial (h _ _ _ _ _ _ _ _ _ _ hp15 hp16))
  iterate 2 refine hR (?_ : R (_, _, _, _, _, _))
  refine hR (zcall_i 0 0 (Nat.le_of_ble_eq_true rfl) (Nat.le_of_ble_eq_true rfl) (m_findBack _ a3 hp16 (by omega) (by omega) _ fun k32_19 hp20 hp21 hp22 => ?_))
  refine (?_ : R (_, _, [], (zMi c0 c1 c2 c3 c4 c5 c6 c7 c8 c9 c10 c11 c12 c13 0 f9 f10 f11 f12 f13 f15 f16 f17 y20_8 y21_9 y22_10 y23_11 y26_12 f28 f31 f32 f33 f38 f41 f44 x14 g15 g16 g17 g18 g19 g20 g21 g22 g23 g24 k25_13 g26 g27 g28 g29 k30_14 g31 k32_19 g33 g34 g35 g36 g37 g38 g39 g40 g41 g42 g43 g44 t), 0, 0))
  iterate 3 refine hR (?_ : R (_, _, _, _, _, _))
  refine hR (t_ldE (by omega) (by omega) (Nat.le_of_ble_eq_true rfl) fun v23 ev23 rv23 => ?_)
  have bv23 := hp20 a2.toNat (by omega)
  rw [← ev23] at bv23
  iterate 2 refine hR (?_ : R (_, _, _, _, _, _))
  refine hR (t_c 1000000 (by decide) ?_)
  refine hR (j_ge (by omega) (by omega) (fun hc24 => ?_) (fun hc24 => ?_))
  · skip
    refine hR (?_ : R (_, _, _, _, _, _))
    exact hR (zret_i rfl (Nat.le_refl _) trivial (h _ _ _ _ _ _ _ _ _ _ hp15 hp16))
  iterate 4 refine hR (?_ : R (_, _, _, _, _, _))
  refine hR (t_sub ?_)
  refine hR (zcall_i 0 0 (Nat.le_of_ble_eq_true rfl) (Nat.le_of_ble_eq_true rfl) (m_in _ a4 ((-1)) (v23 - 1) _ (by omega) (by omega) (by omega) _ fun v25 hp26 => ?_))
  refine (?_ : R (_, _, (.int (Int32.ofInt v25)) :: [], (zMi c0 c1 c2 c3 c4 c5 c6 c7 c8 c9 c10 c11 c12 c13 0 f9 f10 f11 f12 f13 f15 f16 f17 y20_8 y21_9 y22_10 y23_11 y26_12 f28 f31 f32 f33 f38 f41 f44 x14 g15 g16 g17 g18 g19 g20 g21 g22 g23 g24 k25_13 g26 g27 g28 g29 k30_14 g31 k32_19 g33 g34 g35 g36 g37 g38 g39 g40 g41 g42 g43 g44 t), 0, 0))
  refine hR (k_ne (by omega) (fun hc27 => ?_) (fun hc27 => ?_))
  rotate_left
  · skip
    refine hR (?_ : R (_, _, _, _, _, _))
    exact hR (zret_i rfl (Nat.le_refl _) trivial (h _ _ _ _ _ _ _ _ _ _ hp15 hp16))
  iterate 2 refine hR (?_ : R (_, _, _, _, _, _))
  refine hR (j_ne (by omega) (by omega) (fun hc28 => ?_) (fun hc28 => ?_))
  rotate_left
  · skip
    refine hR (?_ : R (_, _, _, _, _, _))
    exact hR (zret_i rfl (Nat.le_refl _) trivial (h _ _ _ _ _ _ _ _ _ _ hp15 hp16))
  iterate 4 refine hR (?_ : R (_, _, _, _, _, _))
  have hz0 : (k32_19 a2.toNat).toInt = v23 - 0 := by omega
  iterate 2 refine hR (?_ : R (_, _, _, _, _, _))
  have lp83 : ∀ (N : Nat) (at_ : Int) (la : Int) (i : Int), (0 ≤ at_ ∧ at_ ≤ 5460) → (0 ≤ i ∧ i ≤ a4 + 1) → ((k32_19 at_.toNat).toInt = v23 - i) → (a4 + 1 - i < N) → R (83, [some (.ref 14), some (.int (Int32.ofInt a1)), some (.int (Int32.ofInt a2)), some (.int (Int32.ofInt a3)), some (.int (Int32.ofInt a4)), some (.int (Int32.ofInt v23)), some (.int (Int32.ofInt at_)), some (.int (Int32.ofInt la)), some (.int (Int32.ofInt i))], [], (zMi c0 c1 c2 c3 c4 c5 c6 c7 c8 c9 c10 c11 c12 c13 0 f9 f10 f11 f12 f13 f15 f16 f17 y20_8 y21_9 y22_10 y23_11 y26_12 f28 f31 f32 f33 f38 f41 f44 x14 g15 g16 g17 g18 g19 g20 g21 g22 g23 g24 k25_13 g26 g27 g28 g29 k30_14 g31 k32_19 g33 g34 g35 g36 g37 g38 g39 g40 g41 g42 g43 g44 t), 0, 0) := by
    intro N
    induction N with
    | zero => intros; omega
    | succ N ih83 =>
      intro at_ la i hf0_83 hf1_83 hp0_83 hN83
      iterate 2 refine hR (?_ : R (_, _, _, _, _, _))
      refine hR (j_gt (by omega) (by omega) (fun hc29 => ?_) (fun hc29 => ?_))
      · skip
        refine hR (?_ : R (_, _, _, _, _, _))
        exact hR (zret_i rfl (Nat.le_refl _) trivial (h _ _ _ _ _ _ _ _ _ _ hp15 hp16))
      obtain ⟨r0, hr0, hr1⟩ := fb_wit hp20 hp21 hp22 (t := at_.toNat) (by omega) (by omega) (by omega)
      iterate 2 refine hR (?_ : R (_, _, _, _, _, _))
      have lp93 : ∀ (N : Nat) (la : Int), (0 ≤ la ∧ la ≤ r0) → (r0 - la < N) → R (93, [some (.ref 14), some (.int (Int32.ofInt a1)), some (.int (Int32.ofInt a2)), some (.int (Int32.ofInt a3)), some (.int (Int32.ofInt a4)), some (.int (Int32.ofInt v23)), some (.int (Int32.ofInt at_)), some (.int (Int32.ofInt la)), some (.int (Int32.ofInt i))], [], (zMi c0 c1 c2 c3 c4 c5 c6 c7 c8 c9 c10 c11 c12 c13 0 f9 f10 f11 f12 f13 f15 f16 f17 y20_8 y21_9 y22_10 y23_11 y26_12 f28 f31 f32 f33 f38 f41 f44 x14 g15 g16 g17 g18 g19 g20 g21 g22 g23 g24 k25_13 g26 g27 g28 g29 k30_14 g31 k32_19 g33 g34 g35 g36 g37 g38 g39 g40 g41 g42 g43 g44 t), 0, 0) := by
        intro N
        induction N with
        | zero => intros; omega
        | succ N ih93 =>
          intro la hf0_93 hN93
          iterate 4 refine hR (?_ : R (_, _, _, _, _, _))
          refine hR (t_c 5461 (by decide) ?_)
          refine hR (?_ : R (_, _, _, _, _, _))
          refine hR (t_mul ?_)
          refine hR (?_ : R (_, _, _, _, _, _))
          refine hR (t_add ?_)
          refine hR (t_ldB hp16 (by omega) (by omega) (Nat.le_of_ble_eq_true rfl) fun v30 ev30 lv30 uv30 => ?_)
          refine hR (t_ldE (by omega) (by omega) (Nat.le_of_ble_eq_true rfl) fun v31 ev31 rv31 => ?_)
          iterate 3 refine hR (?_ : R (_, _, _, _, _, _))
          refine hR (t_ldE (by omega) (by omega) (Nat.le_of_ble_eq_true rfl) fun v32 ev32 rv32 => ?_)
          refine hR (?_ : R (_, _, _, _, _, _))
          refine hR (t_sub ?_)
          refine hR (j_eq (by omega) (by omega) (fun hc33 => ?_) (fun hc33 => ?_))
          rotate_left
          · skip
            have hne : la ≠ r0 := mk_ne (by omega) (by omega) ev30 ev31 ev32 hr1 (by omega)
            refine hR (t_inc ?_)
            refine hR (?_ : R (_, _, _, _, _, _))
            exact ih93 _ (by omega) (by omega)
          iterate 2 refine hR (?_ : R (_, _, _, _, _, _))
          refine hR (t_c 5461 (by decide) ?_)
          refine hR (?_ : R (_, _, _, _, _, _))
          refine hR (t_mul ?_)
          refine hR (?_ : R (_, _, _, _, _, _))
          refine hR (t_add ?_)
          refine hR (t_ldB hp16 (by omega) (by omega) (Nat.le_of_ble_eq_true rfl) fun v34 ev34 lv34 uv34 => ?_)
          have hnx : (k32_19 v34.toNat).toInt = (v23) - (i + 1) := mk_nx (by omega) (by omega) ev30 ev31 ev32 ev34 (by omega) (by omega)
          refine hR (?_ : R (_, _, _, _, _, _))
          refine hR (t_inc ?_)
          refine hR (?_ : R (_, _, _, _, _, _))
          exact ih83 _ _ _ (by omega) (by omega) hnx (by omega)
      exact lp93 400000000 _ (by omega) (by omega)
  exact lp83 400000000 _ _ _ (by omega) (by omega) (by omega) (by omega)
theorem m_findComesT (d : Nat) (a1 : Int) (hb30 : zB 0 5460 g30) (hr1 : 0 ≤ a1 ∧ a1 ≤ 4) (Q : zQ) (h : ∀ (k34 : Nat → Int32), (zNb 5461 0 5461 k34) → Q (none) (zMi c0 c1 c2 c3 c4 c5 c6 c7 c8 c9 c10 c11 c12 c13 f0 f9 f10 f11 f12 f13 f15 f16 f17 f20 f21 f22 f23 f26 f28 f31 f32 f33 f38 f41 f44 x14 g15 g16 g17 g18 g19 g20 g21 g22 g23 g24 g25 g26 g27 g28 g29 g30 g31 g32 g33 k34 g35 g36 g37 g38 g39 g40 g41 g42 g43 g44 t)) : zCl zTab (d + 1) iX12_findComes [.ref 14, .int (Int32.ofInt a1)] (zMi c0 c1 c2 c3 c4 c5 c6 c7 c8 c9 c10 c11 c12 c13 f0 f9 f10 f11 f12 f13 f15 f16 f17 f20 f21 f22 f23 f26 f28 f31 f32 f33 f38 f41 f44 x14 g15 g16 g17 g18 g19 g20 g21 g22 g23 g24 g25 g26 g27 g28 g29 g30 g31 g32 g33 g34 g35 g36 g37 g38 g39 g40 g41 g42 g43 g44 t) 0 0 Q := by
  refine zCl_i (M := kX12_findComes) rfl (Nat.le_of_ble_eq_true rfl) fun R hR => ?_
  iterate 2 refine hR (?_ : R (_, _, _, _, _, _))
  have lp2 : ∀ (N : Nat) (i : Int) (q34_2 : Nat → Int32), (0 ≤ i ∧ i ≤ 5461) → (∀ j : Nat, (j : Int) < i → (q34_2 j).toInt = 0) → (5461 - i < N) → R (2, [some (.ref 14), some (.int (Int32.ofInt a1)), some (.int (Int32.ofInt i))], [], (zMi c0 c1 c2 c3 c4 c5 c6 c7 c8 c9 c10 c11 c12 c13 f0 f9 f10 f11 f12 f13 f15 f16 f17 f20 f21 f22 f23 f26 f28 f31 f32 f33 f38 f41 f44 x14 g15 g16 g17 g18 g19 g20 g21 g22 g23 g24 g25 g26 g27 g28 g29 g30 g31 g32 g33 q34_2 g35 g36 g37 g38 g39 g40 g41 g42 g43 g44 t), 0, 0) := by
    intro N
    induction N with
    | zero => intros; omega
    | succ N ih2 =>
      intro i q34_2 hf0_2 hp0_2 hN2
      refine hR (?_ : R (_, _, _, _, _, _))
      refine hR (t_c 5461 (by decide) ?_)
      refine hR (j_ge (by omega) (by omega) (fun hc1 => ?_) (fun hc1 => ?_))
      rotate_left
      · skip
        iterate 4 refine hR (?_ : R (_, _, _, _, _, _))
        refine hR (t_st (by omega) (by omega) (Nat.le_of_ble_eq_true rfl) (?_ : R (_, _, _, (zMi c0 c1 c2 c3 c4 c5 c6 c7 c8 c9 c10 c11 c12 c13 f0 f9 f10 f11 f12 f13 f15 f16 f17 f20 f21 f22 f23 f26 f28 f31 f32 f33 f38 f41 f44 x14 g15 g16 g17 g18 g19 g20 g21 g22 g23 g24 g25 g26 g27 g28 g29 g30 g31 g32 g33 (upd q34_2 i.toNat (Int32.ofInt 0)) g35 g36 g37 g38 g39 g40 g41 g42 g43 g44 t), _, _)))
        refine hR (t_inc ?_)
        refine hR (?_ : R (_, _, _, _, _, _))
        exact ih2 _ _ (by omega) (fc_i hp0_2 (by omega)) (by omega)
      iterate 2 refine hR (?_ : R (_, _, _, _, _, _))
      have lp24 : ∀ (N : Nat) (i : Int) (q34_24 : Nat → Int32), (0 ≤ i ∧ i ≤ 5461) → (zNb 5461 0 i q34_24) → (5461 - i < N) → R (24, [some (.ref 14), some (.int (Int32.ofInt a1)), some (.int (Int32.ofInt i))], [], (zMi c0 c1 c2 c3 c4 c5 c6 c7 c8 c9 c10 c11 c12 c13 f0 f9 f10 f11 f12 f13 f15 f16 f17 f20 f21 f22 f23 f26 f28 f31 f32 f33 f38 f41 f44 x14 g15 g16 g17 g18 g19 g20 g21 g22 g23 g24 g25 g26 g27 g28 g29 g30 g31 g32 g33 q34_24 g35 g36 g37 g38 g39 g40 g41 g42 g43 g44 t), 0, 0) := by
        intro N
        induction N with
        | zero => intros; omega
        | succ N ih24 =>
          intro i q34_24 hf0_24 hp0_24 hN24
          refine hR (?_ : R (_, _, _, _, _, _))
          refine hR (t_c 5461 (by decide) ?_)
          refine hR (j_ge (by omega) (by omega) (fun hc2 => ?_) (fun hc2 => ?_))
          · skip
            exact hR (zret_i rfl (Nat.le_refl _) rfl (h _ (zNb_w hp0_24 (by omega) (by omega))))
          iterate 4 refine hR (?_ : R (_, _, _, _, _, _))
          refine hR (t_c 5461 (by decide) ?_)
          refine hR (?_ : R (_, _, _, _, _, _))
          refine hR (t_mul ?_)
          refine hR (?_ : R (_, _, _, _, _, _))
          refine hR (t_add ?_)
          refine hR (t_ldB hb30 (by omega) (by omega) (Nat.le_of_ble_eq_true rfl) fun v3 ev3 lv3 uv3 => ?_)
          clear ev3
          refine hR (?_ : R (_, _, _, _, _, _))
          refine hR (t_ldE (by omega) (by omega) (Nat.le_of_ble_eq_true rfl) fun v4 ev4 rv4 => ?_)
          have bv4 := hp0_24 v3.toNat (by omega)
          rw [← ev4] at bv4
          refine hR (?_ : R (_, _, _, _, _, _))
          refine hR (t_add ?_)
          refine hR (t_st (by omega) (by omega) (Nat.le_of_ble_eq_true rfl) (?_ : R (_, _, _, (zMi c0 c1 c2 c3 c4 c5 c6 c7 c8 c9 c10 c11 c12 c13 f0 f9 f10 f11 f12 f13 f15 f16 f17 f20 f21 f22 f23 f26 f28 f31 f32 f33 f38 f41 f44 x14 g15 g16 g17 g18 g19 g20 g21 g22 g23 g24 g25 g26 g27 g28 g29 g30 g31 g32 g33 (upd q34_24 v3.toNat (Int32.ofInt (v4 + 1))) g35 g36 g37 g38 g39 g40 g41 g42 g43 g44 t), _, _)))
          refine hR (t_inc ?_)
          refine hR (?_ : R (_, _, _, _, _, _))
          exact ih24 _ _ (by omega) (zNb_u (zNb_w hp0_24 (by omega) (by omega)) (by omega) (by omega) (by omega) (by omega)) (by omega)
      exact lp24 400000000 _ _ (by omega) (fc_0 hp0_2 (by omega)) (by omega)
  exact lp2 400000000 _ _ (by omega) (fun j hj => by omega) (by omega)
theorem m_fallAway (d : Nat) (a1 : Int) (hb30 : zB 0 5460 g30) (hb33 : zB 0 5460 g33) (hr2 : 0 ≤ a1 ∧ a1 ≤ 4) (Q : zQ) (h : ∀ (v : Int) (k33 : Nat → Int32) (k34 : Nat → Int32), zB 0 5460 k33 → (0 ≤ v ∧ v ≤ 5461) → Q (some (.int (Int32.ofInt v))) (zMi c0 c1 c2 c3 c4 c5 c6 c7 c8 c9 c10 c11 c12 c13 f0 f9 f10 f11 f12 f13 f15 f16 f17 f20 f21 f22 f23 f26 f28 f31 f32 f33 f38 f41 f44 x14 g15 g16 g17 g18 g19 g20 g21 g22 g23 g24 g25 g26 g27 g28 g29 g30 g31 g32 k33 k34 g35 g36 g37 g38 g39 g40 g41 g42 g43 g44 t)) : zCl zTab (d + 2) iX12_fallAway [.ref 14, .int (Int32.ofInt a1)] (zMi c0 c1 c2 c3 c4 c5 c6 c7 c8 c9 c10 c11 c12 c13 f0 f9 f10 f11 f12 f13 f15 f16 f17 f20 f21 f22 f23 f26 f28 f31 f32 f33 f38 f41 f44 x14 g15 g16 g17 g18 g19 g20 g21 g22 g23 g24 g25 g26 g27 g28 g29 g30 g31 g32 g33 g34 g35 g36 g37 g38 g39 g40 g41 g42 g43 g44 t) 0 0 Q := by
  refine zCl_i (M := kX12_fallAway) rfl (Nat.le_of_ble_eq_true rfl) fun R hR => ?_
  iterate 2 refine hR (?_ : R (_, _, _, _, _, _))
  refine hR (zcall_i 0 0 (Nat.le_of_ble_eq_true rfl) (Nat.le_of_ble_eq_true rfl) (m_findComesT _ a1 hb30 (by omega) _ fun k34_1 hp2 => ?_))
  refine (?_ : R (_, _, [], (zMi c0 c1 c2 c3 c4 c5 c6 c7 c8 c9 c10 c11 c12 c13 f0 f9 f10 f11 f12 f13 f15 f16 f17 f20 f21 f22 f23 f26 f28 f31 f32 f33 f38 f41 f44 x14 g15 g16 g17 g18 g19 g20 g21 g22 g23 g24 g25 g26 g27 g28 g29 g30 g31 g32 g33 k34_1 g35 g36 g37 g38 g39 g40 g41 g42 g43 g44 t), 0, 0))
  iterate 4 refine hR (?_ : R (_, _, _, _, _, _))
  have lp9 : ∀ (N : Nat) (en : Int) (i : Int) (q33_9 : Nat → Int32), (0 ≤ en ∧ en ≤ i) → (0 ≤ i ∧ i ≤ 5461) → (en ≤ cP k34_1 i.toNat) → (zB 0 5460 q33_9) → (5461 - i < N) → R (9, [some (.ref 14), some (.int (Int32.ofInt a1)), some (.int (Int32.ofInt en)), some (.int (Int32.ofInt i)), none], [], (zMi c0 c1 c2 c3 c4 c5 c6 c7 c8 c9 c10 c11 c12 c13 f0 f9 f10 f11 f12 f13 f15 f16 f17 f20 f21 f22 f23 f26 f28 f31 f32 f33 f38 f41 f44 x14 g15 g16 g17 g18 g19 g20 g21 g22 g23 g24 g25 g26 g27 g28 g29 g30 g31 g32 q33_9 k34_1 g35 g36 g37 g38 g39 g40 g41 g42 g43 g44 t), 0, 0) := by
    intro N
    induction N with
    | zero => intros; omega
    | succ N ih9 =>
      intro en i q33_9 hf0_9 hf1_9 hp0_9 hq33_9 hN9
      refine hR (?_ : R (_, _, _, _, _, _))
      refine hR (t_c 5461 (by decide) ?_)
      refine hR (j_ge (by omega) (by omega) (fun hc3 => ?_) (fun hc3 => ?_))
      rotate_left
      · skip
        iterate 3 refine hR (?_ : R (_, _, _, _, _, _))
        refine hR (t_ldE (by omega) (by omega) (Nat.le_of_ble_eq_true rfl) fun v12 ev12 rv12 => ?_)
        refine hR (k_ne (by omega) (fun hc13 => ?_) (fun hc13 => ?_))
        · skip
          refine hR (t_inc ?_)
          refine hR (?_ : R (_, _, _, _, _, _))
          exact ih9 _ _ _ (by omega) (by omega) (fa_1 hp0_9 (by omega) ev12 (by omega)) hq33_9 (by omega)
        iterate 4 refine hR (?_ : R (_, _, _, _, _, _))
        refine hR (t_stB hq33_9 (by omega) (by omega) (by omega) (by omega) (by omega) (by omega) (Nat.le_of_ble_eq_true rfl) fun k33_14 hk33_14 => (?_ : R (_, _, _, (zMi c0 c1 c2 c3 c4 c5 c6 c7 c8 c9 c10 c11 c12 c13 f0 f9 f10 f11 f12 f13 f15 f16 f17 f20 f21 f22 f23 f26 f28 f31 f32 f33 f38 f41 f44 x14 g15 g16 g17 g18 g19 g20 g21 g22 g23 g24 g25 g26 g27 g28 g29 g30 g31 g32 k33_14 k34_1 g35 g36 g37 g38 g39 g40 g41 g42 g43 g44 t), _, _)))
        refine hR (t_inc ?_)
        refine hR (t_inc ?_)
        refine hR (?_ : R (_, _, _, _, _, _))
        exact ih9 _ _ _ (by omega) (by omega) (fa_1 hp0_9 (by omega) ev12 (by omega)) hk33_14 (by omega)
      iterate 2 refine hR (?_ : R (_, _, _, _, _, _))
      have lp43 : ∀ (N : Nat) (en : Int) (k : Int) (o4_43 : Option Value) (q33_43 : Nat → Int32) (q34_43 : Nat → Int32), (zc2 o4_43 = false) → (0 ≤ en ∧ en ≤ 5461) → (0 ≤ k ∧ k ≤ 5461) → (en ≤ cP q34_43 5461) → (zNb 5461 (-k) 5461 q34_43) → (k ≤ en) → (zB 0 5460 q33_43) → (5461 - k < N) → R (43, [some (.ref 14), some (.int (Int32.ofInt a1)), some (.int (Int32.ofInt en)), some (.int (Int32.ofInt k)), o4_43], [], (zMi c0 c1 c2 c3 c4 c5 c6 c7 c8 c9 c10 c11 c12 c13 f0 f9 f10 f11 f12 f13 f15 f16 f17 f20 f21 f22 f23 f26 f28 f31 f32 f33 f38 f41 f44 x14 g15 g16 g17 g18 g19 g20 g21 g22 g23 g24 g25 g26 g27 g28 g29 g30 g31 g32 q33_43 q34_43 g35 g36 g37 g38 g39 g40 g41 g42 g43 g44 t), 0, 0) := by
        intro N
        induction N with
        | zero => intros; omega
        | succ N ih43 =>
          intro en k o4_43 q33_43 q34_43 hzo4_43 hf0_43 hf1_43 hp0_43 hp1_43 hp2_43 hq33_43 hN43
          iterate 2 refine hR (?_ : R (_, _, _, _, _, _))
          refine hR (j_ge (by omega) (by omega) (fun hc4 => ?_) (fun hc4 => ?_))
          · skip
            refine hR (?_ : R (_, _, _, _, _, _))
            exact hR (zret_i rfl (Nat.le_refl _) trivial (h _ _ _ hq33_43 (by omega)))
          iterate 2 refine hR (?_ : R (_, _, _, _, _, _))
          refine hR (t_c 5461 (by decide) ?_)
          refine hR (?_ : R (_, _, _, _, _, _))
          refine hR (t_mul ?_)
          iterate 3 refine hR (?_ : R (_, _, _, _, _, _))
          refine hR (t_ldB hq33_43 (by omega) (by omega) (Nat.le_of_ble_eq_true rfl) fun v5 ev5 lv5 uv5 => ?_)
          clear ev5
          refine hR (t_add ?_)
          refine hR (t_ldB hb30 (by omega) (by omega) (Nat.le_of_ble_eq_true rfl) fun v6 ev6 lv6 uv6 => ?_)
          clear ev6
          iterate 5 refine hR (?_ : R (_, _, _, _, _, _))
          refine hR (t_ldE (by omega) (by omega) (Nat.le_of_ble_eq_true rfl) fun v7 ev7 rv7 => ?_)
          have bv7 := hp1_43 v6.toNat (by omega)
          rw [← ev7] at bv7
          refine hR (?_ : R (_, _, _, _, _, _))
          refine hR (t_sub ?_)
          refine hR (t_st (by omega) (by omega) (Nat.le_of_ble_eq_true rfl) (?_ : R (_, _, _, (zMi c0 c1 c2 c3 c4 c5 c6 c7 c8 c9 c10 c11 c12 c13 f0 f9 f10 f11 f12 f13 f15 f16 f17 f20 f21 f22 f23 f26 f28 f31 f32 f33 f38 f41 f44 x14 g15 g16 g17 g18 g19 g20 g21 g22 g23 g24 g25 g26 g27 g28 g29 g30 g31 g32 q33_43 (upd q34_43 v6.toNat (Int32.ofInt (v7 - 1))) g35 g36 g37 g38 g39 g40 g41 g42 g43 g44 t), _, _)))
          iterate 3 refine hR (?_ : R (_, _, _, _, _, _))
          refine hR (t_ldE (by omega) (by omega) (Nat.le_of_ble_eq_true rfl) fun v9 ev9 rv9 => ?_)
          have bv9 : v9 = v7 - 1 := by rw [ev9, pk_us]; exact zti (by omega) (by omega)
          clear ev9
          refine hR (k_ne (by omega) (fun hc10 => ?_) (fun hc10 => ?_))
          · skip
            refine hR (t_inc ?_)
            refine hR (?_ : R (_, _, _, _, _, _))
            exact ih43 _ _ _ _ _ (by rfl) (by omega) (by omega) (fa_3 hp0_43 (by omega) (by omega) ev7 (by omega) (by omega)) (zNb_u (zNb_w hp1_43 (by omega) (by omega)) (by omega) (by omega) (by omega) (by omega)) (by omega) hq33_43 (by omega)
          have hlt := cP_lt (D := q34_43) (t := v6.toNat) (by omega) (by omega)
          iterate 4 refine hR (?_ : R (_, _, _, _, _, _))
          refine hR (t_stB hq33_43 (by omega) (by omega) (by omega) (by omega) (by omega) (by omega) (Nat.le_of_ble_eq_true rfl) fun k33_11 hk33_11 => (?_ : R (_, _, _, (zMi c0 c1 c2 c3 c4 c5 c6 c7 c8 c9 c10 c11 c12 c13 f0 f9 f10 f11 f12 f13 f15 f16 f17 f20 f21 f22 f23 f26 f28 f31 f32 f33 f38 f41 f44 x14 g15 g16 g17 g18 g19 g20 g21 g22 g23 g24 g25 g26 g27 g28 g29 g30 g31 g32 k33_11 (upd q34_43 v6.toNat (Int32.ofInt (v7 - 1))) g35 g36 g37 g38 g39 g40 g41 g42 g43 g44 t), _, _)))
          refine hR (t_inc ?_)
          refine hR (t_inc ?_)
          refine hR (?_ : R (_, _, _, _, _, _))
          exact ih43 _ _ _ _ _ (by rfl) (by omega) (by omega) (fa_3 hp0_43 (by omega) (by omega) ev7 (by omega) (by omega)) (zNb_u (zNb_w hp1_43 (by omega) (by omega)) (by omega) (by omega) (by omega) (by omega)) (by omega) hk33_11 (by omega)
      exact lp43 400000000 _ _ _ _ _ (by rfl) (by omega) (by omega) (fa_2 hp0_9 (by omega) (by omega)) (zNb_w hp2 (by omega) (by omega)) (by omega) hq33_9 (by omega)
  exact lp9 400000000 _ _ _ (by omega) (by omega) (cP_le _ _).1 hb33 (by omega)
theorem m_longest (d : Nat) (a1 a2 : Int) (hb30 : zB 0 5460 g30) (hr1 : 0 ≤ a1 ∧ a1 ≤ 4) (hr2 : 0 ≤ a2 ∧ a2 ≤ 1) (Q : zQ) (h : ∀ (v : Int) (k34 : Nat → Int32), Q (some (.int (Int32.ofInt v))) (zMi c0 c1 c2 c3 c4 c5 c6 c7 c8 c9 c10 c11 c12 c13 f0 f9 f10 f11 f12 f13 f15 f16 f17 f20 f21 f22 f23 f26 f28 f31 f32 f33 f38 f41 f44 x14 g15 g16 g17 g18 g19 g20 g21 g22 g23 g24 g25 g26 g27 g28 g29 g30 g31 g32 g33 k34 g35 g36 g37 g38 g39 g40 g41 g42 g43 g44 t)) : zCl zTab (d + 2) iX12_longest [.ref 14, .int (Int32.ofInt a1), .int (Int32.ofInt a2)] (zMi c0 c1 c2 c3 c4 c5 c6 c7 c8 c9 c10 c11 c12 c13 f0 f9 f10 f11 f12 f13 f15 f16 f17 f20 f21 f22 f23 f26 f28 f31 f32 f33 f38 f41 f44 x14 g15 g16 g17 g18 g19 g20 g21 g22 g23 g24 g25 g26 g27 g28 g29 g30 g31 g32 g33 g34 g35 g36 g37 g38 g39 g40 g41 g42 g43 g44 t) 0 0 Q := by
  refine zCl_i (M := kX12_longest) rfl (Nat.le_of_ble_eq_true rfl) fun R hR => ?_
  iterate 6 refine hR (?_ : R (_, _, _, _, _, _))
  have lp8 : ∀ (N : Nat) (n : Int) (mo : Int) (i : Int) (o6_8 : Option Value) (o7_8 : Option Value) (q34_8 : Nat → Int32), (zc2 o6_8 = false) → (zc2 o7_8 = false) → (0 ≤ i ∧ i ≤ 5461) → (5461 - i < N) → R (8, [some (.ref 14), some (.int (Int32.ofInt a1)), some (.int (Int32.ofInt a2)), some (.int (Int32.ofInt n)), some (.int (Int32.ofInt mo)), some (.int (Int32.ofInt i)), o6_8, o7_8], [], (zMi c0 c1 c2 c3 c4 c5 c6 c7 c8 c9 c10 c11 c12 c13 f0 f9 f10 f11 f12 f13 f15 f16 f17 f20 f21 f22 f23 f26 f28 f31 f32 f33 f38 f41 f44 x14 g15 g16 g17 g18 g19 g20 g21 g22 g23 g24 g25 g26 g27 g28 g29 g30 g31 g32 g33 q34_8 g35 g36 g37 g38 g39 g40 g41 g42 g43 g44 t), 0, 0) := by
    intro N
    induction N with
    | zero => intros; omega
    | succ N ih8 =>
      intro n mo i o6_8 o7_8 q34_8 hzo6_8 hzo7_8 hf0_8 hN8
      refine hR (?_ : R (_, _, _, _, _, _))
      refine hR (t_c 5461 (by decide) ?_)
      refine hR (j_ge (by omega) (by omega) (fun hc1 => ?_) (fun hc1 => ?_))
      · skip
        refine hR (?_ : R (_, _, _, _, _, _))
        refine hR (k_eq (by omega) (fun hc2 => ?_) (fun hc2 => ?_))
        · skip
          refine hR (?_ : R (_, _, _, _, _, _))
          exact hR (zret_i rfl (Nat.le_refl _) trivial (h _ _))
        iterate 2 refine hR (?_ : R (_, _, _, _, _, _))
        exact hR (zret_i rfl (Nat.le_refl _) trivial (h _ _))
      iterate 4 refine hR (?_ : R (_, _, _, _, _, _))
      have lp23 : ∀ (N : Nat) (sz : Int) (at_ : Int) (q34_23 : Nat → Int32), (0 ≤ at_ ∧ at_ ≤ 5460) → (0 ≤ cP q34_23 5461 ∧ cP q34_23 5461 ≤ 5461) → (5461 - cP q34_23 5461 < N) → R (23, [some (.ref 14), some (.int (Int32.ofInt a1)), some (.int (Int32.ofInt a2)), some (.int (Int32.ofInt n)), some (.int (Int32.ofInt mo)), some (.int (Int32.ofInt i)), some (.int (Int32.ofInt sz)), some (.int (Int32.ofInt at_))], [], (zMi c0 c1 c2 c3 c4 c5 c6 c7 c8 c9 c10 c11 c12 c13 f0 f9 f10 f11 f12 f13 f15 f16 f17 f20 f21 f22 f23 f26 f28 f31 f32 f33 f38 f41 f44 x14 g15 g16 g17 g18 g19 g20 g21 g22 g23 g24 g25 g26 g27 g28 g29 g30 g31 g32 g33 q34_23 g35 g36 g37 g38 g39 g40 g41 g42 g43 g44 t), 0, 0) := by
        intro N
        induction N with
        | zero => intros; omega
        | succ N ih23 =>
          intro sz at_ q34_23 hf0_23 hp0_23 hN23
          iterate 3 refine hR (?_ : R (_, _, _, _, _, _))
          refine hR (t_ldE (by omega) (by omega) (Nat.le_of_ble_eq_true rfl) fun v3 ev3 rv3 => ?_)
          refine hR (k_le (by omega) (fun hc4 => ?_) (fun hc4 => ?_))
          rotate_left
          · skip
            iterate 4 refine hR (?_ : R (_, _, _, _, _, _))
            refine hR (t_st (by omega) (by omega) (Nat.le_of_ble_eq_true rfl) (?_ : R (_, _, _, (zMi c0 c1 c2 c3 c4 c5 c6 c7 c8 c9 c10 c11 c12 c13 f0 f9 f10 f11 f12 f13 f15 f16 f17 f20 f21 f22 f23 f26 f28 f31 f32 f33 f38 f41 f44 x14 g15 g16 g17 g18 g19 g20 g21 g22 g23 g24 g25 g26 g27 g28 g29 g30 g31 g32 g33 (upd q34_23 at_.toNat (Int32.ofInt 0)) g35 g36 g37 g38 g39 g40 g41 g42 g43 g44 t), _, _)))
            have hcp := cP_up (D := q34_23) (t := at_.toNat) (x := Int32.ofInt 0) (by omega) (by omega) (by decide)
            refine hR (t_inc ?_)
            iterate 2 refine hR (?_ : R (_, _, _, _, _, _))
            refine hR (t_c 5461 (by decide) ?_)
            refine hR (?_ : R (_, _, _, _, _, _))
            refine hR (t_mul ?_)
            refine hR (?_ : R (_, _, _, _, _, _))
            refine hR (t_add ?_)
            refine hR (t_ldB hb30 (by omega) (by omega) (Nat.le_of_ble_eq_true rfl) fun v8 ev8 lv8 uv8 => ?_)
            clear ev8
            iterate 2 refine hR (?_ : R (_, _, _, _, _, _))
            exact ih23 _ _ _ (by omega) (cP_le _ _) (by omega)
          iterate 2 refine hR (?_ : R (_, _, _, _, _, _))
          refine hR (j_any ?_ ?_)
          · skip
            refine hR (?_ : R (_, _, _, _, _, _))
            refine hR (t_add ?_)
            iterate 3 refine hR (?_ : R (_, _, _, _, _, _))
            refine hR (zcall_i 0 0 (Nat.le_of_ble_eq_true rfl) (Nat.le_of_ble_eq_true rfl) (m_greaterx _ mo sz _ _ fun v5 => ?_))
            refine (?_ : R (_, _, (.int (Int32.ofInt v5)) :: [], (zMi c0 c1 c2 c3 c4 c5 c6 c7 c8 c9 c10 c11 c12 c13 f0 f9 f10 f11 f12 f13 f15 f16 f17 f20 f21 f22 f23 f26 f28 f31 f32 f33 f38 f41 f44 x14 g15 g16 g17 g18 g19 g20 g21 g22 g23 g24 g25 g26 g27 g28 g29 g30 g31 g32 g33 q34_23 g35 g36 g37 g38 g39 g40 g41 g42 g43 g44 t), 0, 0))
            refine hR (?_ : R (_, _, _, _, _, _))
            refine hR (t_inc ?_)
            refine hR (?_ : R (_, _, _, _, _, _))
            exact ih8 _ _ _ _ _ _ (by rfl) (by rfl) (by omega) (by omega)
          iterate 2 refine hR (?_ : R (_, _, _, _, _, _))
          refine hR (t_add ?_)
          iterate 3 refine hR (?_ : R (_, _, _, _, _, _))
          refine hR (zcall_i 0 0 (Nat.le_of_ble_eq_true rfl) (Nat.le_of_ble_eq_true rfl) (m_greaterx _ mo sz _ _ fun v6 => ?_))
          refine (?_ : R (_, _, (.int (Int32.ofInt v6)) :: [], (zMi c0 c1 c2 c3 c4 c5 c6 c7 c8 c9 c10 c11 c12 c13 f0 f9 f10 f11 f12 f13 f15 f16 f17 f20 f21 f22 f23 f26 f28 f31 f32 f33 f38 f41 f44 x14 g15 g16 g17 g18 g19 g20 g21 g22 g23 g24 g25 g26 g27 g28 g29 g30 g31 g32 g33 q34_23 g35 g36 g37 g38 g39 g40 g41 g42 g43 g44 t), 0, 0))
          refine hR (?_ : R (_, _, _, _, _, _))
          refine hR (t_inc ?_)
          refine hR (?_ : R (_, _, _, _, _, _))
          exact ih8 _ _ _ _ _ _ (by rfl) (by rfl) (by omega) (by omega)
      have hent := cP_le q34_8 5461
      exact lp23 400000000 _ _ _ (by omega) (cP_le _ _) (by omega)
  exact lp8 400000000 _ _ _ _ _ _ (by rfl) (by rfl) (by omega) (by omega)
theorem m_orbits (d : Nat) (a1 a2 a3 : Int) (hb19 : zB 0 2 g19) (hb25 : zB 0 3 g25) (hb30 : zB 0 5460 g30) (hb33 : zB 0 5460 g33) (hr4 : bkOK g20) (hr5 : -2147483648 ≤ a1 ∧ a1 ≤ 2147483647) (hr6 : -2147483648 ≤ a2 ∧ a2 ≤ 2147483647) (hr7 : -2147483648 ≤ a3 ∧ a3 ≤ 2147483647) (Q : zQ) (h : ∀ (v : Int) (y0 : Int) (y20 : Int) (y21 : Int) (y22 : Int) (y23 : Int) (y26 : Int) (k25 : Nat → Int32) (k30 : Nat → Int32) (k31 : Nat → Int32) (k33 : Nat → Int32) (k34 : Nat → Int32), zB 0 3 k25 → zB 0 5460 k30 → zB 0 5460 k33 → Q (some (.int (Int32.ofInt v))) (zMi c0 c1 c2 c3 c4 c5 c6 c7 c8 c9 c10 c11 c12 c13 y0 f9 f10 f11 f12 f13 f15 f16 f17 y20 y21 y22 y23 y26 f28 f31 f32 f33 f38 f41 f44 x14 g15 g16 g17 g18 g19 g20 g21 g22 g23 g24 k25 g26 g27 g28 g29 k30 k31 g32 k33 k34 g35 g36 g37 g38 g39 g40 g41 g42 g43 g44 t)) : zCl zTab (d + 6) iX12_orbits [.ref 14, .int (Int32.ofInt a1), .int (Int32.ofInt a2), .int (Int32.ofInt a3)] (zMi c0 c1 c2 c3 c4 c5 c6 c7 c8 c9 c10 c11 c12 c13 f0 f9 f10 f11 f12 f13 f15 f16 f17 f20 f21 f22 f23 f26 f28 f31 f32 f33 f38 f41 f44 x14 g15 g16 g17 g18 g19 g20 g21 g22 g23 g24 g25 g26 g27 g28 g29 g30 g31 g32 g33 g34 g35 g36 g37 g38 g39 g40 g41 g42 g43 g44 t) 0 0 Q := by
  refine zCl_i (M := kX12_orbits) rfl (Nat.le_of_ble_eq_true rfl) fun R hR => ?_
  iterate 2 refine hR (?_ : R (_, _, _, _, _, _))
  refine hR (?_ : R (_, _, _, (zMi c0 c1 c2 c3 c4 c5 c6 c7 c8 c9 c10 c11 c12 c13 0 f9 f10 f11 f12 f13 f15 f16 f17 f20 f21 f22 f23 f26 f28 f31 f32 f33 f38 f41 f44 x14 g15 g16 g17 g18 g19 g20 g21 g22 g23 g24 g25 g26 g27 g28 g29 g30 g31 g32 g33 g34 g35 g36 g37 g38 g39 g40 g41 g42 g43 g44 t), _, _))
  iterate 2 refine hR (?_ : R (_, _, _, _, _, _))
  refine hR (zcall_i 0 0 (Nat.le_of_ble_eq_true rfl) (Nat.le_of_ble_eq_true rfl) (m_hand _ a1 hb19 hr4 (by omega) _ fun v1 y20_2 y22_3 y23_4 hp5 => ?_))
  refine (?_ : R (_, _, (.int (Int32.ofInt v1)) :: [], (zMi c0 c1 c2 c3 c4 c5 c6 c7 c8 c9 c10 c11 c12 c13 0 f9 f10 f11 f12 f13 f15 f16 f17 y20_2 f21 y22_3 y23_4 f26 f28 f31 f32 f33 f38 f41 f44 x14 g15 g16 g17 g18 g19 g20 g21 g22 g23 g24 g25 g26 g27 g28 g29 g30 g31 g32 g33 g34 g35 g36 g37 g38 g39 g40 g41 g42 g43 g44 t), 0, 0))
  refine hR (k_eq (by omega) (fun hc6 => ?_) (fun hc6 => ?_))
  · skip
    refine hR (?_ : R (_, _, _, _, _, _))
    exact hR (zret_i rfl (Nat.le_refl _) trivial (h _ _ _ _ _ _ _ _ _ _ _ _ hb25 hb30 hb33))
  iterate 2 refine hR (?_ : R (_, _, _, _, _, _))
  refine hR (zcall_i 0 0 (Nat.le_of_ble_eq_true rfl) (Nat.le_of_ble_eq_true rfl) (m_isReader _ a2 (by omega) (by omega) _ fun v7 hp8 => ?_))
  refine (?_ : R (_, _, (.int (Int32.ofInt v7)) :: [], (zMi c0 c1 c2 c3 c4 c5 c6 c7 c8 c9 c10 c11 c12 c13 0 f9 f10 f11 f12 f13 f15 f16 f17 y20_2 f21 y22_3 y23_4 f26 f28 f31 f32 f33 f38 f41 f44 x14 g15 g16 g17 g18 g19 g20 g21 g22 g23 g24 g25 g26 g27 g28 g29 g30 g31 g32 g33 g34 g35 g36 g37 g38 g39 g40 g41 g42 g43 g44 t), 0, 0))
  refine hR (k_eq (by omega) (fun hc9 => ?_) (fun hc9 => ?_))
  · skip
    refine hR (?_ : R (_, _, _, _, _, _))
    exact hR (zret_i rfl (Nat.le_refl _) trivial (h _ _ _ _ _ _ _ _ _ _ _ _ hb25 hb30 hb33))
  iterate 3 refine hR (?_ : R (_, _, _, _, _, _))
  refine hR (zcall_i 0 0 (Nat.le_of_ble_eq_true rfl) (Nat.le_of_ble_eq_true rfl) (m_in _ a3 0 5 _ (by omega) (by omega) (by omega) _ fun v10 hp11 => ?_))
  refine (?_ : R (_, _, (.int (Int32.ofInt v10)) :: [], (zMi c0 c1 c2 c3 c4 c5 c6 c7 c8 c9 c10 c11 c12 c13 0 f9 f10 f11 f12 f13 f15 f16 f17 y20_2 f21 y22_3 y23_4 f26 f28 f31 f32 f33 f38 f41 f44 x14 g15 g16 g17 g18 g19 g20 g21 g22 g23 g24 g25 g26 g27 g28 g29 g30 g31 g32 g33 g34 g35 g36 g37 g38 g39 g40 g41 g42 g43 g44 t), 0, 0))
  refine hR (k_ne (by omega) (fun hc12 => ?_) (fun hc12 => ?_))
  rotate_left
  · skip
    refine hR (?_ : R (_, _, _, _, _, _))
    exact hR (zret_i rfl (Nat.le_refl _) trivial (h _ _ _ _ _ _ _ _ _ _ _ _ hb25 hb30 hb33))
  refine hR (?_ : R (_, _, _, _, _, _))
  refine hR (zcall_i 0 0 (Nat.le_of_ble_eq_true rfl) (Nat.le_of_ble_eq_true rfl) (m_layMade _ hb25 hb30 hr4 (by omega) (by omega) _ fun y21_13 y26_14 k25_15 k30_16 hp17 hp18 => ?_))
  refine (?_ : R (_, _, [], (zMi c0 c1 c2 c3 c4 c5 c6 c7 c8 c9 c10 c11 c12 c13 0 f9 f10 f11 f12 f13 f15 f16 f17 y20_2 y21_13 y22_3 y23_4 y26_14 f28 f31 f32 f33 f38 f41 f44 x14 g15 g16 g17 g18 g19 g20 g21 g22 g23 g24 k25_15 g26 g27 g28 g29 k30_16 g31 g32 g33 g34 g35 g36 g37 g38 g39 g40 g41 g42 g43 g44 t), 0, 0))
  iterate 2 refine hR (?_ : R (_, _, _, _, _, _))
  refine hR (j_le (by omega) (by omega) (fun hc19 => ?_) (fun hc19 => ?_))
  rotate_left
  · skip
    iterate 2 refine hR (?_ : R (_, _, _, _, _, _))
    refine hR (j_ne (by omega) (by omega) (fun hc34 => ?_) (fun hc34 => ?_))
    · skip
      iterate 2 refine hR (?_ : R (_, _, _, _, _, _))
      refine hR (zcall_i 0 0 (Nat.le_of_ble_eq_true rfl) (Nat.le_of_ble_eq_true rfl) (m_stays _ a2 hp18 (by omega) _ fun v35 => ?_))
      refine (?_ : R (_, _, (.int (Int32.ofInt v35)) :: [], (zMi c0 c1 c2 c3 c4 c5 c6 c7 c8 c9 c10 c11 c12 c13 0 f9 f10 f11 f12 f13 f15 f16 f17 y20_2 y21_13 y22_3 y23_4 y26_14 f28 f31 f32 f33 f38 f41 f44 x14 g15 g16 g17 g18 g19 g20 g21 g22 g23 g24 k25_15 g26 g27 g28 g29 k30_16 g31 g32 g33 g34 g35 g36 g37 g38 g39 g40 g41 g42 g43 g44 t), 0, 0))
      exact hR (zret_i rfl (Nat.le_refl _) trivial (h _ _ _ _ _ _ _ _ _ _ _ _ hp17 hp18 hb33))
    iterate 2 refine hR (?_ : R (_, _, _, _, _, _))
    refine hR (zcall_i 0 0 (Nat.le_of_ble_eq_true rfl) (Nat.le_of_ble_eq_true rfl) (m_unread _ a2 hp18 (by omega) _ fun v36 k34_37 => ?_))
    refine (?_ : R (_, _, (.int (Int32.ofInt v36)) :: [], (zMi c0 c1 c2 c3 c4 c5 c6 c7 c8 c9 c10 c11 c12 c13 0 f9 f10 f11 f12 f13 f15 f16 f17 y20_2 y21_13 y22_3 y23_4 y26_14 f28 f31 f32 f33 f38 f41 f44 x14 g15 g16 g17 g18 g19 g20 g21 g22 g23 g24 k25_15 g26 g27 g28 g29 k30_16 g31 g32 g33 k34_37 g35 g36 g37 g38 g39 g40 g41 g42 g43 g44 t), 0, 0))
    refine hR (?_ : R (_, _, _, _, _, _))
    exact hR (zret_i rfl (Nat.le_refl _) trivial (h _ _ _ _ _ _ _ _ _ _ _ _ hp17 hp18 hb33))
  iterate 2 refine hR (?_ : R (_, _, _, _, _, _))
  refine hR (zcall_i 0 0 (Nat.le_of_ble_eq_true rfl) (Nat.le_of_ble_eq_true rfl) (m_fallAway _ a2 hp18 hb33 (by omega) _ fun v20 k33_21 k34_22 hp23 hp24 => ?_))
  refine (?_ : R (_, _, (.int (Int32.ofInt v20)) :: [], (zMi c0 c1 c2 c3 c4 c5 c6 c7 c8 c9 c10 c11 c12 c13 0 f9 f10 f11 f12 f13 f15 f16 f17 y20_2 y21_13 y22_3 y23_4 y26_14 f28 f31 f32 f33 f38 f41 f44 x14 g15 g16 g17 g18 g19 g20 g21 g22 g23 g24 k25_15 g26 g27 g28 g29 k30_16 g31 g32 k33_21 k34_22 g35 g36 g37 g38 g39 g40 g41 g42 g43 g44 t), 0, 0))
  iterate 3 refine hR (?_ : R (_, _, _, _, _, _))
  refine hR (j_ne (by omega) (by omega) (fun hc25 => ?_) (fun hc25 => ?_))
  rotate_left
  · skip
    refine hR (t_c 5461 (by decide) ?_)
    refine hR (?_ : R (_, _, _, _, _, _))
    refine hR (t_sub ?_)
    refine hR (?_ : R (_, _, _, _, _, _))
    exact hR (zret_i rfl (Nat.le_refl _) trivial (h _ _ _ _ _ _ _ _ _ _ _ _ hp17 hp18 hp23))
  iterate 2 refine hR (?_ : R (_, _, _, _, _, _))
  refine hR (j_ne (by omega) (by omega) (fun hc26 => ?_) (fun hc26 => ?_))
  rotate_left
  · skip
    iterate 3 refine hR (?_ : R (_, _, _, _, _, _))
    refine hR (zcall_i 0 0 (Nat.le_of_ble_eq_true rfl) (Nat.le_of_ble_eq_true rfl) (m_tail _ a2 v20 hp18 hp23 (by omega) (by omega) _ fun v32 k31_33 => ?_))
    refine (?_ : R (_, _, (.int (Int32.ofInt v32)) :: [], (zMi c0 c1 c2 c3 c4 c5 c6 c7 c8 c9 c10 c11 c12 c13 0 f9 f10 f11 f12 f13 f15 f16 f17 y20_2 y21_13 y22_3 y23_4 y26_14 f28 f31 f32 f33 f38 f41 f44 x14 g15 g16 g17 g18 g19 g20 g21 g22 g23 g24 k25_15 g26 g27 g28 g29 k30_16 k31_33 g32 k33_21 k34_22 g35 g36 g37 g38 g39 g40 g41 g42 g43 g44 t), 0, 0))
    refine hR (?_ : R (_, _, _, _, _, _))
    exact hR (zret_i rfl (Nat.le_refl _) trivial (h _ _ _ _ _ _ _ _ _ _ _ _ hp17 hp18 hp23))
  iterate 3 refine hR (?_ : R (_, _, _, _, _, _))
  refine hR (k_ne (by omega) (fun hc27 => ?_) (fun hc27 => ?_))
  · skip
    refine hR (?_ : R (_, _, _, _, _, _))
    refine hR (zcall_i 0 0 (Nat.le_of_ble_eq_true rfl) (Nat.le_of_ble_eq_true rfl) (m_longest _ a2 0 hp18 (by omega) (by omega) _ fun v28 k34_29 => ?_))
    refine (?_ : R (_, _, (.int (Int32.ofInt v28)) :: [], (zMi c0 c1 c2 c3 c4 c5 c6 c7 c8 c9 c10 c11 c12 c13 0 f9 f10 f11 f12 f13 f15 f16 f17 y20_2 y21_13 y22_3 y23_4 y26_14 f28 f31 f32 f33 f38 f41 f44 x14 g15 g16 g17 g18 g19 g20 g21 g22 g23 g24 k25_15 g26 g27 g28 g29 k30_16 g31 g32 k33_21 k34_29 g35 g36 g37 g38 g39 g40 g41 g42 g43 g44 t), 0, 0))
    exact hR (zret_i rfl (Nat.le_refl _) trivial (h _ _ _ _ _ _ _ _ _ _ _ _ hp17 hp18 hp23))
  iterate 2 refine hR (?_ : R (_, _, _, _, _, _))
  refine hR (zcall_i 0 0 (Nat.le_of_ble_eq_true rfl) (Nat.le_of_ble_eq_true rfl) (m_longest _ a2 1 hp18 (by omega) (by omega) _ fun v30 k34_31 => ?_))
  refine (?_ : R (_, _, (.int (Int32.ofInt v30)) :: [], (zMi c0 c1 c2 c3 c4 c5 c6 c7 c8 c9 c10 c11 c12 c13 0 f9 f10 f11 f12 f13 f15 f16 f17 y20_2 y21_13 y22_3 y23_4 y26_14 f28 f31 f32 f33 f38 f41 f44 x14 g15 g16 g17 g18 g19 g20 g21 g22 g23 g24 k25_15 g26 g27 g28 g29 k30_16 g31 g32 k33_21 k34_31 g35 g36 g37 g38 g39 g40 g41 g42 g43 g44 t), 0, 0))
  exact hR (zret_i rfl (Nat.le_refl _) trivial (h _ _ _ _ _ _ _ _ _ _ _ _ hp17 hp18 hp23))
end MZ
theorem lb_i {D : Nat → Int32} {i : Int} (h : ∀ j : Nat, (j : Int) < i → (D j).toInt = -1) (h0 : 0 ≤ i) : ∀ j : Nat, (j : Int) < i + 1 → (upd D i.toNat (Int32.ofInt (-1)) j).toInt = -1 := by
  intro j hj
  by_cases e : j = i.toNat
  · subst e; rw [pk_us]; rfl
  · rw [pk_un e]; exact h j (by omega)
theorem lb_0 {D : Nat → Int32} {i : Int} (h : ∀ j : Nat, (j : Int) < i → (D j).toInt = -1) (hi : 5461 ≤ i) : zNb 5461 (-1) (0 - 1) D := fun t ht => by
  have := h t (by omega); omega
theorem lb_z {D : Nat → Int32} (h : ∀ j : Nat, (j : Int) < 5461 → (D j).toInt = -1) : zNb 5461 (-1) 5460 D := fun t ht => by
  have := h t (by omega); omega
theorem lb_n {D : Nat → Int32} {i x : Int} (h : ∀ e : Nat, (e : Int) < i → -1 ≤ (D e).toInt ∧ (D e).toInt < e) (h0 : 0 ≤ i) (h1 : i ≤ 27305) (hx : -1 ≤ x) (hx2 : x < i) : ∀ e : Nat, (e : Int) < i + 1 → -1 ≤ (upd D i.toNat (Int32.ofInt x) e).toInt ∧ (upd D i.toNat (Int32.ofInt x) e).toInt < e := by
  intro j hj
  by_cases e : j = i.toNat
  · subst e; rw [pk_us, zti (by omega) (by omega)]; omega
  · rw [pk_un e]; exact h j (by omega)
noncomputable def gdI (T U O : Nat → Int32) (rd de dn : Int) : Prop := zNb 5461 (-1) rd T ∧ cN (-1) T = de + dn ∧ (∀ i : Nat, (i : Int) < de → 0 ≤ (T (U i).toInt.toNat).toInt) ∧ (∀ t : Nat, t < 5461 → (T t).toInt ≠ -1 → (∃ i : Nat, (i : Int) < de ∧ (U i).toInt = t) ∨ (∃ i : Nat, (i : Int) < dn ∧ (O i).toInt = t))
theorem gd_00 {T U O : Nat → Int32} {rd : Int} (h : ∀ j : Nat, (j : Int) < 5461 → (T j).toInt = -1) (hr : 0 ≤ rd := by omega) : gdI T U O rd 0 0 := by
  refine ⟨fun t ht => ?_, ?_, fun i hi => by omega, fun t ht h1 => absurd (h t (by omega)) h1⟩
  · have := h t (by omega); omega
  · rw [cN_0 (fun t ht => h t (by omega))]; rfl
theorem gd_c {T U O : Nat → Int32} {rd de dn : Int} (h : gdI T U O rd de dn) : de + dn ≤ 5461 := by
  have := cN_le (-1) T
  rw [h.2.1] at this
  omega
theorem gd_z {T U O : Nat → Int32} {rd de dn : Int} (h : gdI T U O rd de dn) (hd : de = 0) : gdI T U O rd 0 dn := by rw [hd] at h; exact h
theorem gd_push {T U O : Nat → Int32} {rd de dn t : Int} (h : gdI T U O rd de dn) (h0 : 0 ≤ t ∧ t ≤ 5460) (ht : (T t.toNat).toInt = -1) (hd : 0 ≤ de) (hr : 0 ≤ rd) : gdI (upd T t.toNat (Int32.ofInt 0)) (upd U de.toNat (Int32.ofInt t)) O rd (de + 1) dn := by
  obtain ⟨h1, h2, h3, h4⟩ := h
  have e0 : (Int32.ofInt 0).toInt = 0 := by decide
  have e1 : (Int32.ofInt t).toInt = t := zti (by omega) (by omega)
  refine ⟨fun s hs => ?_, ?_, fun i hi => ?_, fun s hs hne => ?_⟩
  · by_cases e : s = t.toNat
    · subst e; rw [pk_us, e0]; omega
    · rw [pk_un e]; exact h1 s hs
  · rw [cN_up (by omega) ht (by omega), h2]; omega
  · by_cases e : i = de.toNat
    · subst e; rw [pk_us, e1, pk_us, e0]; omega
    · rw [pk_un e]
      by_cases e2 : (U i).toInt.toNat = t.toNat
      · rw [e2, pk_us, e0]; omega
      · rw [pk_un e2]; exact h3 i (by omega)
  · by_cases e : s = t.toNat
    · refine Or.inl ⟨de.toNat, by omega, ?_⟩
      rw [pk_us, e1]; omega
    · rw [pk_un e] at hne
      rcases h4 s hs hne with ⟨i, hi, q⟩ | q
      · refine Or.inl ⟨i, by omega, ?_⟩
        rw [pk_un (by omega)]; exact q
      · exact Or.inr q
theorem gd_inc {T U O : Nat → Int32} {rd de dn t v : Int} (h : gdI T U O rd de dn) (h0 : 0 ≤ t) (h5 : rd ≤ 5) (e : v = (T t.toNat).toInt) (hv : 0 ≤ v) (hv2 : v < rd) : gdI (upd T t.toNat (Int32.ofInt (v + 1))) U O rd de dn := by
  obtain ⟨h1, h2, h3, h4⟩ := h
  have e1 : (Int32.ofInt (v + 1)).toInt = v + 1 := zti (by omega) (by omega)
  refine ⟨fun s hs => ?_, ?_, fun i hi => ?_, fun s hs hne => ?_⟩
  · by_cases q : s = t.toNat
    · subst q; rw [pk_us, e1]; omega
    · rw [pk_un q]; exact h1 s hs
  · rw [cN_same (by omega) (by omega), h2]
  · by_cases q : (U i).toInt.toNat = t.toNat
    · rw [q, pk_us, e1]; omega
    · rw [pk_un q]; exact h3 i hi
  · by_cases q : s = t.toNat
    · exact h4 s hs (by rw [q]; omega)
    · rw [pk_un q] at hne
      exact h4 s hs hne
theorem gd_pop {T U O : Nat → Int32} {rd de dn v : Int} (h : gdI T U O rd de dn) (hU : zB 0 5460 U) (hd : 1 ≤ de) (hn : 0 ≤ dn) (e : v = (U (de - 1).toNat).toInt) : gdI T U (upd O dn.toNat (Int32.ofInt v)) rd (de + (-1)) (dn + 1) := by
  obtain ⟨h1, h2, h3, h4⟩ := h
  have hu := hU (de - 1).toNat
  have e1 : (Int32.ofInt v).toInt = v := zti (by omega) (by omega)
  refine ⟨h1, by omega, fun i hi => h3 i (by omega), fun s hs hne => ?_⟩
  rcases h4 s hs hne with ⟨i, hi, q⟩ | ⟨i, hi, q⟩
  · by_cases z : i = (de - 1).toNat
    · refine Or.inr ⟨dn.toNat, by omega, ?_⟩
      rw [pk_us, e1, e, ← z]; exact q
    · exact Or.inl ⟨i, by omega, q⟩
  · refine Or.inr ⟨i, by omega, ?_⟩
    rw [pk_un (by omega)]; exact q
theorem gd_ge {T U O : Nat → Int32} {rd de dn v x : Int} (h : gdI T U O rd de dn) (hd : 1 ≤ de) (hv : 0 ≤ v ∧ v ≤ 5460) (e : v = (U (de - 1).toNat).toInt) (ex : x = (T v.toNat).toInt) : 0 ≤ x ∧ x ≤ rd := by
  have q1 := h.2.2.1 (de - 1).toNat (by omega)
  have q2 := h.1 v.toNat (by omega)
  rw [← e] at q1
  omega
theorem gd_sum : ∃ S : (Nat → Int32) → Int, (∀ D t (x : Int32), t < 5461 → S (upd D t x) = S D - (D t).toInt + x.toInt) ∧ (∀ D rd, zNb 5461 (-1) rd D → -5461 ≤ S D ∧ S D ≤ 5461 * rd) :=
  ⟨fun D => sumI D 5461, fun D _ _ h => sumI_u D 5461 h, fun D rd h => by
    have := sumI_b D 5461 h
    dsimp only
    omega⟩
theorem gd_sb {S : (Nat → Int32) → Int} (hS : ∀ D rd, zNb 5461 (-1) rd D → -5461 ≤ S D ∧ S D ≤ 5461 * rd) {T U O : Nat → Int32} {rd de dn : Int} (h : gdI T U O rd de dn) : -5461 ≤ S T ∧ S T ≤ 5461 * rd := hS T rd h.1
theorem gm_0 {g : Nat → Int32} {a : Int} (h : 0 ≤ a) : ∀ t : Nat, ((g t).toInt ≠ -1 ∨ t = a.toNat) → (upd g a.toNat (Int32.ofInt 0) t).toInt ≠ -1 := by
  intro t ht
  by_cases q : t = a.toNat
  · subst q; rw [pk_us]; decide
  · rw [pk_un q]; exact ht.elim id (fun z => absurd z q)
theorem gm_1 {g : Nat → Int32} {a b : Int} (h : 0 ≤ b) (h2 : b ≤ 5460) : ∀ t : Nat, ((g t).toInt ≠ -1 ∨ t = a.toNat) → (upd g a.toNat (Int32.ofInt b) t).toInt ≠ -1 := by
  intro t ht
  by_cases q : t = a.toNat
  · subst q; rw [pk_us, zti (by omega) (by omega)]; omega
  · rw [pk_un q]; exact ht.elim id (fun z => absurd z q)
theorem gm_s {g T : Nat → Int32} {a t x : Int} (h : ∀ t : Nat, ((g t).toInt ≠ -1 ∨ t = a.toNat) → (T t).toInt ≠ -1) (hx : 0 ≤ x) (hx2 : x ≤ 5461) : ∀ s : Nat, ((g s).toInt ≠ -1 ∨ s = a.toNat) → (upd T t.toNat (Int32.ofInt x) s).toInt ≠ -1 := by
  intro s hs
  by_cases q : s = t.toNat
  · subst q; rw [pk_us, zti (by omega) (by omega)]; omega
  · rw [pk_un q]; exact h s hs
theorem gb_1 {g : Nat → Int32} {a b : Int} (ha : 0 ≤ a ∧ a ≤ 5460) (hb : 0 ≤ b ∧ b ≤ 5460) : 1 ≤ cN (-1) (upd g a.toNat (Int32.ofInt b)) :=
  cN_pos (t := a.toNat) (by omega) (by rw [pk_us, zti (by omega) (by omega)]; omega)
theorem gb_s {D : Nat → Int32} {en t v b : Int} (h : en ≤ cN (-1) D) (h0 : 0 ≤ t) (ht : t ≤ 5460) (e : v = (D t.toNat).toInt) (hv : v = -1) (hb : 0 ≤ b ∧ b ≤ 5460) : en + 1 ≤ cN (-1) (upd D t.toNat (Int32.ofInt b)) := by
  rw [cN_up (by omega) (by omega) (by rw [zti (by omega) (by omega)]; omega)]; omega
theorem fm_1 {T : Nat → Int32} {i v : Int} (h : ∀ j : Nat, (j : Int) < i → (T j).toInt ≠ -1) (h0 : 0 ≤ i) (e : v = (T i.toNat).toInt) (hv : ¬ v = -1) : ∀ j : Nat, (j : Int) < i + 1 → (T j).toInt ≠ -1 := by
  intro j hj
  by_cases q : j = i.toNat
  · subst q; rw [← e]; exact hv
  · exact h j (by omega)
theorem fm_2 {T T' : Nat → Int32} {i : Int} (h : ∀ j : Nat, (j : Int) < i → (T j).toInt ≠ -1) (hm : ∀ t : Nat, ((T t).toInt ≠ -1 ∨ t = i.toNat) → (T' t).toInt ≠ -1) (h0 : 0 ≤ i) : ∀ j : Nat, (j : Int) < i + 1 → (T' j).toInt ≠ -1 := by
  intro j hj
  by_cases q : j = i.toNat
  · exact hm j (Or.inr q)
  · exact hm j (Or.inl (h j (by omega)))
theorem fo_1 {C O : Nat → Int32} {k v1 v2 : Int} (h : ∀ j : Nat, k < j → (j : Int) < 5461 → (C (O j).toInt.toNat).toInt ≠ -1) (h0 : 0 ≤ k) (e1 : v1 = (O k.toNat).toInt) (e2 : v2 = (C v1.toNat).toInt) (hv : ¬ v2 = -1) : ∀ j : Nat, k + (-1) < j → (j : Int) < 5461 → (C (O j).toInt.toNat).toInt ≠ -1 := by
  intro j h1 h2
  by_cases q : j = k.toNat
  · subst q; rw [← e1, ← e2]; exact hv
  · exact h j (by omega) h2
theorem fo_2 {C C' O : Nat → Int32} {k v1 : Int} (h : ∀ j : Nat, k < j → (j : Int) < 5461 → (C (O j).toInt.toNat).toInt ≠ -1) (hm : ∀ t : Nat, ((C t).toInt ≠ -1 ∨ t = v1.toNat) → (C' t).toInt ≠ -1) (h0 : 0 ≤ k) (e1 : v1 = (O k.toNat).toInt) : ∀ j : Nat, k + (-1) < j → (j : Int) < 5461 → (C' (O j).toInt.toNat).toInt ≠ -1 := by
  intro j h1 h2
  by_cases q : j = k.toNat
  · subst q; exact hm _ (Or.inr (by rw [← e1]))
  · exact hm _ (Or.inl (h j (by omega) h2))
theorem fo_e {C T U O : Nat → Int32} {rd k dn : Int} (h : ∀ j : Nat, k < j → (j : Int) < 5461 → (C (O j).toInt.toNat).toInt ≠ -1) (hz : zNb 5461 (-1) 5460 C) (hg : gdI T U O rd 0 dn) (hT : ∀ j : Nat, (j : Int) < 5461 → (T j).toInt ≠ -1) (hk : k < 0) : zNb 5461 0 5460 C := by
  intro t ht
  have hc := gd_c hg
  rcases hg.2.2.2 t ht (hT t (by omega)) with ⟨i, hi, -⟩ | ⟨i, hi, q⟩
  · omega
  · have q2 := h i (by omega) (by omega)
    have q3 := hz t ht
    rw [q, Int.toNat_natCast] at q2
    omega
section MZ
variable {c0 c1 c2 c3 c4 c5 c6 c7 c8 c9 c10 c11 c12 c13 : va_E} {f0 f9 f10 f11 f12 f13 f15 f16 f17 f20 f21 f22 f23 f26 f28 f31 f32 f33 f38 f41 f44 : Int} {x14 : Int64} {g15 g16 g17 g18 g19 g20 g21 g22 g23 g24 g25 g26 g27 g28 g29 g30 g31 g32 g33 g34 g35 g36 g37 g38 g39 g40 g41 g42 g43 g44 : Nat → Int32} {t : zW}
theorem m_layBack (d : Nat) (hb30 : zB 0 5460 g30) (hr1 : 0 ≤ f23 ∧ f23 ≤ 5) (Q : zQ) (h : ∀ (k39 : Nat → Int32) (k40 : Nat → Int32) (k41 : Nat → Int32) (k42 : Nat → Int32) (k43 : Nat → Int32), (∀ j : Nat, (j : Int) < 5461 → (k39 j).toInt = -1) → (∀ j : Nat, (j : Int) < 5461 → (k40 j).toInt = -1) → (zNb 5461 (-1) (5461 * f23 - 1) k42) → (∀ e : Nat, (e : Int) < 5461 * f23 → -1 ≤ (k43 e).toInt ∧ (k43 e).toInt < e) → Q (none) (zMi c0 c1 c2 c3 c4 c5 c6 c7 c8 c9 c10 c11 c12 c13 f0 f9 f10 f11 f12 f13 f15 f16 f17 f20 f21 f22 f23 f26 f28 f31 f32 f33 f38 f41 f44 x14 g15 g16 g17 g18 g19 g20 g21 g22 g23 g24 g25 g26 g27 g28 g29 g30 g31 g32 g33 g34 g35 g36 g37 g38 k39 k40 k41 k42 k43 g44 t)) : zCl zTab (d + 1) iX12_layBack [.ref 14] (zMi c0 c1 c2 c3 c4 c5 c6 c7 c8 c9 c10 c11 c12 c13 f0 f9 f10 f11 f12 f13 f15 f16 f17 f20 f21 f22 f23 f26 f28 f31 f32 f33 f38 f41 f44 x14 g15 g16 g17 g18 g19 g20 g21 g22 g23 g24 g25 g26 g27 g28 g29 g30 g31 g32 g33 g34 g35 g36 g37 g38 g39 g40 g41 g42 g43 g44 t) 0 0 Q := by
  refine zCl_i (M := kX12_layBack) rfl (Nat.le_of_ble_eq_true rfl) fun R hR => ?_
  iterate 2 refine hR (?_ : R (_, _, _, _, _, _))
  have lp2 : ∀ (N : Nat) (i : Int) (q39_2 : Nat → Int32) (q40_2 : Nat → Int32) (q41_2 : Nat → Int32) (q42_2 : Nat → Int32), (0 ≤ i ∧ i ≤ 5461) → (∀ j : Nat, (j : Int) < i → (q39_2 j).toInt = -1) → (∀ j : Nat, (j : Int) < i → (q40_2 j).toInt = -1) → (∀ j : Nat, (j : Int) < i → (q42_2 j).toInt = -1) → (5461 - i < N) → R (2, [some (.ref 14), some (.int (Int32.ofInt i))], [], (zMi c0 c1 c2 c3 c4 c5 c6 c7 c8 c9 c10 c11 c12 c13 f0 f9 f10 f11 f12 f13 f15 f16 f17 f20 f21 f22 f23 f26 f28 f31 f32 f33 f38 f41 f44 x14 g15 g16 g17 g18 g19 g20 g21 g22 g23 g24 g25 g26 g27 g28 g29 g30 g31 g32 g33 g34 g35 g36 g37 g38 q39_2 q40_2 q41_2 q42_2 g43 g44 t), 0, 0) := by
    intro N
    induction N with
    | zero => intros; omega
    | succ N ih2 =>
      intro i q39_2 q40_2 q41_2 q42_2 hf0_2 hp0_2 hp1_2 hp2_2 hN2
      refine hR (?_ : R (_, _, _, _, _, _))
      refine hR (t_c 5461 (by decide) ?_)
      refine hR (j_ge (by omega) (by omega) (fun hc1 => ?_) (fun hc1 => ?_))
      rotate_left
      · skip
        iterate 4 refine hR (?_ : R (_, _, _, _, _, _))
        refine hR (t_st (by omega) (by omega) (Nat.le_of_ble_eq_true rfl) (?_ : R (_, _, _, (zMi c0 c1 c2 c3 c4 c5 c6 c7 c8 c9 c10 c11 c12 c13 f0 f9 f10 f11 f12 f13 f15 f16 f17 f20 f21 f22 f23 f26 f28 f31 f32 f33 f38 f41 f44 x14 g15 g16 g17 g18 g19 g20 g21 g22 g23 g24 g25 g26 g27 g28 g29 g30 g31 g32 g33 g34 g35 g36 g37 g38 q39_2 q40_2 q41_2 (upd q42_2 i.toNat (Int32.ofInt ((-1)))) g43 g44 t), _, _)))
        iterate 4 refine hR (?_ : R (_, _, _, _, _, _))
        refine hR (t_st (by omega) (by omega) (Nat.le_of_ble_eq_true rfl) (?_ : R (_, _, _, (zMi c0 c1 c2 c3 c4 c5 c6 c7 c8 c9 c10 c11 c12 c13 f0 f9 f10 f11 f12 f13 f15 f16 f17 f20 f21 f22 f23 f26 f28 f31 f32 f33 f38 f41 f44 x14 g15 g16 g17 g18 g19 g20 g21 g22 g23 g24 g25 g26 g27 g28 g29 g30 g31 g32 g33 g34 g35 g36 g37 g38 q39_2 (upd q40_2 i.toNat (Int32.ofInt ((-1)))) q41_2 (upd q42_2 i.toNat (Int32.ofInt ((-1)))) g43 g44 t), _, _)))
        iterate 4 refine hR (?_ : R (_, _, _, _, _, _))
        refine hR (t_st (by omega) (by omega) (Nat.le_of_ble_eq_true rfl) (?_ : R (_, _, _, (zMi c0 c1 c2 c3 c4 c5 c6 c7 c8 c9 c10 c11 c12 c13 f0 f9 f10 f11 f12 f13 f15 f16 f17 f20 f21 f22 f23 f26 f28 f31 f32 f33 f38 f41 f44 x14 g15 g16 g17 g18 g19 g20 g21 g22 g23 g24 g25 g26 g27 g28 g29 g30 g31 g32 g33 g34 g35 g36 g37 g38 (upd q39_2 i.toNat (Int32.ofInt ((-1)))) (upd q40_2 i.toNat (Int32.ofInt ((-1)))) q41_2 (upd q42_2 i.toNat (Int32.ofInt ((-1)))) g43 g44 t), _, _)))
        iterate 4 refine hR (?_ : R (_, _, _, _, _, _))
        refine hR (t_stx (by omega) (by omega) (Nat.le_of_ble_eq_true rfl) fun k41_11 => (?_ : R (_, _, _, (zMi c0 c1 c2 c3 c4 c5 c6 c7 c8 c9 c10 c11 c12 c13 f0 f9 f10 f11 f12 f13 f15 f16 f17 f20 f21 f22 f23 f26 f28 f31 f32 f33 f38 f41 f44 x14 g15 g16 g17 g18 g19 g20 g21 g22 g23 g24 g25 g26 g27 g28 g29 g30 g31 g32 g33 g34 g35 g36 g37 g38 (upd q39_2 i.toNat (Int32.ofInt ((-1)))) (upd q40_2 i.toNat (Int32.ofInt ((-1)))) k41_11 (upd q42_2 i.toNat (Int32.ofInt ((-1)))) g43 g44 t), _, _)))
        refine hR (t_inc ?_)
        refine hR (?_ : R (_, _, _, _, _, _))
        exact ih2 _ _ _ _ _ (by omega) (lb_i hp0_2 (by omega)) (lb_i hp1_2 (by omega)) (lb_i hp2_2 (by omega)) (by omega)
      iterate 2 refine hR (?_ : R (_, _, _, _, _, _))
      have lp45 : ∀ (N : Nat) (i : Int) (q42_45 : Nat → Int32) (q43_45 : Nat → Int32), (0 ≤ i ∧ i ≤ 5461 * f23) → (zNb 5461 (-1) (i - 1) q42_45) → (∀ e : Nat, (e : Int) < i → -1 ≤ (q43_45 e).toInt ∧ (q43_45 e).toInt < e) → (5461 * f23 - i < N) → R (45, [some (.ref 14), some (.int (Int32.ofInt i))], [], (zMi c0 c1 c2 c3 c4 c5 c6 c7 c8 c9 c10 c11 c12 c13 f0 f9 f10 f11 f12 f13 f15 f16 f17 f20 f21 f22 f23 f26 f28 f31 f32 f33 f38 f41 f44 x14 g15 g16 g17 g18 g19 g20 g21 g22 g23 g24 g25 g26 g27 g28 g29 g30 g31 g32 g33 g34 g35 g36 g37 g38 q39_2 q40_2 q41_2 q42_45 q43_45 g44 t), 0, 0) := by
        intro N
        induction N with
        | zero => intros; omega
        | succ N ih45 =>
          intro i q42_45 q43_45 hf0_45 hp0_45 hp1_45 hN45
          refine hR (?_ : R (_, _, _, _, _, _))
          refine hR (t_c 5461 (by decide) ?_)
          iterate 2 refine hR (?_ : R (_, _, _, _, _, _))
          refine hR (t_mul ?_)
          refine hR (j_ge (by omega) (by omega) (fun hc2 => ?_) (fun hc2 => ?_))
          · skip
            exact hR (zret_i rfl (Nat.le_refl _) rfl (h _ _ _ _ _ (fun j hj => hp0_2 j (by omega)) (fun j hj => hp1_2 j (by omega)) (zNb_w hp0_45 (by omega) (by omega)) (fun e he => hp1_45 e (by omega))))
          iterate 8 refine hR (?_ : R (_, _, _, _, _, _))
          refine hR (t_ldB hb30 (by omega) (by omega) (Nat.le_of_ble_eq_true rfl) fun v3 ev3 lv3 uv3 => ?_)
          clear ev3
          refine hR (t_ldE (by omega) (by omega) (Nat.le_of_ble_eq_true rfl) fun v4 ev4 rv4 => ?_)
          have bv4 := hp0_45 v3.toNat (by omega)
          rw [← ev4] at bv4
          refine hR (t_st (by omega) (by omega) (Nat.le_of_ble_eq_true rfl) (?_ : R (_, _, _, (zMi c0 c1 c2 c3 c4 c5 c6 c7 c8 c9 c10 c11 c12 c13 f0 f9 f10 f11 f12 f13 f15 f16 f17 f20 f21 f22 f23 f26 f28 f31 f32 f33 f38 f41 f44 x14 g15 g16 g17 g18 g19 g20 g21 g22 g23 g24 g25 g26 g27 g28 g29 g30 g31 g32 g33 g34 g35 g36 g37 g38 q39_2 q40_2 q41_2 q42_45 (upd q43_45 i.toNat (Int32.ofInt v4)) g44 t), _, _)))
          iterate 5 refine hR (?_ : R (_, _, _, _, _, _))
          refine hR (t_ldB hb30 (by omega) (by omega) (Nat.le_of_ble_eq_true rfl) fun v6 ev6 lv6 uv6 => ?_)
          clear ev6
          refine hR (?_ : R (_, _, _, _, _, _))
          refine hR (t_st (by omega) (by omega) (Nat.le_of_ble_eq_true rfl) (?_ : R (_, _, _, (zMi c0 c1 c2 c3 c4 c5 c6 c7 c8 c9 c10 c11 c12 c13 f0 f9 f10 f11 f12 f13 f15 f16 f17 f20 f21 f22 f23 f26 f28 f31 f32 f33 f38 f41 f44 x14 g15 g16 g17 g18 g19 g20 g21 g22 g23 g24 g25 g26 g27 g28 g29 g30 g31 g32 g33 g34 g35 g36 g37 g38 q39_2 q40_2 q41_2 (upd q42_45 v6.toNat (Int32.ofInt i)) (upd q43_45 i.toNat (Int32.ofInt v4)) g44 t), _, _)))
          refine hR (t_inc ?_)
          refine hR (?_ : R (_, _, _, _, _, _))
          exact ih45 _ _ _ (by omega) (zNb_u (zNb_w hp0_45 (by omega) (by omega)) (by omega) (by omega) (by omega) (by omega)) (lb_n hp1_45 (by omega) (by omega) (by omega) (by omega)) (by omega)
      exact lp45 400000000 _ _ _ (by omega) (lb_0 hp2_2 (by omega)) (fun e he => by omega) (by omega)
  exact lp2 400000000 _ _ _ _ _ (by omega) (fun j hj => by omega) (fun j hj => by omega) (fun j hj => by omega) (by omega)
theorem m_goDeep (d : Nat) (a1 a2 : Int) (hb30 : zB 0 5460 g30) (hr1 : 0 ≤ f23 ∧ f23 ≤ 5) (hr2 : gdI g39 g38 g33 f23 0 a2) (hr3 : (g39 a1.toNat).toInt = -1) (hr4 : 0 ≤ a1 ∧ a1 ≤ 5460) (hr5 : 0 ≤ a2) (hr6 : zB 0 5460 g33) (hr7 : zB 0 5460 g38) (Q : zQ) (h : ∀ (v : Int) (k33 : Nat → Int32) (k38 : Nat → Int32) (k39 : Nat → Int32), zB 0 5460 k33 → zB 0 5460 k38 → (gdI k39 k38 k33 f23 0 v) → (0 ≤ v ∧ v ≤ 5461) → (∀ t : Nat, ((g39 t).toInt ≠ -1 ∨ t = a1.toNat) → (k39 t).toInt ≠ -1) → Q (some (.int (Int32.ofInt v))) (zMi c0 c1 c2 c3 c4 c5 c6 c7 c8 c9 c10 c11 c12 c13 f0 f9 f10 f11 f12 f13 f15 f16 f17 f20 f21 f22 f23 f26 f28 f31 f32 f33 f38 f41 f44 x14 g15 g16 g17 g18 g19 g20 g21 g22 g23 g24 g25 g26 g27 g28 g29 g30 g31 g32 k33 g34 g35 g36 g37 k38 k39 g40 g41 g42 g43 g44 t)) : zCl zTab (d + 1) iX12_goDeep [.ref 14, .int (Int32.ofInt a1), .int (Int32.ofInt a2)] (zMi c0 c1 c2 c3 c4 c5 c6 c7 c8 c9 c10 c11 c12 c13 f0 f9 f10 f11 f12 f13 f15 f16 f17 f20 f21 f22 f23 f26 f28 f31 f32 f33 f38 f41 f44 x14 g15 g16 g17 g18 g19 g20 g21 g22 g23 g24 g25 g26 g27 g28 g29 g30 g31 g32 g33 g34 g35 g36 g37 g38 g39 g40 g41 g42 g43 g44 t) 0 0 Q := by
  refine zCl_i (M := kX12_goDeep) rfl (Nat.le_of_ble_eq_true rfl) fun R hR => ?_
  obtain ⟨S, hS1, hS2⟩ := gd_sum
  have hb33x := hr6
  have hb38x := hr7
  iterate 8 refine hR (?_ : R (_, _, _, _, _, _))
  refine hR (t_st (by omega) (by omega) (Nat.le_of_ble_eq_true rfl) (?_ : R (_, _, _, (zMi c0 c1 c2 c3 c4 c5 c6 c7 c8 c9 c10 c11 c12 c13 f0 f9 f10 f11 f12 f13 f15 f16 f17 f20 f21 f22 f23 f26 f28 f31 f32 f33 f38 f41 f44 x14 g15 g16 g17 g18 g19 g20 g21 g22 g23 g24 g25 g26 g27 g28 g29 g30 g31 g32 g33 g34 g35 g36 g37 (upd g38 (0 : Int).toNat (Int32.ofInt a1)) g39 g40 g41 g42 g43 g44 t), _, _)))
  iterate 4 refine hR (?_ : R (_, _, _, _, _, _))
  refine hR (t_st (by omega) (by omega) (Nat.le_of_ble_eq_true rfl) (?_ : R (_, _, _, (zMi c0 c1 c2 c3 c4 c5 c6 c7 c8 c9 c10 c11 c12 c13 f0 f9 f10 f11 f12 f13 f15 f16 f17 f20 f21 f22 f23 f26 f28 f31 f32 f33 f38 f41 f44 x14 g15 g16 g17 g18 g19 g20 g21 g22 g23 g24 g25 g26 g27 g28 g29 g30 g31 g32 g33 g34 g35 g36 g37 (upd g38 (0 : Int).toNat (Int32.ofInt a1)) (upd g39 a1.toNat (Int32.ofInt 0)) g40 g41 g42 g43 g44 t), _, _)))
  have lp19 : ∀ (N : Nat) (dn : Int) (de : Int) (o5_19 : Option Value) (o6_19 : Option Value) (q33_19 : Nat → Int32) (q38_19 : Nat → Int32) (q39_19 : Nat → Int32), (zc2 o5_19 = false) → (zc2 o6_19 = false) → (0 ≤ dn ∧ dn ≤ 5461) → (0 ≤ de ∧ de ≤ 5461) → (gdI q39_19 q38_19 q33_19 f23 de dn) → (zB 0 5460 q33_19) → (zB 0 5460 q38_19) → (∀ t : Nat, ((g39 t).toInt ≠ -1 ∨ t = a1.toNat) → (q39_19 t).toInt ≠ -1) → (-5461 ≤ S q39_19 ∧ S q39_19 ≤ 5461 * f23) → (5461 * f23 - S q39_19 + de < N) → R (19, [some (.ref 14), some (.int (Int32.ofInt a1)), some (.int (Int32.ofInt a2)), some (.int (Int32.ofInt dn)), some (.int (Int32.ofInt de)), o5_19, o6_19], [], (zMi c0 c1 c2 c3 c4 c5 c6 c7 c8 c9 c10 c11 c12 c13 f0 f9 f10 f11 f12 f13 f15 f16 f17 f20 f21 f22 f23 f26 f28 f31 f32 f33 f38 f41 f44 x14 g15 g16 g17 g18 g19 g20 g21 g22 g23 g24 g25 g26 g27 g28 g29 g30 g31 g32 q33_19 g34 g35 g36 g37 q38_19 q39_19 g40 g41 g42 g43 g44 t), 0, 0) := by
    intro N
    induction N with
    | zero => intros; omega
    | succ N ih19 =>
      intro dn de o5_19 o6_19 q33_19 q38_19 q39_19 hzo5_19 hzo6_19 hf0_19 hf1_19 hp0_19 hp1_19 hp2_19 hp3_19 hp4_19 hN19
      refine hR (?_ : R (_, _, _, _, _, _))
      refine hR (k_le (by omega) (fun hc3 => ?_) (fun hc3 => ?_))
      · skip
        refine hR (?_ : R (_, _, _, _, _, _))
        exact hR (zret_i rfl (Nat.le_refl _) trivial (h _ _ _ _ hp1_19 hp2_19 (gd_z hp0_19 (by omega)) (by omega) hp3_19))
      iterate 4 refine hR (?_ : R (_, _, _, _, _, _))
      refine hR (t_sub ?_)
      refine hR (t_ldE (by omega) (by omega) (Nat.le_of_ble_eq_true rfl) fun v4 ev4 rv4 => ?_)
      have bv4 := hp2_19 (de - 1).toNat
      rw [← ev4] at bv4
      iterate 4 refine hR (?_ : R (_, _, _, _, _, _))
      refine hR (t_ldE (by omega) (by omega) (Nat.le_of_ble_eq_true rfl) fun v5 ev5 rv5 => ?_)
      have bv5 := gd_ge hp0_19 (by omega) (by omega) ev4 ev5
      have dv5 := (gd_c hp0_19)
      iterate 2 refine hR (?_ : R (_, _, _, _, _, _))
      refine hR (j_ne (by omega) (by omega) (fun hc6 => ?_) (fun hc6 => ?_))
      rotate_left
      · skip
        iterate 4 refine hR (?_ : R (_, _, _, _, _, _))
        refine hR (t_st (by omega) (by omega) (Nat.le_of_ble_eq_true rfl) (?_ : R (_, _, _, (zMi c0 c1 c2 c3 c4 c5 c6 c7 c8 c9 c10 c11 c12 c13 f0 f9 f10 f11 f12 f13 f15 f16 f17 f20 f21 f22 f23 f26 f28 f31 f32 f33 f38 f41 f44 x14 g15 g16 g17 g18 g19 g20 g21 g22 g23 g24 g25 g26 g27 g28 g29 g30 g31 g32 (upd q33_19 dn.toNat (Int32.ofInt v4)) g34 g35 g36 g37 q38_19 q39_19 g40 g41 g42 g43 g44 t), _, _)))
        refine hR (t_inc ?_)
        refine hR (t_inc ?_)
        iterate 2 refine hR (?_ : R (_, _, _, _, _, _))
        exact ih19 _ _ _ _ _ _ _ (by rfl) hzo6_19 (by omega) (by omega) (gd_pop hp0_19 hp2_19 (by omega) (by omega) ev4) (zB_u hp1_19 (by omega) (by omega) (by omega) (by omega)) hp2_19 hp3_19 hp4_19 (by omega)
      iterate 2 refine hR (?_ : R (_, _, _, _, _, _))
      refine hR (t_c 5461 (by decide) ?_)
      iterate 3 refine hR (?_ : R (_, _, _, _, _, _))
      refine hR (t_ldE (by omega) (by omega) (Nat.le_of_ble_eq_true rfl) fun v7 ev7 rv7 => ?_)
      refine hR (t_mul ?_)
      refine hR (?_ : R (_, _, _, _, _, _))
      refine hR (t_add ?_)
      refine hR (t_ldB hb30 (by omega) (by omega) (Nat.le_of_ble_eq_true rfl) fun v8 ev8 lv8 uv8 => ?_)
      clear ev8
      iterate 5 refine hR (?_ : R (_, _, _, _, _, _))
      refine hR (t_ldE (by omega) (by omega) (Nat.le_of_ble_eq_true rfl) fun v9 ev9 rv9 => ?_)
      refine hR (?_ : R (_, _, _, _, _, _))
      refine hR (t_add ?_)
      refine hR (t_st (by omega) (by omega) (Nat.le_of_ble_eq_true rfl) (?_ : R (_, _, _, (zMi c0 c1 c2 c3 c4 c5 c6 c7 c8 c9 c10 c11 c12 c13 f0 f9 f10 f11 f12 f13 f15 f16 f17 f20 f21 f22 f23 f26 f28 f31 f32 f33 f38 f41 f44 x14 g15 g16 g17 g18 g19 g20 g21 g22 g23 g24 g25 g26 g27 g28 g29 g30 g31 g32 q33_19 g34 g35 g36 g37 q38_19 (upd q39_19 v4.toNat (Int32.ofInt (v9 + 1))) g40 g41 g42 g43 g44 t), _, _)))
      have hgi := gd_inc hp0_19 (by omega) (by omega) ev9 (by omega) (by omega)
      have hsi := hS1 q39_19 v4.toNat (Int32.ofInt (v9 + 1)) (by omega)
      rw [zti (e := v9 + 1) (by omega) (by omega), ← ev9] at hsi
      iterate 3 refine hR (?_ : R (_, _, _, _, _, _))
      refine hR (t_ldE (by omega) (by omega) (Nat.le_of_ble_eq_true rfl) fun v11 ev11 rv11 => ?_)
      have dv11 := (gd_c hgi)
      refine hR (?_ : R (_, _, _, _, _, _))
      refine hR (j_ne (by omega) (by omega) (fun hc12 => ?_) (fun hc12 => ?_))
      · skip
        refine hR (?_ : R (_, _, _, _, _, _))
        exact ih19 _ _ _ _ _ _ _ (by rfl) (by rfl) (by omega) (by omega) hgi hp1_19 hp2_19 (gm_s hp3_19 (by omega) (by omega)) (gd_sb hS2 hgi) (by omega)
      iterate 4 refine hR (?_ : R (_, _, _, _, _, _))
      refine hR (t_st (by omega) (by omega) (Nat.le_of_ble_eq_true rfl) (?_ : R (_, _, _, (zMi c0 c1 c2 c3 c4 c5 c6 c7 c8 c9 c10 c11 c12 c13 f0 f9 f10 f11 f12 f13 f15 f16 f17 f20 f21 f22 f23 f26 f28 f31 f32 f33 f38 f41 f44 x14 g15 g16 g17 g18 g19 g20 g21 g22 g23 g24 g25 g26 g27 g28 g29 g30 g31 g32 q33_19 g34 g35 g36 g37 q38_19 (upd (upd q39_19 v4.toNat (Int32.ofInt (v9 + 1))) v8.toNat (Int32.ofInt 0)) g40 g41 g42 g43 g44 t), _, _)))
      have hsj := hS1 (upd q39_19 v4.toNat (Int32.ofInt (v9 + 1))) v8.toNat (Int32.ofInt 0) (by omega)
      rw [zti (e := 0) (by omega) (by omega), ← ev11] at hsj
      have hlt := cN_lt (v := -1) (D := upd q39_19 v4.toNat (Int32.ofInt (v9 + 1))) (t := v8.toNat) (by omega) (by omega)
      have hcn := hgi.2.1
      iterate 4 refine hR (?_ : R (_, _, _, _, _, _))
      refine hR (t_st (by omega) (by omega) (Nat.le_of_ble_eq_true rfl) (?_ : R (_, _, _, (zMi c0 c1 c2 c3 c4 c5 c6 c7 c8 c9 c10 c11 c12 c13 f0 f9 f10 f11 f12 f13 f15 f16 f17 f20 f21 f22 f23 f26 f28 f31 f32 f33 f38 f41 f44 x14 g15 g16 g17 g18 g19 g20 g21 g22 g23 g24 g25 g26 g27 g28 g29 g30 g31 g32 q33_19 g34 g35 g36 g37 (upd q38_19 de.toNat (Int32.ofInt v8)) (upd (upd q39_19 v4.toNat (Int32.ofInt (v9 + 1))) v8.toNat (Int32.ofInt 0)) g40 g41 g42 g43 g44 t), _, _)))
      refine hR (t_inc ?_)
      refine hR (?_ : R (_, _, _, _, _, _))
      exact ih19 _ _ _ _ _ _ _ (by rfl) (by rfl) (by omega) (by omega) (gd_push hgi (by omega) (by omega) (by omega) (by omega)) hp1_19 (zB_u hp2_19 (by omega) (by omega) (by omega) (by omega)) (gm_s (gm_s hp3_19 (by omega) (by omega)) (by omega) (by omega)) (gd_sb hS2 (gd_push hgi (by omega) (by omega) (by omega) (by omega))) (by omega)
  have hgp := gd_push hr2 (t := a1) (by omega) (by omega) (by omega) (by omega)
  have hent := gd_sb hS2 hgp
  have hcd := gd_c hgp
  exact lp19 400000000 _ _ _ _ _ _ _ (by rfl) (by rfl) (by omega) (by omega) (gd_push hr2 (by omega) (by omega) (by omega) (by omega)) hb33x (zB_u hb38x (by omega) (by omega) (by omega) (by omega)) (gm_0 (by omega)) hent (by omega)
theorem m_goBack (d : Nat) (a1 a2 : Int) (hb38 : zB 0 5460 g38) (hr1 : 0 ≤ f23 ∧ f23 ≤ 5) (hr2 : 0 ≤ a1 ∧ a1 ≤ 5460) (hr3 : 0 ≤ a2 ∧ a2 ≤ 5460) (hr4 : zNb 5461 (-1) 5460 g40) (hr5 : zNb 5461 (-1) (5461 * f23 - 1) g42) (hr6 : ∀ e : Nat, (e : Int) < 5461 * f23 → -1 ≤ (g43 e).toInt ∧ (g43 e).toInt < e) (Q : zQ) (h : ∀ (k38 : Nat → Int32) (k40 : Nat → Int32) (k41 : Nat → Int32), zB 0 5460 k38 → (zNb 5461 (-1) 5460 k40) → (∀ t : Nat, ((g40 t).toInt ≠ -1 ∨ t = a1.toNat) → (k40 t).toInt ≠ -1) → Q (none) (zMi c0 c1 c2 c3 c4 c5 c6 c7 c8 c9 c10 c11 c12 c13 f0 f9 f10 f11 f12 f13 f15 f16 f17 f20 f21 f22 f23 f26 f28 f31 f32 f33 f38 f41 f44 x14 g15 g16 g17 g18 g19 g20 g21 g22 g23 g24 g25 g26 g27 g28 g29 g30 g31 g32 g33 g34 g35 g36 g37 k38 g39 k40 k41 g42 g43 g44 t)) : zCl zTab (d + 1) iX12_goBack [.ref 14, .int (Int32.ofInt a1), .int (Int32.ofInt a2)] (zMi c0 c1 c2 c3 c4 c5 c6 c7 c8 c9 c10 c11 c12 c13 f0 f9 f10 f11 f12 f13 f15 f16 f17 f20 f21 f22 f23 f26 f28 f31 f32 f33 f38 f41 f44 x14 g15 g16 g17 g18 g19 g20 g21 g22 g23 g24 g25 g26 g27 g28 g29 g30 g31 g32 g33 g34 g35 g36 g37 g38 g39 g40 g41 g42 g43 g44 t) 0 0 Q := by
  refine zCl_i (M := kX12_goBack) rfl (Nat.le_of_ble_eq_true rfl) fun R hR => ?_
  iterate 6 refine hR (?_ : R (_, _, _, _, _, _))
  refine hR (t_stB hb38 (by omega) (by omega) (by omega) (by omega) (by omega) (by omega) (Nat.le_of_ble_eq_true rfl) fun k38_1 hk38_1 => (?_ : R (_, _, _, (zMi c0 c1 c2 c3 c4 c5 c6 c7 c8 c9 c10 c11 c12 c13 f0 f9 f10 f11 f12 f13 f15 f16 f17 f20 f21 f22 f23 f26 f28 f31 f32 f33 f38 f41 f44 x14 g15 g16 g17 g18 g19 g20 g21 g22 g23 g24 g25 g26 g27 g28 g29 g30 g31 g32 g33 g34 g35 g36 g37 k38_1 g39 g40 g41 g42 g43 g44 t), _, _)))
  iterate 4 refine hR (?_ : R (_, _, _, _, _, _))
  refine hR (t_st (by omega) (by omega) (Nat.le_of_ble_eq_true rfl) (?_ : R (_, _, _, (zMi c0 c1 c2 c3 c4 c5 c6 c7 c8 c9 c10 c11 c12 c13 f0 f9 f10 f11 f12 f13 f15 f16 f17 f20 f21 f22 f23 f26 f28 f31 f32 f33 f38 f41 f44 x14 g15 g16 g17 g18 g19 g20 g21 g22 g23 g24 g25 g26 g27 g28 g29 g30 g31 g32 g33 g34 g35 g36 g37 k38_1 g39 (upd g40 a1.toNat (Int32.ofInt a2)) g41 g42 g43 g44 t), _, _)))
  iterate 2 refine hR (?_ : R (_, _, _, _, _, _))
  have lp19 : ∀ (N : Nat) (en : Int) (k : Int) (o5_19 : Option Value) (o6_19 : Option Value) (q38_19 : Nat → Int32) (q40_19 : Nat → Int32), (zc2 o5_19 = false) → (zc2 o6_19 = false) → (1 ≤ en ∧ en ≤ 5461) → (0 ≤ k ∧ k ≤ en) → (en ≤ cN (-1) q40_19) → (zNb 5461 (-1) 5460 q40_19) → (∀ t : Nat, ((g40 t).toInt ≠ -1 ∨ t = a1.toNat) → (q40_19 t).toInt ≠ -1) → (zB 0 5460 q38_19) → (5461 - k < N) → R (19, [some (.ref 14), some (.int (Int32.ofInt a1)), some (.int (Int32.ofInt a2)), some (.int (Int32.ofInt en)), some (.int (Int32.ofInt k)), o5_19, o6_19], [], (zMi c0 c1 c2 c3 c4 c5 c6 c7 c8 c9 c10 c11 c12 c13 f0 f9 f10 f11 f12 f13 f15 f16 f17 f20 f21 f22 f23 f26 f28 f31 f32 f33 f38 f41 f44 x14 g15 g16 g17 g18 g19 g20 g21 g22 g23 g24 g25 g26 g27 g28 g29 g30 g31 g32 g33 g34 g35 g36 g37 q38_19 g39 q40_19 g41 g42 g43 g44 t), 0, 0) := by
    intro N
    induction N with
    | zero => intros; omega
    | succ N ih19 =>
      intro en k o5_19 o6_19 q38_19 q40_19 hzo5_19 hzo6_19 hf0_19 hf1_19 hp0_19 hp1_19 hp2_19 hq38_19 hN19
      iterate 2 refine hR (?_ : R (_, _, _, _, _, _))
      refine hR (j_ge (by omega) (by omega) (fun hc3 => ?_) (fun hc3 => ?_))
      · skip
        iterate 4 refine hR (?_ : R (_, _, _, _, _, _))
        refine hR (t_stx (by omega) (by omega) (Nat.le_of_ble_eq_true rfl) fun k41_4 => (?_ : R (_, _, _, (zMi c0 c1 c2 c3 c4 c5 c6 c7 c8 c9 c10 c11 c12 c13 f0 f9 f10 f11 f12 f13 f15 f16 f17 f20 f21 f22 f23 f26 f28 f31 f32 f33 f38 f41 f44 x14 g15 g16 g17 g18 g19 g20 g21 g22 g23 g24 g25 g26 g27 g28 g29 g30 g31 g32 g33 g34 g35 g36 g37 q38_19 g39 q40_19 k41_4 g42 g43 g44 t), _, _)))
        exact hR (zret_i rfl (Nat.le_refl _) rfl (h _ _ _ hq38_19 hp1_19 hp2_19))
      iterate 5 refine hR (?_ : R (_, _, _, _, _, _))
      refine hR (t_ldB hq38_19 (by omega) (by omega) (Nat.le_of_ble_eq_true rfl) fun v5 ev5 lv5 uv5 => ?_)
      clear ev5
      refine hR (t_ldE (by omega) (by omega) (Nat.le_of_ble_eq_true rfl) fun v6 ev6 rv6 => ?_)
      have bv6 := hr5 v5.toNat (by omega)
      rw [← ev6] at bv6
      refine hR (?_ : R (_, _, _, _, _, _))
      have lp39 : ∀ (N : Nat) (en : Int) (e : Int) (o6_39 : Option Value) (q38_39 : Nat → Int32) (q40_39 : Nat → Int32), (zc2 o6_39 = false) → (1 ≤ en ∧ en ≤ 5461) → (-1 ≤ e ∧ e ≤ 5461 * f23 - 1) → (en ≤ cN (-1) q40_39) → (zNb 5461 (-1) 5460 q40_39) → (∀ t : Nat, ((g40 t).toInt ≠ -1 ∨ t = a1.toNat) → (q40_39 t).toInt ≠ -1) → (k < en) → (zB 0 5460 q38_39) → (e + 1 < N) → R (39, [some (.ref 14), some (.int (Int32.ofInt a1)), some (.int (Int32.ofInt a2)), some (.int (Int32.ofInt en)), some (.int (Int32.ofInt k)), some (.int (Int32.ofInt e)), o6_39], [], (zMi c0 c1 c2 c3 c4 c5 c6 c7 c8 c9 c10 c11 c12 c13 f0 f9 f10 f11 f12 f13 f15 f16 f17 f20 f21 f22 f23 f26 f28 f31 f32 f33 f38 f41 f44 x14 g15 g16 g17 g18 g19 g20 g21 g22 g23 g24 g25 g26 g27 g28 g29 g30 g31 g32 g33 g34 g35 g36 g37 q38_39 g39 q40_39 g41 g42 g43 g44 t), 0, 0) := by
        intro N
        induction N with
        | zero => intros; omega
        | succ N ih39 =>
          intro en e o6_39 q38_39 q40_39 hzo6_39 hf0_39 hf1_39 hp0_39 hp1_39 hp2_39 hp3_39 hq38_39 hN39
          iterate 2 refine hR (?_ : R (_, _, _, _, _, _))
          refine hR (j_eq (by omega) (by omega) (fun hc7 => ?_) (fun hc7 => ?_))
          · skip
            refine hR (t_inc ?_)
            refine hR (?_ : R (_, _, _, _, _, _))
            exact ih19 _ _ _ _ _ _ (by rfl) hzo6_39 (by omega) (by omega) hp0_39 hp1_39 hp2_39 hq38_39 (by omega)
          refine hR (?_ : R (_, _, _, _, _, _))
          refine hR (t_c 5461 (by decide) ?_)
          refine hR (t_rem (by omega) (by omega) (by omega) (by omega) ?_)
          iterate 4 refine hR (?_ : R (_, _, _, _, _, _))
          refine hR (t_ldE (by omega) (by omega) (Nat.le_of_ble_eq_true rfl) fun v8 ev8 rv8 => ?_)
          refine hR (?_ : R (_, _, _, _, _, _))
          refine hR (j_ne (by omega) (by omega) (fun hc9 => ?_) (fun hc9 => ?_))
          · skip
            iterate 3 refine hR (?_ : R (_, _, _, _, _, _))
            refine hR (t_ldE (by omega) (by omega) (Nat.le_of_ble_eq_true rfl) fun v10 ev10 rv10 => ?_)
            have bv10 := hr6 e.toNat (by omega)
            rw [← ev10] at bv10
            iterate 2 refine hR (?_ : R (_, _, _, _, _, _))
            exact ih39 _ _ _ _ _ (by rfl) (by omega) (by omega) hp0_39 hp1_39 hp2_39 (by omega) hq38_39 (by omega)
          have hlt := cN_lt (v := -1) (D := q40_39) (t := (e % 5461).toNat) (by omega) (by omega)
          iterate 4 refine hR (?_ : R (_, _, _, _, _, _))
          refine hR (t_st (by omega) (by omega) (Nat.le_of_ble_eq_true rfl) (?_ : R (_, _, _, (zMi c0 c1 c2 c3 c4 c5 c6 c7 c8 c9 c10 c11 c12 c13 f0 f9 f10 f11 f12 f13 f15 f16 f17 f20 f21 f22 f23 f26 f28 f31 f32 f33 f38 f41 f44 x14 g15 g16 g17 g18 g19 g20 g21 g22 g23 g24 g25 g26 g27 g28 g29 g30 g31 g32 g33 g34 g35 g36 g37 q38_39 g39 (upd q40_39 (e % 5461).toNat (Int32.ofInt a2)) g41 g42 g43 g44 t), _, _)))
          iterate 4 refine hR (?_ : R (_, _, _, _, _, _))
          refine hR (t_stB hq38_39 (by omega) (by omega) (by omega) (by omega) (by omega) (by omega) (Nat.le_of_ble_eq_true rfl) fun k38_12 hk38_12 => (?_ : R (_, _, _, (zMi c0 c1 c2 c3 c4 c5 c6 c7 c8 c9 c10 c11 c12 c13 f0 f9 f10 f11 f12 f13 f15 f16 f17 f20 f21 f22 f23 f26 f28 f31 f32 f33 f38 f41 f44 x14 g15 g16 g17 g18 g19 g20 g21 g22 g23 g24 g25 g26 g27 g28 g29 g30 g31 g32 g33 g34 g35 g36 g37 k38_12 g39 (upd q40_39 (e % 5461).toNat (Int32.ofInt a2)) g41 g42 g43 g44 t), _, _)))
          refine hR (t_inc ?_)
          iterate 3 refine hR (?_ : R (_, _, _, _, _, _))
          refine hR (t_ldE (by omega) (by omega) (Nat.le_of_ble_eq_true rfl) fun v13 ev13 rv13 => ?_)
          have bv13 := hr6 e.toNat (by omega)
          rw [← ev13] at bv13
          iterate 2 refine hR (?_ : R (_, _, _, _, _, _))
          exact ih39 _ _ _ _ _ (by rfl) (by omega) (by omega) (gb_s hp0_39 (by omega) (by omega) ev8 (by omega) (by omega)) (zNb_u hp1_39 (by omega) (by omega) (by omega) (by omega)) (gm_s hp2_39 (by omega) (by omega)) (by omega) hk38_12 (by omega)
      exact lp39 400000000 _ _ _ _ _ hzo6_19 (by omega) (by omega) hp0_19 hp1_19 hp2_19 (by omega) hq38_19 (by omega)
  exact lp19 400000000 _ _ _ _ _ _ (by rfl) (by rfl) (by omega) (by omega) (gb_1 (by omega) (by omega)) (zNb_u hr4 (by omega) (by omega) (by omega) (by omega)) (gm_1 (by omega) (by omega)) hk38_1 (by omega)
theorem m_findCircles (d : Nat) (hb30 : zB 0 5460 g30) (hb33 : zB 0 5460 g33) (hb38 : zB 0 5460 g38) (hr3 : 0 ≤ f23 ∧ f23 ≤ 5) (Q : zQ) (h : ∀ (v : Int) (k33 : Nat → Int32) (k38 : Nat → Int32) (k39 : Nat → Int32) (k40 : Nat → Int32) (k41 : Nat → Int32) (k42 : Nat → Int32) (k43 : Nat → Int32), zB 0 5460 k33 → zB 0 5460 k38 → (0 ≤ v ∧ v ≤ 5461) → (zNb 5461 0 5460 k40) → Q (some (.int (Int32.ofInt v))) (zMi c0 c1 c2 c3 c4 c5 c6 c7 c8 c9 c10 c11 c12 c13 f0 f9 f10 f11 f12 f13 f15 f16 f17 f20 f21 f22 f23 f26 f28 f31 f32 f33 f38 f41 f44 x14 g15 g16 g17 g18 g19 g20 g21 g22 g23 g24 g25 g26 g27 g28 g29 g30 g31 g32 k33 g34 g35 g36 g37 k38 k39 k40 k41 k42 k43 g44 t)) : zCl zTab (d + 2) iX12_findCircles [.ref 14] (zMi c0 c1 c2 c3 c4 c5 c6 c7 c8 c9 c10 c11 c12 c13 f0 f9 f10 f11 f12 f13 f15 f16 f17 f20 f21 f22 f23 f26 f28 f31 f32 f33 f38 f41 f44 x14 g15 g16 g17 g18 g19 g20 g21 g22 g23 g24 g25 g26 g27 g28 g29 g30 g31 g32 g33 g34 g35 g36 g37 g38 g39 g40 g41 g42 g43 g44 t) 0 0 Q := by
  refine zCl_i (M := kX12_findCircles) rfl (Nat.le_of_ble_eq_true rfl) fun R hR => ?_
  refine hR (?_ : R (_, _, _, _, _, _))
  refine hR (zcall_i 0 0 (Nat.le_of_ble_eq_true rfl) (Nat.le_of_ble_eq_true rfl) (m_layBack _ hb30 (by omega) _ fun k39_1 k40_2 k41_3 k42_4 k43_5 hp6 hp7 hp8 hp9 => ?_))
  refine (?_ : R (_, _, [], (zMi c0 c1 c2 c3 c4 c5 c6 c7 c8 c9 c10 c11 c12 c13 f0 f9 f10 f11 f12 f13 f15 f16 f17 f20 f21 f22 f23 f26 f28 f31 f32 f33 f38 f41 f44 x14 g15 g16 g17 g18 g19 g20 g21 g22 g23 g24 g25 g26 g27 g28 g29 g30 g31 g32 g33 g34 g35 g36 g37 g38 k39_1 k40_2 k41_3 k42_4 k43_5 g44 t), 0, 0))
  iterate 4 refine hR (?_ : R (_, _, _, _, _, _))
  have lp8 : ∀ (N : Nat) (dn : Int) (i : Int) (q33_8 : Nat → Int32) (q38_8 : Nat → Int32) (q39_8 : Nat → Int32), (0 ≤ dn ∧ dn ≤ 5461) → (0 ≤ i ∧ i ≤ 5461) → (gdI q39_8 q38_8 q33_8 f23 0 dn) → (∀ j : Nat, (j : Int) < i → (q39_8 j).toInt ≠ -1) → (zB 0 5460 q33_8) → (zB 0 5460 q38_8) → (5461 - i < N) → R (8, [some (.ref 14), some (.int (Int32.ofInt dn)), some (.int (Int32.ofInt i)), none], [], (zMi c0 c1 c2 c3 c4 c5 c6 c7 c8 c9 c10 c11 c12 c13 f0 f9 f10 f11 f12 f13 f15 f16 f17 f20 f21 f22 f23 f26 f28 f31 f32 f33 f38 f41 f44 x14 g15 g16 g17 g18 g19 g20 g21 g22 g23 g24 g25 g26 g27 g28 g29 g30 g31 g32 q33_8 g34 g35 g36 g37 q38_8 q39_8 k40_2 k41_3 k42_4 k43_5 g44 t), 0, 0) := by
    intro N
    induction N with
    | zero => intros; omega
    | succ N ih8 =>
      intro dn i q33_8 q38_8 q39_8 hf0_8 hf1_8 hp0_8 hp1_8 hq33_8 hq38_8 hN8
      refine hR (?_ : R (_, _, _, _, _, _))
      refine hR (t_c 5461 (by decide) ?_)
      refine hR (j_ge (by omega) (by omega) (fun hc10 => ?_) (fun hc10 => ?_))
      rotate_left
      · skip
        iterate 3 refine hR (?_ : R (_, _, _, _, _, _))
        refine hR (t_ldE (by omega) (by omega) (Nat.le_of_ble_eq_true rfl) fun v22 ev22 rv22 => ?_)
        refine hR (?_ : R (_, _, _, _, _, _))
        refine hR (j_ne (by omega) (by omega) (fun hc23 => ?_) (fun hc23 => ?_))
        · skip
          iterate 2 refine hR (?_ : R (_, _, _, _, _, _))
          refine hR (t_inc ?_)
          refine hR (?_ : R (_, _, _, _, _, _))
          exact ih8 _ _ _ _ _ (by omega) (by omega) hp0_8 (fm_1 hp1_8 (by omega) ev22 (by omega)) hq33_8 hq38_8 (by omega)
        iterate 3 refine hR (?_ : R (_, _, _, _, _, _))
        refine hR (zcall_i 0 0 (Nat.le_of_ble_eq_true rfl) (Nat.le_of_ble_eq_true rfl) (m_goDeep _ i dn hb30 (by omega) hp0_8 (by omega) (by omega) (by omega) hq33_8 hq38_8 _ fun v24 k33_25 k38_26 k39_27 hp28 hp29 hp30 hp31 hp32 => ?_))
        refine (?_ : R (_, _, (.int (Int32.ofInt v24)) :: [], (zMi c0 c1 c2 c3 c4 c5 c6 c7 c8 c9 c10 c11 c12 c13 f0 f9 f10 f11 f12 f13 f15 f16 f17 f20 f21 f22 f23 f26 f28 f31 f32 f33 f38 f41 f44 x14 g15 g16 g17 g18 g19 g20 g21 g22 g23 g24 g25 g26 g27 g28 g29 g30 g31 g32 k33_25 g34 g35 g36 g37 k38_26 k39_27 k40_2 k41_3 k42_4 k43_5 g44 t), 0, 0))
        iterate 2 refine hR (?_ : R (_, _, _, _, _, _))
        refine hR (t_inc ?_)
        refine hR (?_ : R (_, _, _, _, _, _))
        exact ih8 _ _ _ _ _ (by omega) (by omega) hp30 (fm_2 hp1_8 hp32 (by omega)) hp28 hp29 (by omega)
      iterate 2 refine hR (?_ : R (_, _, _, _, _, _))
      refine hR (t_c 5460 (by decide) ?_)
      refine hR (?_ : R (_, _, _, _, _, _))
      have lp48 : ∀ (N : Nat) (mn : Int) (k : Int) (q38_48 : Nat → Int32) (q40_48 : Nat → Int32) (q41_48 : Nat → Int32), (0 ≤ mn ∧ mn ≤ 5460 - k) → (-1 ≤ k ∧ k ≤ 5460) → (∀ j : Nat, k < j → (j : Int) < 5461 → (q40_48 (q33_8 j).toInt.toNat).toInt ≠ -1) → (zNb 5461 (-1) 5460 q40_48) → (zB 0 5460 q38_48) → (k + 1 < N) → R (48, [some (.ref 14), some (.int (Int32.ofInt dn)), some (.int (Int32.ofInt mn)), some (.int (Int32.ofInt k))], [], (zMi c0 c1 c2 c3 c4 c5 c6 c7 c8 c9 c10 c11 c12 c13 f0 f9 f10 f11 f12 f13 f15 f16 f17 f20 f21 f22 f23 f26 f28 f31 f32 f33 f38 f41 f44 x14 g15 g16 g17 g18 g19 g20 g21 g22 g23 g24 g25 g26 g27 g28 g29 g30 g31 g32 q33_8 g34 g35 g36 g37 q38_48 q39_8 q40_48 q41_48 k42_4 k43_5 g44 t), 0, 0) := by
        intro N
        induction N with
        | zero => intros; omega
        | succ N ih48 =>
          intro mn k q38_48 q40_48 q41_48 hf0_48 hf1_48 hp0_48 hp1_48 hq38_48 hN48
          refine hR (?_ : R (_, _, _, _, _, _))
          refine hR (k_lt (by omega) (fun hc11 => ?_) (fun hc11 => ?_))
          · skip
            refine hR (?_ : R (_, _, _, _, _, _))
            exact hR (zret_i rfl (Nat.le_refl _) trivial (h _ _ _ _ _ _ _ _ hq33_8 hq38_48 (by omega) (fo_e hp0_48 hp1_48 hp0_8 (fun j hj => hp1_8 j (by omega))  (by omega))))
          iterate 5 refine hR (?_ : R (_, _, _, _, _, _))
          refine hR (t_ldB hq33_8 (by omega) (by omega) (Nat.le_of_ble_eq_true rfl) fun v12 ev12 lv12 uv12 => ?_)
          refine hR (t_ldE (by omega) (by omega) (Nat.le_of_ble_eq_true rfl) fun v13 ev13 rv13 => ?_)
          refine hR (?_ : R (_, _, _, _, _, _))
          refine hR (j_ne (by omega) (by omega) (fun hc14 => ?_) (fun hc14 => ?_))
          · skip
            refine hR (t_inc ?_)
            refine hR (?_ : R (_, _, _, _, _, _))
            exact ih48 _ _ _ _ _ (by omega) (by omega) (fo_1 hp0_48 (by omega) ev12 ev13 (by omega)) hp1_48 hq38_48 (by omega)
          iterate 4 refine hR (?_ : R (_, _, _, _, _, _))
          refine hR (t_ldB hq33_8 (by omega) (by omega) (Nat.le_of_ble_eq_true rfl) fun v15 ev15 lv15 uv15 => ?_)
          refine hR (?_ : R (_, _, _, _, _, _))
          refine hR (zcall_i 0 0 (Nat.le_of_ble_eq_true rfl) (Nat.le_of_ble_eq_true rfl) (m_goBack _ v15 mn hq38_48 (by omega) (by omega) (by omega) hp1_48 hp8 hp9 _ fun k38_16 k40_17 k41_18 hp19 hp20 hp21 => ?_))
          refine (?_ : R (_, _, [], (zMi c0 c1 c2 c3 c4 c5 c6 c7 c8 c9 c10 c11 c12 c13 f0 f9 f10 f11 f12 f13 f15 f16 f17 f20 f21 f22 f23 f26 f28 f31 f32 f33 f38 f41 f44 x14 g15 g16 g17 g18 g19 g20 g21 g22 g23 g24 g25 g26 g27 g28 g29 g30 g31 g32 q33_8 g34 g35 g36 g37 k38_16 q39_8 k40_17 k41_18 k42_4 k43_5 g44 t), 0, 0))
          refine hR (t_inc ?_)
          refine hR (t_inc ?_)
          refine hR (?_ : R (_, _, _, _, _, _))
          exact ih48 _ _ _ _ _ (by omega) (by omega) (fo_2 hp0_48 hp21 (by omega) ev15) hp20 hp19 (by omega)
      exact lp48 400000000 _ _ _ _ _ (by omega) (by omega) (fun j h1 h2 => by omega) (lb_z hp7) hq38_8 (by omega)
  exact lp8 400000000 _ _ _ _ _ (by omega) (by omega) (gd_00 hp6) (fun j hj => by omega) hb33 hb38 (by omega)
theorem m_circles (d : Nat) (a1 a2 : Int) (hb19 : zB 0 2 g19) (hb25 : zB 0 3 g25) (hb30 : zB 0 5460 g30) (hb33 : zB 0 5460 g33) (hb38 : zB 0 5460 g38) (hr5 : bkOK g20) (hr6 : -2147483648 ≤ a1 ∧ a1 ≤ 2147483647) (hr7 : -2147483648 ≤ a2 ∧ a2 ≤ 2147483647) (Q : zQ) (h : ∀ (v : Int) (y0 : Int) (y20 : Int) (y21 : Int) (y22 : Int) (y23 : Int) (y26 : Int) (k25 : Nat → Int32) (k30 : Nat → Int32) (k33 : Nat → Int32) (k38 : Nat → Int32) (k39 : Nat → Int32) (k40 : Nat → Int32) (k41 : Nat → Int32) (k42 : Nat → Int32) (k43 : Nat → Int32), zB 0 3 k25 → zB 0 5460 k30 → zB 0 5460 k33 → zB 0 5460 k38 → Q (some (.int (Int32.ofInt v))) (zMi c0 c1 c2 c3 c4 c5 c6 c7 c8 c9 c10 c11 c12 c13 y0 f9 f10 f11 f12 f13 f15 f16 f17 y20 y21 y22 y23 y26 f28 f31 f32 f33 f38 f41 f44 x14 g15 g16 g17 g18 g19 g20 g21 g22 g23 g24 k25 g26 g27 g28 g29 k30 g31 g32 k33 g34 g35 g36 g37 k38 k39 k40 k41 k42 k43 g44 t)) : zCl zTab (d + 7) iX12_circles [.ref 14, .int (Int32.ofInt a1), .int (Int32.ofInt a2)] (zMi c0 c1 c2 c3 c4 c5 c6 c7 c8 c9 c10 c11 c12 c13 f0 f9 f10 f11 f12 f13 f15 f16 f17 f20 f21 f22 f23 f26 f28 f31 f32 f33 f38 f41 f44 x14 g15 g16 g17 g18 g19 g20 g21 g22 g23 g24 g25 g26 g27 g28 g29 g30 g31 g32 g33 g34 g35 g36 g37 g38 g39 g40 g41 g42 g43 g44 t) 0 0 Q := by
  refine zCl_i (M := kX12_circles) rfl (Nat.le_of_ble_eq_true rfl) fun R hR => ?_
  iterate 2 refine hR (?_ : R (_, _, _, _, _, _))
  refine hR (?_ : R (_, _, _, (zMi c0 c1 c2 c3 c4 c5 c6 c7 c8 c9 c10 c11 c12 c13 0 f9 f10 f11 f12 f13 f15 f16 f17 f20 f21 f22 f23 f26 f28 f31 f32 f33 f38 f41 f44 x14 g15 g16 g17 g18 g19 g20 g21 g22 g23 g24 g25 g26 g27 g28 g29 g30 g31 g32 g33 g34 g35 g36 g37 g38 g39 g40 g41 g42 g43 g44 t), _, _))
  refine hR (?_ : R (_, _, _, _, _, _))
  refine hR (t_c (-2) (by decide) ?_)
  refine hR (t_c 5460 (by decide) ?_)
  refine hR (zcall_i 0 0 (Nat.le_of_ble_eq_true rfl) (Nat.le_of_ble_eq_true rfl) (m_in _ a2 ((-2)) 5460 _ (by omega) (by omega) (by omega) _ fun v1 hp2 => ?_))
  refine (?_ : R (_, _, (.int (Int32.ofInt v1)) :: [], (zMi c0 c1 c2 c3 c4 c5 c6 c7 c8 c9 c10 c11 c12 c13 0 f9 f10 f11 f12 f13 f15 f16 f17 f20 f21 f22 f23 f26 f28 f31 f32 f33 f38 f41 f44 x14 g15 g16 g17 g18 g19 g20 g21 g22 g23 g24 g25 g26 g27 g28 g29 g30 g31 g32 g33 g34 g35 g36 g37 g38 g39 g40 g41 g42 g43 g44 t), 0, 0))
  refine hR (k_eq (by omega) (fun hc3 => ?_) (fun hc3 => ?_))
  · skip
    refine hR (?_ : R (_, _, _, _, _, _))
    exact hR (zret_i rfl (Nat.le_refl _) trivial (h _ _ _ _ _ _ _ _ _ _ _ _ _ _ _ _ hb25 hb30 hb33 hb38))
  iterate 2 refine hR (?_ : R (_, _, _, _, _, _))
  refine hR (zcall_i 0 0 (Nat.le_of_ble_eq_true rfl) (Nat.le_of_ble_eq_true rfl) (m_handAll _ a1 hb19 hb25 hb30 hr5 (by omega) _ fun v4 y20_5 y21_6 y22_7 y23_8 y26_9 k25_10 k30_11 hp12 hp13 hp14 => ?_))
  refine (?_ : R (_, _, (.int (Int32.ofInt v4)) :: [], (zMi c0 c1 c2 c3 c4 c5 c6 c7 c8 c9 c10 c11 c12 c13 0 f9 f10 f11 f12 f13 f15 f16 f17 y20_5 y21_6 y22_7 y23_8 y26_9 f28 f31 f32 f33 f38 f41 f44 x14 g15 g16 g17 g18 g19 g20 g21 g22 g23 g24 k25_10 g26 g27 g28 g29 k30_11 g31 g32 g33 g34 g35 g36 g37 g38 g39 g40 g41 g42 g43 g44 t), 0, 0))
  refine hR (k_ne (by omega) (fun hc15 => ?_) (fun hc15 => ?_))
  rotate_left
  · skip
    refine hR (?_ : R (_, _, _, _, _, _))
    exact hR (zret_i rfl (Nat.le_refl _) trivial (h _ _ _ _ _ _ _ _ _ _ _ _ _ _ _ _ hp12 hp13 hb33 hb38))
  refine hR (?_ : R (_, _, _, _, _, _))
  refine hR (zcall_i 0 0 (Nat.le_of_ble_eq_true rfl) (Nat.le_of_ble_eq_true rfl) (m_findCircles _ hp13 hb33 hb38 (by omega) _ fun v16 k33_17 k38_18 k39_19 k40_20 k41_21 k42_22 k43_23 hp24 hp25 hp26 hp27 => ?_))
  refine (?_ : R (_, _, (.int (Int32.ofInt v16)) :: [], (zMi c0 c1 c2 c3 c4 c5 c6 c7 c8 c9 c10 c11 c12 c13 0 f9 f10 f11 f12 f13 f15 f16 f17 y20_5 y21_6 y22_7 y23_8 y26_9 f28 f31 f32 f33 f38 f41 f44 x14 g15 g16 g17 g18 g19 g20 g21 g22 g23 g24 k25_10 g26 g27 g28 g29 k30_11 g31 g32 k33_17 g34 g35 g36 g37 k38_18 k39_19 k40_20 k41_21 k42_22 k43_23 g44 t), 0, 0))
  iterate 3 refine hR (?_ : R (_, _, _, _, _, _))
  refine hR (j_ne (by omega) (by omega) (fun hc28 => ?_) (fun hc28 => ?_))
  rotate_left
  · skip
    refine hR (?_ : R (_, _, _, _, _, _))
    exact hR (zret_i rfl (Nat.le_refl _) trivial (h _ _ _ _ _ _ _ _ _ _ _ _ _ _ _ _ hp12 hp13 hp24 hp25))
  iterate 4 refine hR (?_ : R (_, _, _, _, _, _))
  have lp45 : ∀ (N : Nat) (mo : Int) (i : Int), (0 ≤ i ∧ i ≤ 5461) → (5461 - i < N) → R (45, [some (.ref 14), some (.int (Int32.ofInt a1)), some (.int (Int32.ofInt a2)), some (.int (Int32.ofInt v16)), some (.int (Int32.ofInt mo)), some (.int (Int32.ofInt i))], [], (zMi c0 c1 c2 c3 c4 c5 c6 c7 c8 c9 c10 c11 c12 c13 0 f9 f10 f11 f12 f13 f15 f16 f17 y20_5 y21_6 y22_7 y23_8 y26_9 f28 f31 f32 f33 f38 f41 f44 x14 g15 g16 g17 g18 g19 g20 g21 g22 g23 g24 k25_10 g26 g27 g28 g29 k30_11 g31 g32 k33_17 g34 g35 g36 g37 k38_18 k39_19 k40_20 k41_21 k42_22 k43_23 g44 t), 0, 0) := by
    intro N
    induction N with
    | zero => intros; omega
    | succ N ih45 =>
      intro mo i hf0_45 hN45
      iterate 2 refine hR (?_ : R (_, _, _, _, _, _))
      refine hR (j_ge (by omega) (by omega) (fun hc29 => ?_) (fun hc29 => ?_))
      rotate_left
      · skip
        iterate 4 refine hR (?_ : R (_, _, _, _, _, _))
        refine hR (t_ldo (by omega) (by omega) (Nat.le_of_ble_eq_true rfl) fun v33 rv33 => ?_)
        refine hR (zcall_i 0 0 (Nat.le_of_ble_eq_true rfl) (Nat.le_of_ble_eq_true rfl) (m_greaterx _ mo v33 _ _ fun v34 => ?_))
        refine (?_ : R (_, _, (.int (Int32.ofInt v34)) :: [], (zMi c0 c1 c2 c3 c4 c5 c6 c7 c8 c9 c10 c11 c12 c13 0 f9 f10 f11 f12 f13 f15 f16 f17 y20_5 y21_6 y22_7 y23_8 y26_9 f28 f31 f32 f33 f38 f41 f44 x14 g15 g16 g17 g18 g19 g20 g21 g22 g23 g24 k25_10 g26 g27 g28 g29 k30_11 g31 g32 k33_17 g34 g35 g36 g37 k38_18 k39_19 k40_20 k41_21 k42_22 k43_23 g44 t), 0, 0))
        refine hR (?_ : R (_, _, _, _, _, _))
        refine hR (t_inc ?_)
        refine hR (?_ : R (_, _, _, _, _, _))
        exact ih45 _ _ (by omega) (by omega)
      refine hR (?_ : R (_, _, _, _, _, _))
      refine hR (t_c (-2) (by decide) ?_)
      refine hR (j_ne (by omega) (by omega) (fun hc30 => ?_) (fun hc30 => ?_))
      rotate_left
      · skip
        iterate 2 refine hR (?_ : R (_, _, _, _, _, _))
        exact hR (zret_i rfl (Nat.le_refl _) trivial (h _ _ _ _ _ _ _ _ _ _ _ _ _ _ _ _ hp12 hp13 hp24 hp25))
      iterate 5 refine hR (?_ : R (_, _, _, _, _, _))
      refine hR (t_ldE (by omega) (by omega) (Nat.le_of_ble_eq_true rfl) fun v31 ev31 rv31 => ?_)
      have bv31 := hp27 a2.toNat (by omega)
      rw [← ev31] at bv31
      refine hR (t_ldo (by omega) (by omega) (Nat.le_of_ble_eq_true rfl) fun v32 rv32 => ?_)
      exact hR (zret_i rfl (Nat.le_refl _) trivial (h _ _ _ _ _ _ _ _ _ _ _ _ _ _ _ _ hp12 hp13 hp24 hp25))
  exact lp45 400000000 _ _ (by omega) (by omega)
end MZ
noncomputable def lvB (L : Nat → Int32) (j : Nat) : Prop := ∀ t : Nat, t < 5461 → 0 ≤ (L (5461 * j + t)).toInt ∧ (L (5461 * j + t)).toInt ≤ 12
noncomputable def lvG (L M : Nat → Int32) (rd : Int) (j : Nat) : Prop := ∀ t : Nat, t < 5461 → ∃ r : Nat, (r : Int) < rd ∧ (L (5461 * j + t)).toInt = (L (5461 * (j - 1) + (M (5461 * r + t)).toInt.toNat)).toInt
theorem zshl_r2 {e : Int} (h0 : 0 ≤ e) (h1 : e ≤ 5) : ∃ v : Int, 1 ≤ v ∧ v ≤ 32 ∧ Int32.ofInt 1 <<< (Int32.ofInt e &&& 31) = Int32.ofInt v ∧ v = 2 ^ e.toNat := by
  have h : e = 0 ∨ e = 1 ∨ e = 2 ∨ e = 3 ∨ e = 4 ∨ e = 5 := by omega
  rcases h with rfl | rfl | rfl | rfl | rfl | rfl
  · exact ⟨1, by omega, by omega, by decide, by decide⟩
  · exact ⟨2, by omega, by omega, by decide, by decide⟩
  · exact ⟨4, by omega, by omega, by decide, by decide⟩
  · exact ⟨8, by omega, by omega, by decide, by decide⟩
  · exact ⟨16, by omega, by omega, by decide, by decide⟩
  · exact ⟨32, by omega, by omega, by decide, by decide⟩
theorem lv_i {D : Nat → Int32} {i x : Int} (h : ∀ j : Nat, (j : Int) < i → 0 ≤ (D j).toInt ∧ (D j).toInt ≤ 12) (h0 : 0 ≤ i) (hx : 0 ≤ x) (hx2 : x ≤ 12) : ∀ j : Nat, (j : Int) < i + 1 → 0 ≤ (upd D i.toNat (Int32.ofInt x) j).toInt ∧ (upd D i.toNat (Int32.ofInt x) j).toInt ≤ 12 := by
  intro j hj
  by_cases e : j = i.toNat
  · subst e; rw [pk_us, zti (by omega) (by omega)]; omega
  · rw [pk_un e]; exact h j (by omega)
theorem lv_0 {D : Nat → Int32} {i : Int} (h : ∀ j : Nat, (j : Int) < i → 0 ≤ (D j).toInt ∧ (D j).toInt ≤ 12) (hi : 5461 ≤ i) : lvB D 0 := fun t ht => h (5461 * 0 + t) (by omega)
theorem bm_0 {D g : Nat → Int32} {a i x : Int} (h : ∀ j : Nat, (j : Int) < 5461 * a → D j = g j) (ha : 1 ≤ a) (hi : 0 ≤ i) : ∀ j : Nat, (j : Int) < 5461 * a → upd D (5461 * a + i).toNat (Int32.ofInt x) j = g j := by
  intro j hj
  rw [pk_un (by omega)]; exact h j hj
theorem bm_1 {D g M : Nat → Int32} {a i x rd r : Int} (h : ∀ t : Nat, (t : Int) < i → (0 ≤ (D (5461 * a.toNat + t)).toInt ∧ (D (5461 * a.toNat + t)).toInt ≤ 12) ∧ ∃ r : Nat, (r : Int) < rd ∧ (D (5461 * a.toNat + t)).toInt = (g (5461 * (a.toNat - 1) + (M (5461 * r + t)).toInt.toNat)).toInt) (ha : 1 ≤ a) (hi : 0 ≤ i) (hr : 1 ≤ r ∧ 0 ≤ x) (hx : (r = 0 ∧ x = 1000000) ∨ (x ≤ 12 ∧ ∃ r1 : Nat, (r1 : Int) < rd ∧ x = (g (5461 * (a.toNat - 1) + (M (5461 * r1 + i.toNat)).toInt.toNat)).toInt)) : ∀ t : Nat, (t : Int) < i + 1 → (0 ≤ (upd D (5461 * a + i).toNat (Int32.ofInt x) (5461 * a.toNat + t)).toInt ∧ (upd D (5461 * a + i).toNat (Int32.ofInt x) (5461 * a.toNat + t)).toInt ≤ 12) ∧ ∃ r : Nat, (r : Int) < rd ∧ (upd D (5461 * a + i).toNat (Int32.ofInt x) (5461 * a.toNat + t)).toInt = (g (5461 * (a.toNat - 1) + (M (5461 * r + t)).toInt.toNat)).toInt := by
  intro t ht
  by_cases e : t = i.toNat
  · rw [show 5461 * a.toNat + t = (5461 * a + i).toNat by omega, pk_us]
    rcases hx with ⟨q, -⟩ | ⟨q1, r1, q2, q3⟩
    · omega
    · rw [zti (by omega) (by omega)]
      exact ⟨by omega, r1, q2, by rw [e]; exact q3⟩
  · rw [pk_un (by omega)]; exact h t (by omega)
theorem bm_v {D g M : Nat → Int32} {a i r v1 v2 : Int} (h : ∀ j : Nat, (j : Int) < 5461 * a → D j = g j) (hl : lvB g (a.toNat - 1)) (hM : zB 0 5460 M) (ha : 1 ≤ a) (hi : 0 ≤ i) (hi2 : i ≤ 5460) (hr : 0 ≤ r) (e1 : v1 = (M (5461 * r + i).toNat).toInt) (e2 : v2 = (D (5461 * (a - 1) + v1).toNat).toInt) : v2 = (g (5461 * (a.toNat - 1) + (M (5461 * r.toNat + i.toNat)).toInt.toNat)).toInt ∧ 0 ≤ v2 ∧ v2 ≤ 12 := by
  have hm := hM (5461 * r + i).toNat
  have e3 : v2 = (g (5461 * (a.toNat - 1) + (M (5461 * r.toNat + i.toNat)).toInt.toNat)).toInt := by
    rw [e2, h _ (by omega), show 5461 * r.toNat + i.toNat = (5461 * r + i).toNat by omega, ← e1, show (5461 * (a - 1) + v1).toNat = 5461 * (a.toNat - 1) + v1.toNat by omega]
  refine ⟨e3, ?_⟩
  rw [e3]
  exact hl _ (by rw [show 5461 * r.toNat + i.toNat = (5461 * r + i).toNat by omega]; omega)
theorem bm_s {g M : Nat → Int32} {a i r rd x x' v2 : Int} (h : (r = 0 ∧ x = 1000000) ∨ (x ≤ 12 ∧ ∃ r1 : Nat, (r1 : Int) < rd ∧ x = (g (5461 * (a.toNat - 1) + (M (5461 * r1 + i.toNat)).toInt.toNat)).toInt)) (hr : 0 ≤ r) (hr2 : r < rd) (e : v2 = (g (5461 * (a.toNat - 1) + (M (5461 * r.toNat + i.toNat)).toInt.toNat)).toInt) (hx : x' ≤ x ∧ x' ≤ v2 ∧ (x' = x ∨ x' = v2) ∧ v2 ≤ 12) : (r + 1 = 0 ∧ x' = 1000000) ∨ (x' ≤ 12 ∧ ∃ r1 : Nat, (r1 : Int) < rd ∧ x' = (g (5461 * (a.toNat - 1) + (M (5461 * r1 + i.toNat)).toInt.toNat)).toInt) := by
  refine Or.inr ⟨by omega, ?_⟩
  rcases hx.2.2.1 with q | q
  · rcases h with ⟨q1, q2⟩ | ⟨q1, r1, q2, q3⟩
    · omega
    · exact ⟨r1, q2, by rw [q]; exact q3⟩
  · exact ⟨r.toNat, by omega, by rw [q]; exact e⟩
theorem bm_e {D g M : Nat → Int32} {a i rd : Int} (h0 : ∀ j : Nat, (j : Int) < 5461 * a → D j = g j) (h : ∀ t : Nat, (t : Int) < i → (0 ≤ (D (5461 * a.toNat + t)).toInt ∧ (D (5461 * a.toNat + t)).toInt ≤ 12) ∧ ∃ r : Nat, (r : Int) < rd ∧ (D (5461 * a.toNat + t)).toInt = (g (5461 * (a.toNat - 1) + (M (5461 * r + t)).toInt.toNat)).toInt) (hM : zB 0 5460 M) (ha : 1 ≤ a) (hi : 5461 ≤ i) : lvG D M rd a.toNat := by
  intro t ht
  obtain ⟨-, r, q1, q2⟩ := h t (by omega)
  refine ⟨r, q1, ?_⟩
  have hm := hM (5461 * r + t)
  rw [q2, h0 _ (by omega)]
theorem ra_ne {L M : Nat → Int32} {la a n i v1 v2 v3 : Int} {r0 : Nat} (h0 : 0 ≤ la) (ha : 0 ≤ a) (hn : i < n ∧ 0 ≤ v1) (e1 : v1 = (M (5461 * la + a).toNat).toInt) (e2 : v2 = (L (5461 * (n - i - 1) + v1).toNat).toInt) (e3 : v3 = (L (5461 * (n - i) + a).toNat).toInt) (hr : (L (5461 * (n - i).toNat + a.toNat)).toInt = (L (5461 * ((n - i).toNat - 1) + (M (5461 * r0 + a.toNat)).toInt.toNat)).toInt) (hc : ¬ v2 = v3) : la ≠ r0 := by
  intro e
  apply hc
  rw [e3, show (5461 * (n - i) + a).toNat = 5461 * (n - i).toNat + a.toNat by omega, hr, e2, show 5461 * r0 + a.toNat = (5461 * la + a).toNat by omega, ← e1, show (5461 * (n - i - 1) + v1).toNat = 5461 * ((n - i).toNat - 1) + v1.toNat by omega]
theorem rt_c {L : Nat → Int32} {k : Int} (h : lvB L (k - 1).toNat) (hk : 1 ≤ k) : lvB L (k.toNat - 1) := by
  rw [show k.toNat - 1 = (k - 1).toNat by omega]; exact h
theorem rt_b {L : Nat → Int32} {k : Int} (h : lvB L k.toNat) (hk : 1 ≤ k) : lvB L (k + 1 - 1).toNat := by
  rw [show (k + 1 - 1).toNat = k.toNat by omega]; exact h
theorem rt_g {L L' M : Nat → Int32} {k rd : Int} (hM : zB 0 5460 M) (h : ∀ j : Nat, 1 ≤ j → (j : Int) < k → lvG L M rd j) (h0 : ∀ j : Nat, (j : Int) < 5461 * k → L' j = L j) (h1 : lvG L' M rd k.toNat) (hk : 1 ≤ k) : ∀ j : Nat, 1 ≤ j → (j : Int) < k + 1 → lvG L' M rd j := by
  intro j hj1 hj2
  by_cases e : j = k.toNat
  · rw [e]; exact h1
  · intro t ht
    obtain ⟨r, q1, q2⟩ := h j hj1 (by omega) t ht
    have hm := hM (5461 * r + t)
    exact ⟨r, q1, by rw [h0 _ (by omega), h0 _ (by omega)]; exact q2⟩
section MZ
variable {c0 c1 c2 c3 c4 c5 c6 c7 c8 c9 c10 c11 c12 c13 : va_E} {f0 f9 f10 f11 f12 f13 f15 f16 f17 f20 f21 f22 f23 f26 f28 f31 f32 f33 f38 f41 f44 : Int} {x14 : Int64} {g15 g16 g17 g18 g19 g20 g21 g22 g23 g24 g25 g26 g27 g28 g29 g30 g31 g32 g33 g34 g35 g36 g37 g38 g39 g40 g41 g42 g43 g44 : Nat → Int32} {t : zW}
theorem m_hasE (d : Nat) (a1 a2 : Int) (hr0 : a1 = 2 ^ f23.toNat - 1) (hr1 : 1 ≤ f23 ∧ f23 ≤ 5) (hr2 : 0 ≤ a2 ∧ a2 < f23) (Q : zQ) (h : ∀ (v : Int), (v = 1) → Q (some (.int (Int32.ofInt v))) (zMi c0 c1 c2 c3 c4 c5 c6 c7 c8 c9 c10 c11 c12 c13 f0 f9 f10 f11 f12 f13 f15 f16 f17 f20 f21 f22 f23 f26 f28 f31 f32 f33 f38 f41 f44 x14 g15 g16 g17 g18 g19 g20 g21 g22 g23 g24 g25 g26 g27 g28 g29 g30 g31 g32 g33 g34 g35 g36 g37 g38 g39 g40 g41 g42 g43 g44 t)) : zCl zTab (d + 1) iX12_has [.int (Int32.ofInt a1), .int (Int32.ofInt a2)] (zMi c0 c1 c2 c3 c4 c5 c6 c7 c8 c9 c10 c11 c12 c13 f0 f9 f10 f11 f12 f13 f15 f16 f17 f20 f21 f22 f23 f26 f28 f31 f32 f33 f38 f41 f44 x14 g15 g16 g17 g18 g19 g20 g21 g22 g23 g24 g25 g26 g27 g28 g29 g30 g31 g32 g33 g34 g35 g36 g37 g38 g39 g40 g41 g42 g43 g44 t) 0 0 Q := by
  have key : (Int32.ofInt a1 >>> (Int32.ofInt a2 &&& 31)) &&& Int32.ofInt 1 = Int32.ofInt 1 := by
    have h : (f23 = 1 ∧ a2 = 0) ∨ (f23 = 2 ∧ a2 = 0) ∨ (f23 = 2 ∧ a2 = 1) ∨ (f23 = 3 ∧ a2 = 0) ∨ (f23 = 3 ∧ a2 = 1) ∨ (f23 = 3 ∧ a2 = 2) ∨ (f23 = 4 ∧ a2 = 0) ∨ (f23 = 4 ∧ a2 = 1) ∨ (f23 = 4 ∧ a2 = 2) ∨ (f23 = 4 ∧ a2 = 3) ∨ (f23 = 5 ∧ a2 = 0) ∨ (f23 = 5 ∧ a2 = 1) ∨ (f23 = 5 ∧ a2 = 2) ∨ (f23 = 5 ∧ a2 = 3) ∨ (f23 = 5 ∧ a2 = 4) := by omega
    rw [hr0]
    rcases h with ⟨q1, q2⟩ | ⟨q1, q2⟩ | ⟨q1, q2⟩ | ⟨q1, q2⟩ | ⟨q1, q2⟩ | ⟨q1, q2⟩ | ⟨q1, q2⟩ | ⟨q1, q2⟩ | ⟨q1, q2⟩ | ⟨q1, q2⟩ | ⟨q1, q2⟩ | ⟨q1, q2⟩ | ⟨q1, q2⟩ | ⟨q1, q2⟩ | ⟨q1, q2⟩ <;> rw [q1, q2] <;> decide
  refine zCl_i (M := kX12_has) rfl (Nat.le_of_ble_eq_true rfl) fun R hR => ?_
  iterate 4 refine hR (?_ : R (_, _, _, _, _, _))
  refine hR (t_c 1 key ?_)
  refine hR (?_ : R (_, _, _, _, _, _))
  refine hR (j_ne (by omega) (by omega) (fun hc => by omega) (fun _ => ?_))
  iterate 2 refine hR (?_ : R (_, _, _, _, _, _))
  exact hR (zret_i rfl (Nat.le_refl _) (zbo (by omega)) (h _ (by omega)))
theorem m_everybodyE (d : Nat) (hr0 : 0 ≤ f23 ∧ f23 ≤ 5) (Q : zQ) (h : ∀ (v : Int), (0 ≤ v ∧ v ≤ 31) → (v = 2 ^ f23.toNat - 1) → Q (some (.int (Int32.ofInt v))) (zMi c0 c1 c2 c3 c4 c5 c6 c7 c8 c9 c10 c11 c12 c13 f0 f9 f10 f11 f12 f13 f15 f16 f17 f20 f21 f22 f23 f26 f28 f31 f32 f33 f38 f41 f44 x14 g15 g16 g17 g18 g19 g20 g21 g22 g23 g24 g25 g26 g27 g28 g29 g30 g31 g32 g33 g34 g35 g36 g37 g38 g39 g40 g41 g42 g43 g44 t)) : zCl zTab (d + 1) iX12_everybody [.ref 14] (zMi c0 c1 c2 c3 c4 c5 c6 c7 c8 c9 c10 c11 c12 c13 f0 f9 f10 f11 f12 f13 f15 f16 f17 f20 f21 f22 f23 f26 f28 f31 f32 f33 f38 f41 f44 x14 g15 g16 g17 g18 g19 g20 g21 g22 g23 g24 g25 g26 g27 g28 g29 g30 g31 g32 g33 g34 g35 g36 g37 g38 g39 g40 g41 g42 g43 g44 t) 0 0 Q := by
  refine zCl_i (M := kX12_everybody) rfl (Nat.le_of_ble_eq_true rfl) fun R hR => ?_
  iterate 3 refine hR (?_ : R (_, _, _, _, _, _))
  obtain ⟨v1, lv1, uv1, qv1, xv1⟩ := zshl_r2 (e := f23) (by omega) (by omega)
  refine hR (t_c v1 qv1 ?_)
  refine hR (?_ : R (_, _, _, _, _, _))
  refine hR (t_sub ?_)
  exact hR (zret_i rfl (Nat.le_refl _) trivial (h _ (by omega) (by omega)))
theorem m_layDriftsT (d : Nat) (hb25 : zB 0 3 g25) (hb26 : zB 0 3 g26) (hr2 : 0 ≤ f22 ∧ f22 ≤ 5460) (Q : zQ) (h : ∀ (k25 : Nat → Int32) (k26 : Nat → Int32) (k27 : Nat → Int32) (k35 : Nat → Int32), zB 0 3 k25 → zB 0 3 k26 → (lvB k35 0) → Q (none) (zMi c0 c1 c2 c3 c4 c5 c6 c7 c8 c9 c10 c11 c12 c13 f0 f9 f10 f11 f12 f13 f15 f16 f17 f20 f21 f22 f23 f26 f28 f31 f32 f33 f38 f41 f44 x14 g15 g16 g17 g18 g19 g20 g21 g22 g23 g24 k25 k26 k27 g28 g29 g30 g31 g32 g33 g34 k35 g36 g37 g38 g39 g40 g41 g42 g43 g44 t)) : zCl zTab (d + 5) iX12_layDrifts [.ref 14] (zMi c0 c1 c2 c3 c4 c5 c6 c7 c8 c9 c10 c11 c12 c13 f0 f9 f10 f11 f12 f13 f15 f16 f17 f20 f21 f22 f23 f26 f28 f31 f32 f33 f38 f41 f44 x14 g15 g16 g17 g18 g19 g20 g21 g22 g23 g24 g25 g26 g27 g28 g29 g30 g31 g32 g33 g34 g35 g36 g37 g38 g39 g40 g41 g42 g43 g44 t) 0 0 Q := by
  refine zCl_i (M := kX12_layDrifts) rfl (Nat.le_of_ble_eq_true rfl) fun R hR => ?_
  iterate 2 refine hR (?_ : R (_, _, _, _, _, _))
  have lp2 : ∀ (N : Nat) (i : Int) (q25_2 : Nat → Int32) (q26_2 : Nat → Int32) (q27_2 : Nat → Int32) (q35_2 : Nat → Int32), (0 ≤ i ∧ i ≤ 5461) → (∀ j : Nat, (j : Int) < i → 0 ≤ (q35_2 j).toInt ∧ (q35_2 j).toInt ≤ 12) → (zB 0 3 q25_2) → (zB 0 3 q26_2) → (5461 - i < N) → R (2, [some (.ref 14), some (.int (Int32.ofInt i))], [], (zMi c0 c1 c2 c3 c4 c5 c6 c7 c8 c9 c10 c11 c12 c13 f0 f9 f10 f11 f12 f13 f15 f16 f17 f20 f21 f22 f23 f26 f28 f31 f32 f33 f38 f41 f44 x14 g15 g16 g17 g18 g19 g20 g21 g22 g23 g24 q25_2 q26_2 q27_2 g28 g29 g30 g31 g32 g33 g34 q35_2 g36 g37 g38 g39 g40 g41 g42 g43 g44 t), 0, 0) := by
    intro N
    induction N with
    | zero => intros; omega
    | succ N ih2 =>
      intro i q25_2 q26_2 q27_2 q35_2 hf0_2 hp0_2 hq25_2 hq26_2 hN2
      refine hR (?_ : R (_, _, _, _, _, _))
      refine hR (t_c 5461 (by decide) ?_)
      refine hR (j_ge (by omega) (by omega) (fun hc1 => ?_) (fun hc1 => ?_))
      · skip
        exact hR (zret_i rfl (Nat.le_refl _) rfl (h _ _ _ _ hq25_2 hq26_2 (lv_0 hp0_2 (by omega))))
      iterate 7 refine hR (?_ : R (_, _, _, _, _, _))
      refine hR (zcall_i 0 0 (Nat.le_of_ble_eq_true rfl) (Nat.le_of_ble_eq_true rfl) (m_apart _ i f22 hq25_2 hq26_2 (by omega) (by omega) _ fun v2 k25_3 k26_4 k27_5 hp6 hp7 hp8 hp9 => ?_))
      refine (?_ : R (_, _, (.int (Int32.ofInt v2)) :: (.int (Int32.ofInt i)) :: (.ref 35) :: [], (zMi c0 c1 c2 c3 c4 c5 c6 c7 c8 c9 c10 c11 c12 c13 f0 f9 f10 f11 f12 f13 f15 f16 f17 f20 f21 f22 f23 f26 f28 f31 f32 f33 f38 f41 f44 x14 g15 g16 g17 g18 g19 g20 g21 g22 g23 g24 k25_3 k26_4 k27_5 g28 g29 g30 g31 g32 g33 g34 q35_2 g36 g37 g38 g39 g40 g41 g42 g43 g44 t), 0, 0))
      refine hR (t_st (by omega) (by omega) (Nat.le_of_ble_eq_true rfl) (?_ : R (_, _, _, (zMi c0 c1 c2 c3 c4 c5 c6 c7 c8 c9 c10 c11 c12 c13 f0 f9 f10 f11 f12 f13 f15 f16 f17 f20 f21 f22 f23 f26 f28 f31 f32 f33 f38 f41 f44 x14 g15 g16 g17 g18 g19 g20 g21 g22 g23 g24 k25_3 k26_4 k27_5 g28 g29 g30 g31 g32 g33 g34 (upd q35_2 i.toNat (Int32.ofInt v2)) g36 g37 g38 g39 g40 g41 g42 g43 g44 t), _, _)))
      refine hR (t_inc ?_)
      refine hR (?_ : R (_, _, _, _, _, _))
      exact ih2 _ _ _ _ _ (by omega) (lv_i hp0_2 (by omega) (by omega) (by omega)) hp6 hp7 (by omega)
  exact lp2 400000000 _ _ _ _ _ (by omega) (fun j hj => by omega) hb25 hb26 (by omega)
theorem m_bestM (d : Nat) (a1 a2 : Int) (hb30 : zB 0 5460 g30) (hr1 : 1 ≤ f23 ∧ f23 ≤ 5) (hr2 : 1 ≤ a1 ∧ a1 ≤ 9) (hr3 : a2 = 2 ^ f23.toNat - 1) (hr4 : lvB g35 (a1.toNat - 1)) (Q : zQ) (h : ∀ (k35 : Nat → Int32), (∀ j : Nat, (j : Int) < 5461 * a1 → k35 j = g35 j) → (lvB k35 a1.toNat) → (lvG k35 g30 f23 a1.toNat) → Q (none) (zMi c0 c1 c2 c3 c4 c5 c6 c7 c8 c9 c10 c11 c12 c13 f0 f9 f10 f11 f12 f13 f15 f16 f17 f20 f21 f22 f23 f26 f28 f31 f32 f33 f38 f41 f44 x14 g15 g16 g17 g18 g19 g20 g21 g22 g23 g24 g25 g26 g27 g28 g29 g30 g31 g32 g33 g34 k35 g36 g37 g38 g39 g40 g41 g42 g43 g44 t)) : zCl zTab (d + 2) iX12_best [.ref 14, .int (Int32.ofInt a1), .int (Int32.ofInt a2), .int (Int32.ofInt 0)] (zMi c0 c1 c2 c3 c4 c5 c6 c7 c8 c9 c10 c11 c12 c13 f0 f9 f10 f11 f12 f13 f15 f16 f17 f20 f21 f22 f23 f26 f28 f31 f32 f33 f38 f41 f44 x14 g15 g16 g17 g18 g19 g20 g21 g22 g23 g24 g25 g26 g27 g28 g29 g30 g31 g32 g33 g34 g35 g36 g37 g38 g39 g40 g41 g42 g43 g44 t) 0 0 Q := by
  refine zCl_i (M := kX12_best) rfl (Nat.le_of_ble_eq_true rfl) fun R hR => ?_
  iterate 2 refine hR (?_ : R (_, _, _, _, _, _))
  have lp3 : ∀ (N : Nat) (i : Int) (o5_3 : Option Value) (o6_3 : Option Value) (o7_3 : Option Value) (q35_3 : Nat → Int32), (zc2 o5_3 = false) → (zc2 o6_3 = false) → (zc2 o7_3 = false) → (0 ≤ i ∧ i ≤ 5461) → (∀ j : Nat, (j : Int) < 5461 * a1 → q35_3 j = g35 j) → (∀ t : Nat, (t : Int) < i → (0 ≤ (q35_3 (5461 * a1.toNat + t)).toInt ∧ (q35_3 (5461 * a1.toNat + t)).toInt ≤ 12) ∧ ∃ r : Nat, (r : Int) < f23 ∧ (q35_3 (5461 * a1.toNat + t)).toInt = (g35 (5461 * (a1.toNat - 1) + (g30 (5461 * r + t)).toInt.toNat)).toInt) → (5461 - i < N) → R (3, [some (.ref 14), some (.int (Int32.ofInt a1)), some (.int (Int32.ofInt a2)), some (.int (Int32.ofInt 0)), some (.int (Int32.ofInt i)), o5_3, o6_3, o7_3], [], (zMi c0 c1 c2 c3 c4 c5 c6 c7 c8 c9 c10 c11 c12 c13 f0 f9 f10 f11 f12 f13 f15 f16 f17 f20 f21 f22 f23 f26 f28 f31 f32 f33 f38 f41 f44 x14 g15 g16 g17 g18 g19 g20 g21 g22 g23 g24 g25 g26 g27 g28 g29 g30 g31 g32 g33 g34 q35_3 g36 g37 g38 g39 g40 g41 g42 g43 g44 t), 0, 0) := by
    intro N
    induction N with
    | zero => intros; omega
    | succ N ih3 =>
      intro i o5_3 o6_3 o7_3 q35_3 hzo5_3 hzo6_3 hzo7_3 hf0_3 hp0_3 hp1_3 hN3
      refine hR (?_ : R (_, _, _, _, _, _))
      refine hR (t_c 5461 (by decide) ?_)
      refine hR (j_ge (by omega) (by omega) (fun hc1 => ?_) (fun hc1 => ?_))
      · skip
        exact hR (zret_i rfl (Nat.le_refl _) rfl (h _ hp0_3 (fun t ht => (hp1_3 t (by omega)).1) (bm_e hp0_3 hp1_3 hb30 (by omega) (by omega))))
      refine hR (?_ : R (_, _, _, _, _, _))
      refine hR (k_eq (by omega) (fun _ => ?_) (fun hc => by omega))
      refine hR (t_c 1000000 (by decide) ?_)
      iterate 3 refine hR (?_ : R (_, _, _, _, _, _))
      have lp27 : ∀ (N : Nat) (by_ : Int) (r : Int) (o7_27 : Option Value), (zc2 o7_27 = false) → (0 ≤ by_ ∧ by_ ≤ 1000000) → (0 ≤ r ∧ r ≤ f23) → ((r = 0 ∧ by_ = 1000000) ∨ (by_ ≤ 12 ∧ ∃ r1 : Nat, (r1 : Int) < f23 ∧ by_ = (g35 (5461 * (a1.toNat - 1) + (g30 (5461 * r1 + i.toNat)).toInt.toNat)).toInt)) → (f23 - r < N) → R (27, [some (.ref 14), some (.int (Int32.ofInt a1)), some (.int (Int32.ofInt a2)), some (.int (Int32.ofInt 0)), some (.int (Int32.ofInt i)), some (.int (Int32.ofInt by_)), some (.int (Int32.ofInt r)), o7_27], [], (zMi c0 c1 c2 c3 c4 c5 c6 c7 c8 c9 c10 c11 c12 c13 f0 f9 f10 f11 f12 f13 f15 f16 f17 f20 f21 f22 f23 f26 f28 f31 f32 f33 f38 f41 f44 x14 g15 g16 g17 g18 g19 g20 g21 g22 g23 g24 g25 g26 g27 g28 g29 g30 g31 g32 g33 g34 q35_3 g36 g37 g38 g39 g40 g41 g42 g43 g44 t), 0, 0) := by
        intro N
        induction N with
        | zero => intros; omega
        | succ N ih27 =>
          intro by_ r o7_27 hzo7_27 hf0_27 hf1_27 hp0_27 hN27
          iterate 3 refine hR (?_ : R (_, _, _, _, _, _))
          refine hR (j_ge (by omega) (by omega) (fun hc2 => ?_) (fun hc2 => ?_))
          · skip
            iterate 2 refine hR (?_ : R (_, _, _, _, _, _))
            refine hR (t_c 5461 (by decide) ?_)
            refine hR (?_ : R (_, _, _, _, _, _))
            refine hR (t_mul ?_)
            refine hR (?_ : R (_, _, _, _, _, _))
            refine hR (t_add ?_)
            refine hR (?_ : R (_, _, _, _, _, _))
            refine hR (t_st (by omega) (by omega) (Nat.le_of_ble_eq_true rfl) (?_ : R (_, _, _, (zMi c0 c1 c2 c3 c4 c5 c6 c7 c8 c9 c10 c11 c12 c13 f0 f9 f10 f11 f12 f13 f15 f16 f17 f20 f21 f22 f23 f26 f28 f31 f32 f33 f38 f41 f44 x14 g15 g16 g17 g18 g19 g20 g21 g22 g23 g24 g25 g26 g27 g28 g29 g30 g31 g32 g33 g34 (upd q35_3 ((5461 * a1) + i).toNat (Int32.ofInt by_)) g36 g37 g38 g39 g40 g41 g42 g43 g44 t), _, _)))
            refine hR (t_inc ?_)
            refine hR (?_ : R (_, _, _, _, _, _))
            exact ih3 _ _ _ _ _ (by rfl) (by rfl) hzo7_27 (by omega) (bm_0 hp0_3 (by omega) (by omega)) (bm_1 hp1_3 (by omega) (by omega) (by omega) hp0_27) (by omega)
          iterate 2 refine hR (?_ : R (_, _, _, _, _, _))
          refine hR (t_c 5461 (by decide) ?_)
          iterate 2 refine hR (?_ : R (_, _, _, _, _, _))
          refine hR (t_sub ?_)
          refine hR (t_mul ?_)
          iterate 2 refine hR (?_ : R (_, _, _, _, _, _))
          refine hR (t_c 5461 (by decide) ?_)
          refine hR (?_ : R (_, _, _, _, _, _))
          refine hR (t_mul ?_)
          refine hR (?_ : R (_, _, _, _, _, _))
          refine hR (t_add ?_)
          refine hR (t_ldB hb30 (by omega) (by omega) (Nat.le_of_ble_eq_true rfl) fun v4 ev4 lv4 uv4 => ?_)
          refine hR (t_add ?_)
          refine hR (t_ldE (by omega) (by omega) (Nat.le_of_ble_eq_true rfl) fun v5 ev5 rv5 => ?_)
          have dv5 := bm_v hp0_3 hr4 hb30 (by omega) (by omega) (by omega) (by omega) ev4 ev5
          have dv5b := dv5.2
          iterate 3 refine hR (?_ : R (_, _, _, _, _, _))
          refine hR (zcall_i 0 0 (Nat.le_of_ble_eq_true rfl) (Nat.le_of_ble_eq_true rfl) (m_hasE _ a2 r (by omega) (by omega) (by omega) _ fun v6 hp7 => ?_))
          refine (?_ : R (_, _, (.int (Int32.ofInt v6)) :: [], (zMi c0 c1 c2 c3 c4 c5 c6 c7 c8 c9 c10 c11 c12 c13 f0 f9 f10 f11 f12 f13 f15 f16 f17 f20 f21 f22 f23 f26 f28 f31 f32 f33 f38 f41 f44 x14 g15 g16 g17 g18 g19 g20 g21 g22 g23 g24 g25 g26 g27 g28 g29 g30 g31 g32 g33 g34 q35_3 g36 g37 g38 g39 g40 g41 g42 g43 g44 t), 0, 0))
          refine hR (k_ne (by omega) (fun hc8 => ?_) (fun hc8 => ?_))
          rotate_left
          · skip
            iterate 3 refine hR (?_ : R (_, _, _, _, _, _))
            refine hR (t_inc ?_)
            refine hR (?_ : R (_, _, _, _, _, _))
            exact ih27 _ _ _ (by rfl) (by omega) (by omega) (bm_s hp0_27 (by omega) (by omega) dv5.1 (by omega)) (by omega)
          refine hR (?_ : R (_, _, _, _, _, _))
          refine hR (k_eq (by omega) (fun _ => ?_) (fun hc => by omega))
          iterate 2 refine hR (?_ : R (_, _, _, _, _, _))
          refine hR (zcall_i 0 0 (Nat.le_of_ble_eq_true rfl) (Nat.le_of_ble_eq_true rfl) (m_lesser _ by_ v5 _ (by omega) (by omega) _ fun v9 hp10 => ?_))
          refine (?_ : R (_, _, (.int (Int32.ofInt v9)) :: [], (zMi c0 c1 c2 c3 c4 c5 c6 c7 c8 c9 c10 c11 c12 c13 f0 f9 f10 f11 f12 f13 f15 f16 f17 f20 f21 f22 f23 f26 f28 f31 f32 f33 f38 f41 f44 x14 g15 g16 g17 g18 g19 g20 g21 g22 g23 g24 g25 g26 g27 g28 g29 g30 g31 g32 g33 g34 q35_3 g36 g37 g38 g39 g40 g41 g42 g43 g44 t), 0, 0))
          refine hR (?_ : R (_, _, _, _, _, _))
          refine hR (t_inc ?_)
          refine hR (?_ : R (_, _, _, _, _, _))
          exact ih27 _ _ _ (by rfl) (by omega) (by omega) (bm_s hp0_27 (by omega) (by omega) dv5.1 (by omega)) (by omega)
      exact lp27 400000000 _ _ _ hzo7_3 (by omega) (by omega) (Or.inl ⟨rfl, rfl⟩) (by omega)
  exact lp3 400000000 _ _ _ _ _ (by rfl) (by rfl) (by rfl) (by omega) (fun j _ => rfl) (fun t ht => by omega) (by omega)
theorem m_rotaAt (d : Nat) (a1 a2 : Int) (hb30 : zB 0 5460 g30) (hr1 : 1 ≤ a1 ∧ a1 ≤ 9) (hr2 : 0 ≤ a2 ∧ a2 < a1) (hr3 : 1 ≤ f23 ∧ f23 ≤ 5) (hr4 : 0 ≤ f22 ∧ f22 ≤ 5460) (hr5 : ∀ j : Nat, 1 ≤ j → (j : Int) ≤ a1 → lvG g35 g30 f23 j) (Q : zQ) (h : ∀ (v : Int), Q (some (.int (Int32.ofInt v))) (zMi c0 c1 c2 c3 c4 c5 c6 c7 c8 c9 c10 c11 c12 c13 f0 f9 f10 f11 f12 f13 f15 f16 f17 f20 f21 f22 f23 f26 f28 f31 f32 f33 f38 f41 f44 x14 g15 g16 g17 g18 g19 g20 g21 g22 g23 g24 g25 g26 g27 g28 g29 g30 g31 g32 g33 g34 g35 g36 g37 g38 g39 g40 g41 g42 g43 g44 t)) : zCl zTab (d + 1) iX12_rotaAt [.ref 14, .int (Int32.ofInt a1), .int (Int32.ofInt a2)] (zMi c0 c1 c2 c3 c4 c5 c6 c7 c8 c9 c10 c11 c12 c13 f0 f9 f10 f11 f12 f13 f15 f16 f17 f20 f21 f22 f23 f26 f28 f31 f32 f33 f38 f41 f44 x14 g15 g16 g17 g18 g19 g20 g21 g22 g23 g24 g25 g26 g27 g28 g29 g30 g31 g32 g33 g34 g35 g36 g37 g38 g39 g40 g41 g42 g43 g44 t) 0 0 Q := by
  refine zCl_i (M := kX12_rotaAt) rfl (Nat.le_of_ble_eq_true rfl) fun R hR => ?_
  iterate 7 refine hR (?_ : R (_, _, _, _, _, _))
  have lp11 : ∀ (N : Nat) (at_ : Int) (la : Int) (i : Int), (0 ≤ at_ ∧ at_ ≤ 5460) → (0 ≤ i ∧ i ≤ a2 + 1) → (a2 + 1 - i < N) → R (11, [some (.ref 14), some (.int (Int32.ofInt a1)), some (.int (Int32.ofInt a2)), some (.int (Int32.ofInt at_)), some (.int (Int32.ofInt la)), some (.int (Int32.ofInt i))], [], (zMi c0 c1 c2 c3 c4 c5 c6 c7 c8 c9 c10 c11 c12 c13 f0 f9 f10 f11 f12 f13 f15 f16 f17 f20 f21 f22 f23 f26 f28 f31 f32 f33 f38 f41 f44 x14 g15 g16 g17 g18 g19 g20 g21 g22 g23 g24 g25 g26 g27 g28 g29 g30 g31 g32 g33 g34 g35 g36 g37 g38 g39 g40 g41 g42 g43 g44 t), 0, 0) := by
    intro N
    induction N with
    | zero => intros; omega
    | succ N ih11 =>
      intro at_ la i hf0_11 hf1_11 hN11
      iterate 2 refine hR (?_ : R (_, _, _, _, _, _))
      refine hR (j_gt (by omega) (by omega) (fun hc1 => ?_) (fun hc1 => ?_))
      · skip
        refine hR (?_ : R (_, _, _, _, _, _))
        exact hR (zret_i rfl (Nat.le_refl _) trivial (h _))
      obtain ⟨r0, hr0, hr1⟩ := hr5 (a1 - i).toNat (by omega) (by omega) at_.toNat (by omega)
      iterate 2 refine hR (?_ : R (_, _, _, _, _, _))
      have lp20 : ∀ (N : Nat) (la : Int), (0 ≤ la ∧ la ≤ r0) → (r0 - la < N) → R (20, [some (.ref 14), some (.int (Int32.ofInt a1)), some (.int (Int32.ofInt a2)), some (.int (Int32.ofInt at_)), some (.int (Int32.ofInt la)), some (.int (Int32.ofInt i))], [], (zMi c0 c1 c2 c3 c4 c5 c6 c7 c8 c9 c10 c11 c12 c13 f0 f9 f10 f11 f12 f13 f15 f16 f17 f20 f21 f22 f23 f26 f28 f31 f32 f33 f38 f41 f44 x14 g15 g16 g17 g18 g19 g20 g21 g22 g23 g24 g25 g26 g27 g28 g29 g30 g31 g32 g33 g34 g35 g36 g37 g38 g39 g40 g41 g42 g43 g44 t), 0, 0) := by
        intro N
        induction N with
        | zero => intros; omega
        | succ N ih20 =>
          intro la hf0_20 hN20
          iterate 2 refine hR (?_ : R (_, _, _, _, _, _))
          refine hR (t_c 5461 (by decide) ?_)
          iterate 2 refine hR (?_ : R (_, _, _, _, _, _))
          refine hR (t_sub ?_)
          refine hR (?_ : R (_, _, _, _, _, _))
          refine hR (t_sub ?_)
          refine hR (t_mul ?_)
          iterate 2 refine hR (?_ : R (_, _, _, _, _, _))
          refine hR (t_c 5461 (by decide) ?_)
          refine hR (?_ : R (_, _, _, _, _, _))
          refine hR (t_mul ?_)
          refine hR (?_ : R (_, _, _, _, _, _))
          refine hR (t_add ?_)
          refine hR (t_ldB hb30 (by omega) (by omega) (Nat.le_of_ble_eq_true rfl) fun v2 ev2 lv2 uv2 => ?_)
          refine hR (t_add ?_)
          refine hR (t_ldE (by omega) (by omega) (Nat.le_of_ble_eq_true rfl) fun v3 ev3 rv3 => ?_)
          iterate 2 refine hR (?_ : R (_, _, _, _, _, _))
          refine hR (t_c 5461 (by decide) ?_)
          iterate 2 refine hR (?_ : R (_, _, _, _, _, _))
          refine hR (t_sub ?_)
          refine hR (t_mul ?_)
          refine hR (?_ : R (_, _, _, _, _, _))
          refine hR (t_add ?_)
          refine hR (t_ldE (by omega) (by omega) (Nat.le_of_ble_eq_true rfl) fun v4 ev4 rv4 => ?_)
          refine hR (j_eq (by omega) (by omega) (fun hc5 => ?_) (fun hc5 => ?_))
          rotate_left
          · skip
            have hne : la ≠ r0 := ra_ne (by omega) (by omega) (by omega) ev2 ev3 ev4 hr1 (by omega)
            refine hR (t_inc ?_)
            refine hR (?_ : R (_, _, _, _, _, _))
            exact ih20 _ (by omega) (by omega)
          iterate 2 refine hR (?_ : R (_, _, _, _, _, _))
          refine hR (t_c 5461 (by decide) ?_)
          refine hR (?_ : R (_, _, _, _, _, _))
          refine hR (t_mul ?_)
          refine hR (?_ : R (_, _, _, _, _, _))
          refine hR (t_add ?_)
          refine hR (t_ldB hb30 (by omega) (by omega) (Nat.le_of_ble_eq_true rfl) fun v6 ev6 lv6 uv6 => ?_)
          refine hR (?_ : R (_, _, _, _, _, _))
          refine hR (t_inc ?_)
          refine hR (?_ : R (_, _, _, _, _, _))
          exact ih11 _ _ _ (by omega) (by omega) (by omega)
      exact lp20 400000000 _ (by omega) (by omega)
  exact lp11 400000000 _ _ _ (by omega) (by omega) (by omega)
theorem m_rota (d : Nat) (a1 a2 a3 : Int) (hb19 : zB 0 2 g19) (hb25 : zB 0 3 g25) (hb26 : zB 0 3 g26) (hb30 : zB 0 5460 g30) (hr4 : bkOK g20) (hr5 : -2147483648 ≤ a1 ∧ a1 ≤ 2147483647) (hr6 : -2147483648 ≤ a2 ∧ a2 ≤ 2147483647) (hr7 : -2147483648 ≤ a3 ∧ a3 ≤ 2147483647) (Q : zQ) (h : ∀ (v : Int) (y0 : Int) (y20 : Int) (y21 : Int) (y22 : Int) (y23 : Int) (y26 : Int) (k25 : Nat → Int32) (k26 : Nat → Int32) (k27 : Nat → Int32) (k30 : Nat → Int32) (k35 : Nat → Int32), zB 0 3 k25 → zB 0 3 k26 → zB 0 5460 k30 → Q (some (.int (Int32.ofInt v))) (zMi c0 c1 c2 c3 c4 c5 c6 c7 c8 c9 c10 c11 c12 c13 y0 f9 f10 f11 f12 f13 f15 f16 f17 y20 y21 y22 y23 y26 f28 f31 f32 f33 f38 f41 f44 x14 g15 g16 g17 g18 g19 g20 g21 g22 g23 g24 k25 k26 k27 g28 g29 k30 g31 g32 g33 g34 k35 g36 g37 g38 g39 g40 g41 g42 g43 g44 t)) : zCl zTab (d + 6) iX12_rota [.ref 14, .int (Int32.ofInt a1), .int (Int32.ofInt a2), .int (Int32.ofInt a3)] (zMi c0 c1 c2 c3 c4 c5 c6 c7 c8 c9 c10 c11 c12 c13 f0 f9 f10 f11 f12 f13 f15 f16 f17 f20 f21 f22 f23 f26 f28 f31 f32 f33 f38 f41 f44 x14 g15 g16 g17 g18 g19 g20 g21 g22 g23 g24 g25 g26 g27 g28 g29 g30 g31 g32 g33 g34 g35 g36 g37 g38 g39 g40 g41 g42 g43 g44 t) 0 0 Q := by
  refine zCl_i (M := kX12_rota) rfl (Nat.le_of_ble_eq_true rfl) fun R hR => ?_
  iterate 2 refine hR (?_ : R (_, _, _, _, _, _))
  refine hR (?_ : R (_, _, _, (zMi c0 c1 c2 c3 c4 c5 c6 c7 c8 c9 c10 c11 c12 c13 0 f9 f10 f11 f12 f13 f15 f16 f17 f20 f21 f22 f23 f26 f28 f31 f32 f33 f38 f41 f44 x14 g15 g16 g17 g18 g19 g20 g21 g22 g23 g24 g25 g26 g27 g28 g29 g30 g31 g32 g33 g34 g35 g36 g37 g38 g39 g40 g41 g42 g43 g44 t), _, _))
  iterate 2 refine hR (?_ : R (_, _, _, _, _, _))
  refine hR (t_c 9 (by decide) ?_)
  refine hR (zcall_i 0 0 (Nat.le_of_ble_eq_true rfl) (Nat.le_of_ble_eq_true rfl) (m_in _ a2 0 9 _ (by omega) (by omega) (by omega) _ fun v1 hp2 => ?_))
  refine (?_ : R (_, _, (.int (Int32.ofInt v1)) :: [], (zMi c0 c1 c2 c3 c4 c5 c6 c7 c8 c9 c10 c11 c12 c13 0 f9 f10 f11 f12 f13 f15 f16 f17 f20 f21 f22 f23 f26 f28 f31 f32 f33 f38 f41 f44 x14 g15 g16 g17 g18 g19 g20 g21 g22 g23 g24 g25 g26 g27 g28 g29 g30 g31 g32 g33 g34 g35 g36 g37 g38 g39 g40 g41 g42 g43 g44 t), 0, 0))
  refine hR (k_eq (by omega) (fun hc3 => ?_) (fun hc3 => ?_))
  · skip
    refine hR (?_ : R (_, _, _, _, _, _))
    exact hR (zret_i rfl (Nat.le_refl _) trivial (h _ _ _ _ _ _ _ _ _ _ _ _ hb25 hb26 hb30))
  iterate 2 refine hR (?_ : R (_, _, _, _, _, _))
  refine hR (zcall_i 0 0 (Nat.le_of_ble_eq_true rfl) (Nat.le_of_ble_eq_true rfl) (m_hand _ a1 hb19 hr4 (by omega) _ fun v4 y20_5 y22_6 y23_7 hp8 => ?_))
  refine (?_ : R (_, _, (.int (Int32.ofInt v4)) :: [], (zMi c0 c1 c2 c3 c4 c5 c6 c7 c8 c9 c10 c11 c12 c13 0 f9 f10 f11 f12 f13 f15 f16 f17 y20_5 f21 y22_6 y23_7 f26 f28 f31 f32 f33 f38 f41 f44 x14 g15 g16 g17 g18 g19 g20 g21 g22 g23 g24 g25 g26 g27 g28 g29 g30 g31 g32 g33 g34 g35 g36 g37 g38 g39 g40 g41 g42 g43 g44 t), 0, 0))
  refine hR (k_eq (by omega) (fun hc9 => ?_) (fun hc9 => ?_))
  · skip
    refine hR (?_ : R (_, _, _, _, _, _))
    exact hR (zret_i rfl (Nat.le_refl _) trivial (h _ _ _ _ _ _ _ _ _ _ _ _ hb25 hb26 hb30))
  iterate 2 refine hR (?_ : R (_, _, _, _, _, _))
  refine hR (k_ne (by omega) (fun hc10 => ?_) (fun hc10 => ?_))
  · skip
    iterate 3 refine hR (?_ : R (_, _, _, _, _, _))
    refine hR (zcall_i 0 0 (Nat.le_of_ble_eq_true rfl) (Nat.le_of_ble_eq_true rfl) (m_in _ a3 0 1 _ (by omega) (by omega) (by omega) _ fun v11 hp12 => ?_))
    refine (?_ : R (_, _, (.int (Int32.ofInt v11)) :: [], (zMi c0 c1 c2 c3 c4 c5 c6 c7 c8 c9 c10 c11 c12 c13 0 f9 f10 f11 f12 f13 f15 f16 f17 y20_5 f21 y22_6 y23_7 f26 f28 f31 f32 f33 f38 f41 f44 x14 g15 g16 g17 g18 g19 g20 g21 g22 g23 g24 g25 g26 g27 g28 g29 g30 g31 g32 g33 g34 g35 g36 g37 g38 g39 g40 g41 g42 g43 g44 t), 0, 0))
    refine hR (k_ne (by omega) (fun hc13 => ?_) (fun hc13 => ?_))
    · skip
      refine hR (?_ : R (_, _, _, _, _, _))
      refine hR (zcall_i 0 0 (Nat.le_of_ble_eq_true rfl) (Nat.le_of_ble_eq_true rfl) (m_layMade _ hb25 hb30 hr4 (by omega) (by omega) _ fun y21_14 y26_15 k25_16 k30_17 hp18 hp19 => ?_))
      refine (?_ : R (_, _, [], (zMi c0 c1 c2 c3 c4 c5 c6 c7 c8 c9 c10 c11 c12 c13 0 f9 f10 f11 f12 f13 f15 f16 f17 y20_5 y21_14 y22_6 y23_7 y26_15 f28 f31 f32 f33 f38 f41 f44 x14 g15 g16 g17 g18 g19 g20 g21 g22 g23 g24 k25_16 g26 g27 g28 g29 k30_17 g31 g32 g33 g34 g35 g36 g37 g38 g39 g40 g41 g42 g43 g44 t), 0, 0))
      refine hR (?_ : R (_, _, _, _, _, _))
      refine hR (zcall_i 0 0 (Nat.le_of_ble_eq_true rfl) (Nat.le_of_ble_eq_true rfl) (m_layDriftsT _ hp18 hb26 (by omega) _ fun k25_20 k26_21 k27_22 k35_23 hp24 hp25 hp26 => ?_))
      refine (?_ : R (_, _, [], (zMi c0 c1 c2 c3 c4 c5 c6 c7 c8 c9 c10 c11 c12 c13 0 f9 f10 f11 f12 f13 f15 f16 f17 y20_5 y21_14 y22_6 y23_7 y26_15 f28 f31 f32 f33 f38 f41 f44 x14 g15 g16 g17 g18 g19 g20 g21 g22 g23 g24 k25_20 k26_21 k27_22 g28 g29 k30_17 g31 g32 g33 g34 k35_23 g36 g37 g38 g39 g40 g41 g42 g43 g44 t), 0, 0))
      iterate 2 refine hR (?_ : R (_, _, _, _, _, _))
      have lp69 : ∀ (N : Nat) (k : Int) (q35_69 : Nat → Int32), (1 ≤ k ∧ k ≤ a2 + 1) → (a3 ≠ 1 → lvB q35_69 (k - 1).toNat) → (a3 ≠ 1 → ∀ j : Nat, 1 ≤ j → (j : Int) < k → lvG q35_69 k30_17 y23_7 j) → (a2 + 1 - k < N) → R (69, [some (.ref 14), some (.int (Int32.ofInt a1)), some (.int (Int32.ofInt a2)), some (.int (Int32.ofInt a3)), some (.int (Int32.ofInt k))], [], (zMi c0 c1 c2 c3 c4 c5 c6 c7 c8 c9 c10 c11 c12 c13 0 f9 f10 f11 f12 f13 f15 f16 f17 y20_5 y21_14 y22_6 y23_7 y26_15 f28 f31 f32 f33 f38 f41 f44 x14 g15 g16 g17 g18 g19 g20 g21 g22 g23 g24 k25_20 k26_21 k27_22 g28 g29 k30_17 g31 g32 g33 g34 q35_69 g36 g37 g38 g39 g40 g41 g42 g43 g44 t), 0, 0) := by
        intro N
        induction N with
        | zero => intros; omega
        | succ N ih69 =>
          intro k q35_69 hf0_69 hp0_69 hp1_69 hN69
          iterate 2 refine hR (?_ : R (_, _, _, _, _, _))
          refine hR (j_gt (by omega) (by omega) (fun hc27 => ?_) (fun hc27 => ?_))
          · skip
            iterate 2 refine hR (?_ : R (_, _, _, _, _, _))
            refine hR (j_ge (by omega) (by omega) (fun hc28 => ?_) (fun hc28 => ?_))
            · skip
              iterate 3 refine hR (?_ : R (_, _, _, _, _, _))
              refine hR (t_c 10 (by decide) ?_)
              refine hR (t_sub ?_)
              refine hR (zcall_i 0 0 (Nat.le_of_ble_eq_true rfl) (Nat.le_of_ble_eq_true rfl) (m_rotaAt _ a2 (a3 - 10) hp19 (by omega) (by omega) (by omega) (by omega) (fun j h1 h2 => hp1_69 (by omega) j h1 (by omega)) _ fun v29 => ?_))
              refine (?_ : R (_, _, (.int (Int32.ofInt v29)) :: [], (zMi c0 c1 c2 c3 c4 c5 c6 c7 c8 c9 c10 c11 c12 c13 0 f9 f10 f11 f12 f13 f15 f16 f17 y20_5 y21_14 y22_6 y23_7 y26_15 f28 f31 f32 f33 f38 f41 f44 x14 g15 g16 g17 g18 g19 g20 g21 g22 g23 g24 k25_20 k26_21 k27_22 g28 g29 k30_17 g31 g32 g33 g34 q35_69 g36 g37 g38 g39 g40 g41 g42 g43 g44 t), 0, 0))
              exact hR (zret_i rfl (Nat.le_refl _) trivial (h _ _ _ _ _ _ _ _ _ _ _ _ hp24 hp25 hp19))
            iterate 2 refine hR (?_ : R (_, _, _, _, _, _))
            refine hR (t_c 5461 (by decide) ?_)
            refine hR (?_ : R (_, _, _, _, _, _))
            refine hR (t_mul ?_)
            iterate 2 refine hR (?_ : R (_, _, _, _, _, _))
            refine hR (t_add ?_)
            refine hR (t_ldE (by omega) (by omega) (Nat.le_of_ble_eq_true rfl) fun v30 ev30 rv30 => ?_)
            refine hR (?_ : R (_, _, _, _, _, _))
            exact hR (zret_i rfl (Nat.le_refl _) trivial (h _ _ _ _ _ _ _ _ _ _ _ _ hp24 hp25 hp19))
          iterate 3 refine hR (?_ : R (_, _, _, _, _, _))
          refine hR (zcall_i 0 0 (Nat.le_of_ble_eq_true rfl) (Nat.le_of_ble_eq_true rfl) (m_everybodyE _ (by omega) _ fun v31 hp32 hp33 => ?_))
          refine (?_ : R (_, _, (.int (Int32.ofInt v31)) :: (.int (Int32.ofInt k)) :: (.ref 14) :: [], (zMi c0 c1 c2 c3 c4 c5 c6 c7 c8 c9 c10 c11 c12 c13 0 f9 f10 f11 f12 f13 f15 f16 f17 y20_5 y21_14 y22_6 y23_7 y26_15 f28 f31 f32 f33 f38 f41 f44 x14 g15 g16 g17 g18 g19 g20 g21 g22 g23 g24 k25_20 k26_21 k27_22 g28 g29 k30_17 g31 g32 g33 g34 q35_69 g36 g37 g38 g39 g40 g41 g42 g43 g44 t), 0, 0))
          iterate 2 refine hR (?_ : R (_, _, _, _, _, _))
          refine hR (j_ne (by omega) (by omega) (fun hc34 => ?_) (fun hc34 => ?_))
          · skip
            refine hR (?_ : R (_, _, _, _, _, _))
            refine hR (zcall_i 0 0 (Nat.le_of_ble_eq_true rfl) (Nat.le_of_ble_eq_true rfl) (m_bestM _ k v31 hp19 (by omega) (by omega) (by omega) (rt_c (hp0_69 (by omega)) (by omega)) _ fun k35_35 hp36 hp37 hp38 => ?_))
            refine (?_ : R (_, _, [], (zMi c0 c1 c2 c3 c4 c5 c6 c7 c8 c9 c10 c11 c12 c13 0 f9 f10 f11 f12 f13 f15 f16 f17 y20_5 y21_14 y22_6 y23_7 y26_15 f28 f31 f32 f33 f38 f41 f44 x14 g15 g16 g17 g18 g19 g20 g21 g22 g23 g24 k25_20 k26_21 k27_22 g28 g29 k30_17 g31 g32 g33 g34 k35_35 g36 g37 g38 g39 g40 g41 g42 g43 g44 t), 0, 0))
            refine hR (t_inc ?_)
            refine hR (?_ : R (_, _, _, _, _, _))
            exact ih69 _ _ (by omega) (fun _ => rt_b hp37 (by omega)) (fun _ => rt_g hp19 (hp1_69 (by omega)) hp36 hp38 (by omega)) (by omega)
          iterate 2 refine hR (?_ : R (_, _, _, _, _, _))
          refine hR (zcall_i 0 0 (Nat.le_of_ble_eq_true rfl) (Nat.le_of_ble_eq_true rfl) (m_best _ k v31 1 hp19 (by omega) (by omega) (by omega) _ fun k35_39 => ?_))
          refine (?_ : R (_, _, [], (zMi c0 c1 c2 c3 c4 c5 c6 c7 c8 c9 c10 c11 c12 c13 0 f9 f10 f11 f12 f13 f15 f16 f17 y20_5 y21_14 y22_6 y23_7 y26_15 f28 f31 f32 f33 f38 f41 f44 x14 g15 g16 g17 g18 g19 g20 g21 g22 g23 g24 k25_20 k26_21 k27_22 g28 g29 k30_17 g31 g32 g33 g34 k35_39 g36 g37 g38 g39 g40 g41 g42 g43 g44 t), 0, 0))
          refine hR (t_inc ?_)
          refine hR (?_ : R (_, _, _, _, _, _))
          exact ih69 _ _ (by omega) (fun h => by omega) (fun h => by omega) (by omega)
      exact lp69 400000000 _ _ (by omega) (fun _ => hp26) (fun _ j h1 h2 => by omega) (by omega)
    refine hR (?_ : R (_, _, _, _, _, _))
    refine hR (t_c 10 (by decide) ?_)
    refine hR (t_c 9 (by decide) ?_)
    refine hR (?_ : R (_, _, _, _, _, _))
    refine hR (t_add ?_)
    refine hR (zcall_i 0 0 (Nat.le_of_ble_eq_true rfl) (Nat.le_of_ble_eq_true rfl) (m_in _ a3 10 (9 + a2) _ (by omega) (by omega) (by omega) _ fun v40 hp41 => ?_))
    refine (?_ : R (_, _, (.int (Int32.ofInt v40)) :: [], (zMi c0 c1 c2 c3 c4 c5 c6 c7 c8 c9 c10 c11 c12 c13 0 f9 f10 f11 f12 f13 f15 f16 f17 y20_5 f21 y22_6 y23_7 f26 f28 f31 f32 f33 f38 f41 f44 x14 g15 g16 g17 g18 g19 g20 g21 g22 g23 g24 g25 g26 g27 g28 g29 g30 g31 g32 g33 g34 g35 g36 g37 g38 g39 g40 g41 g42 g43 g44 t), 0, 0))
    refine hR (k_ne (by omega) (fun hc42 => ?_) (fun hc42 => ?_))
    rotate_left
    · skip
      refine hR (?_ : R (_, _, _, _, _, _))
      exact hR (zret_i rfl (Nat.le_refl _) trivial (h _ _ _ _ _ _ _ _ _ _ _ _ hb25 hb26 hb30))
    refine hR (?_ : R (_, _, _, _, _, _))
    refine hR (zcall_i 0 0 (Nat.le_of_ble_eq_true rfl) (Nat.le_of_ble_eq_true rfl) (m_layMade _ hb25 hb30 hr4 (by omega) (by omega) _ fun y21_43 y26_44 k25_45 k30_46 hp47 hp48 => ?_))
    refine (?_ : R (_, _, [], (zMi c0 c1 c2 c3 c4 c5 c6 c7 c8 c9 c10 c11 c12 c13 0 f9 f10 f11 f12 f13 f15 f16 f17 y20_5 y21_43 y22_6 y23_7 y26_44 f28 f31 f32 f33 f38 f41 f44 x14 g15 g16 g17 g18 g19 g20 g21 g22 g23 g24 k25_45 g26 g27 g28 g29 k30_46 g31 g32 g33 g34 g35 g36 g37 g38 g39 g40 g41 g42 g43 g44 t), 0, 0))
    refine hR (?_ : R (_, _, _, _, _, _))
    refine hR (zcall_i 0 0 (Nat.le_of_ble_eq_true rfl) (Nat.le_of_ble_eq_true rfl) (m_layDriftsT _ hp47 hb26 (by omega) _ fun k25_49 k26_50 k27_51 k35_52 hp53 hp54 hp55 => ?_))
    refine (?_ : R (_, _, [], (zMi c0 c1 c2 c3 c4 c5 c6 c7 c8 c9 c10 c11 c12 c13 0 f9 f10 f11 f12 f13 f15 f16 f17 y20_5 y21_43 y22_6 y23_7 y26_44 f28 f31 f32 f33 f38 f41 f44 x14 g15 g16 g17 g18 g19 g20 g21 g22 g23 g24 k25_49 k26_50 k27_51 g28 g29 k30_46 g31 g32 g33 g34 k35_52 g36 g37 g38 g39 g40 g41 g42 g43 g44 t), 0, 0))
    iterate 2 refine hR (?_ : R (_, _, _, _, _, _))
    have lp69 : ∀ (N : Nat) (k : Int) (q35_69 : Nat → Int32), (1 ≤ k ∧ k ≤ a2 + 1) → (a3 ≠ 1 → lvB q35_69 (k - 1).toNat) → (a3 ≠ 1 → ∀ j : Nat, 1 ≤ j → (j : Int) < k → lvG q35_69 k30_46 y23_7 j) → (a2 + 1 - k < N) → R (69, [some (.ref 14), some (.int (Int32.ofInt a1)), some (.int (Int32.ofInt a2)), some (.int (Int32.ofInt a3)), some (.int (Int32.ofInt k))], [], (zMi c0 c1 c2 c3 c4 c5 c6 c7 c8 c9 c10 c11 c12 c13 0 f9 f10 f11 f12 f13 f15 f16 f17 y20_5 y21_43 y22_6 y23_7 y26_44 f28 f31 f32 f33 f38 f41 f44 x14 g15 g16 g17 g18 g19 g20 g21 g22 g23 g24 k25_49 k26_50 k27_51 g28 g29 k30_46 g31 g32 g33 g34 q35_69 g36 g37 g38 g39 g40 g41 g42 g43 g44 t), 0, 0) := by
      intro N
      induction N with
      | zero => intros; omega
      | succ N ih69 =>
        intro k q35_69 hf0_69 hp0_69 hp1_69 hN69
        iterate 2 refine hR (?_ : R (_, _, _, _, _, _))
        refine hR (j_gt (by omega) (by omega) (fun hc56 => ?_) (fun hc56 => ?_))
        · skip
          iterate 2 refine hR (?_ : R (_, _, _, _, _, _))
          refine hR (j_ge (by omega) (by omega) (fun hc57 => ?_) (fun hc57 => ?_))
          · skip
            iterate 3 refine hR (?_ : R (_, _, _, _, _, _))
            refine hR (t_c 10 (by decide) ?_)
            refine hR (t_sub ?_)
            refine hR (zcall_i 0 0 (Nat.le_of_ble_eq_true rfl) (Nat.le_of_ble_eq_true rfl) (m_rotaAt _ a2 (a3 - 10) hp48 (by omega) (by omega) (by omega) (by omega) (fun j h1 h2 => hp1_69 (by omega) j h1 (by omega)) _ fun v58 => ?_))
            refine (?_ : R (_, _, (.int (Int32.ofInt v58)) :: [], (zMi c0 c1 c2 c3 c4 c5 c6 c7 c8 c9 c10 c11 c12 c13 0 f9 f10 f11 f12 f13 f15 f16 f17 y20_5 y21_43 y22_6 y23_7 y26_44 f28 f31 f32 f33 f38 f41 f44 x14 g15 g16 g17 g18 g19 g20 g21 g22 g23 g24 k25_49 k26_50 k27_51 g28 g29 k30_46 g31 g32 g33 g34 q35_69 g36 g37 g38 g39 g40 g41 g42 g43 g44 t), 0, 0))
            exact hR (zret_i rfl (Nat.le_refl _) trivial (h _ _ _ _ _ _ _ _ _ _ _ _ hp53 hp54 hp48))
          iterate 2 refine hR (?_ : R (_, _, _, _, _, _))
          refine hR (t_c 5461 (by decide) ?_)
          refine hR (?_ : R (_, _, _, _, _, _))
          refine hR (t_mul ?_)
          iterate 2 refine hR (?_ : R (_, _, _, _, _, _))
          refine hR (t_add ?_)
          refine hR (t_ldE (by omega) (by omega) (Nat.le_of_ble_eq_true rfl) fun v59 ev59 rv59 => ?_)
          refine hR (?_ : R (_, _, _, _, _, _))
          exact hR (zret_i rfl (Nat.le_refl _) trivial (h _ _ _ _ _ _ _ _ _ _ _ _ hp53 hp54 hp48))
        iterate 3 refine hR (?_ : R (_, _, _, _, _, _))
        refine hR (zcall_i 0 0 (Nat.le_of_ble_eq_true rfl) (Nat.le_of_ble_eq_true rfl) (m_everybodyE _ (by omega) _ fun v60 hp61 hp62 => ?_))
        refine (?_ : R (_, _, (.int (Int32.ofInt v60)) :: (.int (Int32.ofInt k)) :: (.ref 14) :: [], (zMi c0 c1 c2 c3 c4 c5 c6 c7 c8 c9 c10 c11 c12 c13 0 f9 f10 f11 f12 f13 f15 f16 f17 y20_5 y21_43 y22_6 y23_7 y26_44 f28 f31 f32 f33 f38 f41 f44 x14 g15 g16 g17 g18 g19 g20 g21 g22 g23 g24 k25_49 k26_50 k27_51 g28 g29 k30_46 g31 g32 g33 g34 q35_69 g36 g37 g38 g39 g40 g41 g42 g43 g44 t), 0, 0))
        iterate 2 refine hR (?_ : R (_, _, _, _, _, _))
        refine hR (j_ne (by omega) (by omega) (fun hc63 => ?_) (fun hc63 => ?_))
        · skip
          refine hR (?_ : R (_, _, _, _, _, _))
          refine hR (zcall_i 0 0 (Nat.le_of_ble_eq_true rfl) (Nat.le_of_ble_eq_true rfl) (m_bestM _ k v60 hp48 (by omega) (by omega) (by omega) (rt_c (hp0_69 (by omega)) (by omega)) _ fun k35_64 hp65 hp66 hp67 => ?_))
          refine (?_ : R (_, _, [], (zMi c0 c1 c2 c3 c4 c5 c6 c7 c8 c9 c10 c11 c12 c13 0 f9 f10 f11 f12 f13 f15 f16 f17 y20_5 y21_43 y22_6 y23_7 y26_44 f28 f31 f32 f33 f38 f41 f44 x14 g15 g16 g17 g18 g19 g20 g21 g22 g23 g24 k25_49 k26_50 k27_51 g28 g29 k30_46 g31 g32 g33 g34 k35_64 g36 g37 g38 g39 g40 g41 g42 g43 g44 t), 0, 0))
          refine hR (t_inc ?_)
          refine hR (?_ : R (_, _, _, _, _, _))
          exact ih69 _ _ (by omega) (fun _ => rt_b hp66 (by omega)) (fun _ => rt_g hp48 (hp1_69 (by omega)) hp65 hp67 (by omega)) (by omega)
        iterate 2 refine hR (?_ : R (_, _, _, _, _, _))
        refine hR (zcall_i 0 0 (Nat.le_of_ble_eq_true rfl) (Nat.le_of_ble_eq_true rfl) (m_best _ k v60 1 hp48 (by omega) (by omega) (by omega) _ fun k35_68 => ?_))
        refine (?_ : R (_, _, [], (zMi c0 c1 c2 c3 c4 c5 c6 c7 c8 c9 c10 c11 c12 c13 0 f9 f10 f11 f12 f13 f15 f16 f17 y20_5 y21_43 y22_6 y23_7 y26_44 f28 f31 f32 f33 f38 f41 f44 x14 g15 g16 g17 g18 g19 g20 g21 g22 g23 g24 k25_49 k26_50 k27_51 g28 g29 k30_46 g31 g32 g33 g34 k35_68 g36 g37 g38 g39 g40 g41 g42 g43 g44 t), 0, 0))
        refine hR (t_inc ?_)
        refine hR (?_ : R (_, _, _, _, _, _))
        exact ih69 _ _ (by omega) (fun h => by omega) (fun h => by omega) (by omega)
    exact lp69 400000000 _ _ (by omega) (fun _ => hp55) (fun _ j h1 h2 => by omega) (by omega)
  refine hR (?_ : R (_, _, _, _, _, _))
  refine hR (k_gt (by omega) (fun hc69 => ?_) (fun hc69 => ?_))
  · skip
    refine hR (?_ : R (_, _, _, _, _, _))
    exact hR (zret_i rfl (Nat.le_refl _) trivial (h _ _ _ _ _ _ _ _ _ _ _ _ hb25 hb26 hb30))
  iterate 3 refine hR (?_ : R (_, _, _, _, _, _))
  refine hR (zcall_i 0 0 (Nat.le_of_ble_eq_true rfl) (Nat.le_of_ble_eq_true rfl) (m_in _ a3 0 1 _ (by omega) (by omega) (by omega) _ fun v70 hp71 => ?_))
  refine (?_ : R (_, _, (.int (Int32.ofInt v70)) :: [], (zMi c0 c1 c2 c3 c4 c5 c6 c7 c8 c9 c10 c11 c12 c13 0 f9 f10 f11 f12 f13 f15 f16 f17 y20_5 f21 y22_6 y23_7 f26 f28 f31 f32 f33 f38 f41 f44 x14 g15 g16 g17 g18 g19 g20 g21 g22 g23 g24 g25 g26 g27 g28 g29 g30 g31 g32 g33 g34 g35 g36 g37 g38 g39 g40 g41 g42 g43 g44 t), 0, 0))
  refine hR (k_ne (by omega) (fun hc72 => ?_) (fun hc72 => ?_))
  · skip
    refine hR (?_ : R (_, _, _, _, _, _))
    refine hR (zcall_i 0 0 (Nat.le_of_ble_eq_true rfl) (Nat.le_of_ble_eq_true rfl) (m_layMade _ hb25 hb30 hr4 (by omega) (by omega) _ fun y21_73 y26_74 k25_75 k30_76 hp77 hp78 => ?_))
    refine (?_ : R (_, _, [], (zMi c0 c1 c2 c3 c4 c5 c6 c7 c8 c9 c10 c11 c12 c13 0 f9 f10 f11 f12 f13 f15 f16 f17 y20_5 y21_73 y22_6 y23_7 y26_74 f28 f31 f32 f33 f38 f41 f44 x14 g15 g16 g17 g18 g19 g20 g21 g22 g23 g24 k25_75 g26 g27 g28 g29 k30_76 g31 g32 g33 g34 g35 g36 g37 g38 g39 g40 g41 g42 g43 g44 t), 0, 0))
    refine hR (?_ : R (_, _, _, _, _, _))
    refine hR (zcall_i 0 0 (Nat.le_of_ble_eq_true rfl) (Nat.le_of_ble_eq_true rfl) (m_layDriftsT _ hp77 hb26 (by omega) _ fun k25_79 k26_80 k27_81 k35_82 hp83 hp84 hp85 => ?_))
    refine (?_ : R (_, _, [], (zMi c0 c1 c2 c3 c4 c5 c6 c7 c8 c9 c10 c11 c12 c13 0 f9 f10 f11 f12 f13 f15 f16 f17 y20_5 y21_73 y22_6 y23_7 y26_74 f28 f31 f32 f33 f38 f41 f44 x14 g15 g16 g17 g18 g19 g20 g21 g22 g23 g24 k25_79 k26_80 k27_81 g28 g29 k30_76 g31 g32 g33 g34 k35_82 g36 g37 g38 g39 g40 g41 g42 g43 g44 t), 0, 0))
    iterate 2 refine hR (?_ : R (_, _, _, _, _, _))
    have lp69 : ∀ (N : Nat) (k : Int) (q35_69 : Nat → Int32), (1 ≤ k ∧ k ≤ a2 + 1) → (a3 ≠ 1 → lvB q35_69 (k - 1).toNat) → (a3 ≠ 1 → ∀ j : Nat, 1 ≤ j → (j : Int) < k → lvG q35_69 k30_76 y23_7 j) → (a2 + 1 - k < N) → R (69, [some (.ref 14), some (.int (Int32.ofInt a1)), some (.int (Int32.ofInt a2)), some (.int (Int32.ofInt a3)), some (.int (Int32.ofInt k))], [], (zMi c0 c1 c2 c3 c4 c5 c6 c7 c8 c9 c10 c11 c12 c13 0 f9 f10 f11 f12 f13 f15 f16 f17 y20_5 y21_73 y22_6 y23_7 y26_74 f28 f31 f32 f33 f38 f41 f44 x14 g15 g16 g17 g18 g19 g20 g21 g22 g23 g24 k25_79 k26_80 k27_81 g28 g29 k30_76 g31 g32 g33 g34 q35_69 g36 g37 g38 g39 g40 g41 g42 g43 g44 t), 0, 0) := by
      intro N
      induction N with
      | zero => intros; omega
      | succ N ih69 =>
        intro k q35_69 hf0_69 hp0_69 hp1_69 hN69
        iterate 2 refine hR (?_ : R (_, _, _, _, _, _))
        refine hR (j_gt (by omega) (by omega) (fun hc86 => ?_) (fun hc86 => ?_))
        · skip
          iterate 2 refine hR (?_ : R (_, _, _, _, _, _))
          refine hR (j_ge (by omega) (by omega) (fun hc87 => ?_) (fun hc87 => ?_))
          · skip
            iterate 3 refine hR (?_ : R (_, _, _, _, _, _))
            refine hR (t_c 10 (by decide) ?_)
            refine hR (t_sub ?_)
            refine hR (zcall_i 0 0 (Nat.le_of_ble_eq_true rfl) (Nat.le_of_ble_eq_true rfl) (m_rotaAt _ a2 (a3 - 10) hp78 (by omega) (by omega) (by omega) (by omega) (fun j h1 h2 => hp1_69 (by omega) j h1 (by omega)) _ fun v88 => ?_))
            refine (?_ : R (_, _, (.int (Int32.ofInt v88)) :: [], (zMi c0 c1 c2 c3 c4 c5 c6 c7 c8 c9 c10 c11 c12 c13 0 f9 f10 f11 f12 f13 f15 f16 f17 y20_5 y21_73 y22_6 y23_7 y26_74 f28 f31 f32 f33 f38 f41 f44 x14 g15 g16 g17 g18 g19 g20 g21 g22 g23 g24 k25_79 k26_80 k27_81 g28 g29 k30_76 g31 g32 g33 g34 q35_69 g36 g37 g38 g39 g40 g41 g42 g43 g44 t), 0, 0))
            exact hR (zret_i rfl (Nat.le_refl _) trivial (h _ _ _ _ _ _ _ _ _ _ _ _ hp83 hp84 hp78))
          iterate 2 refine hR (?_ : R (_, _, _, _, _, _))
          refine hR (t_c 5461 (by decide) ?_)
          refine hR (?_ : R (_, _, _, _, _, _))
          refine hR (t_mul ?_)
          iterate 2 refine hR (?_ : R (_, _, _, _, _, _))
          refine hR (t_add ?_)
          refine hR (t_ldE (by omega) (by omega) (Nat.le_of_ble_eq_true rfl) fun v89 ev89 rv89 => ?_)
          refine hR (?_ : R (_, _, _, _, _, _))
          exact hR (zret_i rfl (Nat.le_refl _) trivial (h _ _ _ _ _ _ _ _ _ _ _ _ hp83 hp84 hp78))
        iterate 3 refine hR (?_ : R (_, _, _, _, _, _))
        refine hR (zcall_i 0 0 (Nat.le_of_ble_eq_true rfl) (Nat.le_of_ble_eq_true rfl) (m_everybodyE _ (by omega) _ fun v90 hp91 hp92 => ?_))
        refine (?_ : R (_, _, (.int (Int32.ofInt v90)) :: (.int (Int32.ofInt k)) :: (.ref 14) :: [], (zMi c0 c1 c2 c3 c4 c5 c6 c7 c8 c9 c10 c11 c12 c13 0 f9 f10 f11 f12 f13 f15 f16 f17 y20_5 y21_73 y22_6 y23_7 y26_74 f28 f31 f32 f33 f38 f41 f44 x14 g15 g16 g17 g18 g19 g20 g21 g22 g23 g24 k25_79 k26_80 k27_81 g28 g29 k30_76 g31 g32 g33 g34 q35_69 g36 g37 g38 g39 g40 g41 g42 g43 g44 t), 0, 0))
        iterate 2 refine hR (?_ : R (_, _, _, _, _, _))
        refine hR (j_ne (by omega) (by omega) (fun hc93 => ?_) (fun hc93 => ?_))
        · skip
          refine hR (?_ : R (_, _, _, _, _, _))
          refine hR (zcall_i 0 0 (Nat.le_of_ble_eq_true rfl) (Nat.le_of_ble_eq_true rfl) (m_bestM _ k v90 hp78 (by omega) (by omega) (by omega) (rt_c (hp0_69 (by omega)) (by omega)) _ fun k35_94 hp95 hp96 hp97 => ?_))
          refine (?_ : R (_, _, [], (zMi c0 c1 c2 c3 c4 c5 c6 c7 c8 c9 c10 c11 c12 c13 0 f9 f10 f11 f12 f13 f15 f16 f17 y20_5 y21_73 y22_6 y23_7 y26_74 f28 f31 f32 f33 f38 f41 f44 x14 g15 g16 g17 g18 g19 g20 g21 g22 g23 g24 k25_79 k26_80 k27_81 g28 g29 k30_76 g31 g32 g33 g34 k35_94 g36 g37 g38 g39 g40 g41 g42 g43 g44 t), 0, 0))
          refine hR (t_inc ?_)
          refine hR (?_ : R (_, _, _, _, _, _))
          exact ih69 _ _ (by omega) (fun _ => rt_b hp96 (by omega)) (fun _ => rt_g hp78 (hp1_69 (by omega)) hp95 hp97 (by omega)) (by omega)
        iterate 2 refine hR (?_ : R (_, _, _, _, _, _))
        refine hR (zcall_i 0 0 (Nat.le_of_ble_eq_true rfl) (Nat.le_of_ble_eq_true rfl) (m_best _ k v90 1 hp78 (by omega) (by omega) (by omega) _ fun k35_98 => ?_))
        refine (?_ : R (_, _, [], (zMi c0 c1 c2 c3 c4 c5 c6 c7 c8 c9 c10 c11 c12 c13 0 f9 f10 f11 f12 f13 f15 f16 f17 y20_5 y21_73 y22_6 y23_7 y26_74 f28 f31 f32 f33 f38 f41 f44 x14 g15 g16 g17 g18 g19 g20 g21 g22 g23 g24 k25_79 k26_80 k27_81 g28 g29 k30_76 g31 g32 g33 g34 k35_98 g36 g37 g38 g39 g40 g41 g42 g43 g44 t), 0, 0))
        refine hR (t_inc ?_)
        refine hR (?_ : R (_, _, _, _, _, _))
        exact ih69 _ _ (by omega) (fun h => by omega) (fun h => by omega) (by omega)
    exact lp69 400000000 _ _ (by omega) (fun _ => hp85) (fun _ j h1 h2 => by omega) (by omega)
  refine hR (?_ : R (_, _, _, _, _, _))
  refine hR (t_c 10 (by decide) ?_)
  refine hR (t_c 9 (by decide) ?_)
  refine hR (?_ : R (_, _, _, _, _, _))
  refine hR (t_add ?_)
  refine hR (zcall_i 0 0 (Nat.le_of_ble_eq_true rfl) (Nat.le_of_ble_eq_true rfl) (m_in _ a3 10 (9 + a2) _ (by omega) (by omega) (by omega) _ fun v99 hp100 => ?_))
  refine (?_ : R (_, _, (.int (Int32.ofInt v99)) :: [], (zMi c0 c1 c2 c3 c4 c5 c6 c7 c8 c9 c10 c11 c12 c13 0 f9 f10 f11 f12 f13 f15 f16 f17 y20_5 f21 y22_6 y23_7 f26 f28 f31 f32 f33 f38 f41 f44 x14 g15 g16 g17 g18 g19 g20 g21 g22 g23 g24 g25 g26 g27 g28 g29 g30 g31 g32 g33 g34 g35 g36 g37 g38 g39 g40 g41 g42 g43 g44 t), 0, 0))
  refine hR (k_ne (by omega) (fun hc101 => ?_) (fun hc101 => ?_))
  rotate_left
  · skip
    refine hR (?_ : R (_, _, _, _, _, _))
    exact hR (zret_i rfl (Nat.le_refl _) trivial (h _ _ _ _ _ _ _ _ _ _ _ _ hb25 hb26 hb30))
  refine hR (?_ : R (_, _, _, _, _, _))
  refine hR (zcall_i 0 0 (Nat.le_of_ble_eq_true rfl) (Nat.le_of_ble_eq_true rfl) (m_layMade _ hb25 hb30 hr4 (by omega) (by omega) _ fun y21_102 y26_103 k25_104 k30_105 hp106 hp107 => ?_))
  refine (?_ : R (_, _, [], (zMi c0 c1 c2 c3 c4 c5 c6 c7 c8 c9 c10 c11 c12 c13 0 f9 f10 f11 f12 f13 f15 f16 f17 y20_5 y21_102 y22_6 y23_7 y26_103 f28 f31 f32 f33 f38 f41 f44 x14 g15 g16 g17 g18 g19 g20 g21 g22 g23 g24 k25_104 g26 g27 g28 g29 k30_105 g31 g32 g33 g34 g35 g36 g37 g38 g39 g40 g41 g42 g43 g44 t), 0, 0))
  refine hR (?_ : R (_, _, _, _, _, _))
  refine hR (zcall_i 0 0 (Nat.le_of_ble_eq_true rfl) (Nat.le_of_ble_eq_true rfl) (m_layDriftsT _ hp106 hb26 (by omega) _ fun k25_108 k26_109 k27_110 k35_111 hp112 hp113 hp114 => ?_))
  refine (?_ : R (_, _, [], (zMi c0 c1 c2 c3 c4 c5 c6 c7 c8 c9 c10 c11 c12 c13 0 f9 f10 f11 f12 f13 f15 f16 f17 y20_5 y21_102 y22_6 y23_7 y26_103 f28 f31 f32 f33 f38 f41 f44 x14 g15 g16 g17 g18 g19 g20 g21 g22 g23 g24 k25_108 k26_109 k27_110 g28 g29 k30_105 g31 g32 g33 g34 k35_111 g36 g37 g38 g39 g40 g41 g42 g43 g44 t), 0, 0))
  iterate 2 refine hR (?_ : R (_, _, _, _, _, _))
  have lp69 : ∀ (N : Nat) (k : Int) (q35_69 : Nat → Int32), (1 ≤ k ∧ k ≤ a2 + 1) → (a3 ≠ 1 → lvB q35_69 (k - 1).toNat) → (a3 ≠ 1 → ∀ j : Nat, 1 ≤ j → (j : Int) < k → lvG q35_69 k30_105 y23_7 j) → (a2 + 1 - k < N) → R (69, [some (.ref 14), some (.int (Int32.ofInt a1)), some (.int (Int32.ofInt a2)), some (.int (Int32.ofInt a3)), some (.int (Int32.ofInt k))], [], (zMi c0 c1 c2 c3 c4 c5 c6 c7 c8 c9 c10 c11 c12 c13 0 f9 f10 f11 f12 f13 f15 f16 f17 y20_5 y21_102 y22_6 y23_7 y26_103 f28 f31 f32 f33 f38 f41 f44 x14 g15 g16 g17 g18 g19 g20 g21 g22 g23 g24 k25_108 k26_109 k27_110 g28 g29 k30_105 g31 g32 g33 g34 q35_69 g36 g37 g38 g39 g40 g41 g42 g43 g44 t), 0, 0) := by
    intro N
    induction N with
    | zero => intros; omega
    | succ N ih69 =>
      intro k q35_69 hf0_69 hp0_69 hp1_69 hN69
      iterate 2 refine hR (?_ : R (_, _, _, _, _, _))
      refine hR (j_gt (by omega) (by omega) (fun hc115 => ?_) (fun hc115 => ?_))
      · skip
        iterate 2 refine hR (?_ : R (_, _, _, _, _, _))
        refine hR (j_ge (by omega) (by omega) (fun hc116 => ?_) (fun hc116 => ?_))
        · skip
          iterate 3 refine hR (?_ : R (_, _, _, _, _, _))
          refine hR (t_c 10 (by decide) ?_)
          refine hR (t_sub ?_)
          refine hR (zcall_i 0 0 (Nat.le_of_ble_eq_true rfl) (Nat.le_of_ble_eq_true rfl) (m_rotaAt _ a2 (a3 - 10) hp107 (by omega) (by omega) (by omega) (by omega) (fun j h1 h2 => hp1_69 (by omega) j h1 (by omega)) _ fun v117 => ?_))
          refine (?_ : R (_, _, (.int (Int32.ofInt v117)) :: [], (zMi c0 c1 c2 c3 c4 c5 c6 c7 c8 c9 c10 c11 c12 c13 0 f9 f10 f11 f12 f13 f15 f16 f17 y20_5 y21_102 y22_6 y23_7 y26_103 f28 f31 f32 f33 f38 f41 f44 x14 g15 g16 g17 g18 g19 g20 g21 g22 g23 g24 k25_108 k26_109 k27_110 g28 g29 k30_105 g31 g32 g33 g34 q35_69 g36 g37 g38 g39 g40 g41 g42 g43 g44 t), 0, 0))
          exact hR (zret_i rfl (Nat.le_refl _) trivial (h _ _ _ _ _ _ _ _ _ _ _ _ hp112 hp113 hp107))
        iterate 2 refine hR (?_ : R (_, _, _, _, _, _))
        refine hR (t_c 5461 (by decide) ?_)
        refine hR (?_ : R (_, _, _, _, _, _))
        refine hR (t_mul ?_)
        iterate 2 refine hR (?_ : R (_, _, _, _, _, _))
        refine hR (t_add ?_)
        refine hR (t_ldE (by omega) (by omega) (Nat.le_of_ble_eq_true rfl) fun v118 ev118 rv118 => ?_)
        refine hR (?_ : R (_, _, _, _, _, _))
        exact hR (zret_i rfl (Nat.le_refl _) trivial (h _ _ _ _ _ _ _ _ _ _ _ _ hp112 hp113 hp107))
      iterate 3 refine hR (?_ : R (_, _, _, _, _, _))
      refine hR (zcall_i 0 0 (Nat.le_of_ble_eq_true rfl) (Nat.le_of_ble_eq_true rfl) (m_everybodyE _ (by omega) _ fun v119 hp120 hp121 => ?_))
      refine (?_ : R (_, _, (.int (Int32.ofInt v119)) :: (.int (Int32.ofInt k)) :: (.ref 14) :: [], (zMi c0 c1 c2 c3 c4 c5 c6 c7 c8 c9 c10 c11 c12 c13 0 f9 f10 f11 f12 f13 f15 f16 f17 y20_5 y21_102 y22_6 y23_7 y26_103 f28 f31 f32 f33 f38 f41 f44 x14 g15 g16 g17 g18 g19 g20 g21 g22 g23 g24 k25_108 k26_109 k27_110 g28 g29 k30_105 g31 g32 g33 g34 q35_69 g36 g37 g38 g39 g40 g41 g42 g43 g44 t), 0, 0))
      iterate 2 refine hR (?_ : R (_, _, _, _, _, _))
      refine hR (j_ne (by omega) (by omega) (fun hc122 => ?_) (fun hc122 => ?_))
      · skip
        refine hR (?_ : R (_, _, _, _, _, _))
        refine hR (zcall_i 0 0 (Nat.le_of_ble_eq_true rfl) (Nat.le_of_ble_eq_true rfl) (m_bestM _ k v119 hp107 (by omega) (by omega) (by omega) (rt_c (hp0_69 (by omega)) (by omega)) _ fun k35_123 hp124 hp125 hp126 => ?_))
        refine (?_ : R (_, _, [], (zMi c0 c1 c2 c3 c4 c5 c6 c7 c8 c9 c10 c11 c12 c13 0 f9 f10 f11 f12 f13 f15 f16 f17 y20_5 y21_102 y22_6 y23_7 y26_103 f28 f31 f32 f33 f38 f41 f44 x14 g15 g16 g17 g18 g19 g20 g21 g22 g23 g24 k25_108 k26_109 k27_110 g28 g29 k30_105 g31 g32 g33 g34 k35_123 g36 g37 g38 g39 g40 g41 g42 g43 g44 t), 0, 0))
        refine hR (t_inc ?_)
        refine hR (?_ : R (_, _, _, _, _, _))
        exact ih69 _ _ (by omega) (fun _ => rt_b hp125 (by omega)) (fun _ => rt_g hp107 (hp1_69 (by omega)) hp124 hp126 (by omega)) (by omega)
      iterate 2 refine hR (?_ : R (_, _, _, _, _, _))
      refine hR (zcall_i 0 0 (Nat.le_of_ble_eq_true rfl) (Nat.le_of_ble_eq_true rfl) (m_best _ k v119 1 hp107 (by omega) (by omega) (by omega) _ fun k35_127 => ?_))
      refine (?_ : R (_, _, [], (zMi c0 c1 c2 c3 c4 c5 c6 c7 c8 c9 c10 c11 c12 c13 0 f9 f10 f11 f12 f13 f15 f16 f17 y20_5 y21_102 y22_6 y23_7 y26_103 f28 f31 f32 f33 f38 f41 f44 x14 g15 g16 g17 g18 g19 g20 g21 g22 g23 g24 k25_108 k26_109 k27_110 g28 g29 k30_105 g31 g32 g33 g34 k35_127 g36 g37 g38 g39 g40 g41 g42 g43 g44 t), 0, 0))
      refine hR (t_inc ?_)
      refine hR (?_ : R (_, _, _, _, _, _))
      exact ih69 _ _ (by omega) (fun h => by omega) (fun h => by omega) (by omega)
  exact lp69 400000000 _ _ (by omega) (fun _ => hp114) (fun _ j h1 h2 => by omega) (by omega)
end MZ
