section MZ
variable {c0 c1 c2 c3 c4 c5 c6 c7 c8 c9 c10 c11 c12 c13 : va_E} {f0 f9 f10 f11 f12 f13 f15 f16 f17 f20 f21 f22 f23 f26 f28 f31 f32 f33 f38 f41 f44 : Int} {x14 : Int64} {g15 g16 g17 g18 g19 g20 g21 g22 g23 g24 g25 g26 g27 g28 g29 g30 g31 g32 g33 g34 g35 g36 g37 g38 g39 g40 g41 g42 g43 g44 : Nat → Int32} {t : zW}
theorem m_findFar31 (d : Nat) (a1 a2 : Int) (hb30 : zB 0 5460 g30) (hr1 : 0 ≤ f23 ∧ f23 ≤ 5) (hr2 : 0 ≤ a1 ∧ a1 ≤ 5460) (hr3 : zB 0 5460 g33) (Q : zQ) (h : ∀ (y38 : Int) (k33 : Nat → Int32) (k31 : Nat → Int32), zB 0 5460 k33 → (1 ≤ y38 ∧ y38 ≤ 5461) → (ffI k31 k33 y38) → Q (none) (zMi c0 c1 c2 c3 c4 c5 c6 c7 c8 c9 c10 c11 c12 c13 f0 f9 f10 f11 f12 f13 f15 f16 f17 f20 f21 f22 f23 f26 f28 f31 f32 f33 y38 f41 f44 x14 g15 g16 g17 g18 g19 g20 g21 g22 g23 g24 g25 g26 g27 g28 g29 g30 k31 g32 k33 g34 g35 g36 g37 g38 g39 g40 g41 g42 g43 g44 t)) : zCl zTab (d + 2) iX12_findFar [.ref 14, .int (Int32.ofInt a1), .int (Int32.ofInt a2), .ref 31] (zMi c0 c1 c2 c3 c4 c5 c6 c7 c8 c9 c10 c11 c12 c13 f0 f9 f10 f11 f12 f13 f15 f16 f17 f20 f21 f22 f23 f26 f28 f31 f32 f33 f38 f41 f44 x14 g15 g16 g17 g18 g19 g20 g21 g22 g23 g24 g25 g26 g27 g28 g29 g30 g31 g32 g33 g34 g35 g36 g37 g38 g39 g40 g41 g42 g43 g44 t) 0 0 Q := by
  refine zCl_i (M := kX12_findFar) rfl (Nat.le_of_ble_eq_true rfl) fun R hR => ?_
  iterate 2 refine hR (?_ : R (_, _, _, _, _, _))
  have lp3 : ∀ (N : Nat) (i : Int) (q31_3 : Nat → Int32), (0 ≤ i ∧ i ≤ 5461) → (∀ j : Nat, (j : Int) < i → (q31_3 j).toInt = 1000000) → (5461 - i < N) → R (3, [some (.ref 14), some (.int (Int32.ofInt a1)), some (.int (Int32.ofInt a2)), some (.ref 31), some (.int (Int32.ofInt i)), none, none], [], (zMi c0 c1 c2 c3 c4 c5 c6 c7 c8 c9 c10 c11 c12 c13 f0 f9 f10 f11 f12 f13 f15 f16 f17 f20 f21 f22 f23 f26 f28 f31 f32 f33 f38 f41 f44 x14 g15 g16 g17 g18 g19 g20 g21 g22 g23 g24 g25 g26 g27 g28 g29 g30 q31_3 g32 g33 g34 g35 g36 g37 g38 g39 g40 g41 g42 g43 g44 t), 0, 0) := by
    intro N
    induction N with
    | zero => intros; omega
    | succ N ih3 =>
      intro i q31_3 hf0_3 hp0_3 hN3
      refine hR (?_ : R (_, _, _, _, _, _))
      refine hR (t_c 5461 (by decide) ?_)
      refine hR (j_ge (by omega) (by omega) (fun hc1 => ?_) (fun hc1 => ?_))
      rotate_left
      · skip
        iterate 2 refine hR (?_ : R (_, _, _, _, _, _))
        refine hR (t_c 1000000 (by decide) ?_)
        refine hR (t_st (by omega) (by omega) (Nat.le_of_ble_eq_true rfl) (?_ : R (_, _, _, (zMi c0 c1 c2 c3 c4 c5 c6 c7 c8 c9 c10 c11 c12 c13 f0 f9 f10 f11 f12 f13 f15 f16 f17 f20 f21 f22 f23 f26 f28 f31 f32 f33 f38 f41 f44 x14 g15 g16 g17 g18 g19 g20 g21 g22 g23 g24 g25 g26 g27 g28 g29 g30 (upd q31_3 i.toNat (Int32.ofInt 1000000)) g32 g33 g34 g35 g36 g37 g38 g39 g40 g41 g42 g43 g44 t), _, _)))
        refine hR (t_inc ?_)
        refine hR (?_ : R (_, _, _, _, _, _))
        exact ih3 _ _ (by omega) (ff_i hp0_3 (by omega)) (by omega)
      iterate 3 refine hR (?_ : R (_, _, _, _, _, _))
      refine hR (t_st (by omega) (by omega) (Nat.le_of_ble_eq_true rfl) (?_ : R (_, _, _, (zMi c0 c1 c2 c3 c4 c5 c6 c7 c8 c9 c10 c11 c12 c13 f0 f9 f10 f11 f12 f13 f15 f16 f17 f20 f21 f22 f23 f26 f28 f31 f32 f33 f38 f41 f44 x14 g15 g16 g17 g18 g19 g20 g21 g22 g23 g24 g25 g26 g27 g28 g29 g30 (upd q31_3 a1.toNat (Int32.ofInt 0)) g32 g33 g34 g35 g36 g37 g38 g39 g40 g41 g42 g43 g44 t), _, _)))
      iterate 4 refine hR (?_ : R (_, _, _, _, _, _))
      refine hR (t_st (by omega) (by omega) (Nat.le_of_ble_eq_true rfl) (?_ : R (_, _, _, (zMi c0 c1 c2 c3 c4 c5 c6 c7 c8 c9 c10 c11 c12 c13 f0 f9 f10 f11 f12 f13 f15 f16 f17 f20 f21 f22 f23 f26 f28 f31 f32 f33 f38 f41 f44 x14 g15 g16 g17 g18 g19 g20 g21 g22 g23 g24 g25 g26 g27 g28 g29 g30 (upd q31_3 a1.toNat (Int32.ofInt 0)) g32 (upd g33 (0 : Int).toNat (Int32.ofInt a1)) g34 g35 g36 g37 g38 g39 g40 g41 g42 g43 g44 t), _, _)))
      iterate 2 refine hR (?_ : R (_, _, _, _, _, _))
      refine hR (?_ : R (_, _, _, (zMi c0 c1 c2 c3 c4 c5 c6 c7 c8 c9 c10 c11 c12 c13 f0 f9 f10 f11 f12 f13 f15 f16 f17 f20 f21 f22 f23 f26 f28 f31 f32 f33 1 f41 f44 x14 g15 g16 g17 g18 g19 g20 g21 g22 g23 g24 g25 g26 g27 g28 g29 g30 (upd q31_3 a1.toNat (Int32.ofInt 0)) g32 (upd g33 (0 : Int).toNat (Int32.ofInt a1)) g34 g35 g36 g37 g38 g39 g40 g41 g42 g43 g44 t), _, _))
      iterate 2 refine hR (?_ : R (_, _, _, _, _, _))
      have lp43 : ∀ (N : Nat) (k : Int) (o5_43 : Option Value) (o6_43 : Option Value) (e38_43 : Int) (q33_43 : Nat → Int32) (q31_43 : Nat → Int32), (zc2 o5_43 = false) → (zc2 o6_43 = false) → (0 ≤ k ∧ k ≤ 5461) → (ffI q31_43 q33_43 e38_43) → (zB 0 5460 q33_43) → (1 ≤ e38_43 ∧ e38_43 ≤ 5461) → (k ≤ e38_43) → (5461 - k < N) → R (43, [some (.ref 14), some (.int (Int32.ofInt a1)), some (.int (Int32.ofInt a2)), some (.ref 31), some (.int (Int32.ofInt k)), o5_43, o6_43], [], (zMi c0 c1 c2 c3 c4 c5 c6 c7 c8 c9 c10 c11 c12 c13 f0 f9 f10 f11 f12 f13 f15 f16 f17 f20 f21 f22 f23 f26 f28 f31 f32 f33 e38_43 f41 f44 x14 g15 g16 g17 g18 g19 g20 g21 g22 g23 g24 g25 g26 g27 g28 g29 g30 q31_43 g32 q33_43 g34 g35 g36 g37 g38 g39 g40 g41 g42 g43 g44 t), 0, 0) := by
        intro N
        induction N with
        | zero => intros; omega
        | succ N ih43 =>
          intro k o5_43 o6_43 e38_43 q33_43 q31_43 hzo5_43 hzo6_43 hf0_43 hp0_43 hp1_43 hp2_43 hp3_43 hN43
          iterate 3 refine hR (?_ : R (_, _, _, _, _, _))
          refine hR (j_ge (by omega) (by omega) (fun hc4 => ?_) (fun hc4 => ?_))
          · skip
            exact hR (zret_i rfl (Nat.le_refl _) rfl (h _ _ _ hp1_43 (by omega) hp0_43))
          iterate 2 refine hR (?_ : R (_, _, _, _, _, _))
          have lp55 : ∀ (N : Nat) (r : Int) (o6_55 : Option Value) (e38_55 : Int) (q33_55 : Nat → Int32) (q31_55 : Nat → Int32), (zc2 o6_55 = false) → (0 ≤ r ∧ r ≤ f23) → (ffI q31_55 q33_55 e38_55) → (zB 0 5460 q33_55) → (1 ≤ e38_55 ∧ e38_55 ≤ 5461) → (k < e38_55) → (f23 - r < N) → R (55, [some (.ref 14), some (.int (Int32.ofInt a1)), some (.int (Int32.ofInt a2)), some (.ref 31), some (.int (Int32.ofInt k)), some (.int (Int32.ofInt r)), o6_55], [], (zMi c0 c1 c2 c3 c4 c5 c6 c7 c8 c9 c10 c11 c12 c13 f0 f9 f10 f11 f12 f13 f15 f16 f17 f20 f21 f22 f23 f26 f28 f31 f32 f33 e38_55 f41 f44 x14 g15 g16 g17 g18 g19 g20 g21 g22 g23 g24 g25 g26 g27 g28 g29 g30 q31_55 g32 q33_55 g34 g35 g36 g37 g38 g39 g40 g41 g42 g43 g44 t), 0, 0) := by
            intro N
            induction N with
            | zero => intros; omega
            | succ N ih55 =>
              intro r o6_55 e38_55 q33_55 q31_55 hzo6_55 hf0_55 hp0_55 hp1_55 hp2_55 hp3_55 hN55
              iterate 3 refine hR (?_ : R (_, _, _, _, _, _))
              refine hR (j_ge (by omega) (by omega) (fun hc5 => ?_) (fun hc5 => ?_))
              · skip
                refine hR (t_inc ?_)
                refine hR (?_ : R (_, _, _, _, _, _))
                exact ih43 _ _ _ _ _ _ (by rfl) hzo6_55 (by omega) hp0_55 hp1_55 (by omega) (by omega) (by omega)
              iterate 2 refine hR (?_ : R (_, _, _, _, _, _))
              refine hR (t_c 5461 (by decide) ?_)
              refine hR (?_ : R (_, _, _, _, _, _))
              refine hR (t_mul ?_)
              iterate 3 refine hR (?_ : R (_, _, _, _, _, _))
              refine hR (t_ldE (by omega) (by omega) (Nat.le_of_ble_eq_true rfl) fun v6 ev6 rv6 => ?_)
              have bv6 := hp1_55 k.toNat
              rw [← ev6] at bv6
              refine hR (t_add ?_)
              refine hR (t_ldB hb30 (by omega) (by omega) (Nat.le_of_ble_eq_true rfl) fun v7 ev7 lv7 uv7 => ?_)
              clear ev7
              iterate 3 refine hR (?_ : R (_, _, _, _, _, _))
              refine hR (zcall_i 0 0 (Nat.le_of_ble_eq_true rfl) (Nat.le_of_ble_eq_true rfl) (m_has _ a2 r _ _ fun v8 hp9 => ?_))
              refine (?_ : R (_, _, (.int (Int32.ofInt v8)) :: [], (zMi c0 c1 c2 c3 c4 c5 c6 c7 c8 c9 c10 c11 c12 c13 f0 f9 f10 f11 f12 f13 f15 f16 f17 f20 f21 f22 f23 f26 f28 f31 f32 f33 e38_55 f41 f44 x14 g15 g16 g17 g18 g19 g20 g21 g22 g23 g24 g25 g26 g27 g28 g29 g30 q31_55 g32 q33_55 g34 g35 g36 g37 g38 g39 g40 g41 g42 g43 g44 t), 0, 0))
              refine hR (k_ne (by omega) (fun hc10 => ?_) (fun hc10 => ?_))
              · skip
                refine hR (t_inc ?_)
                refine hR (?_ : R (_, _, _, _, _, _))
                exact ih55 _ _ _ _ _ (by rfl) (by omega) hp0_55 hp1_55 (by omega) (by omega) (by omega)
              iterate 2 refine hR (?_ : R (_, _, _, _, _, _))
              refine hR (t_ldE (by omega) (by omega) (Nat.le_of_ble_eq_true rfl) fun v11 ev11 rv11 => ?_)
              refine hR (t_c 1000000 (by decide) ?_)
              refine hR (j_ne (by omega) (by omega) (fun hc12 => ?_) (fun hc12 => ?_))
              · skip
                refine hR (t_inc ?_)
                refine hR (?_ : R (_, _, _, _, _, _))
                exact ih55 _ _ _ _ _ (by rfl) (by omega) hp0_55 hp1_55 (by omega) (by omega) (by omega)
              have hfar : (q31_55 v7.toNat).toInt = 1000000 := by rw [← ev11]; omega
              have hlt := ff_lt hp0_55 (by omega) hfar
              iterate 6 refine hR (?_ : R (_, _, _, _, _, _))
              refine hR (t_ldE (by omega) (by omega) (Nat.le_of_ble_eq_true rfl) fun v13 ev13 rv13 => ?_)
              have bv13 := hp1_55 k.toNat
              rw [← ev13] at bv13
              refine hR (t_ldE (by omega) (by omega) (Nat.le_of_ble_eq_true rfl) fun v14 ev14 rv14 => ?_)
              have cv14 := ff_v (v := v14) hp0_55 hp1_55 (k := k.toNat) (by omega) (by rw [← ev13]; exact ev14)
              refine hR (?_ : R (_, _, _, _, _, _))
              refine hR (t_add ?_)
              refine hR (t_st (by omega) (by omega) (Nat.le_of_ble_eq_true rfl) (?_ : R (_, _, _, (zMi c0 c1 c2 c3 c4 c5 c6 c7 c8 c9 c10 c11 c12 c13 f0 f9 f10 f11 f12 f13 f15 f16 f17 f20 f21 f22 f23 f26 f28 f31 f32 f33 e38_55 f41 f44 x14 g15 g16 g17 g18 g19 g20 g21 g22 g23 g24 g25 g26 g27 g28 g29 g30 (upd q31_55 v7.toNat (Int32.ofInt (v14 + 1))) g32 q33_55 g34 g35 g36 g37 g38 g39 g40 g41 g42 g43 g44 t), _, _)))
              iterate 5 refine hR (?_ : R (_, _, _, _, _, _))
              refine hR (t_st (by omega) (by omega) (Nat.le_of_ble_eq_true rfl) (?_ : R (_, _, _, (zMi c0 c1 c2 c3 c4 c5 c6 c7 c8 c9 c10 c11 c12 c13 f0 f9 f10 f11 f12 f13 f15 f16 f17 f20 f21 f22 f23 f26 f28 f31 f32 f33 e38_55 f41 f44 x14 g15 g16 g17 g18 g19 g20 g21 g22 g23 g24 g25 g26 g27 g28 g29 g30 (upd q31_55 v7.toNat (Int32.ofInt (v14 + 1))) g32 (upd q33_55 e38_55.toNat (Int32.ofInt v7)) g34 g35 g36 g37 g38 g39 g40 g41 g42 g43 g44 t), _, _)))
              iterate 4 refine hR (?_ : R (_, _, _, _, _, _))
              refine hR (t_add ?_)
              refine hR (?_ : R (_, _, _, (zMi c0 c1 c2 c3 c4 c5 c6 c7 c8 c9 c10 c11 c12 c13 f0 f9 f10 f11 f12 f13 f15 f16 f17 f20 f21 f22 f23 f26 f28 f31 f32 f33 (e38_55 + 1) f41 f44 x14 g15 g16 g17 g18 g19 g20 g21 g22 g23 g24 g25 g26 g27 g28 g29 g30 (upd q31_55 v7.toNat (Int32.ofInt (v14 + 1))) g32 (upd q33_55 e38_55.toNat (Int32.ofInt v7)) g34 g35 g36 g37 g38 g39 g40 g41 g42 g43 g44 t), _, _))
              refine hR (t_inc ?_)
              refine hR (?_ : R (_, _, _, _, _, _))
              exact ih55 _ _ _ _ _ (by rfl) (by omega) (ff_s hp0_55 (by omega) (by omega) hfar (by omega) hlt (by omega) (by omega)) (zB_u hp1_55 (by omega) (by omega) (by omega) (by omega)) (by omega) (by omega) (by omega)
          exact lp55 400000000 _ _ _ _ _ hzo6_43 (by omega) hp0_43 hp1_43 (by omega) (by omega) (by omega)
      exact lp43 400000000 _ _ _ _ _ _ (by rfl) (by rfl) (by omega) (ff_1 hp0_3 (by omega) (by omega) (by omega)) (zB_u hr3 (by omega) (by omega) (by omega) (by omega)) (by omega) (by omega) (by omega)
  exact lp3 400000000 _ _ (by omega) (fun j hj => by omega) (by omega)
theorem m_findFar32 (d : Nat) (a1 a2 : Int) (hb30 : zB 0 5460 g30) (hr1 : 0 ≤ f23 ∧ f23 ≤ 5) (hr2 : 0 ≤ a1 ∧ a1 ≤ 5460) (hr3 : zB 0 5460 g33) (Q : zQ) (h : ∀ (y38 : Int) (k33 : Nat → Int32) (k32 : Nat → Int32), zB 0 5460 k33 → (1 ≤ y38 ∧ y38 ≤ 5461) → (ffI k32 k33 y38) → Q (none) (zMi c0 c1 c2 c3 c4 c5 c6 c7 c8 c9 c10 c11 c12 c13 f0 f9 f10 f11 f12 f13 f15 f16 f17 f20 f21 f22 f23 f26 f28 f31 f32 f33 y38 f41 f44 x14 g15 g16 g17 g18 g19 g20 g21 g22 g23 g24 g25 g26 g27 g28 g29 g30 g31 k32 k33 g34 g35 g36 g37 g38 g39 g40 g41 g42 g43 g44 t)) : zCl zTab (d + 2) iX12_findFar [.ref 14, .int (Int32.ofInt a1), .int (Int32.ofInt a2), .ref 32] (zMi c0 c1 c2 c3 c4 c5 c6 c7 c8 c9 c10 c11 c12 c13 f0 f9 f10 f11 f12 f13 f15 f16 f17 f20 f21 f22 f23 f26 f28 f31 f32 f33 f38 f41 f44 x14 g15 g16 g17 g18 g19 g20 g21 g22 g23 g24 g25 g26 g27 g28 g29 g30 g31 g32 g33 g34 g35 g36 g37 g38 g39 g40 g41 g42 g43 g44 t) 0 0 Q := by
  refine zCl_i (M := kX12_findFar) rfl (Nat.le_of_ble_eq_true rfl) fun R hR => ?_
  iterate 2 refine hR (?_ : R (_, _, _, _, _, _))
  have lp3 : ∀ (N : Nat) (i : Int) (q32_3 : Nat → Int32), (0 ≤ i ∧ i ≤ 5461) → (∀ j : Nat, (j : Int) < i → (q32_3 j).toInt = 1000000) → (5461 - i < N) → R (3, [some (.ref 14), some (.int (Int32.ofInt a1)), some (.int (Int32.ofInt a2)), some (.ref 32), some (.int (Int32.ofInt i)), none, none], [], (zMi c0 c1 c2 c3 c4 c5 c6 c7 c8 c9 c10 c11 c12 c13 f0 f9 f10 f11 f12 f13 f15 f16 f17 f20 f21 f22 f23 f26 f28 f31 f32 f33 f38 f41 f44 x14 g15 g16 g17 g18 g19 g20 g21 g22 g23 g24 g25 g26 g27 g28 g29 g30 g31 q32_3 g33 g34 g35 g36 g37 g38 g39 g40 g41 g42 g43 g44 t), 0, 0) := by
    intro N
    induction N with
    | zero => intros; omega
    | succ N ih3 =>
      intro i q32_3 hf0_3 hp0_3 hN3
      refine hR (?_ : R (_, _, _, _, _, _))
      refine hR (t_c 5461 (by decide) ?_)
      refine hR (j_ge (by omega) (by omega) (fun hc1 => ?_) (fun hc1 => ?_))
      rotate_left
      · skip
        iterate 2 refine hR (?_ : R (_, _, _, _, _, _))
        refine hR (t_c 1000000 (by decide) ?_)
        refine hR (t_st (by omega) (by omega) (Nat.le_of_ble_eq_true rfl) (?_ : R (_, _, _, (zMi c0 c1 c2 c3 c4 c5 c6 c7 c8 c9 c10 c11 c12 c13 f0 f9 f10 f11 f12 f13 f15 f16 f17 f20 f21 f22 f23 f26 f28 f31 f32 f33 f38 f41 f44 x14 g15 g16 g17 g18 g19 g20 g21 g22 g23 g24 g25 g26 g27 g28 g29 g30 g31 (upd q32_3 i.toNat (Int32.ofInt 1000000)) g33 g34 g35 g36 g37 g38 g39 g40 g41 g42 g43 g44 t), _, _)))
        refine hR (t_inc ?_)
        refine hR (?_ : R (_, _, _, _, _, _))
        exact ih3 _ _ (by omega) (ff_i hp0_3 (by omega)) (by omega)
      iterate 3 refine hR (?_ : R (_, _, _, _, _, _))
      refine hR (t_st (by omega) (by omega) (Nat.le_of_ble_eq_true rfl) (?_ : R (_, _, _, (zMi c0 c1 c2 c3 c4 c5 c6 c7 c8 c9 c10 c11 c12 c13 f0 f9 f10 f11 f12 f13 f15 f16 f17 f20 f21 f22 f23 f26 f28 f31 f32 f33 f38 f41 f44 x14 g15 g16 g17 g18 g19 g20 g21 g22 g23 g24 g25 g26 g27 g28 g29 g30 g31 (upd q32_3 a1.toNat (Int32.ofInt 0)) g33 g34 g35 g36 g37 g38 g39 g40 g41 g42 g43 g44 t), _, _)))
      iterate 4 refine hR (?_ : R (_, _, _, _, _, _))
      refine hR (t_st (by omega) (by omega) (Nat.le_of_ble_eq_true rfl) (?_ : R (_, _, _, (zMi c0 c1 c2 c3 c4 c5 c6 c7 c8 c9 c10 c11 c12 c13 f0 f9 f10 f11 f12 f13 f15 f16 f17 f20 f21 f22 f23 f26 f28 f31 f32 f33 f38 f41 f44 x14 g15 g16 g17 g18 g19 g20 g21 g22 g23 g24 g25 g26 g27 g28 g29 g30 g31 (upd q32_3 a1.toNat (Int32.ofInt 0)) (upd g33 (0 : Int).toNat (Int32.ofInt a1)) g34 g35 g36 g37 g38 g39 g40 g41 g42 g43 g44 t), _, _)))
      iterate 2 refine hR (?_ : R (_, _, _, _, _, _))
      refine hR (?_ : R (_, _, _, (zMi c0 c1 c2 c3 c4 c5 c6 c7 c8 c9 c10 c11 c12 c13 f0 f9 f10 f11 f12 f13 f15 f16 f17 f20 f21 f22 f23 f26 f28 f31 f32 f33 1 f41 f44 x14 g15 g16 g17 g18 g19 g20 g21 g22 g23 g24 g25 g26 g27 g28 g29 g30 g31 (upd q32_3 a1.toNat (Int32.ofInt 0)) (upd g33 (0 : Int).toNat (Int32.ofInt a1)) g34 g35 g36 g37 g38 g39 g40 g41 g42 g43 g44 t), _, _))
      iterate 2 refine hR (?_ : R (_, _, _, _, _, _))
      have lp43 : ∀ (N : Nat) (k : Int) (o5_43 : Option Value) (o6_43 : Option Value) (e38_43 : Int) (q33_43 : Nat → Int32) (q32_43 : Nat → Int32), (zc2 o5_43 = false) → (zc2 o6_43 = false) → (0 ≤ k ∧ k ≤ 5461) → (ffI q32_43 q33_43 e38_43) → (zB 0 5460 q33_43) → (1 ≤ e38_43 ∧ e38_43 ≤ 5461) → (k ≤ e38_43) → (5461 - k < N) → R (43, [some (.ref 14), some (.int (Int32.ofInt a1)), some (.int (Int32.ofInt a2)), some (.ref 32), some (.int (Int32.ofInt k)), o5_43, o6_43], [], (zMi c0 c1 c2 c3 c4 c5 c6 c7 c8 c9 c10 c11 c12 c13 f0 f9 f10 f11 f12 f13 f15 f16 f17 f20 f21 f22 f23 f26 f28 f31 f32 f33 e38_43 f41 f44 x14 g15 g16 g17 g18 g19 g20 g21 g22 g23 g24 g25 g26 g27 g28 g29 g30 g31 q32_43 q33_43 g34 g35 g36 g37 g38 g39 g40 g41 g42 g43 g44 t), 0, 0) := by
        intro N
        induction N with
        | zero => intros; omega
        | succ N ih43 =>
          intro k o5_43 o6_43 e38_43 q33_43 q32_43 hzo5_43 hzo6_43 hf0_43 hp0_43 hp1_43 hp2_43 hp3_43 hN43
          iterate 3 refine hR (?_ : R (_, _, _, _, _, _))
          refine hR (j_ge (by omega) (by omega) (fun hc4 => ?_) (fun hc4 => ?_))
          · skip
            exact hR (zret_i rfl (Nat.le_refl _) rfl (h _ _ _ hp1_43 (by omega) hp0_43))
          iterate 2 refine hR (?_ : R (_, _, _, _, _, _))
          have lp55 : ∀ (N : Nat) (r : Int) (o6_55 : Option Value) (e38_55 : Int) (q33_55 : Nat → Int32) (q32_55 : Nat → Int32), (zc2 o6_55 = false) → (0 ≤ r ∧ r ≤ f23) → (ffI q32_55 q33_55 e38_55) → (zB 0 5460 q33_55) → (1 ≤ e38_55 ∧ e38_55 ≤ 5461) → (k < e38_55) → (f23 - r < N) → R (55, [some (.ref 14), some (.int (Int32.ofInt a1)), some (.int (Int32.ofInt a2)), some (.ref 32), some (.int (Int32.ofInt k)), some (.int (Int32.ofInt r)), o6_55], [], (zMi c0 c1 c2 c3 c4 c5 c6 c7 c8 c9 c10 c11 c12 c13 f0 f9 f10 f11 f12 f13 f15 f16 f17 f20 f21 f22 f23 f26 f28 f31 f32 f33 e38_55 f41 f44 x14 g15 g16 g17 g18 g19 g20 g21 g22 g23 g24 g25 g26 g27 g28 g29 g30 g31 q32_55 q33_55 g34 g35 g36 g37 g38 g39 g40 g41 g42 g43 g44 t), 0, 0) := by
            intro N
            induction N with
            | zero => intros; omega
            | succ N ih55 =>
              intro r o6_55 e38_55 q33_55 q32_55 hzo6_55 hf0_55 hp0_55 hp1_55 hp2_55 hp3_55 hN55
              iterate 3 refine hR (?_ : R (_, _, _, _, _, _))
              refine hR (j_ge (by omega) (by omega) (fun hc5 => ?_) (fun hc5 => ?_))
              · skip
                refine hR (t_inc ?_)
                refine hR (?_ : R (_, _, _, _, _, _))
                exact ih43 _ _ _ _ _ _ (by rfl) hzo6_55 (by omega) hp0_55 hp1_55 (by omega) (by omega) (by omega)
              iterate 2 refine hR (?_ : R (_, _, _, _, _, _))
              refine hR (t_c 5461 (by decide) ?_)
              refine hR (?_ : R (_, _, _, _, _, _))
              refine hR (t_mul ?_)
              iterate 3 refine hR (?_ : R (_, _, _, _, _, _))
              refine hR (t_ldE (by omega) (by omega) (Nat.le_of_ble_eq_true rfl) fun v6 ev6 rv6 => ?_)
              have bv6 := hp1_55 k.toNat
              rw [← ev6] at bv6
              refine hR (t_add ?_)
              refine hR (t_ldB hb30 (by omega) (by omega) (Nat.le_of_ble_eq_true rfl) fun v7 ev7 lv7 uv7 => ?_)
              clear ev7
              iterate 3 refine hR (?_ : R (_, _, _, _, _, _))
              refine hR (zcall_i 0 0 (Nat.le_of_ble_eq_true rfl) (Nat.le_of_ble_eq_true rfl) (m_has _ a2 r _ _ fun v8 hp9 => ?_))
              refine (?_ : R (_, _, (.int (Int32.ofInt v8)) :: [], (zMi c0 c1 c2 c3 c4 c5 c6 c7 c8 c9 c10 c11 c12 c13 f0 f9 f10 f11 f12 f13 f15 f16 f17 f20 f21 f22 f23 f26 f28 f31 f32 f33 e38_55 f41 f44 x14 g15 g16 g17 g18 g19 g20 g21 g22 g23 g24 g25 g26 g27 g28 g29 g30 g31 q32_55 q33_55 g34 g35 g36 g37 g38 g39 g40 g41 g42 g43 g44 t), 0, 0))
              refine hR (k_ne (by omega) (fun hc10 => ?_) (fun hc10 => ?_))
              · skip
                refine hR (t_inc ?_)
                refine hR (?_ : R (_, _, _, _, _, _))
                exact ih55 _ _ _ _ _ (by rfl) (by omega) hp0_55 hp1_55 (by omega) (by omega) (by omega)
              iterate 2 refine hR (?_ : R (_, _, _, _, _, _))
              refine hR (t_ldE (by omega) (by omega) (Nat.le_of_ble_eq_true rfl) fun v11 ev11 rv11 => ?_)
              refine hR (t_c 1000000 (by decide) ?_)
              refine hR (j_ne (by omega) (by omega) (fun hc12 => ?_) (fun hc12 => ?_))
              · skip
                refine hR (t_inc ?_)
                refine hR (?_ : R (_, _, _, _, _, _))
                exact ih55 _ _ _ _ _ (by rfl) (by omega) hp0_55 hp1_55 (by omega) (by omega) (by omega)
              have hfar : (q32_55 v7.toNat).toInt = 1000000 := by rw [← ev11]; omega
              have hlt := ff_lt hp0_55 (by omega) hfar
              iterate 6 refine hR (?_ : R (_, _, _, _, _, _))
              refine hR (t_ldE (by omega) (by omega) (Nat.le_of_ble_eq_true rfl) fun v13 ev13 rv13 => ?_)
              have bv13 := hp1_55 k.toNat
              rw [← ev13] at bv13
              refine hR (t_ldE (by omega) (by omega) (Nat.le_of_ble_eq_true rfl) fun v14 ev14 rv14 => ?_)
              have cv14 := ff_v (v := v14) hp0_55 hp1_55 (k := k.toNat) (by omega) (by rw [← ev13]; exact ev14)
              refine hR (?_ : R (_, _, _, _, _, _))
              refine hR (t_add ?_)
              refine hR (t_st (by omega) (by omega) (Nat.le_of_ble_eq_true rfl) (?_ : R (_, _, _, (zMi c0 c1 c2 c3 c4 c5 c6 c7 c8 c9 c10 c11 c12 c13 f0 f9 f10 f11 f12 f13 f15 f16 f17 f20 f21 f22 f23 f26 f28 f31 f32 f33 e38_55 f41 f44 x14 g15 g16 g17 g18 g19 g20 g21 g22 g23 g24 g25 g26 g27 g28 g29 g30 g31 (upd q32_55 v7.toNat (Int32.ofInt (v14 + 1))) q33_55 g34 g35 g36 g37 g38 g39 g40 g41 g42 g43 g44 t), _, _)))
              iterate 5 refine hR (?_ : R (_, _, _, _, _, _))
              refine hR (t_st (by omega) (by omega) (Nat.le_of_ble_eq_true rfl) (?_ : R (_, _, _, (zMi c0 c1 c2 c3 c4 c5 c6 c7 c8 c9 c10 c11 c12 c13 f0 f9 f10 f11 f12 f13 f15 f16 f17 f20 f21 f22 f23 f26 f28 f31 f32 f33 e38_55 f41 f44 x14 g15 g16 g17 g18 g19 g20 g21 g22 g23 g24 g25 g26 g27 g28 g29 g30 g31 (upd q32_55 v7.toNat (Int32.ofInt (v14 + 1))) (upd q33_55 e38_55.toNat (Int32.ofInt v7)) g34 g35 g36 g37 g38 g39 g40 g41 g42 g43 g44 t), _, _)))
              iterate 4 refine hR (?_ : R (_, _, _, _, _, _))
              refine hR (t_add ?_)
              refine hR (?_ : R (_, _, _, (zMi c0 c1 c2 c3 c4 c5 c6 c7 c8 c9 c10 c11 c12 c13 f0 f9 f10 f11 f12 f13 f15 f16 f17 f20 f21 f22 f23 f26 f28 f31 f32 f33 (e38_55 + 1) f41 f44 x14 g15 g16 g17 g18 g19 g20 g21 g22 g23 g24 g25 g26 g27 g28 g29 g30 g31 (upd q32_55 v7.toNat (Int32.ofInt (v14 + 1))) (upd q33_55 e38_55.toNat (Int32.ofInt v7)) g34 g35 g36 g37 g38 g39 g40 g41 g42 g43 g44 t), _, _))
              refine hR (t_inc ?_)
              refine hR (?_ : R (_, _, _, _, _, _))
              exact ih55 _ _ _ _ _ (by rfl) (by omega) (ff_s hp0_55 (by omega) (by omega) hfar (by omega) hlt (by omega) (by omega)) (zB_u hp1_55 (by omega) (by omega) (by omega) (by omega)) (by omega) (by omega) (by omega)
          exact lp55 400000000 _ _ _ _ _ hzo6_43 (by omega) hp0_43 hp1_43 (by omega) (by omega) (by omega)
      exact lp43 400000000 _ _ _ _ _ _ (by rfl) (by rfl) (by omega) (ff_1 hp0_3 (by omega) (by omega) (by omega)) (zB_u hr3 (by omega) (by omega) (by omega) (by omega)) (by omega) (by omega) (by omega)
  exact lp3 400000000 _ _ (by omega) (fun j hj => by omega) (by omega)
theorem m_ring (d : Nat) (a1 a2 : Int) (hb19 : zB 0 2 g19) (hb25 : zB 0 3 g25) (hb30 : zB 0 5460 g30) (hb33 : zB 0 5460 g33) (hr4 : bkOK g20) (hr5 : -2147483648 ≤ a1 ∧ a1 ≤ 2147483647) (hr6 : -2147483648 ≤ a2 ∧ a2 ≤ 2147483647) (hr7 : -1 ≤ f21 ∧ f21 ≤ 1) (hr8 : RMD g30 g20 f21) (Q : zQ) (h : ∀ (v : Int) (y0 : Int) (y20 : Int) (y21 : Int) (y22 : Int) (y23 : Int) (y26 : Int) (y38 : Int) (k25 : Nat → Int32) (k30 : Nat → Int32) (k31 : Nat → Int32) (k33 : Nat → Int32), zB 0 3 k25 → zB 0 5460 k30 → zB 0 5460 k33 → (-1 ≤ y21 ∧ y21 ≤ 1) → (RMD k30 g20 y21) → Q (some (.int (Int32.ofInt v))) (zMi c0 c1 c2 c3 c4 c5 c6 c7 c8 c9 c10 c11 c12 c13 y0 f9 f10 f11 f12 f13 f15 f16 f17 y20 y21 y22 y23 y26 f28 f31 f32 f33 y38 f41 f44 x14 g15 g16 g17 g18 g19 g20 g21 g22 g23 g24 k25 g26 g27 g28 g29 k30 k31 g32 k33 g34 g35 g36 g37 g38 g39 g40 g41 g42 g43 g44 t)) : zCl zTab (d + 7) iX12_ring [.ref 14, .int (Int32.ofInt a1), .int (Int32.ofInt a2)] (zMi c0 c1 c2 c3 c4 c5 c6 c7 c8 c9 c10 c11 c12 c13 f0 f9 f10 f11 f12 f13 f15 f16 f17 f20 f21 f22 f23 f26 f28 f31 f32 f33 f38 f41 f44 x14 g15 g16 g17 g18 g19 g20 g21 g22 g23 g24 g25 g26 g27 g28 g29 g30 g31 g32 g33 g34 g35 g36 g37 g38 g39 g40 g41 g42 g43 g44 t) 0 0 Q := by
  refine zCl_i (M := kX12_ring) rfl (Nat.le_of_ble_eq_true rfl) fun R hR => ?_
  iterate 2 refine hR (?_ : R (_, _, _, _, _, _))
  refine hR (?_ : R (_, _, _, (zMi c0 c1 c2 c3 c4 c5 c6 c7 c8 c9 c10 c11 c12 c13 0 f9 f10 f11 f12 f13 f15 f16 f17 f20 f21 f22 f23 f26 f28 f31 f32 f33 f38 f41 f44 x14 g15 g16 g17 g18 g19 g20 g21 g22 g23 g24 g25 g26 g27 g28 g29 g30 g31 g32 g33 g34 g35 g36 g37 g38 g39 g40 g41 g42 g43 g44 t), _, _))
  refine hR (?_ : R (_, _, _, _, _, _))
  refine hR (zcall_i 0 0 (Nat.le_of_ble_eq_true rfl) (Nat.le_of_ble_eq_true rfl) (m_isText _ a2 _ (by omega) _ fun v1 hp2 => ?_))
  refine (?_ : R (_, _, (.int (Int32.ofInt v1)) :: [], (zMi c0 c1 c2 c3 c4 c5 c6 c7 c8 c9 c10 c11 c12 c13 0 f9 f10 f11 f12 f13 f15 f16 f17 f20 f21 f22 f23 f26 f28 f31 f32 f33 f38 f41 f44 x14 g15 g16 g17 g18 g19 g20 g21 g22 g23 g24 g25 g26 g27 g28 g29 g30 g31 g32 g33 g34 g35 g36 g37 g38 g39 g40 g41 g42 g43 g44 t), 0, 0))
  refine hR (k_eq (by omega) (fun hc3 => ?_) (fun hc3 => ?_))
  · skip
    refine hR (?_ : R (_, _, _, _, _, _))
    exact hR (zret_i rfl (Nat.le_refl _) trivial (h _ _ _ _ _ _ _ _ _ _ _ _ hb25 hb30 hb33 (by omega) hr8))
  iterate 2 refine hR (?_ : R (_, _, _, _, _, _))
  refine hR (zcall_i 0 0 (Nat.le_of_ble_eq_true rfl) (Nat.le_of_ble_eq_true rfl) (m_handAll _ a1 hb19 hb25 hb30 hr4 (by omega) (by omega) hr8 _ fun v4 y20_5 y21_6 y22_7 y23_8 y26_9 k25_10 k30_11 hp12 hp13 hp14 hp15 hp16 => ?_))
  refine (?_ : R (_, _, (.int (Int32.ofInt v4)) :: [], (zMi c0 c1 c2 c3 c4 c5 c6 c7 c8 c9 c10 c11 c12 c13 0 f9 f10 f11 f12 f13 f15 f16 f17 y20_5 y21_6 y22_7 y23_8 y26_9 f28 f31 f32 f33 f38 f41 f44 x14 g15 g16 g17 g18 g19 g20 g21 g22 g23 g24 k25_10 g26 g27 g28 g29 k30_11 g31 g32 g33 g34 g35 g36 g37 g38 g39 g40 g41 g42 g43 g44 t), 0, 0))
  refine hR (k_ne (by omega) (fun hc17 => ?_) (fun hc17 => ?_))
  rotate_left
  · skip
    refine hR (?_ : R (_, _, _, _, _, _))
    exact hR (zret_i rfl (Nat.le_refl _) trivial (h _ _ _ _ _ _ _ _ _ _ _ _ hp12 hp13 hb33 (by omega) hp15))
  iterate 5 refine hR (?_ : R (_, _, _, _, _, _))
  refine hR (zcall_i 0 0 (Nat.le_of_ble_eq_true rfl) (Nat.le_of_ble_eq_true rfl) (m_findFar31 _ a2 0 hp13 (by omega) (by omega) hb33 _ fun y38_18 k33_19 k31_20 hp21 hp22 hp23 => ?_))
  refine (?_ : R (_, _, [], (zMi c0 c1 c2 c3 c4 c5 c6 c7 c8 c9 c10 c11 c12 c13 0 f9 f10 f11 f12 f13 f15 f16 f17 y20_5 y21_6 y22_7 y23_8 y26_9 f28 f31 f32 f33 y38_18 f41 f44 x14 g15 g16 g17 g18 g19 g20 g21 g22 g23 g24 k25_10 g26 g27 g28 g29 k30_11 k31_20 g32 k33_19 g34 g35 g36 g37 g38 g39 g40 g41 g42 g43 g44 t), 0, 0))
  refine hR (t_c 1000000 (by decide) ?_)
  iterate 3 refine hR (?_ : R (_, _, _, _, _, _))
  have lp39 : ∀ (N : Nat) (be : Int) (i : Int), (0 ≤ i ∧ i ≤ 27305) → (27305 - i < N) → R (39, [some (.ref 14), some (.int (Int32.ofInt a1)), some (.int (Int32.ofInt a2)), some (.int (Int32.ofInt be)), some (.int (Int32.ofInt i))], [], (zMi c0 c1 c2 c3 c4 c5 c6 c7 c8 c9 c10 c11 c12 c13 0 f9 f10 f11 f12 f13 f15 f16 f17 y20_5 y21_6 y22_7 y23_8 y26_9 f28 f31 f32 f33 y38_18 f41 f44 x14 g15 g16 g17 g18 g19 g20 g21 g22 g23 g24 k25_10 g26 g27 g28 g29 k30_11 k31_20 g32 k33_19 g34 g35 g36 g37 g38 g39 g40 g41 g42 g43 g44 t), 0, 0) := by
    intro N
    induction N with
    | zero => intros; omega
    | succ N ih39 =>
      intro be i hf0_39 hN39
      refine hR (?_ : R (_, _, _, _, _, _))
      refine hR (t_c 5461 (by decide) ?_)
      iterate 2 refine hR (?_ : R (_, _, _, _, _, _))
      refine hR (t_mul ?_)
      refine hR (j_ge (by omega) (by omega) (fun hc24 => ?_) (fun hc24 => ?_))
      · skip
        refine hR (?_ : R (_, _, _, _, _, _))
        refine hR (t_c 1000000 (by decide) ?_)
        refine hR (j_any ?_ ?_)
        · skip
          refine hR (?_ : R (_, _, _, _, _, _))
          exact hR (zret_i rfl (Nat.le_refl _) trivial (h _ _ _ _ _ _ _ _ _ _ _ _ hp12 hp13 hp21 (by omega) hp15))
        iterate 2 refine hR (?_ : R (_, _, _, _, _, _))
        exact hR (zret_i rfl (Nat.le_refl _) trivial (h _ _ _ _ _ _ _ _ _ _ _ _ hp12 hp13 hp21 (by omega) hp15))
      iterate 3 refine hR (?_ : R (_, _, _, _, _, _))
      refine hR (t_ldB hp13 (by omega) (by omega) (Nat.le_of_ble_eq_true rfl) fun v25 ev25 lv25 uv25 => ?_)
      clear ev25
      refine hR (?_ : R (_, _, _, _, _, _))
      refine hR (j_ne (by omega) (by omega) (fun hc26 => ?_) (fun hc26 => ?_))
      · skip
        iterate 2 refine hR (?_ : R (_, _, _, _, _, _))
        refine hR (t_inc ?_)
        refine hR (?_ : R (_, _, _, _, _, _))
        exact ih39 _ _ (by omega) (by omega)
      iterate 4 refine hR (?_ : R (_, _, _, _, _, _))
      refine hR (t_c 5461 (by decide) ?_)
      refine hR (t_rem (by omega) (by omega) (by omega) (by omega) ?_)
      refine hR (t_ldo (by omega) (by omega) (Nat.le_of_ble_eq_true rfl) fun v27 rv27 => ?_)
      refine hR (?_ : R (_, _, _, _, _, _))
      refine hR (t_add ?_)
      refine hR (zcall_i 0 0 (Nat.le_of_ble_eq_true rfl) (Nat.le_of_ble_eq_true rfl) (m_lesserx _ be (v27 + 1) _ _ fun v28 => ?_))
      refine (?_ : R (_, _, (.int (Int32.ofInt v28)) :: [], (zMi c0 c1 c2 c3 c4 c5 c6 c7 c8 c9 c10 c11 c12 c13 0 f9 f10 f11 f12 f13 f15 f16 f17 y20_5 y21_6 y22_7 y23_8 y26_9 f28 f31 f32 f33 y38_18 f41 f44 x14 g15 g16 g17 g18 g19 g20 g21 g22 g23 g24 k25_10 g26 g27 g28 g29 k30_11 k31_20 g32 k33_19 g34 g35 g36 g37 g38 g39 g40 g41 g42 g43 g44 t), 0, 0))
      iterate 2 refine hR (?_ : R (_, _, _, _, _, _))
      refine hR (t_inc ?_)
      refine hR (?_ : R (_, _, _, _, _, _))
      exact ih39 _ _ (by omega) (by omega)
  exact lp39 400000000 _ _ (by omega) (by omega)
theorem m_reach (d : Nat) (a1 a2 a3 : Int) (hb19 : zB 0 2 g19) (hb25 : zB 0 3 g25) (hb30 : zB 0 5460 g30) (hb33 : zB 0 5460 g33) (hr4 : bkOK g20) (hr5 : -2147483648 ≤ a1 ∧ a1 ≤ 2147483647) (hr6 : -2147483648 ≤ a2 ∧ a2 ≤ 2147483647) (hr7 : -2147483648 ≤ a3 ∧ a3 ≤ 2147483647) (hr8 : -1 ≤ f21 ∧ f21 ≤ 1) (hr9 : RMD g30 g20 f21) (Q : zQ) (h : ∀ (v : Int) (y0 : Int) (y20 : Int) (y21 : Int) (y22 : Int) (y23 : Int) (y26 : Int) (y38 : Int) (k25 : Nat → Int32) (k30 : Nat → Int32) (k31 : Nat → Int32) (k33 : Nat → Int32), zB 0 3 k25 → zB 0 5460 k30 → zB 0 5460 k33 → (-1 ≤ y21 ∧ y21 ≤ 1) → (RMD k30 g20 y21) → Q (some (.int (Int32.ofInt v))) (zMi c0 c1 c2 c3 c4 c5 c6 c7 c8 c9 c10 c11 c12 c13 y0 f9 f10 f11 f12 f13 f15 f16 f17 y20 y21 y22 y23 y26 f28 f31 f32 f33 y38 f41 f44 x14 g15 g16 g17 g18 g19 g20 g21 g22 g23 g24 k25 g26 g27 g28 g29 k30 k31 g32 k33 g34 g35 g36 g37 g38 g39 g40 g41 g42 g43 g44 t)) : zCl zTab (d + 7) iX12_reach [.ref 14, .int (Int32.ofInt a1), .int (Int32.ofInt a2), .int (Int32.ofInt a3)] (zMi c0 c1 c2 c3 c4 c5 c6 c7 c8 c9 c10 c11 c12 c13 f0 f9 f10 f11 f12 f13 f15 f16 f17 f20 f21 f22 f23 f26 f28 f31 f32 f33 f38 f41 f44 x14 g15 g16 g17 g18 g19 g20 g21 g22 g23 g24 g25 g26 g27 g28 g29 g30 g31 g32 g33 g34 g35 g36 g37 g38 g39 g40 g41 g42 g43 g44 t) 0 0 Q := by
  refine zCl_i (M := kX12_reach) rfl (Nat.le_of_ble_eq_true rfl) fun R hR => ?_
  iterate 2 refine hR (?_ : R (_, _, _, _, _, _))
  refine hR (?_ : R (_, _, _, (zMi c0 c1 c2 c3 c4 c5 c6 c7 c8 c9 c10 c11 c12 c13 0 f9 f10 f11 f12 f13 f15 f16 f17 f20 f21 f22 f23 f26 f28 f31 f32 f33 f38 f41 f44 x14 g15 g16 g17 g18 g19 g20 g21 g22 g23 g24 g25 g26 g27 g28 g29 g30 g31 g32 g33 g34 g35 g36 g37 g38 g39 g40 g41 g42 g43 g44 t), _, _))
  refine hR (?_ : R (_, _, _, _, _, _))
  refine hR (zcall_i 0 0 (Nat.le_of_ble_eq_true rfl) (Nat.le_of_ble_eq_true rfl) (m_isText _ a2 _ (by omega) _ fun v1 hp2 => ?_))
  refine (?_ : R (_, _, (.int (Int32.ofInt v1)) :: [], (zMi c0 c1 c2 c3 c4 c5 c6 c7 c8 c9 c10 c11 c12 c13 0 f9 f10 f11 f12 f13 f15 f16 f17 f20 f21 f22 f23 f26 f28 f31 f32 f33 f38 f41 f44 x14 g15 g16 g17 g18 g19 g20 g21 g22 g23 g24 g25 g26 g27 g28 g29 g30 g31 g32 g33 g34 g35 g36 g37 g38 g39 g40 g41 g42 g43 g44 t), 0, 0))
  refine hR (k_eq (by omega) (fun hc3 => ?_) (fun hc3 => ?_))
  · skip
    refine hR (?_ : R (_, _, _, _, _, _))
    exact hR (zret_i rfl (Nat.le_refl _) trivial (h _ _ _ _ _ _ _ _ _ _ _ _ hb25 hb30 hb33 (by omega) hr9))
  iterate 2 refine hR (?_ : R (_, _, _, _, _, _))
  refine hR (zcall_i 0 0 (Nat.le_of_ble_eq_true rfl) (Nat.le_of_ble_eq_true rfl) (m_handAll _ a1 hb19 hb25 hb30 hr4 (by omega) (by omega) hr9 _ fun v4 y20_5 y21_6 y22_7 y23_8 y26_9 k25_10 k30_11 hp12 hp13 hp14 hp15 hp16 => ?_))
  refine (?_ : R (_, _, (.int (Int32.ofInt v4)) :: [], (zMi c0 c1 c2 c3 c4 c5 c6 c7 c8 c9 c10 c11 c12 c13 0 f9 f10 f11 f12 f13 f15 f16 f17 y20_5 y21_6 y22_7 y23_8 y26_9 f28 f31 f32 f33 f38 f41 f44 x14 g15 g16 g17 g18 g19 g20 g21 g22 g23 g24 k25_10 g26 g27 g28 g29 k30_11 g31 g32 g33 g34 g35 g36 g37 g38 g39 g40 g41 g42 g43 g44 t), 0, 0))
  refine hR (k_ne (by omega) (fun hc17 => ?_) (fun hc17 => ?_))
  rotate_left
  · skip
    refine hR (?_ : R (_, _, _, _, _, _))
    exact hR (zret_i rfl (Nat.le_refl _) trivial (h _ _ _ _ _ _ _ _ _ _ _ _ hp12 hp13 hb33 (by omega) hp15))
  iterate 5 refine hR (?_ : R (_, _, _, _, _, _))
  refine hR (zcall_i 0 0 (Nat.le_of_ble_eq_true rfl) (Nat.le_of_ble_eq_true rfl) (m_findFar31 _ a2 0 hp13 (by omega) (by omega) hb33 _ fun y38_18 k33_19 k31_20 hp21 hp22 hp23 => ?_))
  refine (?_ : R (_, _, [], (zMi c0 c1 c2 c3 c4 c5 c6 c7 c8 c9 c10 c11 c12 c13 0 f9 f10 f11 f12 f13 f15 f16 f17 y20_5 y21_6 y22_7 y23_8 y26_9 f28 f31 f32 f33 y38_18 f41 f44 x14 g15 g16 g17 g18 g19 g20 g21 g22 g23 g24 k25_10 g26 g27 g28 g29 k30_11 k31_20 g32 k33_19 g34 g35 g36 g37 g38 g39 g40 g41 g42 g43 g44 t), 0, 0))
  refine hR (?_ : R (_, _, _, _, _, _))
  refine hR (k_eq (by omega) (fun hc24 => ?_) (fun hc24 => ?_))
  · skip
    iterate 2 refine hR (?_ : R (_, _, _, _, _, _))
    exact hR (zret_i rfl (Nat.le_refl _) trivial (h _ _ _ _ _ _ _ _ _ _ _ _ hp12 hp13 hp21 (by omega) hp15))
  iterate 7 refine hR (?_ : R (_, _, _, _, _, _))
  refine hR (t_sub ?_)
  refine hR (t_ldB hp21 (by omega) (by omega) (Nat.le_of_ble_eq_true rfl) fun v25 ev25 lv25 uv25 => ?_)
  clear ev25
  refine hR (t_ldo (by omega) (by omega) (Nat.le_of_ble_eq_true rfl) fun v26 rv26 => ?_)
  refine hR (?_ : R (_, _, _, _, _, _))
  exact hR (zret_i rfl (Nat.le_refl _) trivial (h _ _ _ _ _ _ _ _ _ _ _ _ hp12 hp13 hp21 (by omega) hp15))
theorem m_joined (d : Nat) (a1 a2 a3 a4 : Int) (hb19 : zB 0 2 g19) (hb25 : zB 0 3 g25) (hb30 : zB 0 5460 g30) (hb33 : zB 0 5460 g33) (hr4 : bkOK g20) (hr5 : -2147483648 ≤ a1 ∧ a1 ≤ 2147483647) (hr6 : -2147483648 ≤ a2 ∧ a2 ≤ 2147483647) (hr7 : -2147483648 ≤ a3 ∧ a3 ≤ 2147483647) (hr8 : -2147483648 ≤ a4 ∧ a4 ≤ 2147483647) (hr9 : -1 ≤ f21 ∧ f21 ≤ 1) (hr10 : RMD g30 g20 f21) (Q : zQ) (h : ∀ (v : Int) (y0 : Int) (y20 : Int) (y21 : Int) (y22 : Int) (y23 : Int) (y26 : Int) (y38 : Int) (k25 : Nat → Int32) (k30 : Nat → Int32) (k31 : Nat → Int32) (k32 : Nat → Int32) (k33 : Nat → Int32), zB 0 3 k25 → zB 0 5460 k30 → zB 0 5460 k33 → (-1 ≤ y21 ∧ y21 ≤ 1) → (RMD k30 g20 y21) → Q (some (.int (Int32.ofInt v))) (zMi c0 c1 c2 c3 c4 c5 c6 c7 c8 c9 c10 c11 c12 c13 y0 f9 f10 f11 f12 f13 f15 f16 f17 y20 y21 y22 y23 y26 f28 f31 f32 f33 y38 f41 f44 x14 g15 g16 g17 g18 g19 g20 g21 g22 g23 g24 k25 g26 g27 g28 g29 k30 k31 k32 k33 g34 g35 g36 g37 g38 g39 g40 g41 g42 g43 g44 t)) : zCl zTab (d + 7) iX12_joined [.ref 14, .int (Int32.ofInt a1), .int (Int32.ofInt a2), .int (Int32.ofInt a3), .int (Int32.ofInt a4)] (zMi c0 c1 c2 c3 c4 c5 c6 c7 c8 c9 c10 c11 c12 c13 f0 f9 f10 f11 f12 f13 f15 f16 f17 f20 f21 f22 f23 f26 f28 f31 f32 f33 f38 f41 f44 x14 g15 g16 g17 g18 g19 g20 g21 g22 g23 g24 g25 g26 g27 g28 g29 g30 g31 g32 g33 g34 g35 g36 g37 g38 g39 g40 g41 g42 g43 g44 t) 0 0 Q := by
  refine zCl_i (M := kX12_joined) rfl (Nat.le_of_ble_eq_true rfl) fun R hR => ?_
  iterate 2 refine hR (?_ : R (_, _, _, _, _, _))
  refine hR (?_ : R (_, _, _, (zMi c0 c1 c2 c3 c4 c5 c6 c7 c8 c9 c10 c11 c12 c13 0 f9 f10 f11 f12 f13 f15 f16 f17 f20 f21 f22 f23 f26 f28 f31 f32 f33 f38 f41 f44 x14 g15 g16 g17 g18 g19 g20 g21 g22 g23 g24 g25 g26 g27 g28 g29 g30 g31 g32 g33 g34 g35 g36 g37 g38 g39 g40 g41 g42 g43 g44 t), _, _))
  refine hR (?_ : R (_, _, _, _, _, _))
  refine hR (zcall_i 0 0 (Nat.le_of_ble_eq_true rfl) (Nat.le_of_ble_eq_true rfl) (m_isText _ a2 _ (by omega) _ fun v1 hp2 => ?_))
  refine (?_ : R (_, _, (.int (Int32.ofInt v1)) :: [], (zMi c0 c1 c2 c3 c4 c5 c6 c7 c8 c9 c10 c11 c12 c13 0 f9 f10 f11 f12 f13 f15 f16 f17 f20 f21 f22 f23 f26 f28 f31 f32 f33 f38 f41 f44 x14 g15 g16 g17 g18 g19 g20 g21 g22 g23 g24 g25 g26 g27 g28 g29 g30 g31 g32 g33 g34 g35 g36 g37 g38 g39 g40 g41 g42 g43 g44 t), 0, 0))
  refine hR (k_eq (by omega) (fun hc3 => ?_) (fun hc3 => ?_))
  · skip
    refine hR (?_ : R (_, _, _, _, _, _))
    exact hR (zret_i rfl (Nat.le_refl _) trivial (h _ _ _ _ _ _ _ _ _ _ _ _ _ hb25 hb30 hb33 (by omega) hr10))
  refine hR (?_ : R (_, _, _, _, _, _))
  refine hR (zcall_i 0 0 (Nat.le_of_ble_eq_true rfl) (Nat.le_of_ble_eq_true rfl) (m_isText _ a3 _ (by omega) _ fun v4 hp5 => ?_))
  refine (?_ : R (_, _, (.int (Int32.ofInt v4)) :: [], (zMi c0 c1 c2 c3 c4 c5 c6 c7 c8 c9 c10 c11 c12 c13 0 f9 f10 f11 f12 f13 f15 f16 f17 f20 f21 f22 f23 f26 f28 f31 f32 f33 f38 f41 f44 x14 g15 g16 g17 g18 g19 g20 g21 g22 g23 g24 g25 g26 g27 g28 g29 g30 g31 g32 g33 g34 g35 g36 g37 g38 g39 g40 g41 g42 g43 g44 t), 0, 0))
  refine hR (k_eq (by omega) (fun hc6 => ?_) (fun hc6 => ?_))
  · skip
    refine hR (?_ : R (_, _, _, _, _, _))
    exact hR (zret_i rfl (Nat.le_refl _) trivial (h _ _ _ _ _ _ _ _ _ _ _ _ _ hb25 hb30 hb33 (by omega) hr10))
  iterate 2 refine hR (?_ : R (_, _, _, _, _, _))
  refine hR (zcall_i 0 0 (Nat.le_of_ble_eq_true rfl) (Nat.le_of_ble_eq_true rfl) (m_handAll _ a1 hb19 hb25 hb30 hr4 (by omega) (by omega) hr10 _ fun v7 y20_8 y21_9 y22_10 y23_11 y26_12 k25_13 k30_14 hp15 hp16 hp17 hp18 hp19 => ?_))
  refine (?_ : R (_, _, (.int (Int32.ofInt v7)) :: [], (zMi c0 c1 c2 c3 c4 c5 c6 c7 c8 c9 c10 c11 c12 c13 0 f9 f10 f11 f12 f13 f15 f16 f17 y20_8 y21_9 y22_10 y23_11 y26_12 f28 f31 f32 f33 f38 f41 f44 x14 g15 g16 g17 g18 g19 g20 g21 g22 g23 g24 k25_13 g26 g27 g28 g29 k30_14 g31 g32 g33 g34 g35 g36 g37 g38 g39 g40 g41 g42 g43 g44 t), 0, 0))
  refine hR (k_ne (by omega) (fun hc20 => ?_) (fun hc20 => ?_))
  rotate_left
  · skip
    refine hR (?_ : R (_, _, _, _, _, _))
    exact hR (zret_i rfl (Nat.le_refl _) trivial (h _ _ _ _ _ _ _ _ _ _ _ _ _ hp15 hp16 hb33 (by omega) hp18))
  iterate 5 refine hR (?_ : R (_, _, _, _, _, _))
  refine hR (zcall_i 0 0 (Nat.le_of_ble_eq_true rfl) (Nat.le_of_ble_eq_true rfl) (m_findFar31 _ a2 0 hp16 (by omega) (by omega) hb33 _ fun y38_21 k33_22 k31_23 hp24 hp25 hp26 => ?_))
  refine (?_ : R (_, _, [], (zMi c0 c1 c2 c3 c4 c5 c6 c7 c8 c9 c10 c11 c12 c13 0 f9 f10 f11 f12 f13 f15 f16 f17 y20_8 y21_9 y22_10 y23_11 y26_12 f28 f31 f32 f33 y38_21 f41 f44 x14 g15 g16 g17 g18 g19 g20 g21 g22 g23 g24 k25_13 g26 g27 g28 g29 k30_14 k31_23 g32 k33_22 g34 g35 g36 g37 g38 g39 g40 g41 g42 g43 g44 t), 0, 0))
  iterate 5 refine hR (?_ : R (_, _, _, _, _, _))
  refine hR (zcall_i 0 0 (Nat.le_of_ble_eq_true rfl) (Nat.le_of_ble_eq_true rfl) (m_findFar32 _ a3 0 hp16 (by omega) (by omega) hp24 _ fun y38_27 k33_28 k32_29 hp30 hp31 hp32 => ?_))
  refine (?_ : R (_, _, [], (zMi c0 c1 c2 c3 c4 c5 c6 c7 c8 c9 c10 c11 c12 c13 0 f9 f10 f11 f12 f13 f15 f16 f17 y20_8 y21_9 y22_10 y23_11 y26_12 f28 f31 f32 f33 y38_27 f41 f44 x14 g15 g16 g17 g18 g19 g20 g21 g22 g23 g24 k25_13 g26 g27 g28 g29 k30_14 k31_23 k32_29 k33_28 g34 g35 g36 g37 g38 g39 g40 g41 g42 g43 g44 t), 0, 0))
  iterate 2 refine hR (?_ : R (_, _, _, _, _, _))
  refine hR (t_c 1000000 (by decide) ?_)
  iterate 3 refine hR (?_ : R (_, _, _, _, _, _))
  have lp60 : ∀ (N : Nat) (be : Int) (fe : Int) (i : Int) (o8_60 : Option Value), (zc2 o8_60 = false) → (-1 ≤ be ∧ be ≤ 5460) → (0 ≤ i ∧ i ≤ 5461) → (5461 - i < N) → R (60, [some (.ref 14), some (.int (Int32.ofInt a1)), some (.int (Int32.ofInt a2)), some (.int (Int32.ofInt a3)), some (.int (Int32.ofInt a4)), some (.int (Int32.ofInt be)), some (.int (Int32.ofInt fe)), some (.int (Int32.ofInt i)), o8_60], [], (zMi c0 c1 c2 c3 c4 c5 c6 c7 c8 c9 c10 c11 c12 c13 0 f9 f10 f11 f12 f13 f15 f16 f17 y20_8 y21_9 y22_10 y23_11 y26_12 f28 f31 f32 f33 y38_27 f41 f44 x14 g15 g16 g17 g18 g19 g20 g21 g22 g23 g24 k25_13 g26 g27 g28 g29 k30_14 k31_23 k32_29 k33_28 g34 g35 g36 g37 g38 g39 g40 g41 g42 g43 g44 t), 0, 0) := by
    intro N
    induction N with
    | zero => intros; omega
    | succ N ih60 =>
      intro be fe i o8_60 hzo8_60 hf0_60 hf1_60 hN60
      refine hR (?_ : R (_, _, _, _, _, _))
      refine hR (t_c 5461 (by decide) ?_)
      refine hR (j_ge (by omega) (by omega) (fun hc33 => ?_) (fun hc33 => ?_))
      · skip
        iterate 2 refine hR (?_ : R (_, _, _, _, _, _))
        refine hR (j_eq (by omega) (by omega) (fun hc34 => ?_) (fun hc34 => ?_))
        · skip
          iterate 2 refine hR (?_ : R (_, _, _, _, _, _))
          exact hR (zret_i rfl (Nat.le_refl _) trivial (h _ _ _ _ _ _ _ _ _ _ _ _ _ hp15 hp16 hp30 (by omega) hp18))
        refine hR (?_ : R (_, _, _, _, _, _))
        refine hR (k_eq (by omega) (fun hc35 => ?_) (fun hc35 => ?_))
        · skip
          refine hR (?_ : R (_, _, _, _, _, _))
          exact hR (zret_i rfl (Nat.le_refl _) trivial (h _ _ _ _ _ _ _ _ _ _ _ _ _ hp15 hp16 hp30 (by omega) hp18))
        iterate 2 refine hR (?_ : R (_, _, _, _, _, _))
        exact hR (zret_i rfl (Nat.le_refl _) trivial (h _ _ _ _ _ _ _ _ _ _ _ _ _ hp15 hp16 hp30 (by omega) hp18))
      iterate 3 refine hR (?_ : R (_, _, _, _, _, _))
      refine hR (t_ldo (by omega) (by omega) (Nat.le_of_ble_eq_true rfl) fun v36 rv36 => ?_)
      iterate 3 refine hR (?_ : R (_, _, _, _, _, _))
      refine hR (t_ldo (by omega) (by omega) (Nat.le_of_ble_eq_true rfl) fun v37 rv37 => ?_)
      refine hR (t_add ?_)
      iterate 3 refine hR (?_ : R (_, _, _, _, _, _))
      refine hR (j_any ?_ ?_)
      · skip
        iterate 4 refine hR (?_ : R (_, _, _, _, _, _))
        refine hR (zcall_i 0 0 (Nat.le_of_ble_eq_true rfl) (Nat.le_of_ble_eq_true rfl) (m_lesserx _ fe (v36 + v37) _ _ fun v38 => ?_))
        refine (?_ : R (_, _, (.int (Int32.ofInt v38)) :: [], (zMi c0 c1 c2 c3 c4 c5 c6 c7 c8 c9 c10 c11 c12 c13 0 f9 f10 f11 f12 f13 f15 f16 f17 y20_8 y21_9 y22_10 y23_11 y26_12 f28 f31 f32 f33 y38_27 f41 f44 x14 g15 g16 g17 g18 g19 g20 g21 g22 g23 g24 k25_13 g26 g27 g28 g29 k30_14 k31_23 k32_29 k33_28 g34 g35 g36 g37 g38 g39 g40 g41 g42 g43 g44 t), 0, 0))
        refine hR (?_ : R (_, _, _, _, _, _))
        refine hR (t_inc ?_)
        refine hR (?_ : R (_, _, _, _, _, _))
        exact ih60 _ _ _ _ (by rfl) (by omega) (by omega) (by omega)
      iterate 5 refine hR (?_ : R (_, _, _, _, _, _))
      refine hR (zcall_i 0 0 (Nat.le_of_ble_eq_true rfl) (Nat.le_of_ble_eq_true rfl) (m_lesserx _ fe (v36 + v37) _ _ fun v39 => ?_))
      refine (?_ : R (_, _, (.int (Int32.ofInt v39)) :: [], (zMi c0 c1 c2 c3 c4 c5 c6 c7 c8 c9 c10 c11 c12 c13 0 f9 f10 f11 f12 f13 f15 f16 f17 y20_8 y21_9 y22_10 y23_11 y26_12 f28 f31 f32 f33 y38_27 f41 f44 x14 g15 g16 g17 g18 g19 g20 g21 g22 g23 g24 k25_13 g26 g27 g28 g29 k30_14 k31_23 k32_29 k33_28 g34 g35 g36 g37 g38 g39 g40 g41 g42 g43 g44 t), 0, 0))
      refine hR (?_ : R (_, _, _, _, _, _))
      refine hR (t_inc ?_)
      refine hR (?_ : R (_, _, _, _, _, _))
      exact ih60 _ _ _ _ (by rfl) (by omega) (by omega) (by omega)
  exact lp60 400000000 _ _ _ _ (by rfl) (by omega) (by omega) (by omega)
theorem m_nearest (d : Nat) (a1 a2 a3 a4 : Int) (hb19 : zB 0 2 g19) (hb25 : zB 0 3 g25) (hb26 : zB 0 3 g26) (hb30 : zB 0 5460 g30) (hb33 : zB 0 5460 g33) (hr5 : bkOK g20) (hr6 : -2147483648 ≤ a1 ∧ a1 ≤ 2147483647) (hr7 : -2147483648 ≤ a2 ∧ a2 ≤ 2147483647) (hr8 : -2147483648 ≤ a3 ∧ a3 ≤ 2147483647) (hr9 : -2147483648 ≤ a4 ∧ a4 ≤ 2147483647) (hr10 : -1 ≤ f21 ∧ f21 ≤ 1) (hr11 : RMD g30 g20 f21) (Q : zQ) (h : ∀ (v : Int) (y0 : Int) (y20 : Int) (y21 : Int) (y22 : Int) (y23 : Int) (y26 : Int) (y38 : Int) (k25 : Nat → Int32) (k26 : Nat → Int32) (k27 : Nat → Int32) (k30 : Nat → Int32) (k31 : Nat → Int32) (k33 : Nat → Int32), zB 0 3 k25 → zB 0 3 k26 → zB 0 5460 k30 → zB 0 5460 k33 → (-1 ≤ y21 ∧ y21 ≤ 1) → (RMD k30 g20 y21) → Q (some (.int (Int32.ofInt v))) (zMi c0 c1 c2 c3 c4 c5 c6 c7 c8 c9 c10 c11 c12 c13 y0 f9 f10 f11 f12 f13 f15 f16 f17 y20 y21 y22 y23 y26 f28 f31 f32 f33 y38 f41 f44 x14 g15 g16 g17 g18 g19 g20 g21 g22 g23 g24 k25 k26 k27 g28 g29 k30 k31 g32 k33 g34 g35 g36 g37 g38 g39 g40 g41 g42 g43 g44 t)) : zCl zTab (d + 7) iX12_nearest [.ref 14, .int (Int32.ofInt a1), .int (Int32.ofInt a2), .int (Int32.ofInt a3), .int (Int32.ofInt a4)] (zMi c0 c1 c2 c3 c4 c5 c6 c7 c8 c9 c10 c11 c12 c13 f0 f9 f10 f11 f12 f13 f15 f16 f17 f20 f21 f22 f23 f26 f28 f31 f32 f33 f38 f41 f44 x14 g15 g16 g17 g18 g19 g20 g21 g22 g23 g24 g25 g26 g27 g28 g29 g30 g31 g32 g33 g34 g35 g36 g37 g38 g39 g40 g41 g42 g43 g44 t) 0 0 Q := by
  refine zCl_i (M := kX12_nearest) rfl (Nat.le_of_ble_eq_true rfl) fun R hR => ?_
  iterate 2 refine hR (?_ : R (_, _, _, _, _, _))
  refine hR (?_ : R (_, _, _, (zMi c0 c1 c2 c3 c4 c5 c6 c7 c8 c9 c10 c11 c12 c13 0 f9 f10 f11 f12 f13 f15 f16 f17 f20 f21 f22 f23 f26 f28 f31 f32 f33 f38 f41 f44 x14 g15 g16 g17 g18 g19 g20 g21 g22 g23 g24 g25 g26 g27 g28 g29 g30 g31 g32 g33 g34 g35 g36 g37 g38 g39 g40 g41 g42 g43 g44 t), _, _))
  refine hR (?_ : R (_, _, _, _, _, _))
  refine hR (zcall_i 0 0 (Nat.le_of_ble_eq_true rfl) (Nat.le_of_ble_eq_true rfl) (m_isText _ a2 _ (by omega) _ fun v1 hp2 => ?_))
  refine (?_ : R (_, _, (.int (Int32.ofInt v1)) :: [], (zMi c0 c1 c2 c3 c4 c5 c6 c7 c8 c9 c10 c11 c12 c13 0 f9 f10 f11 f12 f13 f15 f16 f17 f20 f21 f22 f23 f26 f28 f31 f32 f33 f38 f41 f44 x14 g15 g16 g17 g18 g19 g20 g21 g22 g23 g24 g25 g26 g27 g28 g29 g30 g31 g32 g33 g34 g35 g36 g37 g38 g39 g40 g41 g42 g43 g44 t), 0, 0))
  refine hR (k_eq (by omega) (fun hc3 => ?_) (fun hc3 => ?_))
  · skip
    refine hR (?_ : R (_, _, _, _, _, _))
    exact hR (zret_i rfl (Nat.le_refl _) trivial (h _ _ _ _ _ _ _ _ _ _ _ _ _ _ hb25 hb26 hb30 hb33 (by omega) hr11))
  refine hR (?_ : R (_, _, _, _, _, _))
  refine hR (zcall_i 0 0 (Nat.le_of_ble_eq_true rfl) (Nat.le_of_ble_eq_true rfl) (m_isText _ a3 _ (by omega) _ fun v4 hp5 => ?_))
  refine (?_ : R (_, _, (.int (Int32.ofInt v4)) :: [], (zMi c0 c1 c2 c3 c4 c5 c6 c7 c8 c9 c10 c11 c12 c13 0 f9 f10 f11 f12 f13 f15 f16 f17 f20 f21 f22 f23 f26 f28 f31 f32 f33 f38 f41 f44 x14 g15 g16 g17 g18 g19 g20 g21 g22 g23 g24 g25 g26 g27 g28 g29 g30 g31 g32 g33 g34 g35 g36 g37 g38 g39 g40 g41 g42 g43 g44 t), 0, 0))
  refine hR (k_eq (by omega) (fun hc6 => ?_) (fun hc6 => ?_))
  · skip
    refine hR (?_ : R (_, _, _, _, _, _))
    exact hR (zret_i rfl (Nat.le_refl _) trivial (h _ _ _ _ _ _ _ _ _ _ _ _ _ _ hb25 hb26 hb30 hb33 (by omega) hr11))
  iterate 2 refine hR (?_ : R (_, _, _, _, _, _))
  refine hR (zcall_i 0 0 (Nat.le_of_ble_eq_true rfl) (Nat.le_of_ble_eq_true rfl) (m_handAll _ a1 hb19 hb25 hb30 hr5 (by omega) (by omega) hr11 _ fun v7 y20_8 y21_9 y22_10 y23_11 y26_12 k25_13 k30_14 hp15 hp16 hp17 hp18 hp19 => ?_))
  refine (?_ : R (_, _, (.int (Int32.ofInt v7)) :: [], (zMi c0 c1 c2 c3 c4 c5 c6 c7 c8 c9 c10 c11 c12 c13 0 f9 f10 f11 f12 f13 f15 f16 f17 y20_8 y21_9 y22_10 y23_11 y26_12 f28 f31 f32 f33 f38 f41 f44 x14 g15 g16 g17 g18 g19 g20 g21 g22 g23 g24 k25_13 g26 g27 g28 g29 k30_14 g31 g32 g33 g34 g35 g36 g37 g38 g39 g40 g41 g42 g43 g44 t), 0, 0))
  refine hR (k_ne (by omega) (fun hc20 => ?_) (fun hc20 => ?_))
  rotate_left
  · skip
    refine hR (?_ : R (_, _, _, _, _, _))
    exact hR (zret_i rfl (Nat.le_refl _) trivial (h _ _ _ _ _ _ _ _ _ _ _ _ _ _ hp15 hb26 hp16 hb33 (by omega) hp18))
  iterate 5 refine hR (?_ : R (_, _, _, _, _, _))
  refine hR (zcall_i 0 0 (Nat.le_of_ble_eq_true rfl) (Nat.le_of_ble_eq_true rfl) (m_findFar31 _ a2 0 hp16 (by omega) (by omega) hb33 _ fun y38_21 k33_22 k31_23 hp24 hp25 hp26 => ?_))
  refine (?_ : R (_, _, [], (zMi c0 c1 c2 c3 c4 c5 c6 c7 c8 c9 c10 c11 c12 c13 0 f9 f10 f11 f12 f13 f15 f16 f17 y20_8 y21_9 y22_10 y23_11 y26_12 f28 f31 f32 f33 y38_21 f41 f44 x14 g15 g16 g17 g18 g19 g20 g21 g22 g23 g24 k25_13 g26 g27 g28 g29 k30_14 k31_23 g32 k33_22 g34 g35 g36 g37 g38 g39 g40 g41 g42 g43 g44 t), 0, 0))
  iterate 2 refine hR (?_ : R (_, _, _, _, _, _))
  refine hR (t_c 1000000 (by decide) ?_)
  iterate 3 refine hR (?_ : R (_, _, _, _, _, _))
  have lp50 : ∀ (N : Nat) (be : Int) (fe : Int) (i : Int) (o8_50 : Option Value) (q25_50 : Nat → Int32) (q26_50 : Nat → Int32) (q27_50 : Nat → Int32), (zc2 o8_50 = false) → (-1 ≤ be ∧ be ≤ 5460) → (0 ≤ i ∧ i ≤ 5461) → (zB 0 3 q25_50) → (zB 0 3 q26_50) → (5461 - i < N) → R (50, [some (.ref 14), some (.int (Int32.ofInt a1)), some (.int (Int32.ofInt a2)), some (.int (Int32.ofInt a3)), some (.int (Int32.ofInt a4)), some (.int (Int32.ofInt be)), some (.int (Int32.ofInt fe)), some (.int (Int32.ofInt i)), o8_50], [], (zMi c0 c1 c2 c3 c4 c5 c6 c7 c8 c9 c10 c11 c12 c13 0 f9 f10 f11 f12 f13 f15 f16 f17 y20_8 y21_9 y22_10 y23_11 y26_12 f28 f31 f32 f33 y38_21 f41 f44 x14 g15 g16 g17 g18 g19 g20 g21 g22 g23 g24 q25_50 q26_50 q27_50 g28 g29 k30_14 k31_23 g32 k33_22 g34 g35 g36 g37 g38 g39 g40 g41 g42 g43 g44 t), 0, 0) := by
    intro N
    induction N with
    | zero => intros; omega
    | succ N ih50 =>
      intro be fe i o8_50 q25_50 q26_50 q27_50 hzo8_50 hf0_50 hf1_50 hq25_50 hq26_50 hN50
      refine hR (?_ : R (_, _, _, _, _, _))
      refine hR (t_c 5461 (by decide) ?_)
      refine hR (j_ge (by omega) (by omega) (fun hc27 => ?_) (fun hc27 => ?_))
      · skip
        refine hR (?_ : R (_, _, _, _, _, _))
        refine hR (k_eq (by omega) (fun hc28 => ?_) (fun hc28 => ?_))
        · skip
          refine hR (?_ : R (_, _, _, _, _, _))
          exact hR (zret_i rfl (Nat.le_refl _) trivial (h _ _ _ _ _ _ _ _ _ _ _ _ _ _ hq25_50 hq26_50 hp16 hp24 (by omega) hp18))
        iterate 2 refine hR (?_ : R (_, _, _, _, _, _))
        exact hR (zret_i rfl (Nat.le_refl _) trivial (h _ _ _ _ _ _ _ _ _ _ _ _ _ _ hq25_50 hq26_50 hp16 hp24 (by omega) hp18))
      iterate 3 refine hR (?_ : R (_, _, _, _, _, _))
      refine hR (t_ldo (by omega) (by omega) (Nat.le_of_ble_eq_true rfl) fun v29 rv29 => ?_)
      refine hR (t_c 1000000 (by decide) ?_)
      refine hR (j_any ?_ ?_)
      · skip
        refine hR (t_c 1000000 (by decide) ?_)
        iterate 3 refine hR (?_ : R (_, _, _, _, _, _))
        refine hR (j_any ?_ ?_)
        · skip
          iterate 4 refine hR (?_ : R (_, _, _, _, _, _))
          refine hR (zcall_i 0 0 (Nat.le_of_ble_eq_true rfl) (Nat.le_of_ble_eq_true rfl) (m_lesserx _ fe 1000000 _ _ fun v30 => ?_))
          refine (?_ : R (_, _, (.int (Int32.ofInt v30)) :: [], (zMi c0 c1 c2 c3 c4 c5 c6 c7 c8 c9 c10 c11 c12 c13 0 f9 f10 f11 f12 f13 f15 f16 f17 y20_8 y21_9 y22_10 y23_11 y26_12 f28 f31 f32 f33 y38_21 f41 f44 x14 g15 g16 g17 g18 g19 g20 g21 g22 g23 g24 q25_50 q26_50 q27_50 g28 g29 k30_14 k31_23 g32 k33_22 g34 g35 g36 g37 g38 g39 g40 g41 g42 g43 g44 t), 0, 0))
          refine hR (?_ : R (_, _, _, _, _, _))
          refine hR (t_inc ?_)
          refine hR (?_ : R (_, _, _, _, _, _))
          exact ih50 _ _ _ _ _ _ _ (by rfl) (by omega) (by omega) hq25_50 hq26_50 (by omega)
        iterate 5 refine hR (?_ : R (_, _, _, _, _, _))
        refine hR (zcall_i 0 0 (Nat.le_of_ble_eq_true rfl) (Nat.le_of_ble_eq_true rfl) (m_lesserx _ fe 1000000 _ _ fun v31 => ?_))
        refine (?_ : R (_, _, (.int (Int32.ofInt v31)) :: [], (zMi c0 c1 c2 c3 c4 c5 c6 c7 c8 c9 c10 c11 c12 c13 0 f9 f10 f11 f12 f13 f15 f16 f17 y20_8 y21_9 y22_10 y23_11 y26_12 f28 f31 f32 f33 y38_21 f41 f44 x14 g15 g16 g17 g18 g19 g20 g21 g22 g23 g24 q25_50 q26_50 q27_50 g28 g29 k30_14 k31_23 g32 k33_22 g34 g35 g36 g37 g38 g39 g40 g41 g42 g43 g44 t), 0, 0))
        refine hR (?_ : R (_, _, _, _, _, _))
        refine hR (t_inc ?_)
        refine hR (?_ : R (_, _, _, _, _, _))
        exact ih50 _ _ _ _ _ _ _ (by rfl) (by omega) (by omega) hq25_50 hq26_50 (by omega)
      iterate 3 refine hR (?_ : R (_, _, _, _, _, _))
      refine hR (zcall_i 0 0 (Nat.le_of_ble_eq_true rfl) (Nat.le_of_ble_eq_true rfl) (m_apart _ i a3 hq25_50 hq26_50 (by omega) (by omega) _ fun v32 k25_33 k26_34 k27_35 hp36 hp37 hp38 hp39 => ?_))
      refine (?_ : R (_, _, (.int (Int32.ofInt v32)) :: [], (zMi c0 c1 c2 c3 c4 c5 c6 c7 c8 c9 c10 c11 c12 c13 0 f9 f10 f11 f12 f13 f15 f16 f17 y20_8 y21_9 y22_10 y23_11 y26_12 f28 f31 f32 f33 y38_21 f41 f44 x14 g15 g16 g17 g18 g19 g20 g21 g22 g23 g24 k25_33 k26_34 k27_35 g28 g29 k30_14 k31_23 g32 k33_22 g34 g35 g36 g37 g38 g39 g40 g41 g42 g43 g44 t), 0, 0))
      iterate 4 refine hR (?_ : R (_, _, _, _, _, _))
      refine hR (j_any ?_ ?_)
      · skip
        iterate 4 refine hR (?_ : R (_, _, _, _, _, _))
        refine hR (zcall_i 0 0 (Nat.le_of_ble_eq_true rfl) (Nat.le_of_ble_eq_true rfl) (m_lesserx _ fe v32 _ _ fun v40 => ?_))
        refine (?_ : R (_, _, (.int (Int32.ofInt v40)) :: [], (zMi c0 c1 c2 c3 c4 c5 c6 c7 c8 c9 c10 c11 c12 c13 0 f9 f10 f11 f12 f13 f15 f16 f17 y20_8 y21_9 y22_10 y23_11 y26_12 f28 f31 f32 f33 y38_21 f41 f44 x14 g15 g16 g17 g18 g19 g20 g21 g22 g23 g24 k25_33 k26_34 k27_35 g28 g29 k30_14 k31_23 g32 k33_22 g34 g35 g36 g37 g38 g39 g40 g41 g42 g43 g44 t), 0, 0))
        refine hR (?_ : R (_, _, _, _, _, _))
        refine hR (t_inc ?_)
        refine hR (?_ : R (_, _, _, _, _, _))
        exact ih50 _ _ _ _ _ _ _ (by rfl) (by omega) (by omega) hp36 hp37 (by omega)
      iterate 5 refine hR (?_ : R (_, _, _, _, _, _))
      refine hR (zcall_i 0 0 (Nat.le_of_ble_eq_true rfl) (Nat.le_of_ble_eq_true rfl) (m_lesserx _ fe v32 _ _ fun v41 => ?_))
      refine (?_ : R (_, _, (.int (Int32.ofInt v41)) :: [], (zMi c0 c1 c2 c3 c4 c5 c6 c7 c8 c9 c10 c11 c12 c13 0 f9 f10 f11 f12 f13 f15 f16 f17 y20_8 y21_9 y22_10 y23_11 y26_12 f28 f31 f32 f33 y38_21 f41 f44 x14 g15 g16 g17 g18 g19 g20 g21 g22 g23 g24 k25_33 k26_34 k27_35 g28 g29 k30_14 k31_23 g32 k33_22 g34 g35 g36 g37 g38 g39 g40 g41 g42 g43 g44 t), 0, 0))
      refine hR (?_ : R (_, _, _, _, _, _))
      refine hR (t_inc ?_)
      refine hR (?_ : R (_, _, _, _, _, _))
      exact ih50 _ _ _ _ _ _ _ (by rfl) (by omega) (by omega) hp36 hp37 (by omega)
  exact lp50 400000000 _ _ _ _ _ _ _ (by rfl) (by omega) (by omega) hp15 hb26 (by omega)
theorem m_settles (d : Nat) (a1 a2 a3 : Int) (hb19 : zB 0 2 g19) (hb25 : zB 0 3 g25) (hb30 : zB 0 5460 g30) (hb33 : zB 0 5460 g33) (hr4 : bkOK g20) (hr5 : -2147483648 ≤ a1 ∧ a1 ≤ 2147483647) (hr6 : -2147483648 ≤ a2 ∧ a2 ≤ 2147483647) (hr7 : -2147483648 ≤ a3 ∧ a3 ≤ 2147483647) (hr8 : -1 ≤ f21 ∧ f21 ≤ 1) (hr9 : RMD g30 g20 f21) (Q : zQ) (h : ∀ (v : Int) (y0 : Int) (y20 : Int) (y21 : Int) (y22 : Int) (y23 : Int) (y26 : Int) (y38 : Int) (k25 : Nat → Int32) (k30 : Nat → Int32) (k31 : Nat → Int32) (k33 : Nat → Int32), zB 0 3 k25 → zB 0 5460 k30 → zB 0 5460 k33 → (-1 ≤ y21 ∧ y21 ≤ 1) → (RMD k30 g20 y21) → Q (some (.int (Int32.ofInt v))) (zMi c0 c1 c2 c3 c4 c5 c6 c7 c8 c9 c10 c11 c12 c13 y0 f9 f10 f11 f12 f13 f15 f16 f17 y20 y21 y22 y23 y26 f28 f31 f32 f33 y38 f41 f44 x14 g15 g16 g17 g18 g19 g20 g21 g22 g23 g24 k25 g26 g27 g28 g29 k30 k31 g32 k33 g34 g35 g36 g37 g38 g39 g40 g41 g42 g43 g44 t)) : zCl zTab (d + 7) iX12_settles [.ref 14, .int (Int32.ofInt a1), .int (Int32.ofInt a2), .int (Int32.ofInt a3)] (zMi c0 c1 c2 c3 c4 c5 c6 c7 c8 c9 c10 c11 c12 c13 f0 f9 f10 f11 f12 f13 f15 f16 f17 f20 f21 f22 f23 f26 f28 f31 f32 f33 f38 f41 f44 x14 g15 g16 g17 g18 g19 g20 g21 g22 g23 g24 g25 g26 g27 g28 g29 g30 g31 g32 g33 g34 g35 g36 g37 g38 g39 g40 g41 g42 g43 g44 t) 0 0 Q := by
  refine zCl_i (M := kX12_settles) rfl (Nat.le_of_ble_eq_true rfl) fun R hR => ?_
  iterate 2 refine hR (?_ : R (_, _, _, _, _, _))
  refine hR (?_ : R (_, _, _, (zMi c0 c1 c2 c3 c4 c5 c6 c7 c8 c9 c10 c11 c12 c13 0 f9 f10 f11 f12 f13 f15 f16 f17 f20 f21 f22 f23 f26 f28 f31 f32 f33 f38 f41 f44 x14 g15 g16 g17 g18 g19 g20 g21 g22 g23 g24 g25 g26 g27 g28 g29 g30 g31 g32 g33 g34 g35 g36 g37 g38 g39 g40 g41 g42 g43 g44 t), _, _))
  refine hR (?_ : R (_, _, _, _, _, _))
  refine hR (zcall_i 0 0 (Nat.le_of_ble_eq_true rfl) (Nat.le_of_ble_eq_true rfl) (m_isText _ a2 _ (by omega) _ fun v1 hp2 => ?_))
  refine (?_ : R (_, _, (.int (Int32.ofInt v1)) :: [], (zMi c0 c1 c2 c3 c4 c5 c6 c7 c8 c9 c10 c11 c12 c13 0 f9 f10 f11 f12 f13 f15 f16 f17 f20 f21 f22 f23 f26 f28 f31 f32 f33 f38 f41 f44 x14 g15 g16 g17 g18 g19 g20 g21 g22 g23 g24 g25 g26 g27 g28 g29 g30 g31 g32 g33 g34 g35 g36 g37 g38 g39 g40 g41 g42 g43 g44 t), 0, 0))
  refine hR (k_eq (by omega) (fun hc3 => ?_) (fun hc3 => ?_))
  · skip
    refine hR (?_ : R (_, _, _, _, _, _))
    exact hR (zret_i rfl (Nat.le_refl _) trivial (h _ _ _ _ _ _ _ _ _ _ _ _ hb25 hb30 hb33 (by omega) hr9))
  iterate 2 refine hR (?_ : R (_, _, _, _, _, _))
  refine hR (zcall_i 0 0 (Nat.le_of_ble_eq_true rfl) (Nat.le_of_ble_eq_true rfl) (m_handAll _ a1 hb19 hb25 hb30 hr4 (by omega) (by omega) hr9 _ fun v4 y20_5 y21_6 y22_7 y23_8 y26_9 k25_10 k30_11 hp12 hp13 hp14 hp15 hp16 => ?_))
  refine (?_ : R (_, _, (.int (Int32.ofInt v4)) :: [], (zMi c0 c1 c2 c3 c4 c5 c6 c7 c8 c9 c10 c11 c12 c13 0 f9 f10 f11 f12 f13 f15 f16 f17 y20_5 y21_6 y22_7 y23_8 y26_9 f28 f31 f32 f33 f38 f41 f44 x14 g15 g16 g17 g18 g19 g20 g21 g22 g23 g24 k25_10 g26 g27 g28 g29 k30_11 g31 g32 g33 g34 g35 g36 g37 g38 g39 g40 g41 g42 g43 g44 t), 0, 0))
  refine hR (k_ne (by omega) (fun hc17 => ?_) (fun hc17 => ?_))
  rotate_left
  · skip
    refine hR (?_ : R (_, _, _, _, _, _))
    exact hR (zret_i rfl (Nat.le_refl _) trivial (h _ _ _ _ _ _ _ _ _ _ _ _ hp12 hp13 hb33 (by omega) hp15))
  iterate 5 refine hR (?_ : R (_, _, _, _, _, _))
  refine hR (zcall_i 0 0 (Nat.le_of_ble_eq_true rfl) (Nat.le_of_ble_eq_true rfl) (m_findFar31 _ a2 0 hp13 (by omega) (by omega) hb33 _ fun y38_18 k33_19 k31_20 hp21 hp22 hp23 => ?_))
  refine (?_ : R (_, _, [], (zMi c0 c1 c2 c3 c4 c5 c6 c7 c8 c9 c10 c11 c12 c13 0 f9 f10 f11 f12 f13 f15 f16 f17 y20_5 y21_6 y22_7 y23_8 y26_9 f28 f31 f32 f33 y38_18 f41 f44 x14 g15 g16 g17 g18 g19 g20 g21 g22 g23 g24 k25_10 g26 g27 g28 g29 k30_11 k31_20 g32 k33_19 g34 g35 g36 g37 g38 g39 g40 g41 g42 g43 g44 t), 0, 0))
  iterate 2 refine hR (?_ : R (_, _, _, _, _, _))
  refine hR (t_c 1000000 (by decide) ?_)
  iterate 3 refine hR (?_ : R (_, _, _, _, _, _))
  have lp43 : ∀ (N : Nat) (be : Int) (fe : Int) (i : Int) (o7_43 : Option Value), (zc2 o7_43 = false) → (-1 ≤ be ∧ be ≤ 5460) → (0 ≤ i ∧ i ≤ 5461) → (5461 - i < N) → R (43, [some (.ref 14), some (.int (Int32.ofInt a1)), some (.int (Int32.ofInt a2)), some (.int (Int32.ofInt a3)), some (.int (Int32.ofInt be)), some (.int (Int32.ofInt fe)), some (.int (Int32.ofInt i)), o7_43], [], (zMi c0 c1 c2 c3 c4 c5 c6 c7 c8 c9 c10 c11 c12 c13 0 f9 f10 f11 f12 f13 f15 f16 f17 y20_5 y21_6 y22_7 y23_8 y26_9 f28 f31 f32 f33 y38_18 f41 f44 x14 g15 g16 g17 g18 g19 g20 g21 g22 g23 g24 k25_10 g26 g27 g28 g29 k30_11 k31_20 g32 k33_19 g34 g35 g36 g37 g38 g39 g40 g41 g42 g43 g44 t), 0, 0) := by
    intro N
    induction N with
    | zero => intros; omega
    | succ N ih43 =>
      intro be fe i o7_43 hzo7_43 hf0_43 hf1_43 hN43
      refine hR (?_ : R (_, _, _, _, _, _))
      refine hR (t_c 5461 (by decide) ?_)
      refine hR (j_ge (by omega) (by omega) (fun hc24 => ?_) (fun hc24 => ?_))
      · skip
        iterate 2 refine hR (?_ : R (_, _, _, _, _, _))
        refine hR (j_eq (by omega) (by omega) (fun hc25 => ?_) (fun hc25 => ?_))
        · skip
          iterate 2 refine hR (?_ : R (_, _, _, _, _, _))
          exact hR (zret_i rfl (Nat.le_refl _) trivial (h _ _ _ _ _ _ _ _ _ _ _ _ hp12 hp13 hp21 (by omega) hp15))
        refine hR (?_ : R (_, _, _, _, _, _))
        refine hR (k_eq (by omega) (fun hc26 => ?_) (fun hc26 => ?_))
        · skip
          refine hR (?_ : R (_, _, _, _, _, _))
          exact hR (zret_i rfl (Nat.le_refl _) trivial (h _ _ _ _ _ _ _ _ _ _ _ _ hp12 hp13 hp21 (by omega) hp15))
        iterate 2 refine hR (?_ : R (_, _, _, _, _, _))
        exact hR (zret_i rfl (Nat.le_refl _) trivial (h _ _ _ _ _ _ _ _ _ _ _ _ hp12 hp13 hp21 (by omega) hp15))
      iterate 3 refine hR (?_ : R (_, _, _, _, _, _))
      refine hR (t_ldo (by omega) (by omega) (Nat.le_of_ble_eq_true rfl) fun v27 rv27 => ?_)
      refine hR (?_ : R (_, _, _, _, _, _))
      refine hR (j_any ?_ ?_)
      · skip
        iterate 3 refine hR (?_ : R (_, _, _, _, _, _))
        refine hR (k_eq (by omega) (fun _ => ?_) (fun hc => by omega))
        iterate 3 refine hR (?_ : R (_, _, _, _, _, _))
        refine hR (k_eq (by omega) (fun _ => ?_) (fun hc => by omega))
        iterate 2 refine hR (?_ : R (_, _, _, _, _, _))
        refine hR (t_inc ?_)
        refine hR (?_ : R (_, _, _, _, _, _))
        exact ih43 _ _ _ _ (by rfl) (by omega) (by omega) (by omega)
      iterate 3 refine hR (?_ : R (_, _, _, _, _, _))
      refine hR (zcall_i 0 0 (Nat.le_of_ble_eq_true rfl) (Nat.le_of_ble_eq_true rfl) (m_everybody _ (by omega) _ fun v28 hp29 => ?_))
      refine (?_ : R (_, _, (.int (Int32.ofInt v28)) :: (.int (Int32.ofInt i)) :: (.ref 14) :: [], (zMi c0 c1 c2 c3 c4 c5 c6 c7 c8 c9 c10 c11 c12 c13 0 f9 f10 f11 f12 f13 f15 f16 f17 y20_5 y21_6 y22_7 y23_8 y26_9 f28 f31 f32 f33 y38_18 f41 f44 x14 g15 g16 g17 g18 g19 g20 g21 g22 g23 g24 k25_10 g26 g27 g28 g29 k30_11 k31_20 g32 k33_19 g34 g35 g36 g37 g38 g39 g40 g41 g42 g43 g44 t), 0, 0))
      refine hR (zcall_i 0 0 (Nat.le_of_ble_eq_true rfl) (Nat.le_of_ble_eq_true rfl) (m_isKept _ i v28 hp13 (by omega) (by omega) _ fun v30 hp31 => ?_))
      refine (?_ : R (_, _, (.int (Int32.ofInt v30)) :: [], (zMi c0 c1 c2 c3 c4 c5 c6 c7 c8 c9 c10 c11 c12 c13 0 f9 f10 f11 f12 f13 f15 f16 f17 y20_5 y21_6 y22_7 y23_8 y26_9 f28 f31 f32 f33 y38_18 f41 f44 x14 g15 g16 g17 g18 g19 g20 g21 g22 g23 g24 k25_10 g26 g27 g28 g29 k30_11 k31_20 g32 k33_19 g34 g35 g36 g37 g38 g39 g40 g41 g42 g43 g44 t), 0, 0))
      refine hR (k_eq (by omega) (fun hc32 => ?_) (fun hc32 => ?_))
      · skip
        iterate 3 refine hR (?_ : R (_, _, _, _, _, _))
        refine hR (k_eq (by omega) (fun _ => ?_) (fun hc => by omega))
        iterate 3 refine hR (?_ : R (_, _, _, _, _, _))
        refine hR (k_eq (by omega) (fun _ => ?_) (fun hc => by omega))
        iterate 2 refine hR (?_ : R (_, _, _, _, _, _))
        refine hR (t_inc ?_)
        refine hR (?_ : R (_, _, _, _, _, _))
        exact ih43 _ _ _ _ (by rfl) (by omega) (by omega) (by omega)
      iterate 4 refine hR (?_ : R (_, _, _, _, _, _))
      refine hR (k_eq (by omega) (fun hc => by omega) (fun _ => ?_))
      iterate 4 refine hR (?_ : R (_, _, _, _, _, _))
      refine hR (k_eq (by omega) (fun hc => by omega) (fun _ => ?_))
      iterate 3 refine hR (?_ : R (_, _, _, _, _, _))
      refine hR (t_ldo (by omega) (by omega) (Nat.le_of_ble_eq_true rfl) fun v33 rv33 => ?_)
      iterate 2 refine hR (?_ : R (_, _, _, _, _, _))
      refine hR (t_inc ?_)
      refine hR (?_ : R (_, _, _, _, _, _))
      exact ih43 _ _ _ _ (by rfl) (by omega) (by omega) (by omega)
  exact lp43 400000000 _ _ _ _ (by rfl) (by omega) (by omega) (by omega)
theorem m_silenced (d : Nat) (a1 a2 a3 : Int) (hb19 : zB 0 2 g19) (hb25 : zB 0 3 g25) (hb30 : zB 0 5460 g30) (hb33 : zB 0 5460 g33) (hr4 : bkOK g20) (hr5 : -2147483648 ≤ a1 ∧ a1 ≤ 2147483647) (hr6 : -2147483648 ≤ a2 ∧ a2 ≤ 2147483647) (hr7 : -2147483648 ≤ a3 ∧ a3 ≤ 2147483647) (hr8 : -1 ≤ f21 ∧ f21 ≤ 1) (hr9 : RMD g30 g20 f21) (Q : zQ) (h : ∀ (v : Int) (y0 : Int) (y20 : Int) (y21 : Int) (y22 : Int) (y23 : Int) (y26 : Int) (y38 : Int) (k25 : Nat → Int32) (k30 : Nat → Int32) (k31 : Nat → Int32) (k33 : Nat → Int32), zB 0 3 k25 → zB 0 5460 k30 → zB 0 5460 k33 → (-1 ≤ y21 ∧ y21 ≤ 1) → (RMD k30 g20 y21) → Q (some (.int (Int32.ofInt v))) (zMi c0 c1 c2 c3 c4 c5 c6 c7 c8 c9 c10 c11 c12 c13 y0 f9 f10 f11 f12 f13 f15 f16 f17 y20 y21 y22 y23 y26 f28 f31 f32 f33 y38 f41 f44 x14 g15 g16 g17 g18 g19 g20 g21 g22 g23 g24 k25 g26 g27 g28 g29 k30 k31 g32 k33 g34 g35 g36 g37 g38 g39 g40 g41 g42 g43 g44 t)) : zCl zTab (d + 7) iX12_silenced [.ref 14, .int (Int32.ofInt a1), .int (Int32.ofInt a2), .int (Int32.ofInt a3)] (zMi c0 c1 c2 c3 c4 c5 c6 c7 c8 c9 c10 c11 c12 c13 f0 f9 f10 f11 f12 f13 f15 f16 f17 f20 f21 f22 f23 f26 f28 f31 f32 f33 f38 f41 f44 x14 g15 g16 g17 g18 g19 g20 g21 g22 g23 g24 g25 g26 g27 g28 g29 g30 g31 g32 g33 g34 g35 g36 g37 g38 g39 g40 g41 g42 g43 g44 t) 0 0 Q := by
  refine zCl_i (M := kX12_silenced) rfl (Nat.le_of_ble_eq_true rfl) fun R hR => ?_
  iterate 2 refine hR (?_ : R (_, _, _, _, _, _))
  refine hR (?_ : R (_, _, _, (zMi c0 c1 c2 c3 c4 c5 c6 c7 c8 c9 c10 c11 c12 c13 0 f9 f10 f11 f12 f13 f15 f16 f17 f20 f21 f22 f23 f26 f28 f31 f32 f33 f38 f41 f44 x14 g15 g16 g17 g18 g19 g20 g21 g22 g23 g24 g25 g26 g27 g28 g29 g30 g31 g32 g33 g34 g35 g36 g37 g38 g39 g40 g41 g42 g43 g44 t), _, _))
  refine hR (?_ : R (_, _, _, _, _, _))
  refine hR (zcall_i 0 0 (Nat.le_of_ble_eq_true rfl) (Nat.le_of_ble_eq_true rfl) (m_isText _ a2 _ (by omega) _ fun v1 hp2 => ?_))
  refine (?_ : R (_, _, (.int (Int32.ofInt v1)) :: [], (zMi c0 c1 c2 c3 c4 c5 c6 c7 c8 c9 c10 c11 c12 c13 0 f9 f10 f11 f12 f13 f15 f16 f17 f20 f21 f22 f23 f26 f28 f31 f32 f33 f38 f41 f44 x14 g15 g16 g17 g18 g19 g20 g21 g22 g23 g24 g25 g26 g27 g28 g29 g30 g31 g32 g33 g34 g35 g36 g37 g38 g39 g40 g41 g42 g43 g44 t), 0, 0))
  refine hR (k_eq (by omega) (fun hc3 => ?_) (fun hc3 => ?_))
  · skip
    refine hR (?_ : R (_, _, _, _, _, _))
    exact hR (zret_i rfl (Nat.le_refl _) trivial (h _ _ _ _ _ _ _ _ _ _ _ _ hb25 hb30 hb33 (by omega) hr9))
  refine hR (?_ : R (_, _, _, _, _, _))
  refine hR (zcall_i 0 0 (Nat.le_of_ble_eq_true rfl) (Nat.le_of_ble_eq_true rfl) (m_isText _ a3 _ (by omega) _ fun v4 hp5 => ?_))
  refine (?_ : R (_, _, (.int (Int32.ofInt v4)) :: [], (zMi c0 c1 c2 c3 c4 c5 c6 c7 c8 c9 c10 c11 c12 c13 0 f9 f10 f11 f12 f13 f15 f16 f17 f20 f21 f22 f23 f26 f28 f31 f32 f33 f38 f41 f44 x14 g15 g16 g17 g18 g19 g20 g21 g22 g23 g24 g25 g26 g27 g28 g29 g30 g31 g32 g33 g34 g35 g36 g37 g38 g39 g40 g41 g42 g43 g44 t), 0, 0))
  refine hR (k_eq (by omega) (fun hc6 => ?_) (fun hc6 => ?_))
  · skip
    refine hR (?_ : R (_, _, _, _, _, _))
    exact hR (zret_i rfl (Nat.le_refl _) trivial (h _ _ _ _ _ _ _ _ _ _ _ _ hb25 hb30 hb33 (by omega) hr9))
  iterate 2 refine hR (?_ : R (_, _, _, _, _, _))
  refine hR (j_eq (by omega) (by omega) (fun hc7 => ?_) (fun hc7 => ?_))
  · skip
    refine hR (?_ : R (_, _, _, _, _, _))
    exact hR (zret_i rfl (Nat.le_refl _) trivial (h _ _ _ _ _ _ _ _ _ _ _ _ hb25 hb30 hb33 (by omega) hr9))
  iterate 2 refine hR (?_ : R (_, _, _, _, _, _))
  refine hR (zcall_i 0 0 (Nat.le_of_ble_eq_true rfl) (Nat.le_of_ble_eq_true rfl) (m_handAll _ a1 hb19 hb25 hb30 hr4 (by omega) (by omega) hr9 _ fun v8 y20_9 y21_10 y22_11 y23_12 y26_13 k25_14 k30_15 hp16 hp17 hp18 hp19 hp20 => ?_))
  refine (?_ : R (_, _, (.int (Int32.ofInt v8)) :: [], (zMi c0 c1 c2 c3 c4 c5 c6 c7 c8 c9 c10 c11 c12 c13 0 f9 f10 f11 f12 f13 f15 f16 f17 y20_9 y21_10 y22_11 y23_12 y26_13 f28 f31 f32 f33 f38 f41 f44 x14 g15 g16 g17 g18 g19 g20 g21 g22 g23 g24 k25_14 g26 g27 g28 g29 k30_15 g31 g32 g33 g34 g35 g36 g37 g38 g39 g40 g41 g42 g43 g44 t), 0, 0))
  refine hR (k_ne (by omega) (fun hc21 => ?_) (fun hc21 => ?_))
  rotate_left
  · skip
    refine hR (?_ : R (_, _, _, _, _, _))
    exact hR (zret_i rfl (Nat.le_refl _) trivial (h _ _ _ _ _ _ _ _ _ _ _ _ hp16 hp17 hb33 (by omega) hp19))
  iterate 2 refine hR (?_ : R (_, _, _, _, _, _))
  refine hR (t_c 1000000 (by decide) ?_)
  iterate 3 refine hR (?_ : R (_, _, _, _, _, _))
  have lp45 : ∀ (N : Nat) (be : Int) (fe : Int) (se : Int) (o7_45 : Option Value) (o8_45 : Option Value) (e38_45 : Int) (q31_45 : Nat → Int32) (q33_45 : Nat → Int32), (zc2 o7_45 = false) → (zc2 o8_45 = false) → (0 ≤ se ∧ se ≤ 32) → (zB 0 5460 q33_45) → (32 - se < N) → R (45, [some (.ref 14), some (.int (Int32.ofInt a1)), some (.int (Int32.ofInt a2)), some (.int (Int32.ofInt a3)), some (.int (Int32.ofInt be)), some (.int (Int32.ofInt fe)), some (.int (Int32.ofInt se)), o7_45, o8_45], [], (zMi c0 c1 c2 c3 c4 c5 c6 c7 c8 c9 c10 c11 c12 c13 0 f9 f10 f11 f12 f13 f15 f16 f17 y20_9 y21_10 y22_11 y23_12 y26_13 f28 f31 f32 f33 e38_45 f41 f44 x14 g15 g16 g17 g18 g19 g20 g21 g22 g23 g24 k25_14 g26 g27 g28 g29 k30_15 q31_45 g32 q33_45 g34 g35 g36 g37 g38 g39 g40 g41 g42 g43 g44 t), 0, 0) := by
    intro N
    induction N with
    | zero => intros; omega
    | succ N ih45 =>
      intro be fe se o7_45 o8_45 e38_45 q31_45 q33_45 hzo7_45 hzo8_45 hf0_45 hq33_45 hN45
      iterate 2 refine hR (?_ : R (_, _, _, _, _, _))
      refine hR (zcall_i 0 0 (Nat.le_of_ble_eq_true rfl) (Nat.le_of_ble_eq_true rfl) (m_everybody _ (by omega) _ fun v22 hp23 => ?_))
      refine (?_ : R (_, _, (.int (Int32.ofInt v22)) :: (.int (Int32.ofInt se)) :: [], (zMi c0 c1 c2 c3 c4 c5 c6 c7 c8 c9 c10 c11 c12 c13 0 f9 f10 f11 f12 f13 f15 f16 f17 y20_9 y21_10 y22_11 y23_12 y26_13 f28 f31 f32 f33 e38_45 f41 f44 x14 g15 g16 g17 g18 g19 g20 g21 g22 g23 g24 k25_14 g26 g27 g28 g29 k30_15 q31_45 g32 q33_45 g34 g35 g36 g37 g38 g39 g40 g41 g42 g43 g44 t), 0, 0))
      refine hR (j_gt (by omega) (by omega) (fun hc24 => ?_) (fun hc24 => ?_))
      · skip
        refine hR (?_ : R (_, _, _, _, _, _))
        exact hR (zret_i rfl (Nat.le_refl _) trivial (h _ _ _ _ _ _ _ _ _ _ _ _ hp16 hp17 hq33_45 (by omega) hp19))
      iterate 4 refine hR (?_ : R (_, _, _, _, _, _))
      have lp60 : ∀ (N : Nat) (n : Int) (r : Int), (0 ≤ r ∧ r ≤ 5) → (r ≤ y23_12) → (5 - r < N) → R (60, [some (.ref 14), some (.int (Int32.ofInt a1)), some (.int (Int32.ofInt a2)), some (.int (Int32.ofInt a3)), some (.int (Int32.ofInt be)), some (.int (Int32.ofInt fe)), some (.int (Int32.ofInt se)), some (.int (Int32.ofInt n)), some (.int (Int32.ofInt r))], [], (zMi c0 c1 c2 c3 c4 c5 c6 c7 c8 c9 c10 c11 c12 c13 0 f9 f10 f11 f12 f13 f15 f16 f17 y20_9 y21_10 y22_11 y23_12 y26_13 f28 f31 f32 f33 e38_45 f41 f44 x14 g15 g16 g17 g18 g19 g20 g21 g22 g23 g24 k25_14 g26 g27 g28 g29 k30_15 q31_45 g32 q33_45 g34 g35 g36 g37 g38 g39 g40 g41 g42 g43 g44 t), 0, 0) := by
        intro N
        induction N with
        | zero => intros; omega
        | succ N ih60 =>
          intro n r hf0_60 hp0_60 hN60
          iterate 3 refine hR (?_ : R (_, _, _, _, _, _))
          refine hR (j_ge (by omega) (by omega) (fun hc25 => ?_) (fun hc25 => ?_))
          rotate_left
          · skip
            iterate 3 refine hR (?_ : R (_, _, _, _, _, _))
            refine hR (zcall_i 0 0 (Nat.le_of_ble_eq_true rfl) (Nat.le_of_ble_eq_true rfl) (m_has _ se r _ _ fun v33 hp34 => ?_))
            refine (?_ : R (_, _, (.int (Int32.ofInt v33)) :: (.int (Int32.ofInt n)) :: [], (zMi c0 c1 c2 c3 c4 c5 c6 c7 c8 c9 c10 c11 c12 c13 0 f9 f10 f11 f12 f13 f15 f16 f17 y20_9 y21_10 y22_11 y23_12 y26_13 f28 f31 f32 f33 e38_45 f41 f44 x14 g15 g16 g17 g18 g19 g20 g21 g22 g23 g24 k25_14 g26 g27 g28 g29 k30_15 q31_45 g32 q33_45 g34 g35 g36 g37 g38 g39 g40 g41 g42 g43 g44 t), 0, 0))
            refine hR (k_eq (by omega) (fun hc35 => ?_) (fun hc35 => ?_))
            · skip
              refine hR (?_ : R (_, _, _, _, _, _))
              refine hR (t_add ?_)
              refine hR (?_ : R (_, _, _, _, _, _))
              refine hR (t_inc ?_)
              refine hR (?_ : R (_, _, _, _, _, _))
              exact ih60 _ _ (by omega) (by omega) (by omega)
            iterate 2 refine hR (?_ : R (_, _, _, _, _, _))
            refine hR (t_add ?_)
            refine hR (?_ : R (_, _, _, _, _, _))
            refine hR (t_inc ?_)
            refine hR (?_ : R (_, _, _, _, _, _))
            exact ih60 _ _ (by omega) (by omega) (by omega)
          iterate 2 refine hR (?_ : R (_, _, _, _, _, _))
          refine hR (j_any ?_ ?_)
          · skip
            refine hR (t_inc ?_)
            refine hR (?_ : R (_, _, _, _, _, _))
            exact ih45 _ _ _ _ _ _ _ _ (by rfl) (by rfl) (by omega) hq33_45 (by omega)
          iterate 5 refine hR (?_ : R (_, _, _, _, _, _))
          refine hR (zcall_i 0 0 (Nat.le_of_ble_eq_true rfl) (Nat.le_of_ble_eq_true rfl) (m_findFar31 _ a2 se hp17 (by omega) (by omega) hq33_45 _ fun y38_26 k33_27 k31_28 hp29 hp30 hp31 => ?_))
          refine (?_ : R (_, _, [], (zMi c0 c1 c2 c3 c4 c5 c6 c7 c8 c9 c10 c11 c12 c13 0 f9 f10 f11 f12 f13 f15 f16 f17 y20_9 y21_10 y22_11 y23_12 y26_13 f28 f31 f32 f33 y38_26 f41 f44 x14 g15 g16 g17 g18 g19 g20 g21 g22 g23 g24 k25_14 g26 g27 g28 g29 k30_15 k31_28 g32 k33_27 g34 g35 g36 g37 g38 g39 g40 g41 g42 g43 g44 t), 0, 0))
          iterate 3 refine hR (?_ : R (_, _, _, _, _, _))
          refine hR (t_ldo (by omega) (by omega) (Nat.le_of_ble_eq_true rfl) fun v32 rv32 => ?_)
          refine hR (t_c 1000000 (by decide) ?_)
          refine hR (j_any ?_ ?_)
          · skip
            iterate 3 refine hR (?_ : R (_, _, _, _, _, _))
            refine hR (k_eq (by omega) (fun _ => ?_) (fun hc => by omega))
            iterate 3 refine hR (?_ : R (_, _, _, _, _, _))
            refine hR (k_eq (by omega) (fun _ => ?_) (fun hc => by omega))
            iterate 2 refine hR (?_ : R (_, _, _, _, _, _))
            refine hR (t_inc ?_)
            refine hR (?_ : R (_, _, _, _, _, _))
            exact ih45 _ _ _ _ _ _ _ _ (by rfl) (by rfl) (by omega) hp29 (by omega)
          iterate 4 refine hR (?_ : R (_, _, _, _, _, _))
          refine hR (k_eq (by omega) (fun hc => by omega) (fun _ => ?_))
          iterate 4 refine hR (?_ : R (_, _, _, _, _, _))
          refine hR (k_eq (by omega) (fun hc => by omega) (fun _ => ?_))
          iterate 3 refine hR (?_ : R (_, _, _, _, _, _))
          refine hR (t_inc ?_)
          refine hR (?_ : R (_, _, _, _, _, _))
          exact ih45 _ _ _ _ _ _ _ _ (by rfl) (by rfl) (by omega) hp29 (by omega)
      exact lp60 400000000 _ _ (by omega) (by omega) (by omega)
  exact lp45 400000000 _ _ _ _ _ _ _ _ (by rfl) (by rfl) (by omega) hb33 (by omega)
end MZ
