/-! LINKS OF ROWS, and that their words are good, by the different rows of a class. -/
noncomputable def zrow0 (M : zM) (e : zE) : Bool := (match zoff e.2.1 with
    | some o => decide ((e.1 : Int) + o = (e.2.2.2.1 : Int))
    | none => true) && zslot M.2.2.1 e.2.1 && zsw e.1 e.2.1
theorem zrow_0 (tab : List zM) (M : zM) (e : zE) : zrow tab M e = (zrow0 M e && zlk tab M e) := rfl
noncomputable def zMo (own : String) : zM := (⟨own, "", ""⟩, ByteArray.empty, 0, none, 0, [])
theorem zlk_ky (tab : List zM) (M : zM) (e : zE) : zlk tab M (zky e) = zlk tab M e := rfl
set_option maxRecDepth 100000 in
theorem zlk_n {tab : List zM} {M : zM} {e : zE} (h : zwl e = false) : zlk tab M e = true := by
  obtain ⟨pc, i, np, a, b⟩ := e
  cases i
  all_goals first
    | rfl
    | exact absurd (show true = false from h) (by decide)
theorem zlk_c {tab : List zM} {M M' : zM} {e : zE} (h : M.1.cls = M'.1.cls) : zlk tab M e = zlk tab M' e := by
  unfold zlk
  rw [h]
theorem zkin_lk {tab : List zM} {K rows : List zE} {own : String} {M : zM} (js : List Nat) (h : zkin K rows js = true) (hK : K.all (zlk tab (zMo own)) = true) (hc : M.1.cls = own) : rows.all (zlk tab M) = true := by
  rw [List.all_eq_true]
  intro e he
  cases hz : zwl e with
  | false => exact zlk_n hz
  | true =>
    have h2 := List.all_eq_true.mp hK _ (zkin_s rows js h e he hz)
    rw [← zlk_ky, zlk_c (M' := zMo own) hc]
    exact h2
theorem zrow_all {tab : List zM} {M : zM} {rows : List zE} (h : rows.all (zrow0 M) = true) (h2 : rows.all (zlk tab M) = true) : rows.all (zrow tab M) = true := by
  rw [List.all_eq_true] at h h2 ⊢
  intro e he
  rw [zrow_0, Bool.and_eq_true]
  exact ⟨h e he, h2 e he⟩
theorem zkin_gw {tab : List zM} {K rows : List zE} {own : String} (js : List Nat) (h : zkin K rows js = true) (hK : (K.flatMap (zrq tab own)).all goodWord = true) : (rows.flatMap (zrq tab own)).all goodWord = true := by
  rw [List.all_eq_true] at hK ⊢
  intro w hw
  exact hK w (zkin_wd (T := K.flatMap (zrq tab own)) js h (fun _ z => z) w hw)
