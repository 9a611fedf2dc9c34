/-! THE LISTS: what the JDK's own methods do -/
theorem xw_cat_i (x : Int32) : (Value.int x).category = 1 := rfl
theorem xw_cat_r (a : Nat) : (Value.ref a).category = 1 := rfl
theorem xw_cat_n : Value.null.category = 1 := rfl
theorem xw_cat_l (x : Int64) : (Value.long x).category = 2 := rfl
section XJD
variable {Y : xw_Y} {w : xw_W} {post : Option Value → xw_W → Prop}
set_option maxRecDepth 100000 in
set_option maxHeartbeats 4000000 in
theorem sj_size {a e : Nat} {md n : Int32} (ha : a ∈ w.1) (hw : w.2 a = .inr (0, [.int md, .ref e, .int n])) (h : post (some (.int n)) w) : ptJx4a65c_size_8abf5 Y [.ref a] w post := by
  refine ⟨(by first | exact Nat.le_of_ble_eq_true rfl | simp [lg_sl, xw_cat_rf, xw_cat_i, xw_cat_r, xw_cat_n, xw_cat_l]), ?_⟩
  first | refine rn_ald (lkJx4a65c_size_8abf5_0 Y) rfl ?_ | refine rn_aldO (lkJx4a65c_size_8abf5_0 Y) rfl ?_ | refine rn_aldN (lkJx4a65c_size_8abf5_0 Y) rfl ?_
  refine rn_getf (lkJx4a65c_size_8abf5_1 Y) ha hw rfl ?_
  refine rn_iret (lkJx4a65c_size_8abf5_4 Y) ?_
  exact ⟨h, Nat.le_refl _, Nat.le_refl _⟩

set_option maxRecDepth 100000 in
set_option maxHeartbeats 4000000 in
theorem sj_check3 {i n : Int32} (h0 : ¬ i < 0) (h1 : i < n) (h : post (some (.int i)) w) : ptJ3_checkIndex_8e157 Y [.int i, .int n, .null] w post := by
  refine ⟨(by first | exact Nat.le_of_ble_eq_true rfl | simp [lg_sl, xw_cat_rf, xw_cat_i, xw_cat_r, xw_cat_n, xw_cat_l]), ?_⟩
  refine rn_ild (lkJ3_checkIndex_8e157_0 Y) rfl ?_
  refine rn_ifz (lkJ3_checkIndex_8e157_1 Y) (fun c_1 => ?_) (fun c_1 => ?_)
  · try dsimp only at c_1
    first | exact absurd c_1 h0 | exact absurd h1 c_6
  · try dsimp only at c_1
    refine rn_ild (lkJ3_checkIndex_8e157_4 Y) rfl ?_
    refine rn_ild (lkJ3_checkIndex_8e157_5 Y) rfl ?_
    refine rn_ifc (lkJ3_checkIndex_8e157_6 Y) (fun c_6 => ?_) (fun c_6 => ?_)
    · try dsimp only at c_6
      refine rn_ild (lkJ3_checkIndex_8e157_16 Y) rfl ?_
      refine rn_iret (lkJ3_checkIndex_8e157_17 Y) ?_
      exact ⟨h, Nat.le_refl _, Nat.le_refl _⟩
    · try dsimp only at c_6
      first | exact absurd c_1 h0 | exact absurd h1 c_6

set_option maxRecDepth 100000 in
set_option maxHeartbeats 4000000 in
theorem sj_check {i n : Int32} (h0 : ¬ i < 0) (h1 : i < n) (h : post (some (.int i)) w) : ptJ15_checkIndex_7cf53 Y [.int i, .int n] w post := by
  refine ⟨(by first | exact Nat.le_of_ble_eq_true rfl | simp [lg_sl, xw_cat_rf, xw_cat_i, xw_cat_r, xw_cat_n, xw_cat_l]), ?_⟩
  refine rn_ild (lkJ15_checkIndex_7cf53_0 Y) rfl ?_
  refine rn_ild (lkJ15_checkIndex_7cf53_1 Y) rfl ?_
  refine rn_push (lkJ15_checkIndex_7cf53_2 Y) ?_
  refine rn_callS (lkJ15_checkIndex_7cf53_3 Y) (Nat.le_of_ble_eq_true rfl) rfl (Nat.le_of_ble_eq_true rfl) (Nat.le_of_ble_eq_true rfl) (Nat.le_of_ble_eq_true rfl) ?_
  refine sj_check3 h0 h1 ?_
  refine rn_iret (lkJ15_checkIndex_7cf53_6 Y) ?_
  exact ⟨h, Nat.le_refl _, Nat.le_refl _⟩

set_option maxRecDepth 100000 in
set_option maxHeartbeats 4000000 in
theorem sj_elem {a e cap : Nat} {md n i : Int32} {f : Nat → Option Nat} (ha : a ∈ w.1) (hw : w.2 a = .inr (0, [.int md, .ref e, .int n])) (he : e ∈ w.1) (hwe : w.2 e = .inl (Y.2.2.1, cap, .inr (.inr (.inr (.inr f))))) (hi : vp_in i cap) (h : post (some (va_rf (f i.toNatClampNeg))) w) : ptJx4a65c_elementData_915e3 Y [.ref a, .int i] w post := by
  refine ⟨(by first | exact Nat.le_of_ble_eq_true rfl | simp [lg_sl, xw_cat_rf, xw_cat_i, xw_cat_r, xw_cat_n, xw_cat_l]), ?_⟩
  first | refine rn_ald (lkJx4a65c_elementData_915e3_0 Y) rfl ?_ | refine rn_aldO (lkJx4a65c_elementData_915e3_0 Y) rfl ?_ | refine rn_aldN (lkJx4a65c_elementData_915e3_0 Y) rfl ?_
  refine rn_getf (lkJx4a65c_elementData_915e3_1 Y) ha hw rfl ?_
  refine rn_ild (lkJx4a65c_elementData_915e3_4 Y) rfl ?_
  refine rn_aald (lkJx4a65c_elementData_915e3_5 Y) he hwe hi ?_
  refine rn_aret (lkJx4a65c_elementData_915e3_6 Y) (by first | exact xw_isR_ref _ | exact xw_isR_null | exact xw_isR_rf _) ?_
  exact ⟨h, Nat.le_refl _, Nat.le_refl _⟩

set_option maxRecDepth 100000 in
set_option maxHeartbeats 4000000 in
theorem sj_get {a e cap : Nat} {md n i : Int32} {f : Nat → Option Nat} (ha : a ∈ w.1) (hw : w.2 a = .inr (0, [.int md, .ref e, .int n])) (he : e ∈ w.1) (hwe : w.2 e = .inl (Y.2.2.1, cap, .inr (.inr (.inr (.inr f))))) (h0 : ¬ i < 0) (h1 : i < n) (hi : vp_in i cap) (h : post (some (va_rf (f i.toNatClampNeg))) w) : ptJx4a65c_get_915e3 Y [.ref a, .int i] w post := by
  refine ⟨(by first | exact Nat.le_of_ble_eq_true rfl | simp [lg_sl, xw_cat_rf, xw_cat_i, xw_cat_r, xw_cat_n, xw_cat_l]), ?_⟩
  refine rn_ild (lkJx4a65c_get_915e3_0 Y) rfl ?_
  first | refine rn_ald (lkJx4a65c_get_915e3_1 Y) rfl ?_ | refine rn_aldO (lkJx4a65c_get_915e3_1 Y) rfl ?_ | refine rn_aldN (lkJx4a65c_get_915e3_1 Y) rfl ?_
  refine rn_getf (lkJx4a65c_get_915e3_2 Y) ha hw rfl ?_
  refine rn_callS (lkJx4a65c_get_915e3_5 Y) (Nat.le_of_ble_eq_true rfl) rfl (Nat.le_of_ble_eq_true rfl) (Nat.le_of_ble_eq_true rfl) (Nat.le_of_ble_eq_true rfl) ?_
  refine sj_check h0 h1 ?_
  refine rn_pop (lkJx4a65c_get_915e3_8 Y) (by first | rfl | exact xw_cat_rf _) ?_
  first | refine rn_ald (lkJx4a65c_get_915e3_9 Y) rfl ?_ | refine rn_aldO (lkJx4a65c_get_915e3_9 Y) rfl ?_ | refine rn_aldN (lkJx4a65c_get_915e3_9 Y) rfl ?_
  refine rn_ild (lkJx4a65c_get_915e3_10 Y) rfl ?_
  refine rn_callV (lkJx4a65c_get_915e3_11 Y) rfl ha hw (Nat.le_of_ble_eq_true rfl) (Nat.le_of_ble_eq_true rfl) (Nat.le_of_ble_eq_true rfl) ?_
  refine sj_elem ha hw he hwe hi ?_
  refine rn_aret (lkJx4a65c_get_915e3_14 Y) (by first | exact xw_isR_ref _ | exact xw_isR_null | exact xw_isR_rf _) ?_
  exact ⟨h, Nat.le_refl _, Nat.le_refl _⟩

end XJD
