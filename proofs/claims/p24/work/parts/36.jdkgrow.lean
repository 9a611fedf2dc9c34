/-! THE LISTS GROW -/
section XJG
variable {Y : xw_Y} {w : xw_W} {post : Option Value → xw_W → Prop}
theorem va_up_sw3 {α : Type} (f : Nat → α) {k j : Nat} (x y y2 z : α) (h : ¬ k = j) : va_up (va_up (va_up (va_up f j x) k y) k y2) j z = va_up (va_up (va_up f k y) k y2) j z := by
  funext i
  by_cases h1 : i = j
  · subst h1
    simp [va_up]
  · simp [va_up, h1]
theorem va_up_up {α : Type} (f : Nat → α) (k : Nat) (x y : α) : va_up (va_up f k x) k y = va_up f k y := by
  funext j
  unfold va_up
  split <;> rfl
/-- what a list's row may hold: bouts and fencers -/
def xj_el (w : xw_W) (f : Nat → Option Nat) (c : Nat) : Prop := ∀ i y : Nat, i < c → f i = some y → y ∈ w.1 ∧ ∃ (ci : Nat) (fs : List Value), ci ∈ [1, 2] ∧ w.2 y = .inr (ci, fs)

/-- two worlds that differ in the order of their changes at two cells -/
theorem va_up_sw {α : Type} (f : Nat → α) {k j : Nat} (x y z : α) (h : ¬ k = j) : va_up (va_up (va_up f j x) k y) j z = va_up (va_up f k y) j z := by
  funext i
  by_cases h1 : i = j
  · subst h1
    simp [va_up]
  · simp [va_up, h1]
theorem xj_half {n : Nat} (h : n < 2 ^ 31) : Int32.ofNat n >>> ((1 : Int32) &&& 31) = nI (n / 2) := by
  have e : ((1 : Int32) &&& 31) = 1 := by decide
  rw [e]
  exact pk_shrN h 1 1 (by decide)

set_option maxRecDepth 100000 in
set_option maxHeartbeats 4000000 in
theorem sj_newLength {a b d x : Int32} (hx : a + (if b < d then d else b) = x) (h0 : ¬ x ≤ 0) (h1 : ¬ 2147483639 < x) (h : post (some (.int x)) w) : ptJ8_newLength_cabcc Y [.int a, .int b, .int d] w post := by
  refine ⟨(by first | exact Nat.le_of_ble_eq_true rfl | simp [lg_sl, xw_cat_rf, xw_cat_i, xw_cat_r, xw_cat_n, xw_cat_l]), ?_⟩
  refine rn_ild (lkJ8_newLength_cabcc_0 Y) rfl ?_
  refine rn_ild (lkJ8_newLength_cabcc_1 Y) rfl ?_
  refine rn_ild (lkJ8_newLength_cabcc_2 Y) rfl ?_
  refine rn_max (lkJ8_newLength_cabcc_3 Y) (Nat.le_of_ble_eq_true rfl) (Nat.le_of_ble_eq_true rfl) (Nat.le_of_ble_eq_true rfl) ?_
  refine rn_i2 (lkJ8_newLength_cabcc_6 Y) ?_
  refine rn_ist (lkJ8_newLength_cabcc_7 Y) rfl ?_
  refine rn_push (lkJ8_newLength_cabcc_8 Y) ?_
  refine rn_ild (lkJ8_newLength_cabcc_9 Y) rfl ?_
  refine rn_ifc (lkJ8_newLength_cabcc_10 Y) (fun c_10 => ?_) (fun c_10 => ?_)
  · try dsimp only at c_10
    first | exact absurd (by rw [← hx]; assumption) h0 | exact absurd (by rw [← hx]; assumption) h1
  · try dsimp only at c_10
    refine rn_ild (lkJ8_newLength_cabcc_13 Y) rfl ?_
    refine rn_push (lkJ8_newLength_cabcc_14 Y) ?_
    refine rn_ifc (lkJ8_newLength_cabcc_16 Y) (fun c_16 => ?_) (fun c_16 => ?_)
    · try dsimp only at c_16
      first | exact absurd (by rw [← hx]; assumption) h0 | exact absurd (by rw [← hx]; assumption) h1
    · try dsimp only at c_16
      refine rn_ild (lkJ8_newLength_cabcc_19 Y) rfl ?_
      refine rn_iret (lkJ8_newLength_cabcc_20 Y) ?_
      rw [← hx] at h
      exact ⟨h, Nat.le_refl _, Nat.le_refl _⟩

set_option maxRecDepth 100000 in
set_option maxHeartbeats 4000000 in
theorem sj_copy3 {e cap c : Nat} {f : Nat → Option Nat} (he : e ∈ w.1) (hwe : w.2 e = .inl (Y.2.2.1, cap, .inr (.inr (.inr (.inr f))))) (hel : xj_el w f cap) (hc : cap ≤ c) (hb : c ≤ 200) (h : ∀ q : Nat, q ∉ w.1 → post (some (.ref q)) (w.1 ++ [q], va_up w.2 q (.inl (Y.2.2.1, c, .inr (.inr (.inr (.inr (va_cpy f (fun _ => none) 0 0 cap)))))))) : ptJ7_copyOf_6403c Y [.ref e, .int (nI c), .ref Y.1.1.2] w post := by
  refine ⟨(by first | exact Nat.le_of_ble_eq_true rfl | simp [lg_sl, xw_cat_rf, xw_cat_i, xw_cat_r, xw_cat_n, xw_cat_l]), ?_⟩
  first | refine rn_ald (lkJ7_copyOf_6403c_0 Y) rfl ?_ | refine rn_aldO (lkJ7_copyOf_6403c_0 Y) rfl ?_ | refine rn_aldN (lkJ7_copyOf_6403c_0 Y) rfl ?_
  refine rn_push (lkJ7_copyOf_6403c_1 Y) ?_
  refine rn_ifaR (lkJ7_copyOf_6403c_3 Y) (fun _ => ?_) (fun q => absurd rfl q)
  refine rn_ild (lkJ7_copyOf_6403c_6 Y) rfl ?_
  have hcl : (nI c).toNatClampNeg = c := nI_clamp (by omega)
  have hcl0 : (nI cap).toNatClampNeg = cap := nI_clamp (by omega)
  refine rn_newq (lkJ7_copyOf_6403c_7 Y) (nI_pos (by omega)) (by omega) (Nat.le_refl _) (by omega) (fun q hq => ?_)
  have heq : ¬ e = q := fun z => hq (by rw [← z]; exact he)
  rw [hcl]
  refine rn_goto (lkJ7_copyOf_6403c_10 Y) ?_
  first | refine rn_ast (lkJ7_copyOf_6403c_24 Y) rfl ?_ | refine rn_astO (lkJ7_copyOf_6403c_24 Y) rfl ?_
  first | refine rn_ald (lkJ7_copyOf_6403c_25 Y) rfl ?_ | refine rn_aldO (lkJ7_copyOf_6403c_25 Y) rfl ?_ | refine rn_aldN (lkJ7_copyOf_6403c_25 Y) rfl ?_
  refine rn_push (lkJ7_copyOf_6403c_26 Y) ?_
  first | refine rn_ald (lkJ7_copyOf_6403c_27 Y) rfl ?_ | refine rn_aldO (lkJ7_copyOf_6403c_27 Y) rfl ?_ | refine rn_aldN (lkJ7_copyOf_6403c_27 Y) rfl ?_
  refine rn_push (lkJ7_copyOf_6403c_28 Y) ?_
  first | refine rn_ald (lkJ7_copyOf_6403c_29 Y) rfl ?_ | refine rn_aldO (lkJ7_copyOf_6403c_29 Y) rfl ?_ | refine rn_aldN (lkJ7_copyOf_6403c_29 Y) rfl ?_
  refine rn_alen (lkJ7_copyOf_6403c_30 Y) (List.mem_append_left _ he) ((va_up_ne _ _ heq).trans hwe) (List.mem_singleton.mpr rfl) ?_
  refine rn_ild (lkJ7_copyOf_6403c_31 Y) rfl ?_
  refine rn_min (lkJ7_copyOf_6403c_32 Y) (Nat.le_of_ble_eq_true rfl) (Nat.le_refl _) (by omega) ?_
  rw [if_neg (show ¬ nI c < Int32.ofNat cap from nI_nlt hc (by omega))]
  refine xw_Run.st (lkJ7_copyOf_6403c_35 Y) ⟨0, 0, nI cap, e, q, cap, c, f, _, _, rfl, List.mem_append_left _ he, (va_up_ne _ _ heq).trans hwe, List.mem_append_right _ (List.mem_singleton.mpr rfl), va_up_self _ _ _, by decide, by decide, nI_pos (by omega), ?_, ?_, ?_, Nat.le_of_ble_eq_true rfl, ?_⟩
  · rw [hcl0]
    show 0 + cap ≤ cap
    omega
  · rw [hcl0]
    show 0 + cap ≤ c
    omega
  · intro i y hi hy
    rw [hcl0] at hi
    have hy2 : f i = some y := by rw [← hy]; congr 1; show i = 0 + i; omega
    obtain ⟨h1, ci, fs, h2, h3⟩ := hel i y hi hy2
    exact ⟨List.mem_append_left _ h1, ci, fs, h2, (va_up_ne _ _ (fun z => hq (by rw [← z]; exact h1))).trans h3⟩
  rw [hcl0]
  have hz0 : (0 : Int32).toNatClampNeg = 0 := rfl
  rw [hz0]
  try dsimp only
  rw [va_up_up]
  first | refine rn_ald (lkJ7_copyOf_6403c_38 Y) rfl ?_ | refine rn_aldO (lkJ7_copyOf_6403c_38 Y) rfl ?_ | refine rn_aldN (lkJ7_copyOf_6403c_38 Y) rfl ?_
  refine rn_aret (lkJ7_copyOf_6403c_39 Y) (by first | exact xw_isR_ref _ | exact xw_isR_null | exact xw_isR_rf _) ?_
  exact ⟨h q hq, Nat.le_refl _, by omega⟩

set_option maxRecDepth 100000 in
set_option maxHeartbeats 4000000 in
theorem sj_copy2 {e cap c : Nat} {f : Nat → Option Nat} (he : e ∈ w.1) (hwe : w.2 e = .inl (Y.2.2.1, cap, .inr (.inr (.inr (.inr f))))) (hel : xj_el w f cap) (hc : cap ≤ c) (hb : c ≤ 200) (h : ∀ q : Nat, q ∉ w.1 → post (some (.ref q)) (w.1 ++ [q], va_up w.2 q (.inl (Y.2.2.1, c, .inr (.inr (.inr (.inr (va_cpy f (fun _ => none) 0 0 cap)))))))) : ptJ7_copyOf_1904c Y [.ref e, .int (nI c)] w post := by
  refine ⟨(by first | exact Nat.le_of_ble_eq_true rfl | simp [lg_sl, xw_cat_rf, xw_cat_i, xw_cat_r, xw_cat_n, xw_cat_l]), ?_⟩
  first | refine rn_ald (lkJ7_copyOf_1904c_0 Y) rfl ?_ | refine rn_aldO (lkJ7_copyOf_1904c_0 Y) rfl ?_ | refine rn_aldN (lkJ7_copyOf_1904c_0 Y) rfl ?_
  refine rn_ild (lkJ7_copyOf_1904c_1 Y) rfl ?_
  first | refine rn_ald (lkJ7_copyOf_1904c_2 Y) rfl ?_ | refine rn_aldO (lkJ7_copyOf_1904c_2 Y) rfl ?_ | refine rn_aldN (lkJ7_copyOf_1904c_2 Y) rfl ?_
  refine xw_Run.st (lkJ7_copyOf_1904c_3 Y) ⟨e, cap, f, _, rfl, he, hwe, Nat.le_of_ble_eq_true rfl, ?_⟩
  refine rn_callS (lkJ7_copyOf_1904c_6 Y) (Nat.le_of_ble_eq_true rfl) rfl (Nat.le_of_ble_eq_true rfl) (Nat.le_of_ble_eq_true rfl) (Nat.le_of_ble_eq_true rfl) ?_
  refine sj_copy3 he hwe hel hc hb (fun q hq => ?_)
  refine rn_aret (lkJ7_copyOf_1904c_9 Y) (by first | exact xw_isR_ref _ | exact xw_isR_null | exact xw_isR_rf _) ?_
  exact ⟨h q hq, Nat.le_refl _, Nat.le_refl _⟩

/-- the world behind a growth: a new row q for the list a -/
abbrev xj_gw (Y : xw_Y) (w : xw_W) (a q : Nat) (md : Int32) (n c : Nat) (g : Nat → Option Nat) : xw_W := (w.1 ++ [q], va_up (va_up w.2 q (.inl (Y.2.2.1, c, .inr (.inr (.inr (.inr g)))))) a (.inr (0, [.int md, .ref q, .int (nI n)])))

set_option maxRecDepth 100000 in
set_option maxHeartbeats 4000000 in
theorem sj_grow_first {a : Nat} {md : Int32} (ha : a ∈ w.1) (hw : w.2 a = .inr (0, [.int md, .ref Y.1.1.1, .int (nI 0)])) (h : ∀ q : Nat, q ∉ w.1 → post (some (.ref q)) (xj_gw Y w a q md 0 10 (fun _ => none))) : ptJx4a65c_grow_92f84 Y [.ref a, .int (nI 1)] w post := by
  refine ⟨(by first | exact Nat.le_of_ble_eq_true rfl | simp [lg_sl, xw_cat_rf, xw_cat_i, xw_cat_r, xw_cat_n, xw_cat_l]), ?_⟩
  first | refine rn_ald (lkJx4a65c_grow_92f84_0 Y) rfl ?_ | refine rn_aldO (lkJx4a65c_grow_92f84_0 Y) rfl ?_ | refine rn_aldN (lkJx4a65c_grow_92f84_0 Y) rfl ?_
  refine rn_getf (lkJx4a65c_grow_92f84_1 Y) ha hw rfl ?_
  refine rn_zlen (lkJx4a65c_grow_92f84_4 Y) ?_
  refine rn_ist (lkJx4a65c_grow_92f84_5 Y) rfl ?_
  refine rn_ild (lkJx4a65c_grow_92f84_6 Y) rfl ?_
  refine rn_ifz (lkJx4a65c_grow_92f84_7 Y) (fun q => absurd q (by decide)) (fun _ => ?_)
  first | refine rn_ald (lkJx4a65c_grow_92f84_10 Y) rfl ?_ | refine rn_aldO (lkJx4a65c_grow_92f84_10 Y) rfl ?_ | refine rn_aldN (lkJx4a65c_grow_92f84_10 Y) rfl ?_
  refine rn_getf (lkJx4a65c_grow_92f84_11 Y) ha hw rfl ?_
  refine rn_gets (lkJx4a65c_grow_92f84_14 Y) ?_
  refine rn_ifaR (lkJx4a65c_grow_92f84_17 Y) (fun _ => ?_) (fun q => absurd rfl q)
  first | refine rn_ald (lkJx4a65c_grow_92f84_45 Y) rfl ?_ | refine rn_aldO (lkJx4a65c_grow_92f84_45 Y) rfl ?_ | refine rn_aldN (lkJx4a65c_grow_92f84_45 Y) rfl ?_
  refine rn_push (lkJx4a65c_grow_92f84_46 Y) ?_
  refine rn_ild (lkJx4a65c_grow_92f84_48 Y) rfl ?_
  refine rn_max (lkJx4a65c_grow_92f84_49 Y) (Nat.le_of_ble_eq_true rfl) (Nat.le_of_ble_eq_true rfl) (Nat.le_of_ble_eq_true rfl) ?_
  rw [if_neg (by decide)]
  refine rn_newq (lkJx4a65c_grow_92f84_52 Y) (by decide) (by decide) (by decide) (by decide) (fun q hq => ?_)
  have haq : ¬ a = q := fun z => hq (by rw [← z]; exact ha)
  refine rn_dupx1 (lkJx4a65c_grow_92f84_55 Y) (by first | rfl | exact xw_cat_rf _) (by first | rfl | exact xw_cat_rf _) ?_
  refine rn_putf (lkJx4a65c_grow_92f84_56 Y) (List.mem_append_left _ ha) ((va_up_ne _ _ haq).trans hw) (Nat.le_of_ble_eq_true rfl) (xw_fit_a _ (some q)) ?_
  refine rn_aret (lkJx4a65c_grow_92f84_59 Y) (by first | exact xw_isR_ref _ | exact xw_isR_null | exact xw_isR_rf _) ?_
  exact ⟨h q hq, Nat.le_refl _, Nat.le_of_ble_eq_true rfl⟩

set_option maxRecDepth 100000 in
set_option maxHeartbeats 4000000 in
theorem sj_grow_full {a e cap : Nat} {md : Int32} {f : Nat → Option Nat} (ha : a ∈ w.1) (hw : w.2 a = .inr (0, [.int md, .ref e, .int (nI cap)])) (he : e ∈ w.1) (hwe : w.2 e = .inl (Y.2.2.1, cap, .inr (.inr (.inr (.inr f))))) (hel : xj_el w f cap) (h2 : 2 ≤ cap) (hb : cap + cap / 2 ≤ 200) (h : ∀ q : Nat, q ∉ w.1 → post (some (.ref q)) (xj_gw Y w a q md cap (cap + cap / 2) (va_cpy f (fun _ => none) 0 0 cap))) : ptJx4a65c_grow_92f84 Y [.ref a, .int (nI (cap + 1))] w post := by
  refine ⟨(by first | exact Nat.le_of_ble_eq_true rfl | simp [lg_sl, xw_cat_rf, xw_cat_i, xw_cat_r, xw_cat_n, xw_cat_l]), ?_⟩
  first | refine rn_ald (lkJx4a65c_grow_92f84_0 Y) rfl ?_ | refine rn_aldO (lkJx4a65c_grow_92f84_0 Y) rfl ?_ | refine rn_aldN (lkJx4a65c_grow_92f84_0 Y) rfl ?_
  refine rn_getf (lkJx4a65c_grow_92f84_1 Y) ha hw rfl ?_
  refine rn_alen (lkJx4a65c_grow_92f84_4 Y) he hwe (List.mem_singleton.mpr rfl) ?_
  refine rn_ist (lkJx4a65c_grow_92f84_5 Y) rfl ?_
  refine rn_ild (lkJx4a65c_grow_92f84_6 Y) rfl ?_
  refine rn_ifz (lkJx4a65c_grow_92f84_7 Y) (fun _ => ?_) (fun q => absurd (show (0 : Int32) < nI cap from nI_lt (a := 0) (by omega) (by omega)) q)
  refine rn_ild (lkJx4a65c_grow_92f84_20 Y) rfl ?_
  refine rn_ild (lkJx4a65c_grow_92f84_21 Y) rfl ?_
  refine rn_ild (lkJx4a65c_grow_92f84_22 Y) rfl ?_
  refine rn_i2 (lkJx4a65c_grow_92f84_23 Y) ?_
  refine rn_ild (lkJx4a65c_grow_92f84_24 Y) rfl ?_
  refine rn_push (lkJx4a65c_grow_92f84_25 Y) ?_
  refine rn_i2 (lkJx4a65c_grow_92f84_26 Y) ?_
  refine rn_callS (lkJx4a65c_grow_92f84_27 Y) (Nat.le_of_ble_eq_true rfl) rfl (Nat.le_of_ble_eq_true rfl) (Nat.le_of_ble_eq_true rfl) (Nat.le_of_ble_eq_true rfl) ?_
  have e1 : nI (cap + 1) - Int32.ofNat cap = nI 1 := by
    show nI (cap + 1) - nI cap = nI 1
    rw [nI_succ]
    show nI cap + 1 - nI cap = 1
    rw [Int32.add_comm, Int32.add_sub_cancel]
  have e2 : Int32.ofNat cap >>> ((1 : Int32) &&& 31) = nI (cap / 2) := xj_half (by omega)
  refine sj_newLength (x := nI (cap + cap / 2)) ?_ (nI_nle (by omega) (by omega)) ?_ ?_
  · rw [e1, e2]
    have e3 : (if nI 1 < nI (cap / 2) then nI (cap / 2) else nI 1) = nI (cap / 2) := by
      split
      · rfl
      · next z =>
        have z2 : ¬ 1 < cap / 2 := fun y => z (nI_lt y (by omega))
        have z3 : cap / 2 = 1 := by omega
        rw [z3]
    rw [e3]
    exact nI_add cap (cap / 2)
  · show ¬ nI 2147483639 < nI (cap + cap / 2)
    exact nI_nlt (by omega) (by omega)
  refine rn_ist (lkJx4a65c_grow_92f84_30 Y) rfl ?_
  first | refine rn_ald (lkJx4a65c_grow_92f84_31 Y) rfl ?_ | refine rn_aldO (lkJx4a65c_grow_92f84_31 Y) rfl ?_ | refine rn_aldN (lkJx4a65c_grow_92f84_31 Y) rfl ?_
  first | refine rn_ald (lkJx4a65c_grow_92f84_32 Y) rfl ?_ | refine rn_aldO (lkJx4a65c_grow_92f84_32 Y) rfl ?_ | refine rn_aldN (lkJx4a65c_grow_92f84_32 Y) rfl ?_
  refine rn_getf (lkJx4a65c_grow_92f84_33 Y) ha hw rfl ?_
  refine rn_ild (lkJx4a65c_grow_92f84_36 Y) rfl ?_
  refine rn_callS (lkJx4a65c_grow_92f84_37 Y) (Nat.le_of_ble_eq_true rfl) rfl (Nat.le_of_ble_eq_true rfl) (Nat.le_of_ble_eq_true rfl) (Nat.le_of_ble_eq_true rfl) ?_
  refine sj_copy2 he hwe hel (by omega) hb (fun q hq => ?_)
  have haq : ¬ a = q := fun z => hq (by rw [← z]; exact ha)
  refine rn_dupx1 (lkJx4a65c_grow_92f84_40 Y) (by first | rfl | exact xw_cat_rf _) (by first | rfl | exact xw_cat_rf _) ?_
  refine rn_putf (lkJx4a65c_grow_92f84_41 Y) (List.mem_append_left _ ha) ((va_up_ne _ _ haq).trans hw) (Nat.le_of_ble_eq_true rfl) (xw_fit_a _ (some q)) ?_
  refine rn_aret (lkJx4a65c_grow_92f84_44 Y) (by first | exact xw_isR_ref _ | exact xw_isR_null | exact xw_isR_rf _) ?_
  exact ⟨h q hq, Nat.le_refl _, Nat.le_refl _⟩

set_option maxRecDepth 100000 in
set_option maxHeartbeats 4000000 in
theorem sj_grow0_first {a e cap : Nat} {md : Int32} {f : Nat → Option Nat} (ha : a ∈ w.1) (hw : w.2 a = .inr (0, [.int md, .ref Y.1.1.1, .int (nI 0)])) (h : ∀ q : Nat, q ∉ w.1 → post (some (.ref q)) (xj_gw Y w a q md 0 10 (fun _ => none))) : ptJx4a65c_grow_d5877 Y [.ref a] w post := by
  refine ⟨(by first | exact Nat.le_of_ble_eq_true rfl | simp [lg_sl, xw_cat_rf, xw_cat_i, xw_cat_r, xw_cat_n, xw_cat_l]), ?_⟩
  first | refine rn_ald (lkJx4a65c_grow_d5877_0 Y) rfl ?_ | refine rn_aldO (lkJx4a65c_grow_d5877_0 Y) rfl ?_ | refine rn_aldN (lkJx4a65c_grow_d5877_0 Y) rfl ?_
  first | refine rn_ald (lkJx4a65c_grow_d5877_1 Y) rfl ?_ | refine rn_aldO (lkJx4a65c_grow_d5877_1 Y) rfl ?_ | refine rn_aldN (lkJx4a65c_grow_d5877_1 Y) rfl ?_
  refine rn_getf (lkJx4a65c_grow_d5877_2 Y) ha hw rfl ?_
  refine rn_push (lkJx4a65c_grow_d5877_5 Y) ?_
  refine rn_i2 (lkJx4a65c_grow_d5877_6 Y) ?_
  refine rn_callV (lkJx4a65c_grow_d5877_7 Y) rfl ha hw (Nat.le_of_ble_eq_true rfl) (Nat.le_of_ble_eq_true rfl) (Nat.le_of_ble_eq_true rfl) ?_
  first | refine sj_grow_first ha hw (fun q hq => ?_) | (rw [show nI cap + 1 = nI (cap + 1) from (nI_succ cap).symm]; refine sj_grow_first ha hw (fun q hq => ?_))
  refine rn_aret (lkJx4a65c_grow_d5877_10 Y) (by first | exact xw_isR_ref _ | exact xw_isR_null | exact xw_isR_rf _) ?_
  exact ⟨h q hq, Nat.le_refl _, Nat.le_refl _⟩

set_option maxRecDepth 100000 in
set_option maxHeartbeats 4000000 in
theorem sj_grow0_full {a e cap : Nat} {md : Int32} {f : Nat → Option Nat} (ha : a ∈ w.1) (hw : w.2 a = .inr (0, [.int md, .ref e, .int (nI cap)])) (he : e ∈ w.1) (hwe : w.2 e = .inl (Y.2.2.1, cap, .inr (.inr (.inr (.inr f))))) (hel : xj_el w f cap) (h2 : 2 ≤ cap) (hb : cap + cap / 2 ≤ 200) (h : ∀ q : Nat, q ∉ w.1 → post (some (.ref q)) (xj_gw Y w a q md cap (cap + cap / 2) (va_cpy f (fun _ => none) 0 0 cap))) : ptJx4a65c_grow_d5877 Y [.ref a] w post := by
  refine ⟨(by first | exact Nat.le_of_ble_eq_true rfl | simp [lg_sl, xw_cat_rf, xw_cat_i, xw_cat_r, xw_cat_n, xw_cat_l]), ?_⟩
  first | refine rn_ald (lkJx4a65c_grow_d5877_0 Y) rfl ?_ | refine rn_aldO (lkJx4a65c_grow_d5877_0 Y) rfl ?_ | refine rn_aldN (lkJx4a65c_grow_d5877_0 Y) rfl ?_
  first | refine rn_ald (lkJx4a65c_grow_d5877_1 Y) rfl ?_ | refine rn_aldO (lkJx4a65c_grow_d5877_1 Y) rfl ?_ | refine rn_aldN (lkJx4a65c_grow_d5877_1 Y) rfl ?_
  refine rn_getf (lkJx4a65c_grow_d5877_2 Y) ha hw rfl ?_
  refine rn_push (lkJx4a65c_grow_d5877_5 Y) ?_
  refine rn_i2 (lkJx4a65c_grow_d5877_6 Y) ?_
  refine rn_callV (lkJx4a65c_grow_d5877_7 Y) rfl ha hw (Nat.le_of_ble_eq_true rfl) (Nat.le_of_ble_eq_true rfl) (Nat.le_of_ble_eq_true rfl) ?_
  first | refine sj_grow_full ha hw he hwe hel h2 hb (fun q hq => ?_) | (rw [show nI cap + 1 = nI (cap + 1) from (nI_succ cap).symm]; refine sj_grow_full ha hw he hwe hel h2 hb (fun q hq => ?_))
  refine rn_aret (lkJx4a65c_grow_d5877_10 Y) (by first | exact xw_isR_ref _ | exact xw_isR_null | exact xw_isR_rf _) ?_
  exact ⟨h q hq, Nat.le_refl _, Nat.le_refl _⟩

/-- the world behind an add: the row e of the list a, which holds c places, has x at n -/
abbrev xj_aw (Y : xw_Y) (w : xw_W) (a e x : Nat) (md : Int32) (n c : Nat) (g : Nat → Option Nat) : xw_W := (w.1, va_up (va_up w.2 e (.inl (Y.2.2.1, c, .inr (.inr (.inr (.inr (va_up g n (some x)))))))) a (.inr (0, [.int md, .ref e, .int (nI (n + 1))])))

set_option maxRecDepth 100000 in
set_option maxHeartbeats 4000000 in
theorem sj_add_room {a e x cap n : Nat} {md : Int32} {f : Nat → Option Nat} (ha : a ∈ w.1) (hw : w.2 a = .inr (0, [.int md, .ref e, .int (nI n)])) (he : e ∈ w.1) (hwe : w.2 e = .inl (Y.2.2.1, cap, .inr (.inr (.inr (.inr f))))) (hx : x ∈ w.1) (hwx : ∃ (ci : Nat) (fs : List Value), ci ∈ [1, 2] ∧ w.2 x = .inr (ci, fs)) (hax : ¬ x = a) (hn : n < cap) (hc : cap ≤ 1000) (hea : ¬ a = e) (h : post none (xj_aw Y w a e x md n cap f)) : ptJx4a65c_add_72be8 Y [.ref a, .ref x, .ref e, .int (nI n)] w post := by
  refine ⟨(by first | exact Nat.le_of_ble_eq_true rfl | simp [lg_sl, xw_cat_rf, xw_cat_i, xw_cat_r, xw_cat_n, xw_cat_l]), ?_⟩
  refine rn_ild (lkJx4a65c_add_72be8_0 Y) rfl ?_
  first | refine rn_ald (lkJx4a65c_add_72be8_1 Y) rfl ?_ | refine rn_aldO (lkJx4a65c_add_72be8_1 Y) rfl ?_ | refine rn_aldN (lkJx4a65c_add_72be8_1 Y) rfl ?_
  refine rn_alen (lkJx4a65c_add_72be8_2 Y) he hwe (List.mem_singleton.mpr rfl) ?_
  refine rn_ifc (lkJx4a65c_add_72be8_3 Y) (fun _ => ?_) (fun q => absurd (Classical.not_not.mp q) (fun z => by have := (nI_eq (a := n) (b := cap) (by omega) (by omega)).mp z; omega))
  first | refine rn_ald (lkJx4a65c_add_72be8_11 Y) rfl ?_ | refine rn_aldO (lkJx4a65c_add_72be8_11 Y) rfl ?_ | refine rn_aldN (lkJx4a65c_add_72be8_11 Y) rfl ?_
  refine rn_ild (lkJx4a65c_add_72be8_12 Y) rfl ?_
  first | refine rn_ald (lkJx4a65c_add_72be8_13 Y) rfl ?_ | refine rn_aldO (lkJx4a65c_add_72be8_13 Y) rfl ?_ | refine rn_aldN (lkJx4a65c_add_72be8_13 Y) rfl ?_
  have hi : vp_in (nI n) cap := vp_in_nI hn (by omega)
  refine rn_aast (u := some x) (lkJx4a65c_add_72be8_14 Y) he hwe hi (fun v hv => by cases hv; exact ⟨hx, hwx⟩) ?_
  rw [nI_clamp (by omega)]
  first | refine rn_ald (lkJx4a65c_add_72be8_15 Y) rfl ?_ | refine rn_aldO (lkJx4a65c_add_72be8_15 Y) rfl ?_ | refine rn_aldN (lkJx4a65c_add_72be8_15 Y) rfl ?_
  refine rn_ild (lkJx4a65c_add_72be8_16 Y) rfl ?_
  refine rn_push (lkJx4a65c_add_72be8_17 Y) ?_
  refine rn_i2 (lkJx4a65c_add_72be8_18 Y) ?_
  try dsimp only
  rw [nI_1]
  refine rn_putf (lkJx4a65c_add_72be8_19 Y) ha ((va_up_ne _ _ hea).trans hw) (Nat.le_of_ble_eq_true rfl) (xw_fit_i _) ?_
  refine rn_vret (lkJx4a65c_add_72be8_22 Y) ?_
  exact ⟨h, Nat.zero_le _, Nat.zero_le _⟩

set_option maxRecDepth 100000 in
set_option maxHeartbeats 4000000 in
theorem sj_add_first {a e x cap : Nat} {md : Int32} {f : Nat → Option Nat} (ha : a ∈ w.1) (hw : w.2 a = .inr (0, [.int md, .ref Y.1.1.1, .int (nI 0)])) (hx : x ∈ w.1) (hwx : ∃ (ci : Nat) (fs : List Value), ci ∈ [1, 2] ∧ w.2 x = .inr (ci, fs)) (hax : ¬ x = a) (h : ∀ q : Nat, q ∉ w.1 → post none (xj_aw Y (w.1 ++ [q], va_up w.2 q (.inl (Y.2.2.1, 10, .inr (.inr (.inr (.inr (fun _ => none))))))) a q x md 0 10 (fun _ => none))) : ptJx4a65c_add_72be8 Y [.ref a, .ref x, .ref Y.1.1.1, .int (nI 0)] w post := by
  refine ⟨(by first | exact Nat.le_of_ble_eq_true rfl | simp [lg_sl, xw_cat_rf, xw_cat_i, xw_cat_r, xw_cat_n, xw_cat_l]), ?_⟩
  refine rn_ild (lkJx4a65c_add_72be8_0 Y) rfl ?_
  first | refine rn_ald (lkJx4a65c_add_72be8_1 Y) rfl ?_ | refine rn_aldO (lkJx4a65c_add_72be8_1 Y) rfl ?_ | refine rn_aldN (lkJx4a65c_add_72be8_1 Y) rfl ?_
  refine rn_zlen (lkJx4a65c_add_72be8_2 Y) ?_
  refine rn_ifc (lkJx4a65c_add_72be8_3 Y) (fun q => absurd rfl q) (fun _ => ?_)
  first | refine rn_ald (lkJx4a65c_add_72be8_6 Y) rfl ?_ | refine rn_aldO (lkJx4a65c_add_72be8_6 Y) rfl ?_ | refine rn_aldN (lkJx4a65c_add_72be8_6 Y) rfl ?_
  refine rn_callV (lkJx4a65c_add_72be8_7 Y) rfl ha hw (Nat.le_of_ble_eq_true rfl) (Nat.le_of_ble_eq_true rfl) (Nat.le_of_ble_eq_true rfl) ?_
  refine sj_grow0_first (e := e) (cap := cap) (f := f) ha hw (fun q hq => ?_)
  have haq : ¬ a = q := fun z => hq (by rw [← z]; exact ha)
  have hqa : ¬ q = a := fun z => haq z.symm
  have hxq : ¬ x = q := fun z => hq (by rw [← z]; exact hx)
  first | refine rn_ast (lkJx4a65c_add_72be8_10 Y) rfl ?_ | refine rn_astO (lkJx4a65c_add_72be8_10 Y) rfl ?_
  first | refine rn_ald (lkJx4a65c_add_72be8_11 Y) rfl ?_ | refine rn_aldO (lkJx4a65c_add_72be8_11 Y) rfl ?_ | refine rn_aldN (lkJx4a65c_add_72be8_11 Y) rfl ?_
  refine rn_ild (lkJx4a65c_add_72be8_12 Y) rfl ?_
  first | refine rn_ald (lkJx4a65c_add_72be8_13 Y) rfl ?_ | refine rn_aldO (lkJx4a65c_add_72be8_13 Y) rfl ?_ | refine rn_aldN (lkJx4a65c_add_72be8_13 Y) rfl ?_
  have hi : vp_in (nI 0) 10 := vp_in_nI (by omega) (by omega)
  refine rn_aast (u := some x) (lkJx4a65c_add_72be8_14 Y) (List.mem_append_right _ (List.mem_singleton.mpr rfl)) ((va_up_ne _ _ hqa).trans (va_up_self _ _ _)) hi (fun v hv => by
    cases hv
    obtain ⟨ci, fs, h8, h9⟩ := hwx
    exact ⟨List.mem_append_left _ hx, ci, fs, h8, (va_up_ne _ _ hax).trans ((va_up_ne _ _ hxq).trans h9)⟩) ?_
  rw [nI_clamp (by omega)]
  first | refine rn_ald (lkJx4a65c_add_72be8_15 Y) rfl ?_ | refine rn_aldO (lkJx4a65c_add_72be8_15 Y) rfl ?_ | refine rn_aldN (lkJx4a65c_add_72be8_15 Y) rfl ?_
  refine rn_ild (lkJx4a65c_add_72be8_16 Y) rfl ?_
  refine rn_push (lkJx4a65c_add_72be8_17 Y) ?_
  refine rn_i2 (lkJx4a65c_add_72be8_18 Y) ?_
  try dsimp only
  rw [nI_1]
  refine rn_putf (lkJx4a65c_add_72be8_19 Y) (List.mem_append_left _ ha) ((va_up_ne _ _ haq).trans (va_up_self _ _ _)) (Nat.le_of_ble_eq_true rfl) (xw_fit_i _) ?_
  refine rn_vret (lkJx4a65c_add_72be8_22 Y) ?_
  have h9 := h q hq
  unfold xj_aw at h9
  refine ⟨?_, Nat.le_of_ble_eq_true rfl, Nat.le_of_ble_eq_true rfl⟩
  rw [← va_up_sw _ (.inr (0, [.int md, .ref q, .int (nI 0)])) _ _ hqa] at h9
  exact h9

set_option maxRecDepth 100000 in
set_option maxHeartbeats 4000000 in
theorem sj_add_full {a e x cap : Nat} {md : Int32} {f : Nat → Option Nat} (ha : a ∈ w.1) (hw : w.2 a = .inr (0, [.int md, .ref e, .int (nI cap)])) (he : e ∈ w.1) (hwe : w.2 e = .inl (Y.2.2.1, cap, .inr (.inr (.inr (.inr f))))) (hel : xj_el w f cap) (h2 : 2 ≤ cap) (hb : cap + cap / 2 ≤ 200) (hx : x ∈ w.1) (hwx : ∃ (ci : Nat) (fs : List Value), ci ∈ [1, 2] ∧ w.2 x = .inr (ci, fs)) (hax : ¬ x = a) (h : ∀ q : Nat, q ∉ w.1 → post none (xj_aw Y (w.1 ++ [q], va_up w.2 q (.inl (Y.2.2.1, (cap + cap / 2), .inr (.inr (.inr (.inr (va_cpy f (fun _ => none) 0 0 cap))))))) a q x md cap (cap + cap / 2) (va_cpy f (fun _ => none) 0 0 cap))) : ptJx4a65c_add_72be8 Y [.ref a, .ref x, .ref e, .int (nI cap)] w post := by
  refine ⟨(by first | exact Nat.le_of_ble_eq_true rfl | simp [lg_sl, xw_cat_rf, xw_cat_i, xw_cat_r, xw_cat_n, xw_cat_l]), ?_⟩
  refine rn_ild (lkJx4a65c_add_72be8_0 Y) rfl ?_
  first | refine rn_ald (lkJx4a65c_add_72be8_1 Y) rfl ?_ | refine rn_aldO (lkJx4a65c_add_72be8_1 Y) rfl ?_ | refine rn_aldN (lkJx4a65c_add_72be8_1 Y) rfl ?_
  refine rn_alen (lkJx4a65c_add_72be8_2 Y) he hwe (List.mem_singleton.mpr rfl) ?_
  refine rn_ifc (lkJx4a65c_add_72be8_3 Y) (fun q => absurd rfl q) (fun _ => ?_)
  first | refine rn_ald (lkJx4a65c_add_72be8_6 Y) rfl ?_ | refine rn_aldO (lkJx4a65c_add_72be8_6 Y) rfl ?_ | refine rn_aldN (lkJx4a65c_add_72be8_6 Y) rfl ?_
  refine rn_callV (lkJx4a65c_add_72be8_7 Y) rfl ha hw (Nat.le_of_ble_eq_true rfl) (Nat.le_of_ble_eq_true rfl) (Nat.le_of_ble_eq_true rfl) ?_
  refine sj_grow0_full ha hw he hwe hel h2 hb (fun q hq => ?_)
  have haq : ¬ a = q := fun z => hq (by rw [← z]; exact ha)
  have hqa : ¬ q = a := fun z => haq z.symm
  have hxq : ¬ x = q := fun z => hq (by rw [← z]; exact hx)
  first | refine rn_ast (lkJx4a65c_add_72be8_10 Y) rfl ?_ | refine rn_astO (lkJx4a65c_add_72be8_10 Y) rfl ?_
  first | refine rn_ald (lkJx4a65c_add_72be8_11 Y) rfl ?_ | refine rn_aldO (lkJx4a65c_add_72be8_11 Y) rfl ?_ | refine rn_aldN (lkJx4a65c_add_72be8_11 Y) rfl ?_
  refine rn_ild (lkJx4a65c_add_72be8_12 Y) rfl ?_
  first | refine rn_ald (lkJx4a65c_add_72be8_13 Y) rfl ?_ | refine rn_aldO (lkJx4a65c_add_72be8_13 Y) rfl ?_ | refine rn_aldN (lkJx4a65c_add_72be8_13 Y) rfl ?_
  have hi : vp_in (nI cap) (cap + cap / 2) := vp_in_nI (by omega) (by omega)
  refine rn_aast (u := some x) (lkJx4a65c_add_72be8_14 Y) (List.mem_append_right _ (List.mem_singleton.mpr rfl)) ((va_up_ne _ _ hqa).trans (va_up_self _ _ _)) hi (fun v hv => by
    cases hv
    obtain ⟨ci, fs, h8, h9⟩ := hwx
    exact ⟨List.mem_append_left _ hx, ci, fs, h8, (va_up_ne _ _ hax).trans ((va_up_ne _ _ hxq).trans h9)⟩) ?_
  rw [nI_clamp (by omega)]
  first | refine rn_ald (lkJx4a65c_add_72be8_15 Y) rfl ?_ | refine rn_aldO (lkJx4a65c_add_72be8_15 Y) rfl ?_ | refine rn_aldN (lkJx4a65c_add_72be8_15 Y) rfl ?_
  refine rn_ild (lkJx4a65c_add_72be8_16 Y) rfl ?_
  refine rn_push (lkJx4a65c_add_72be8_17 Y) ?_
  refine rn_i2 (lkJx4a65c_add_72be8_18 Y) ?_
  try dsimp only
  rw [nI_1]
  refine rn_putf (lkJx4a65c_add_72be8_19 Y) (List.mem_append_left _ ha) ((va_up_ne _ _ haq).trans (va_up_self _ _ _)) (Nat.le_of_ble_eq_true rfl) (xw_fit_i _) ?_
  refine rn_vret (lkJx4a65c_add_72be8_22 Y) ?_
  have h9 := h q hq
  unfold xj_aw at h9
  refine ⟨?_, Nat.le_of_ble_eq_true rfl, Nat.le_of_ble_eq_true rfl⟩
  rw [← va_up_sw _ (.inr (0, [.int md, .ref q, .int (nI cap)])) _ _ hqa] at h9
  exact h9

set_option maxRecDepth 100000 in
set_option maxHeartbeats 4000000 in
theorem sj_adds_room {a e x cap n : Nat} {md : Int32} {f : Nat → Option Nat} (ha : a ∈ w.1) (hw : w.2 a = .inr (0, [.int md, .ref e, .int (nI n)])) (he : e ∈ w.1) (hwe : w.2 e = .inl (Y.2.2.1, cap, .inr (.inr (.inr (.inr f))))) (hn : n < cap) (hc : cap ≤ 1000) (hea : ¬ a = e) (hx : x ∈ w.1) (hwx : ∃ (ci : Nat) (fs : List Value), ci ∈ [1, 2] ∧ w.2 x = .inr (ci, fs)) (hax : ¬ x = a) (h : post (some (.int 1)) (xj_aw Y w a e x (md + 1) n cap f)) : ptJx4a65c_add_9ea2d Y [.ref a, .ref x] w post := by
  refine ⟨(by first | exact Nat.le_of_ble_eq_true rfl | simp [lg_sl, xw_cat_rf, xw_cat_i, xw_cat_r, xw_cat_n, xw_cat_l]), ?_⟩
  first | refine rn_ald (lkJx4a65c_add_9ea2d_0 Y) rfl ?_ | refine rn_aldO (lkJx4a65c_add_9ea2d_0 Y) rfl ?_ | refine rn_aldN (lkJx4a65c_add_9ea2d_0 Y) rfl ?_
  refine rn_dup (lkJx4a65c_add_9ea2d_1 Y) rfl ?_
  refine rn_getf (lkJx4a65c_add_9ea2d_2 Y) ha hw rfl ?_
  refine rn_push (lkJx4a65c_add_9ea2d_5 Y) ?_
  refine rn_i2 (lkJx4a65c_add_9ea2d_6 Y) ?_
  try dsimp only
  refine rn_putf (lkJx4a65c_add_9ea2d_7 Y) ha hw (Nat.le_of_ble_eq_true rfl) (xw_fit_i _) ?_
  try dsimp only [List.set]
  first | refine rn_ald (lkJx4a65c_add_9ea2d_10 Y) rfl ?_ | refine rn_aldO (lkJx4a65c_add_9ea2d_10 Y) rfl ?_ | refine rn_aldN (lkJx4a65c_add_9ea2d_10 Y) rfl ?_
  first | refine rn_ald (lkJx4a65c_add_9ea2d_11 Y) rfl ?_ | refine rn_aldO (lkJx4a65c_add_9ea2d_11 Y) rfl ?_ | refine rn_aldN (lkJx4a65c_add_9ea2d_11 Y) rfl ?_
  first | refine rn_ald (lkJx4a65c_add_9ea2d_12 Y) rfl ?_ | refine rn_aldO (lkJx4a65c_add_9ea2d_12 Y) rfl ?_ | refine rn_aldN (lkJx4a65c_add_9ea2d_12 Y) rfl ?_
  refine rn_getf (lkJx4a65c_add_9ea2d_13 Y) ha (va_up_self _ _ _) rfl ?_
  first | refine rn_ald (lkJx4a65c_add_9ea2d_16 Y) rfl ?_ | refine rn_aldO (lkJx4a65c_add_9ea2d_16 Y) rfl ?_ | refine rn_aldN (lkJx4a65c_add_9ea2d_16 Y) rfl ?_
  refine rn_getf (lkJx4a65c_add_9ea2d_17 Y) ha (va_up_self _ _ _) rfl ?_
  refine rn_callV (lkJx4a65c_add_9ea2d_20 Y) rfl ha (va_up_self _ _ _) (Nat.le_of_ble_eq_true rfl) (Nat.le_of_ble_eq_true rfl) (Nat.le_of_ble_eq_true rfl) ?_
  have hwx2 : ∃ (ci : Nat) (fs : List Value), ci ∈ [1, 2] ∧ (va_up w.2 a (.inr (0, [.int (md + 1), .ref e, .int (nI n)]))) x = .inr (ci, fs) := by
    obtain ⟨ci, fs, h8, h9⟩ := hwx
    exact ⟨ci, fs, h8, (va_up_ne _ _ hax).trans h9⟩
  refine sj_add_room ha (va_up_self _ _ _) he ((va_up_ne _ _ (fun z => hea z.symm)).trans hwe) hx hwx2 hax hn hc hea ?_
  refine rn_push (lkJx4a65c_add_9ea2d_23 Y) ?_
  refine rn_zret (lkJx4a65c_add_9ea2d_24 Y) (by first | exact Or.inl rfl | exact Or.inr rfl | assumption) ?_
  have h9 := h
  unfold xj_aw at h9
  refine ⟨?_, Nat.le_of_ble_eq_true rfl, Nat.le_of_ble_eq_true rfl⟩
  rw [← va_up_sw _ (.inr (0, [.int (md + 1), .ref e, .int (nI n)])) _ _ (fun z => hea z.symm)] at h9
  exact h9

set_option maxRecDepth 100000 in
set_option maxHeartbeats 4000000 in
theorem sj_adds_first {a e x cap n : Nat} {md : Int32} {f : Nat → Option Nat} (ha : a ∈ w.1) (hw : w.2 a = .inr (0, [.int md, .ref Y.1.1.1, .int (nI 0)])) (hx : x ∈ w.1) (hwx : ∃ (ci : Nat) (fs : List Value), ci ∈ [1, 2] ∧ w.2 x = .inr (ci, fs)) (hax : ¬ x = a) (h : ∀ q : Nat, q ∉ w.1 → post (some (.int 1)) (xj_aw Y (w.1 ++ [q], va_up w.2 q (.inl (Y.2.2.1, 10, .inr (.inr (.inr (.inr (fun _ => none))))))) a q x (md + 1) 0 10 (fun _ => none))) : ptJx4a65c_add_9ea2d Y [.ref a, .ref x] w post := by
  refine ⟨(by first | exact Nat.le_of_ble_eq_true rfl | simp [lg_sl, xw_cat_rf, xw_cat_i, xw_cat_r, xw_cat_n, xw_cat_l]), ?_⟩
  first | refine rn_ald (lkJx4a65c_add_9ea2d_0 Y) rfl ?_ | refine rn_aldO (lkJx4a65c_add_9ea2d_0 Y) rfl ?_ | refine rn_aldN (lkJx4a65c_add_9ea2d_0 Y) rfl ?_
  refine rn_dup (lkJx4a65c_add_9ea2d_1 Y) rfl ?_
  refine rn_getf (lkJx4a65c_add_9ea2d_2 Y) ha hw rfl ?_
  refine rn_push (lkJx4a65c_add_9ea2d_5 Y) ?_
  refine rn_i2 (lkJx4a65c_add_9ea2d_6 Y) ?_
  try dsimp only
  refine rn_putf (lkJx4a65c_add_9ea2d_7 Y) ha hw (Nat.le_of_ble_eq_true rfl) (xw_fit_i _) ?_
  try dsimp only [List.set]
  first | refine rn_ald (lkJx4a65c_add_9ea2d_10 Y) rfl ?_ | refine rn_aldO (lkJx4a65c_add_9ea2d_10 Y) rfl ?_ | refine rn_aldN (lkJx4a65c_add_9ea2d_10 Y) rfl ?_
  first | refine rn_ald (lkJx4a65c_add_9ea2d_11 Y) rfl ?_ | refine rn_aldO (lkJx4a65c_add_9ea2d_11 Y) rfl ?_ | refine rn_aldN (lkJx4a65c_add_9ea2d_11 Y) rfl ?_
  first | refine rn_ald (lkJx4a65c_add_9ea2d_12 Y) rfl ?_ | refine rn_aldO (lkJx4a65c_add_9ea2d_12 Y) rfl ?_ | refine rn_aldN (lkJx4a65c_add_9ea2d_12 Y) rfl ?_
  refine rn_getf (lkJx4a65c_add_9ea2d_13 Y) ha (va_up_self _ _ _) rfl ?_
  first | refine rn_ald (lkJx4a65c_add_9ea2d_16 Y) rfl ?_ | refine rn_aldO (lkJx4a65c_add_9ea2d_16 Y) rfl ?_ | refine rn_aldN (lkJx4a65c_add_9ea2d_16 Y) rfl ?_
  refine rn_getf (lkJx4a65c_add_9ea2d_17 Y) ha (va_up_self _ _ _) rfl ?_
  refine rn_callV (lkJx4a65c_add_9ea2d_20 Y) rfl ha (va_up_self _ _ _) (Nat.le_of_ble_eq_true rfl) (Nat.le_of_ble_eq_true rfl) (Nat.le_of_ble_eq_true rfl) ?_
  have hwx2 : ∃ (ci : Nat) (fs : List Value), ci ∈ [1, 2] ∧ (va_up w.2 a (.inr (0, [.int (md + 1), .ref Y.1.1.1, .int (nI 0)]))) x = .inr (ci, fs) := by
    obtain ⟨ci, fs, h8, h9⟩ := hwx
    exact ⟨ci, fs, h8, (va_up_ne _ _ hax).trans h9⟩
  refine sj_add_first (e := e) (cap := cap) (f := f) ha (va_up_self _ _ _) hx hwx2 hax (fun q hq => ?_)
  refine rn_push (lkJx4a65c_add_9ea2d_23 Y) ?_
  refine rn_zret (lkJx4a65c_add_9ea2d_24 Y) (by first | exact Or.inl rfl | exact Or.inr rfl | assumption) ?_
  have h9 := h q hq
  unfold xj_aw at h9
  refine ⟨?_, Nat.le_of_ble_eq_true rfl, Nat.le_of_ble_eq_true rfl⟩
  have haq : ¬ q = a := fun z => hq (by rw [z]; exact ha)
  rw [← va_up_sw3 _ (.inr (0, [.int (md + 1), .ref Y.1.1.1, .int (nI 0)])) _ _ _ haq] at h9
  exact h9

set_option maxRecDepth 100000 in
set_option maxHeartbeats 4000000 in
theorem sj_adds_full {a e x cap n : Nat} {md : Int32} {f : Nat → Option Nat} (ha : a ∈ w.1) (hw : w.2 a = .inr (0, [.int md, .ref e, .int (nI cap)])) (he : e ∈ w.1) (hwe : w.2 e = .inl (Y.2.2.1, cap, .inr (.inr (.inr (.inr f))))) (hel : xj_el w f cap) (h2 : 2 ≤ cap) (hb : cap + cap / 2 ≤ 200) (hea : ¬ a = e) (hx : x ∈ w.1) (hwx : ∃ (ci : Nat) (fs : List Value), ci ∈ [1, 2] ∧ w.2 x = .inr (ci, fs)) (hax : ¬ x = a) (h : ∀ q : Nat, q ∉ w.1 → post (some (.int 1)) (xj_aw Y (w.1 ++ [q], va_up w.2 q (.inl (Y.2.2.1, cap + cap / 2, .inr (.inr (.inr (.inr (va_cpy f (fun _ => none) 0 0 cap))))))) a q x (md + 1) cap (cap + cap / 2) (va_cpy f (fun _ => none) 0 0 cap))) : ptJx4a65c_add_9ea2d Y [.ref a, .ref x] w post := by
  refine ⟨(by first | exact Nat.le_of_ble_eq_true rfl | simp [lg_sl, xw_cat_rf, xw_cat_i, xw_cat_r, xw_cat_n, xw_cat_l]), ?_⟩
  first | refine rn_ald (lkJx4a65c_add_9ea2d_0 Y) rfl ?_ | refine rn_aldO (lkJx4a65c_add_9ea2d_0 Y) rfl ?_ | refine rn_aldN (lkJx4a65c_add_9ea2d_0 Y) rfl ?_
  refine rn_dup (lkJx4a65c_add_9ea2d_1 Y) rfl ?_
  refine rn_getf (lkJx4a65c_add_9ea2d_2 Y) ha hw rfl ?_
  refine rn_push (lkJx4a65c_add_9ea2d_5 Y) ?_
  refine rn_i2 (lkJx4a65c_add_9ea2d_6 Y) ?_
  try dsimp only
  refine rn_putf (lkJx4a65c_add_9ea2d_7 Y) ha hw (Nat.le_of_ble_eq_true rfl) (xw_fit_i _) ?_
  try dsimp only [List.set]
  first | refine rn_ald (lkJx4a65c_add_9ea2d_10 Y) rfl ?_ | refine rn_aldO (lkJx4a65c_add_9ea2d_10 Y) rfl ?_ | refine rn_aldN (lkJx4a65c_add_9ea2d_10 Y) rfl ?_
  first | refine rn_ald (lkJx4a65c_add_9ea2d_11 Y) rfl ?_ | refine rn_aldO (lkJx4a65c_add_9ea2d_11 Y) rfl ?_ | refine rn_aldN (lkJx4a65c_add_9ea2d_11 Y) rfl ?_
  first | refine rn_ald (lkJx4a65c_add_9ea2d_12 Y) rfl ?_ | refine rn_aldO (lkJx4a65c_add_9ea2d_12 Y) rfl ?_ | refine rn_aldN (lkJx4a65c_add_9ea2d_12 Y) rfl ?_
  refine rn_getf (lkJx4a65c_add_9ea2d_13 Y) ha (va_up_self _ _ _) rfl ?_
  first | refine rn_ald (lkJx4a65c_add_9ea2d_16 Y) rfl ?_ | refine rn_aldO (lkJx4a65c_add_9ea2d_16 Y) rfl ?_ | refine rn_aldN (lkJx4a65c_add_9ea2d_16 Y) rfl ?_
  refine rn_getf (lkJx4a65c_add_9ea2d_17 Y) ha (va_up_self _ _ _) rfl ?_
  refine rn_callV (lkJx4a65c_add_9ea2d_20 Y) rfl ha (va_up_self _ _ _) (Nat.le_of_ble_eq_true rfl) (Nat.le_of_ble_eq_true rfl) (Nat.le_of_ble_eq_true rfl) ?_
  have hwx2 : ∃ (ci : Nat) (fs : List Value), ci ∈ [1, 2] ∧ (va_up w.2 a (.inr (0, [.int (md + 1), .ref e, .int (nI cap)]))) x = .inr (ci, fs) := by
    obtain ⟨ci, fs, h8, h9⟩ := hwx
    exact ⟨ci, fs, h8, (va_up_ne _ _ hax).trans h9⟩
  have hel2 : xj_el (w.1, va_up w.2 a (.inr (0, [.int (md + 1), .ref e, .int (nI cap)]))) f cap := by
    intro i y hi hy
    obtain ⟨h1, ci, fs, h2, h3⟩ := hel i y hi hy
    refine ⟨h1, ci, fs, h2, (va_up_ne _ _ (fun z => ?_)).trans h3⟩
    rw [z, hw] at h3
    have h4 : (0 : Nat) = ci := congrArg Prod.fst (Sum.inr.inj h3)
    rw [← h4] at h2
    exact absurd h2 (by decide)
  refine sj_add_full ha (va_up_self _ _ _) he ((va_up_ne _ _ (fun z => hea z.symm)).trans hwe) hel2 h2 hb hx hwx2 hax (fun q hq => ?_)
  refine rn_push (lkJx4a65c_add_9ea2d_23 Y) ?_
  refine rn_zret (lkJx4a65c_add_9ea2d_24 Y) (by first | exact Or.inl rfl | exact Or.inr rfl | assumption) ?_
  have h9 := h q hq
  unfold xj_aw at h9
  refine ⟨?_, Nat.le_of_ble_eq_true rfl, Nat.le_of_ble_eq_true rfl⟩
  have haq : ¬ q = a := fun z => hq (by rw [z]; exact ha)
  rw [← va_up_sw3 _ (.inr (0, [.int (md + 1), .ref e, .int (nI cap)])) _ _ _ haq] at h9
  exact h9

end XJG
