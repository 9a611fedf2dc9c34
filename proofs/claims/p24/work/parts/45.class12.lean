/-! NEW FENCERS AND BOUTS; the new object -/
section XCC
variable {Y : xw_Y} {ad : Nat → Nat → Nat} {s : xq_S} {w w0 : xw_W} {post : Option Value → xw_W → Prop}
theorem xq_en_c {s' : xq_S} {t i : Nat} (ht : t ≤ 12) (h1 : s'.1 = s.1) (h2 : s'.2.1 = s.2.1) (hi : ∀ c j, c / 100 = t → (9 ≤ t → j = i) → xq_i s' c j = xq_i s c j) (hr : ∀ c j, c / 100 = t → (9 ≤ t → j = i) → xq_r s' c j = xq_r s c j) : xq_en Y ad s' t i = xq_en Y ad s t i := by
  rcases (show t = 0 ∨ t = 1 ∨ t = 2 ∨ t = 3 ∨ t = 4 ∨ t = 5 ∨ t = 6 ∨ t = 7 ∨ t = 8 ∨ t = 9 ∨ t = 10 ∨ t = 11 ∨ t = 12 by omega) with rfl | rfl | rfl | rfl | rfl | rfl | rfl | rfl | rfl | rfl | rfl | rfl | rfl
  · simp only [xq_en, hi 6 0 rfl (by omega), hi 7 0 rfl (by omega), hi 8 0 rfl (by omega), hi 9 0 rfl (by omega)]
  · simp only [xq_en, h1, hi 100 0 rfl (by omega)]
  · simp only [xq_en, h2, hi 200 0 rfl (by omega)]
  · simp only [xq_en]
    rw [show (fun j => (xq_r s' 300 j).map (ad 10)) = (fun j => (xq_r s 300 j).map (ad 10)) from funext (fun j => by rw [hr 300 j rfl (by omega)])]
  · simp only [xq_en]
    rw [show (fun j => xq_i s' 400 j) = (fun j => xq_i s 400 j) from funext (fun j => by rw [hi 400 j rfl (by omega)])]
  · simp only [xq_en]
    rw [show (fun j => (xq_r s' 500 j).map (ad 9)) = (fun j => (xq_r s 500 j).map (ad 9)) from funext (fun j => by rw [hr 500 j rfl (by omega)])]
  · simp only [xq_en]
    rw [show (fun j => xq_i s' 600 j) = (fun j => xq_i s 600 j) from funext (fun j => by rw [hi 600 j rfl (by omega)])]
  · simp only [xq_en, h1]
  · simp only [xq_en, h2]
  · simp only [xq_en, hi 900 i rfl (fun _ => rfl), hi 901 i rfl (fun _ => rfl), hi 902 i rfl (fun _ => rfl), hi 903 i rfl (fun _ => rfl), hi 904 i rfl (fun _ => rfl), hi 905 i rfl (fun _ => rfl), hr 906 i rfl (fun _ => rfl), hi 907 i rfl (fun _ => rfl), hi 908 i rfl (fun _ => rfl), hi 909 i rfl (fun _ => rfl), hi 910 i rfl (fun _ => rfl), hi 911 i rfl (fun _ => rfl), hi 912 i rfl (fun _ => rfl), hi 913 i rfl (fun _ => rfl)]
  · simp only [xq_en, hi 1000 i rfl (fun _ => rfl), hi 1001 i rfl (fun _ => rfl), hi 1004 i rfl (fun _ => rfl), hr 1005 i rfl (fun _ => rfl), hi 1006 i rfl (fun _ => rfl), hi 1007 i rfl (fun _ => rfl), hi 1008 i rfl (fun _ => rfl)]
  · simp only [xq_en, hr 1100 i rfl (fun _ => rfl), hi 1101 i rfl (fun _ => rfl), hi 1102 i rfl (fun _ => rfl)]
  · simp only [xq_en, hr 1200 i rfl (fun _ => rfl), hi 1201 i rfl (fun _ => rfl), hi 1202 i rfl (fun _ => rfl)]
/-- values of a fencer, of a bout that aren't there yet -/
def mo_newF (s : xq_S) (x y z : Int32) : xq_S := (s.1, s.2.1, (fun c i => if c / 100 = 9 ∧ i = s.1 then (if c = 900 then x else if c = 901 then y else if c = 902 then z else if c = 903 ∨ c = 904 ∨ c = 912 ∨ c = 913 then -1 else 0) else s.2.2.1 c i), (fun c i => if c / 100 = 9 ∧ i = s.1 then none else s.2.2.2 c i))
def mo_newB (s : xq_S) (x y : Int32) (L R : Option Nat) : xq_S := (s.1, s.2.1, (fun c i => if 10 ≤ c / 100 ∧ i = s.2.1 then (if c = 1000 then x else if c = 1001 then y else if c = 1006 then -1 else 0) else s.2.2.1 c i), (fun c i => if 10 ≤ c / 100 ∧ i = s.2.1 then (if c = 1100 then L else if c = 1200 then R else none) else s.2.2.2 c i))
theorem xq_i_nF {x y z : Int32} (c i : Nat) : xq_i (mo_newF s x y z) c i = if c / 100 = 9 ∧ i = s.1 then (if c = 900 then x else if c = 901 then y else if c = 902 then z else if c = 903 ∨ c = 904 ∨ c = 912 ∨ c = 913 then -1 else 0) else xq_i s c i := rfl
theorem xq_r_nF {x y z : Int32} (c i : Nat) : xq_r (mo_newF s x y z) c i = if c / 100 = 9 ∧ i = s.1 then none else xq_r s c i := rfl
theorem xq_i_nB {x y : Int32} {L R : Option Nat} (c i : Nat) : xq_i (mo_newB s x y L R) c i = if 10 ≤ c / 100 ∧ i = s.2.1 then (if c = 1000 then x else if c = 1001 then y else if c = 1006 then -1 else 0) else xq_i s c i := rfl
theorem xq_r_nB {x y : Int32} {L R : Option Nat} (c i : Nat) : xq_r (mo_newB s x y L R) c i = if 10 ≤ c / 100 ∧ i = s.2.1 then (if c = 1100 then L else if c = 1200 then R else none) else xq_r s c i := rfl
theorem xq_rp_nF {x y z : Int32} (h : xq_rp Y ad s w) : xq_rp Y ad (mo_newF s x y z) w := by
  obtain ⟨g1, g2, ⟨w1, w2, w3, w4, w5, w6, w7⟩, g4⟩ := h
  refine ⟨fun t i hv => ?_, g2, ⟨fun k b hk q => ?_, fun b k hb q => ?_, fun b k hb q => ?_, fun b k hb q => ?_, fun j b q => ?_, fun j k q => ?_, fun k hk => ?_⟩, g4⟩
  · have hv0 : xq_vl ad s t i := hv
    refine ⟨(g1 t i hv0).1, (g1 t i hv0).2.trans ?_⟩
    have hle := xq_vl_le hv0
    refine (xq_en_c (s := s) (s' := mo_newF s x y z) hle.1 rfl rfl (fun c j hc hj => ?_) (fun c j hc hj => ?_)).symm
    · rw [xq_i_nF, if_neg]
      rintro ⟨q1, q2⟩
      unfold xq_vl at hv0
      have := hj (by omega)
      omega
    · rw [xq_r_nF, if_neg]
      rintro ⟨q1, q2⟩
      unfold xq_vl at hv0
      have := hj (by omega)
      omega
  · rw [xq_r_nF, if_neg (by have : k < s.1 := hk; omega)] at q
    exact w1 k b hk q
  · rw [xq_r_nF, if_neg (by omega)] at q
    exact w2 b k hb q
  · rw [xq_r_nF, if_neg (by omega)] at q
    exact w3 b k hb q
  · rw [xq_r_nF, if_neg (by omega)] at q
    exact w4 b k hb q
  · rw [xq_r_nF, if_neg (by omega)] at q
    exact w5 j b q
  · rw [xq_r_nF, if_neg (by omega)] at q
    exact w6 j k q
  · rw [xq_i_nF, if_neg (by have : k < s.1 := hk; omega)]
    exact w7 k hk
theorem xq_rp_nB {x y : Int32} {L R : Option Nat} (h : xq_rp Y ad s w) : xq_rp Y ad (mo_newB s x y L R) w := by
  obtain ⟨g1, g2, ⟨w1, w2, w3, w4, w5, w6, w7⟩, g4⟩ := h
  refine ⟨fun t i hv => ?_, g2, ⟨fun k b hk q => ?_, fun b k hb q => ?_, fun b k hb q => ?_, fun b k hb q => ?_, fun j b q => ?_, fun j k q => ?_, fun k hk => ?_⟩, g4⟩
  · have hv0 : xq_vl ad s t i := hv
    refine ⟨(g1 t i hv0).1, (g1 t i hv0).2.trans ?_⟩
    have hle := xq_vl_le hv0
    refine (xq_en_c (s := s) (s' := mo_newB s x y L R) hle.1 rfl rfl (fun c j hc hj => ?_) (fun c j hc hj => ?_)).symm
    · rw [xq_i_nB, if_neg]
      rintro ⟨q1, q2⟩
      unfold xq_vl at hv0
      have := hj (by omega)
      omega
    · rw [xq_r_nB, if_neg]
      rintro ⟨q1, q2⟩
      unfold xq_vl at hv0
      have := hj (by omega)
      omega
  · rw [xq_r_nB, if_neg (by omega)] at q
    exact w1 k b hk q
  · rw [xq_r_nB, if_neg (by have : b < s.2.1 := hb; omega)] at q
    exact w2 b k hb q
  · rw [xq_r_nB, if_neg (by have : b < s.2.1 := hb; omega)] at q
    exact w3 b k hb q
  · rw [xq_r_nB, if_neg (by have : b < s.2.1 := hb; omega)] at q
    exact w4 b k hb q
  · rw [xq_r_nB, if_neg (by omega)] at q
    exact w5 j b q
  · rw [xq_r_nB, if_neg (by omega)] at q
    exact w6 j k q
  · rw [xq_i_nB, if_neg (by omega)]
    exact w7 k hk
theorem xi_rp {L : List (Nat × va_E)} (hD : xi_D w0 w L) (hR : xq_rp Y ad s w0) : xq_rp Y ad s w :=
  ⟨fun t i hv => ⟨(hD.2.2 _ (hR.1 t i hv).1).1, (hD.2.2 _ (hR.1 t i hv).1).2.trans (hR.1 t i hv).2⟩, hR.2.1, hR.2.2.1, hR.2.2.2⟩
theorem xi_fr {L : List (Nat × va_E)} {p : Nat × va_E} (hD : xi_D w0 w L) (hp : p ∈ L) (hR : xq_rp Y ad s w0) (t i : Nat) (hv : xq_vl ad s t i) : ¬ ad t i = p.1 := fun z => (hD.1 p hp).2.1 (by rw [← z]; exact (hR.1 t i hv).1)
/-- a fencer comes -/
def mo_fencer (s : xq_S) (x y z : Int32) : xq_S := mo_addF (mo_newF s x y z)
def mo_bout (s : xq_S) (x y : Int32) (L R : Option Nat) : xq_S := mo_addB (mo_newB s x y L R)
theorem sl_newF {x : Nat} {a b c : Int32} (hR : xq_rp Y ad s w0) (hN : s.1 ≤ 133) (hD : xi_D w0 w [(x, .inr (2, [.int a, .int b, .int c, .int (-1), .int (-1), .int 0, .null, .int 0, .int 0, .int 0, .int 0, .int 0, .int (-1), .int (-1)]))]) (h : ∀ (ad' : Nat → Nat → Nat) (w' : xw_W), ad' 0 0 = ad 0 0 → xq_rp Y ad' (mo_fencer s a b c) w' → post (some (.int 1)) w') : ptJx4a65c_add_9ea2d Y [.ref (ad 1 0), .ref x] w post := by
  have hx := hD.1 _ (List.mem_singleton.mpr rfl)
  refine sl_addF (s := mo_newF s a b c) (nw := fun _ => x) (xq_rp_nF (xi_rp hD hR)) hN (fun t ht => ⟨hx.1, fun t' i' hv => xi_fr hD (List.mem_singleton.mpr rfl) hR t' i' hv, fun e c' => ?_⟩) (fun t t' h1 h2 _ => by omega) ?_ ?_ h
  · subst ht
    refine hx.2.2.trans ?_
    have e6 : xq_r (mo_newF s a b c) 906 s.1 = none := by rw [xq_r_nF, if_pos ⟨rfl, rfl⟩]
    show _ = (Sum.inr (2, [.int (xq_i (mo_newF s a b c) 900 s.1), .int (xq_i (mo_newF s a b c) 901 s.1), .int (xq_i (mo_newF s a b c) 902 s.1), .int (xq_i (mo_newF s a b c) 903 s.1), .int (xq_i (mo_newF s a b c) 904 s.1), .int (xq_i (mo_newF s a b c) 905 s.1), va_rf ((xq_r (mo_newF s a b c) 906 s.1).map _), .int (xq_i (mo_newF s a b c) 907 s.1), .int (xq_i (mo_newF s a b c) 908 s.1), .int (xq_i (mo_newF s a b c) 909 s.1), .int (xq_i (mo_newF s a b c) 910 s.1), .int (xq_i (mo_newF s a b c) 911 s.1), .int (xq_i (mo_newF s a b c) 912 s.1), .int (xq_i (mo_newF s a b c) 913 s.1)]) : va_E)
    rw [e6]
    simp [xq_i_nF, va_rf]
  · show xq_r (mo_newF s a b c) 906 s.1 = none
    rw [xq_r_nF, if_pos ⟨rfl, rfl⟩]
  · show xq_i (mo_newF s a b c) 905 s.1 = 0 ∨ _
    left
    rw [xq_i_nF, if_pos ⟨rfl, rfl⟩]
    rfl
theorem sl_newB {x l r : Nat} {a b : Int32} {L R : Option Nat} (hR : xq_rp Y ad s w0) (hN : s.2.1 ≤ 133) (hL : ∀ k, L = some k → k < s.1) (hRr : ∀ k, R = some k → k < s.1) (hD : xi_D w0 w [(x, .inr (1, [.int a, .int b, .ref l, .ref r, .int 0, .null, .int (-1), .int 0, .int 0])), (r, .inr (3, [va_rf (R.map (ad 9)), .int 0, .int 0])), (l, .inr (3, [va_rf (L.map (ad 9)), .int 0, .int 0]))]) (h : ∀ (ad' : Nat → Nat → Nat) (w' : xw_W), ad' 0 0 = ad 0 0 → xq_rp Y ad' (mo_bout s a b L R) w' → post (some (.int 1)) w') : ptJx4a65c_add_9ea2d Y [.ref (ad 2 0), .ref x] w post := by
  have hx := hD.1 _ (List.mem_cons_self)
  have hr := hD.1 _ (List.mem_cons_of_mem _ (List.mem_cons_self))
  have hl := hD.1 _ (List.mem_cons_of_mem _ (List.mem_cons_of_mem _ (List.mem_cons_self)))
  have hnd := hD.2.1
  simp only [List.map_cons, List.map_nil, List.nodup_cons, List.mem_cons, List.not_mem_nil, or_false, not_or, List.nodup_nil, and_true, not_false_eq_true] at hnd
  obtain ⟨⟨n1, n2⟩, n3⟩ := hnd
  have nw_e : ∀ t, 10 ≤ t ∧ t ≤ 12 → t = 10 ∨ t = 11 ∨ t = 12 := fun t ht => by omega
  have m9 : ∀ (e c' : Nat) (nw : Nat → Nat) (o : Option Nat), o.map (xa_B ad (mo_newB s a b L R) e c' nw 9) = o.map (ad 9) := by
    intro e c' nw o
    have : xa_B ad (mo_newB s a b L R) e c' nw 9 = ad 9 := funext (fun i => xa_B_o e c' nw (by omega) (by omega) (by omega))
    rw [this]
  refine sl_addB (s := mo_newB s a b L R) (nw := fun t => if t = 10 then x else if t = 11 then l else r) (xq_rp_nB (xi_rp hD hR)) hN (fun t ht => ?_) (fun t t' h1 h2 e => ?_) ?_ ?_ ?_ h
  · rcases nw_e t ht with rfl | rfl | rfl
    · refine ⟨hx.1, fun t' i' hv => xi_fr hD (List.mem_cons_self) hR t' i' hv, fun e c' => hx.2.2.trans ?_⟩
      show _ = (Sum.inr (1, [.int (xq_i (mo_newB s a b L R) 1000 s.2.1), .int (xq_i (mo_newB s a b L R) 1001 s.2.1), .ref (xa_B ad (mo_newB s a b L R) e c' _ 11 (mo_newB s a b L R).2.1), .ref (xa_B ad (mo_newB s a b L R) e c' _ 12 (mo_newB s a b L R).2.1), .int (xq_i (mo_newB s a b L R) 1004 s.2.1), va_rf ((xq_r (mo_newB s a b L R) 1005 s.2.1).map _), .int (xq_i (mo_newB s a b L R) 1006 s.2.1), .int (xq_i (mo_newB s a b L R) 1007 s.2.1), .int (xq_i (mo_newB s a b L R) 1008 s.2.1)]) : va_E)
      rw [xa_B_n _ _ _ (by decide), xa_B_n _ _ _ (by decide)]
      simp [xq_i_nB, xq_r_nB, va_rf]
    · refine ⟨hl.1, fun t' i' hv => xi_fr hD (List.mem_cons_of_mem _ (List.mem_cons_of_mem _ (List.mem_cons_self))) hR t' i' hv, fun e c' => hl.2.2.trans ?_⟩
      show _ = (Sum.inr (3, [va_rf ((xq_r (mo_newB s a b L R) 1100 s.2.1).map (xa_B ad (mo_newB s a b L R) e c' _ 9)), .int (xq_i (mo_newB s a b L R) 1101 s.2.1), .int (xq_i (mo_newB s a b L R) 1102 s.2.1)]) : va_E)
      rw [m9]
      simp [xq_i_nB, xq_r_nB]
    · refine ⟨hr.1, fun t' i' hv => xi_fr hD (List.mem_cons_of_mem _ (List.mem_cons_self)) hR t' i' hv, fun e c' => hr.2.2.trans ?_⟩
      show _ = (Sum.inr (3, [va_rf ((xq_r (mo_newB s a b L R) 1200 s.2.1).map (xa_B ad (mo_newB s a b L R) e c' _ 9)), .int (xq_i (mo_newB s a b L R) 1201 s.2.1), .int (xq_i (mo_newB s a b L R) 1202 s.2.1)]) : va_E)
      rw [m9]
      simp [xq_i_nB, xq_r_nB]
  · have n1' : ¬ r = x := fun z => n1 z.symm
    have n2' : ¬ l = x := fun z => n2 z.symm
    have n3' : ¬ l = r := fun z => n3 z.symm
    rcases nw_e t h1 with rfl | rfl | rfl <;> rcases nw_e t' h2 with rfl | rfl | rfl <;> first | rfl | (simp at e; first | exact absurd e n1 | exact absurd e n2 | exact absurd e n3 | exact absurd e n1' | exact absurd e n2' | exact absurd e n3')
  · show xq_r (mo_newB s a b L R) 1005 s.2.1 = none
    rw [xq_r_nB, if_pos ⟨by decide, rfl⟩]
    rfl
  · intro k hk
    have e : xq_r (mo_newB s a b L R) 1100 s.2.1 = L := by
      rw [xq_r_nB, if_pos ⟨by decide, rfl⟩]
      rfl
    exact hL k (e.symm.trans hk)
  · intro k hk
    have e : xq_r (mo_newB s a b L R) 1200 s.2.1 = R := by
      rw [xq_r_nB, if_pos ⟨by decide, rfl⟩]
      rfl
    exact hRr k (e.symm.trans hk)

set_option maxRecDepth 100000 in
set_option maxHeartbeats 4000000 in
theorem sc_fencer {a b : Int32} (hR : xq_rp Y ad s w) (ha : ¬ (a < 0 ∨ 99 < a)) (hb : ¬ (b < 0 ∨ 5 < b)) (h16 : s.1 < 16) (h6 : xq_i s 6 0 = 0) (h : ∀ (ad' : Nat → Nat → Nat) (w' : xw_W), ad' 0 0 = ad 0 0 → xq_rp Y ad' (mo_fencer s (nI s.1) a b) w' → post (some (.int (nI s.1))) w') : ptX3_fencer Y [.ref (ad 0 0), .int a, .int b] w post := by
  refine ⟨(by first | exact Nat.le_of_ble_eq_true rfl | simp [lg_sl, xw_cat_rf, xw_cat_i, xw_cat_r, xw_cat_n, xw_cat_l]), ?_⟩
  refine rn_ild (lkX3_fencer_0 Y) rfl ?_
  refine rn_push (lkX3_fencer_1 Y) ?_
  refine rn_push (lkX3_fencer_2 Y) ?_
  refine rn_callS (lkX3_fencer_4 Y) (Nat.le_of_ble_eq_true rfl) rfl (Nat.le_of_ble_eq_true rfl) (Nat.le_of_ble_eq_true rfl) (Nat.le_of_ble_eq_true rfl) ?_
  refine sc_in1 ha ?_
  refine rn_ifz (lkX3_fencer_7 Y) (fun q => absurd q (by decide)) (fun _ => ?_)
  refine rn_ild (lkX3_fencer_10 Y) rfl ?_
  refine rn_push (lkX3_fencer_11 Y) ?_
  refine rn_push (lkX3_fencer_12 Y) ?_
  refine rn_callS (lkX3_fencer_13 Y) (Nat.le_of_ble_eq_true rfl) rfl (Nat.le_of_ble_eq_true rfl) (Nat.le_of_ble_eq_true rfl) (Nat.le_of_ble_eq_true rfl) ?_
  refine sc_in1 hb ?_
  refine rn_ifz (lkX3_fencer_16 Y) (fun _ => ?_) (fun q => absurd (by decide) q)
  first | refine rn_ald (lkX3_fencer_29 Y) rfl ?_ | refine rn_aldO (lkX3_fencer_29 Y) rfl ?_ | refine rn_aldN (lkX3_fencer_29 Y) rfl ?_
  refine rp_getf hR (lkX3_fencer_30 Y) (by first | assumption | exact xq_v0 (by decide)) rfl rfl ?_
  refine rp_callV hR (lkX3_fencer_33 Y) rfl (by first | assumption | exact xq_v0 (by decide)) rfl (Nat.le_of_ble_eq_true rfl) (Nat.le_of_ble_eq_true rfl) (Nat.le_of_ble_eq_true rfl) ?_
  refine sl_sizeF hR ?_
  refine rn_push (lkX3_fencer_36 Y) ?_
  refine rn_ifc (lkX3_fencer_38 Y) (fun q => absurd q (show ¬ (16 : Int32) ≤ nI s.1 from nI_ge (b := 16) h16 (by omega))) (fun _ => ?_)
  first | refine rn_ald (lkX3_fencer_41 Y) rfl ?_ | refine rn_aldO (lkX3_fencer_41 Y) rfl ?_ | refine rn_aldN (lkX3_fencer_41 Y) rfl ?_
  refine rp_getf hR (lkX3_fencer_42 Y) (by first | assumption | exact xq_v0 (by decide)) rfl rfl ?_
  refine rn_ifz (lkX3_fencer_45 Y) (fun _ => ?_) (fun q => absurd (show xq_i s 6 0 ≤ 0 by rw [h6]; decide) q)
  first | refine rn_ald (lkX3_fencer_58 Y) rfl ?_ | refine rn_aldO (lkX3_fencer_58 Y) rfl ?_ | refine rn_aldN (lkX3_fencer_58 Y) rfl ?_
  refine rp_getf hR (lkX3_fencer_59 Y) (by first | assumption | exact xq_v0 (by decide)) rfl rfl ?_
  refine rd_new (w0 := w) [] [] (xi_0 w) (lkX3_fencer_62 Y) (Nat.le_of_ble_eq_true rfl) (Nat.le_of_ble_eq_true rfl) (fun q w1 hD => ?_)
  have hR0 := hR
  have hR := xi_rp hD hR0
  refine rn_dup (lkX3_fencer_65 Y) (by first | rfl | exact xw_cat_rf _) ?_
  first | refine rn_ald (lkX3_fencer_66 Y) rfl ?_ | refine rn_aldO (lkX3_fencer_66 Y) rfl ?_ | refine rn_aldN (lkX3_fencer_66 Y) rfl ?_
  refine rp_getf hR (lkX3_fencer_67 Y) (by first | assumption | exact xq_v0 (by decide)) rfl rfl ?_
  refine rp_callV hR (lkX3_fencer_70 Y) rfl (by first | assumption | exact xq_v0 (by decide)) rfl (Nat.le_of_ble_eq_true rfl) (Nat.le_of_ble_eq_true rfl) (Nat.le_of_ble_eq_true rfl) ?_
  refine sl_sizeF hR ?_
  refine rn_ild (lkX3_fencer_73 Y) rfl ?_
  refine rn_ild (lkX3_fencer_74 Y) rfl ?_
  refine rn_callI (lkX3_fencer_75 Y) rfl (Nat.le_of_ble_eq_true rfl) (Nat.le_of_ble_eq_true rfl) (Nat.le_of_ble_eq_true rfl) ?_
  refine sd_init1 hD (fun w2 hD2 => ?_)
  have hR := xi_rp hD2 hR0
  refine rp_callV hR (lkX3_fencer_78 Y) rfl (by first | assumption | exact xq_v0 (by decide)) rfl (Nat.le_of_ble_eq_true rfl) (Nat.le_of_ble_eq_true rfl) (Nat.le_of_ble_eq_true rfl) ?_
  refine sl_newF hR0 (by omega) hD2 (fun ad' w' e0 hR => ?_)
  rw [← e0]
  have hv0 : xq_vl ad' (mo_fencer s (nI s.1) a b) 0 0 := xq_v0 (by decide)
  refine rn_pop (lkX3_fencer_81 Y) rfl ?_
  first | refine rn_ald (lkX3_fencer_82 Y) rfl ?_ | refine rn_aldO (lkX3_fencer_82 Y) rfl ?_ | refine rn_aldN (lkX3_fencer_82 Y) rfl ?_
  refine rp_getf hR (lkX3_fencer_83 Y) (by first | assumption | exact xq_v0 (by decide)) rfl rfl ?_
  refine rp_callV hR (lkX3_fencer_86 Y) rfl (by first | assumption | exact xq_v0 (by decide)) rfl (Nat.le_of_ble_eq_true rfl) (Nat.le_of_ble_eq_true rfl) (Nat.le_of_ble_eq_true rfl) ?_
  refine sl_sizeF hR ?_
  refine rn_push (lkX3_fencer_89 Y) ?_
  refine rn_i2 (lkX3_fencer_90 Y) ?_
  refine rn_iret (lkX3_fencer_91 Y) ?_
  have e9 : nI (mo_fencer s (nI s.1) a b).1 - 1 = nI s.1 := nI_pred s.1
  try dsimp only
  rw [e9]
  exact ⟨h _ _ e0 hR, Nat.le_of_ble_eq_true rfl, Nat.le_of_ble_eq_true rfl⟩

end XCC
