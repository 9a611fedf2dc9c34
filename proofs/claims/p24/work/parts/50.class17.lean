/-! THE TABLE IS DRAWN: the whole of it -/
section XCH
variable {Y : xw_Y} {ad : Nat → Nat → Nat} {s : xq_S} {w w0 : xw_W} {post : Option Value → xw_W → Prop}
theorem mo_tb1_1 (s : xq_S) : ∀ n, (mo_tb1 s n).1 = s.1
  | 0 => rfl
  | n + 1 => by
    rw [mo_tb1, mo_bout_1, mo_enter_1, mo_enter_1]
    exact mo_tb1_1 s n
theorem mo_tb1_2 (s : xq_S) : ∀ n, (mo_tb1 s n).2.1 = s.2.1 + n
  | 0 => rfl
  | n + 1 => by
    rw [mo_tb1, mo_bout_2, mo_enter_2, mo_enter_2, mo_tb1_2 s n]
    omega
theorem fr_tb1 (s : xq_S) {c : Nat} (i : Nat) (h : c < 912) (h2 : ¬ c = 200) (h3 : c / 100 < 10) : ∀ n, xq_i (mo_tb1 s n) c i = xq_i s c i
  | 0 => rfl
  | n + 1 => by
    rw [mo_tb1, xq_i_bout _ _ _ _ _ _ _ h3 h2, fr_enter _ _ _ h, fr_enter _ _ _ h, fr_tb1 s i h h2 h3 n]
theorem mo_tb2_1 (s : xq_S) (r : Nat) : ∀ n, (mo_tb2 s r n).1 = s.1
  | 0 => rfl
  | n + 1 => mo_tb2_1 s r n
theorem mo_tb2_2 (s : xq_S) (r : Nat) : ∀ n, (mo_tb2 s r n).2.1 = s.2.1 + n
  | 0 => rfl
  | n + 1 => by
    rw [mo_tb2, mo_bout_2, mo_tb2_2 s r n]
    omega
theorem fr_tb2 (s : xq_S) (r : Nat) {c : Nat} (i : Nat) (h2 : ¬ c = 200) (h3 : c / 100 < 10) : ∀ n, xq_i (mo_tb2 s r n) c i = xq_i s c i
  | 0 => rfl
  | n + 1 => by
    rw [mo_tb2, xq_i_bout _ _ _ _ _ _ _ h3 h2, fr_tb2 s r i h2 h3 n]

set_option maxRecDepth 100000 in
set_option maxHeartbeats 4000000 in
theorem lp_tb1 {Rt : xw_R} {a T : Nat} (h8 : xq_i s 8 0 = nI T) (hT : T ≤ 8) (hB : s.2.1 ≤ 120) (h : ∀ (ad : Nat → Nat → Nat) (w : xw_W) (lv : xw_L), ad 0 0 = a → xq_rp Y ad (mo_tb1 s (T / 2)) w → xw_lk lv 0 = some (.ref a) → xw_Run (tbX3_addTableBouts Y) Rt 72 lv [] w (4 * (T / 2)) (215 * (T / 2))) : ∀ (j i : Nat), i + j = T / 2 → ∀ (ad : Nat → Nat → Nat) (w : xw_W) (lv : xw_L), ad 0 0 = a → xq_rp Y ad (mo_tb1 s i) w → xw_lk lv 0 = some (.ref a) → xw_lk lv 1 = some (.int (nI i)) → xw_Run (tbX3_addTableBouts Y) Rt 13 lv [] w (4 * i) (215 * i) := by
  intro j
  induction j with
  | zero =>
    intro i hi ad w lv ea hR hl0 hl1
    subst ea
    have hv0 : xq_vl ad (mo_tb1 s i) 0 0 := xq_v0 (by decide)
    refine rn_ild (lkX3_addTableBouts_13 Y) (by repeat (first | assumption | exact xw_lk_e _ _ _ | exact xw_lk_e2 _ _ _ | refine xw_lk_s (by decide) (by first | exact Or.inl rfl | exact Or.inl (xw_cat_rf _) | exact Or.inr (by decide)) ?_ | refine xw_lk_s2 (by decide) (by decide) (by first | exact Or.inl rfl | exact Or.inl (xw_cat_rf _) | exact Or.inr (by decide)) ?_)) ?_
    first | refine rn_ald (lkX3_addTableBouts_14 Y) (by repeat (first | assumption | exact xw_lk_e _ _ _ | exact xw_lk_e2 _ _ _ | refine xw_lk_s (by decide) (by first | exact Or.inl rfl | exact Or.inl (xw_cat_rf _) | exact Or.inr (by decide)) ?_ | refine xw_lk_s2 (by decide) (by decide) (by first | exact Or.inl rfl | exact Or.inl (xw_cat_rf _) | exact Or.inr (by decide)) ?_)) ?_ | refine rn_aldO (lkX3_addTableBouts_14 Y) (by repeat (first | assumption | exact xw_lk_e _ _ _ | exact xw_lk_e2 _ _ _ | refine xw_lk_s (by decide) (by first | exact Or.inl rfl | exact Or.inl (xw_cat_rf _) | exact Or.inr (by decide)) ?_ | refine xw_lk_s2 (by decide) (by decide) (by first | exact Or.inl rfl | exact Or.inl (xw_cat_rf _) | exact Or.inr (by decide)) ?_)) ?_ | refine rn_aldN (lkX3_addTableBouts_14 Y) (by repeat (first | assumption | exact xw_lk_e _ _ _ | exact xw_lk_e2 _ _ _ | refine xw_lk_s (by decide) (by first | exact Or.inl rfl | exact Or.inl (xw_cat_rf _) | exact Or.inr (by decide)) ?_ | refine xw_lk_s2 (by decide) (by decide) (by first | exact Or.inl rfl | exact Or.inl (xw_cat_rf _) | exact Or.inr (by decide)) ?_)) ?_
    refine rp_getf hR (lkX3_addTableBouts_15 Y) (by first | assumption | exact xq_v0 (by decide)) rfl rfl ?_
    refine rn_push (lkX3_addTableBouts_18 Y) ?_
    refine rn_i2z (lkX3_addTableBouts_19 Y) (by decide) ?_
    refine rn_ifc (lkX3_addTableBouts_20 Y) (fun _ => ?_) (fun q => absurd (by
      show xq_i (mo_tb1 s i) 8 0 / 2 ≤ nI i
      rw [fr_tb1 s 0 (by decide) (by decide) (by decide), h8, show (nI T : Int32) / 2 = nI (T / 2) from pk_div (by omega) (by decide) (by decide)]
      exact nI_le (by omega) (by omega)) q)
    have e : i = T / 2 := by omega
    subst e
    exact h ad _ _ rfl hR hl0
  | succ j ih =>
    intro i hi ad w lv ea hR hl0 hl1
    subst ea
    have hv0 : xq_vl ad (mo_tb1 s i) 0 0 := xq_v0 (by decide)
    have hki : i < T / 2 := by omega
    have h80 := (fr_tb1 s (c := 8) 0 (by decide) (by decide) (by decide) i).trans h8
    have hLl : ∀ k, mo_onLine (mo_tb1 s i) (2 * i) = some k → k < (mo_tb1 s i).1 := fun k hk => mo_onLine_lt hR.2.2.1 hk
    refine rn_ild (lkX3_addTableBouts_13 Y) (by repeat (first | assumption | exact xw_lk_e _ _ _ | exact xw_lk_e2 _ _ _ | refine xw_lk_s (by decide) (by first | exact Or.inl rfl | exact Or.inl (xw_cat_rf _) | exact Or.inr (by decide)) ?_ | refine xw_lk_s2 (by decide) (by decide) (by first | exact Or.inl rfl | exact Or.inl (xw_cat_rf _) | exact Or.inr (by decide)) ?_)) ?_
    first | refine rn_ald (lkX3_addTableBouts_14 Y) (by repeat (first | assumption | exact xw_lk_e _ _ _ | exact xw_lk_e2 _ _ _ | refine xw_lk_s (by decide) (by first | exact Or.inl rfl | exact Or.inl (xw_cat_rf _) | exact Or.inr (by decide)) ?_ | refine xw_lk_s2 (by decide) (by decide) (by first | exact Or.inl rfl | exact Or.inl (xw_cat_rf _) | exact Or.inr (by decide)) ?_)) ?_ | refine rn_aldO (lkX3_addTableBouts_14 Y) (by repeat (first | assumption | exact xw_lk_e _ _ _ | exact xw_lk_e2 _ _ _ | refine xw_lk_s (by decide) (by first | exact Or.inl rfl | exact Or.inl (xw_cat_rf _) | exact Or.inr (by decide)) ?_ | refine xw_lk_s2 (by decide) (by decide) (by first | exact Or.inl rfl | exact Or.inl (xw_cat_rf _) | exact Or.inr (by decide)) ?_)) ?_ | refine rn_aldN (lkX3_addTableBouts_14 Y) (by repeat (first | assumption | exact xw_lk_e _ _ _ | exact xw_lk_e2 _ _ _ | refine xw_lk_s (by decide) (by first | exact Or.inl rfl | exact Or.inl (xw_cat_rf _) | exact Or.inr (by decide)) ?_ | refine xw_lk_s2 (by decide) (by decide) (by first | exact Or.inl rfl | exact Or.inl (xw_cat_rf _) | exact Or.inr (by decide)) ?_)) ?_
    refine rp_getf hR (lkX3_addTableBouts_15 Y) (by first | assumption | exact xq_v0 (by decide)) rfl rfl ?_
    refine rn_push (lkX3_addTableBouts_18 Y) ?_
    refine rn_i2z (lkX3_addTableBouts_19 Y) (by decide) ?_
    refine rn_ifc (lkX3_addTableBouts_20 Y) (fun q => absurd q (by
      show ¬ xq_i (mo_tb1 s i) 8 0 / 2 ≤ nI i
      rw [fr_tb1 s 0 (by decide) (by decide) (by decide), h8, show (nI T : Int32) / 2 = nI (T / 2) from pk_div (by omega) (by decide) (by decide)]
      exact nI_ge (by omega) (by omega))) (fun _ => ?_)
    first | refine rn_ald (lkX3_addTableBouts_23 Y) (by repeat (first | assumption | exact xw_lk_e _ _ _ | exact xw_lk_e2 _ _ _ | refine xw_lk_s (by decide) (by first | exact Or.inl rfl | exact Or.inl (xw_cat_rf _) | exact Or.inr (by decide)) ?_ | refine xw_lk_s2 (by decide) (by decide) (by first | exact Or.inl rfl | exact Or.inl (xw_cat_rf _) | exact Or.inr (by decide)) ?_)) ?_ | refine rn_aldO (lkX3_addTableBouts_23 Y) (by repeat (first | assumption | exact xw_lk_e _ _ _ | exact xw_lk_e2 _ _ _ | refine xw_lk_s (by decide) (by first | exact Or.inl rfl | exact Or.inl (xw_cat_rf _) | exact Or.inr (by decide)) ?_ | refine xw_lk_s2 (by decide) (by decide) (by first | exact Or.inl rfl | exact Or.inl (xw_cat_rf _) | exact Or.inr (by decide)) ?_)) ?_ | refine rn_aldN (lkX3_addTableBouts_23 Y) (by repeat (first | assumption | exact xw_lk_e _ _ _ | exact xw_lk_e2 _ _ _ | refine xw_lk_s (by decide) (by first | exact Or.inl rfl | exact Or.inl (xw_cat_rf _) | exact Or.inr (by decide)) ?_ | refine xw_lk_s2 (by decide) (by decide) (by first | exact Or.inl rfl | exact Or.inl (xw_cat_rf _) | exact Or.inr (by decide)) ?_)) ?_
    refine rn_push (lkX3_addTableBouts_24 Y) ?_
    refine rn_ild (lkX3_addTableBouts_25 Y) (by repeat (first | assumption | exact xw_lk_e _ _ _ | exact xw_lk_e2 _ _ _ | refine xw_lk_s (by decide) (by first | exact Or.inl rfl | exact Or.inl (xw_cat_rf _) | exact Or.inr (by decide)) ?_ | refine xw_lk_s2 (by decide) (by decide) (by first | exact Or.inl rfl | exact Or.inl (xw_cat_rf _) | exact Or.inr (by decide)) ?_)) ?_
    refine rn_i2 (lkX3_addTableBouts_26 Y) ?_
    refine rp_callV hR (lkX3_addTableBouts_27 Y) rfl (by first | assumption | exact xq_v0 (by decide)) rfl (Nat.le_of_ble_eq_true rfl) (by first | omega | exact Nat.le_of_ble_eq_true rfl) (by first | omega | exact Nat.le_of_ble_eq_true rfl) ?_
    rw [show (2 : Int32) * nI i = nI (2 * i) from pk_mul 2 i]
    refine sc_enter hR h80 (by omega) (by omega) (fun w hR => ?_)
    have hRl : ∀ k, mo_onLine (mo_enter (mo_tb1 s i) (2 * i)) (2 * i + 1) = some k → k < (mo_enter (mo_tb1 s i) (2 * i)).1 := fun k hk => mo_onLine_lt hR.2.2.1 hk
    first | refine rn_ast (lkX3_addTableBouts_30 Y) rfl ?_ | refine rn_astO (lkX3_addTableBouts_30 Y) rfl ?_ | refine rn_astN (lkX3_addTableBouts_30 Y) rfl ?_
    first | refine rn_ald (lkX3_addTableBouts_31 Y) (by repeat (first | assumption | exact xw_lk_e _ _ _ | exact xw_lk_e2 _ _ _ | refine xw_lk_s (by decide) (by first | exact Or.inl rfl | exact Or.inl (xw_cat_rf _) | exact Or.inr (by decide)) ?_ | refine xw_lk_s2 (by decide) (by decide) (by first | exact Or.inl rfl | exact Or.inl (xw_cat_rf _) | exact Or.inr (by decide)) ?_)) ?_ | refine rn_aldO (lkX3_addTableBouts_31 Y) (by repeat (first | assumption | exact xw_lk_e _ _ _ | exact xw_lk_e2 _ _ _ | refine xw_lk_s (by decide) (by first | exact Or.inl rfl | exact Or.inl (xw_cat_rf _) | exact Or.inr (by decide)) ?_ | refine xw_lk_s2 (by decide) (by decide) (by first | exact Or.inl rfl | exact Or.inl (xw_cat_rf _) | exact Or.inr (by decide)) ?_)) ?_ | refine rn_aldN (lkX3_addTableBouts_31 Y) (by repeat (first | assumption | exact xw_lk_e _ _ _ | exact xw_lk_e2 _ _ _ | refine xw_lk_s (by decide) (by first | exact Or.inl rfl | exact Or.inl (xw_cat_rf _) | exact Or.inr (by decide)) ?_ | refine xw_lk_s2 (by decide) (by decide) (by first | exact Or.inl rfl | exact Or.inl (xw_cat_rf _) | exact Or.inr (by decide)) ?_)) ?_
    refine rn_push (lkX3_addTableBouts_32 Y) ?_
    refine rn_ild (lkX3_addTableBouts_33 Y) (by repeat (first | assumption | exact xw_lk_e _ _ _ | exact xw_lk_e2 _ _ _ | refine xw_lk_s (by decide) (by first | exact Or.inl rfl | exact Or.inl (xw_cat_rf _) | exact Or.inr (by decide)) ?_ | refine xw_lk_s2 (by decide) (by decide) (by first | exact Or.inl rfl | exact Or.inl (xw_cat_rf _) | exact Or.inr (by decide)) ?_)) ?_
    refine rn_i2 (lkX3_addTableBouts_34 Y) ?_
    refine rn_push (lkX3_addTableBouts_35 Y) ?_
    refine rn_i2 (lkX3_addTableBouts_36 Y) ?_
    refine rp_callV hR (lkX3_addTableBouts_37 Y) rfl (by first | assumption | exact xq_v0 (by decide)) rfl (Nat.le_of_ble_eq_true rfl) (by first | omega | exact Nat.le_of_ble_eq_true rfl) (by first | omega | exact Nat.le_of_ble_eq_true rfl) ?_
    rw [show (2 : Int32) * nI i + 1 = nI (2 * i + 1) from by rw [← nI_1, ← pk_mul]; rfl]
    refine sc_enter hR ((fr_enter _ _ 0 (by decide)).trans h80) (by omega) (by omega) (fun w hR => ?_)
    have hv0 : xq_vl ad (mo_enter (mo_enter (mo_tb1 s i) (2 * i)) (2 * i + 1)) 0 0 := xq_v0 (by decide)
    first | refine rn_ast (lkX3_addTableBouts_40 Y) rfl ?_ | refine rn_astO (lkX3_addTableBouts_40 Y) rfl ?_ | refine rn_astN (lkX3_addTableBouts_40 Y) rfl ?_
    first | refine rn_ald (lkX3_addTableBouts_41 Y) (by repeat (first | assumption | exact xw_lk_e _ _ _ | exact xw_lk_e2 _ _ _ | refine xw_lk_s (by decide) (by first | exact Or.inl rfl | exact Or.inl (xw_cat_rf _) | exact Or.inr (by decide)) ?_ | refine xw_lk_s2 (by decide) (by decide) (by first | exact Or.inl rfl | exact Or.inl (xw_cat_rf _) | exact Or.inr (by decide)) ?_)) ?_ | refine rn_aldO (lkX3_addTableBouts_41 Y) (by repeat (first | assumption | exact xw_lk_e _ _ _ | exact xw_lk_e2 _ _ _ | refine xw_lk_s (by decide) (by first | exact Or.inl rfl | exact Or.inl (xw_cat_rf _) | exact Or.inr (by decide)) ?_ | refine xw_lk_s2 (by decide) (by decide) (by first | exact Or.inl rfl | exact Or.inl (xw_cat_rf _) | exact Or.inr (by decide)) ?_)) ?_ | refine rn_aldN (lkX3_addTableBouts_41 Y) (by repeat (first | assumption | exact xw_lk_e _ _ _ | exact xw_lk_e2 _ _ _ | refine xw_lk_s (by decide) (by first | exact Or.inl rfl | exact Or.inl (xw_cat_rf _) | exact Or.inr (by decide)) ?_ | refine xw_lk_s2 (by decide) (by decide) (by first | exact Or.inl rfl | exact Or.inl (xw_cat_rf _) | exact Or.inr (by decide)) ?_)) ?_
    refine rp_getf hR (lkX3_addTableBouts_42 Y) (by first | assumption | exact xq_v0 (by decide)) rfl rfl ?_
    have hRw := hR
    refine rd_new (w0 := w) [] [] (xi_0 w) (lkX3_addTableBouts_45 Y) (by omega) (by omega) (fun q w1 hD => ?_)
    have hR := xi_rp hD hRw
    refine rn_dup (lkX3_addTableBouts_48 Y) (by first | rfl | exact xw_cat_rf _) ?_
    first | refine rn_ald (lkX3_addTableBouts_49 Y) (by repeat (first | assumption | exact xw_lk_e _ _ _ | exact xw_lk_e2 _ _ _ | refine xw_lk_s (by decide) (by first | exact Or.inl rfl | exact Or.inl (xw_cat_rf _) | exact Or.inr (by decide)) ?_ | refine xw_lk_s2 (by decide) (by decide) (by first | exact Or.inl rfl | exact Or.inl (xw_cat_rf _) | exact Or.inr (by decide)) ?_)) ?_ | refine rn_aldO (lkX3_addTableBouts_49 Y) (by repeat (first | assumption | exact xw_lk_e _ _ _ | exact xw_lk_e2 _ _ _ | refine xw_lk_s (by decide) (by first | exact Or.inl rfl | exact Or.inl (xw_cat_rf _) | exact Or.inr (by decide)) ?_ | refine xw_lk_s2 (by decide) (by decide) (by first | exact Or.inl rfl | exact Or.inl (xw_cat_rf _) | exact Or.inr (by decide)) ?_)) ?_ | refine rn_aldN (lkX3_addTableBouts_49 Y) (by repeat (first | assumption | exact xw_lk_e _ _ _ | exact xw_lk_e2 _ _ _ | refine xw_lk_s (by decide) (by first | exact Or.inl rfl | exact Or.inl (xw_cat_rf _) | exact Or.inr (by decide)) ?_ | refine xw_lk_s2 (by decide) (by decide) (by first | exact Or.inl rfl | exact Or.inl (xw_cat_rf _) | exact Or.inr (by decide)) ?_)) ?_
    refine rp_getf hR (lkX3_addTableBouts_50 Y) (by first | assumption | exact xq_v0 (by decide)) rfl rfl ?_
    refine rp_callV hR (lkX3_addTableBouts_53 Y) rfl (by first | assumption | exact xq_v0 (by decide)) rfl (Nat.le_of_ble_eq_true rfl) (by first | omega | exact Nat.le_of_ble_eq_true rfl) (by first | omega | exact Nat.le_of_ble_eq_true rfl) ?_
    refine sl_sizeB hR ?_
    rw [mo_enter_2, mo_enter_2]
    refine rn_push (lkX3_addTableBouts_56 Y) ?_
    refine rn_aldO (o := (mo_onLine (mo_tb1 s i) (2 * i)).map (ad 9)) (lkX3_addTableBouts_57 Y) (by repeat (first | assumption | exact xw_lk_e _ _ _ | exact xw_lk_e2 _ _ _ | refine xw_lk_s (by decide) (by first | exact Or.inl rfl | exact Or.inl (xw_cat_rf _) | exact Or.inr (by decide)) ?_ | refine xw_lk_s2 (by decide) (by decide) (by first | exact Or.inl rfl | exact Or.inl (xw_cat_rf _) | exact Or.inr (by decide)) ?_)) ?_
    refine rn_aldO (o := (mo_onLine (mo_enter (mo_tb1 s i) (2 * i)) (2 * i + 1)).map (ad 9)) (lkX3_addTableBouts_58 Y) (by repeat (first | assumption | exact xw_lk_e _ _ _ | exact xw_lk_e2 _ _ _ | refine xw_lk_s (by decide) (by first | exact Or.inl rfl | exact Or.inl (xw_cat_rf _) | exact Or.inr (by decide)) ?_ | refine xw_lk_s2 (by decide) (by decide) (by first | exact Or.inl rfl | exact Or.inl (xw_cat_rf _) | exact Or.inr (by decide)) ?_)) ?_
    refine rn_callI (lkX3_addTableBouts_59 Y) rfl (Nat.le_of_ble_eq_true rfl) (by first | omega | exact Nat.le_of_ble_eq_true rfl) (by first | omega | exact Nat.le_of_ble_eq_true rfl) ?_
    refine sd_init0 (ad := ad) (L := mo_onLine (mo_tb1 s i) (2 * i)) (R := mo_onLine (mo_enter (mo_tb1 s i) (2 * i)) (2 * i + 1)) hD (fun l r w2 hD2 => ?_)
    have hR2 := xi_rp hD2 hRw
    have hv2 : xq_vl ad (mo_enter (mo_enter (mo_tb1 s i) (2 * i)) (2 * i + 1)) 2 0 := xq_v0 (by decide)
    refine rp_callV hR2 (lkX3_addTableBouts_62 Y) rfl hv2 rfl (Nat.le_of_ble_eq_true rfl) (by omega) (by omega) ?_
    refine sl_newB hRw (by rw [mo_enter_2, mo_enter_2, mo_tb1_2]; omega) (fun k hk => by rw [mo_enter_1, mo_enter_1]; exact hLl k hk) (fun k hk => by rw [mo_enter_1]; exact hRl k hk) hD2 (fun ad' w' e0 hR' => ?_)
    refine rn_pop (lkX3_addTableBouts_65 Y) rfl ?_
    refine rn_inc (lkX3_addTableBouts_66 Y) (by repeat (first | assumption | exact xw_lk_e _ _ _ | exact xw_lk_e2 _ _ _ | refine xw_lk_s (by decide) (by first | exact Or.inl rfl | exact Or.inl (xw_cat_rf _) | exact Or.inr (by decide)) ?_ | refine xw_lk_s2 (by decide) (by decide) (by first | exact Or.inl rfl | exact Or.inl (xw_cat_rf _) | exact Or.inr (by decide)) ?_)) rfl ?_
    refine rn_goto (lkX3_addTableBouts_69 Y) ?_
    exact ih (i + 1) (by omega) ad' _ _ e0 hR' (by repeat (first | assumption | exact xw_lk_e _ _ _ | exact xw_lk_e2 _ _ _ | refine xw_lk_s (by decide) (by first | exact Or.inl rfl | exact Or.inl (xw_cat_rf _) | exact Or.inr (by decide)) ?_ | refine xw_lk_s2 (by decide) (by decide) (by first | exact Or.inl rfl | exact Or.inl (xw_cat_rf _) | exact Or.inr (by decide)) ?_)) (by rw [← nI_1]; repeat (first | assumption | exact xw_lk_e _ _ _ | exact xw_lk_e2 _ _ _ | refine xw_lk_s (by decide) (by first | exact Or.inl rfl | exact Or.inl (xw_cat_rf _) | exact Or.inr (by decide)) ?_ | refine xw_lk_s2 (by decide) (by decide) (by first | exact Or.inl rfl | exact Or.inl (xw_cat_rf _) | exact Or.inr (by decide)) ?_))

end XCH
