/-! THE OBJECT, on: the checksum; what is made anew -/
section XCA
variable {Y : xw_Y} {ad : Nat → Nat → Nat} {s : xq_S} {w : xw_W} {post : Option Value → xw_W → Prop}

set_option maxRecDepth 100000 in
set_option maxHeartbeats 4000000 in
theorem lp_dg1 {d : Int64} (hR : xq_rp Y ad s w)  {Rt : xw_R} (h : ∀ lv : xw_L, xw_lk lv 0 = some (.ref (ad 0 0)) → xw_lk lv 1 = some (.long (mo_fold (mo_many s) d 11)) → (∃ x, xw_lk lv 3 = some (.int x)) → xw_Run (tbX3_digest Y) Rt 31 lv [] w 0 0) : ∀ (j i : Nat), i + j = 11 → ∀ lv : xw_L, xw_lk lv 0 = some (.ref (ad 0 0)) → xw_lk lv 1 = some (.long (mo_fold (mo_many s) d i)) → xw_lk lv 3 = some (.int (nI i)) → xw_Run (tbX3_digest Y) Rt 6 lv [] w 0 0 := by
  have hv0 : xq_vl ad s 0 0 := xq_v0 (by decide)
  intro j
  induction j with
  | zero =>
    intro i hi lv hl0 hl1 hl2
    refine rn_ild (lkX3_digest_6 Y) (by repeat (first | assumption | exact xw_lk_e _ _ _ | exact xw_lk_e2 _ _ _ | refine xw_lk_s (by decide) (by first | exact Or.inl rfl | exact Or.inl (xw_cat_rf _) | exact Or.inr (by decide)) ?_ | refine xw_lk_s2 (by decide) (by decide) (by first | exact Or.inl rfl | exact Or.inl (xw_cat_rf _) | exact Or.inr (by decide)) ?_)) ?_
    refine rn_push (lkX3_digest_7 Y) ?_
    refine rn_ifc (lkX3_digest_9 Y) (fun _ => ?_) (fun q => absurd (show nI 10 < nI i by rw [show i = 11 by omega]; decide) q)
    rw [show i = 11 by omega] at hl1
    exact h lv hl0 hl1 ⟨_, hl2⟩
  | succ j ih =>
    intro i hi lv hl0 hl1 hl2
    have hki : i < 11 := by omega
    refine rn_ild (lkX3_digest_6 Y) (by repeat (first | assumption | exact xw_lk_e _ _ _ | exact xw_lk_e2 _ _ _ | refine xw_lk_s (by decide) (by first | exact Or.inl rfl | exact Or.inl (xw_cat_rf _) | exact Or.inr (by decide)) ?_ | refine xw_lk_s2 (by decide) (by decide) (by first | exact Or.inl rfl | exact Or.inl (xw_cat_rf _) | exact Or.inr (by decide)) ?_)) ?_
    refine rn_push (lkX3_digest_7 Y) ?_
    refine rn_ifc (lkX3_digest_9 Y) (fun q => absurd q (show ¬ nI 10 < nI i from nI_nlt (by omega) (by omega))) (fun _ => ?_)
    refine rn_lld (lkX3_digest_12 Y) (by repeat (first | assumption | exact xw_lk_e _ _ _ | exact xw_lk_e2 _ _ _ | refine xw_lk_s (by decide) (by first | exact Or.inl rfl | exact Or.inl (xw_cat_rf _) | exact Or.inr (by decide)) ?_ | refine xw_lk_s2 (by decide) (by decide) (by first | exact Or.inl rfl | exact Or.inl (xw_cat_rf _) | exact Or.inr (by decide)) ?_)) ?_
    refine rn_push (lkX3_digest_13 Y) ?_
    refine rn_l2 (lkX3_digest_16 Y) ?_
    first | refine rn_ald (lkX3_digest_17 Y) (by repeat (first | assumption | exact xw_lk_e _ _ _ | exact xw_lk_e2 _ _ _ | refine xw_lk_s (by decide) (by first | exact Or.inl rfl | exact Or.inl (xw_cat_rf _) | exact Or.inr (by decide)) ?_ | refine xw_lk_s2 (by decide) (by decide) (by first | exact Or.inl rfl | exact Or.inl (xw_cat_rf _) | exact Or.inr (by decide)) ?_)) ?_ | refine rn_aldO (lkX3_digest_17 Y) (by repeat (first | assumption | exact xw_lk_e _ _ _ | exact xw_lk_e2 _ _ _ | refine xw_lk_s (by decide) (by first | exact Or.inl rfl | exact Or.inl (xw_cat_rf _) | exact Or.inr (by decide)) ?_ | refine xw_lk_s2 (by decide) (by decide) (by first | exact Or.inl rfl | exact Or.inl (xw_cat_rf _) | exact Or.inr (by decide)) ?_)) ?_ | refine rn_aldN (lkX3_digest_17 Y) (by repeat (first | assumption | exact xw_lk_e _ _ _ | exact xw_lk_e2 _ _ _ | refine xw_lk_s (by decide) (by first | exact Or.inl rfl | exact Or.inl (xw_cat_rf _) | exact Or.inr (by decide)) ?_ | refine xw_lk_s2 (by decide) (by decide) (by first | exact Or.inl rfl | exact Or.inl (xw_cat_rf _) | exact Or.inr (by decide)) ?_)) ?_
    refine rn_ild (lkX3_digest_18 Y) (by repeat (first | assumption | exact xw_lk_e _ _ _ | exact xw_lk_e2 _ _ _ | refine xw_lk_s (by decide) (by first | exact Or.inl rfl | exact Or.inl (xw_cat_rf _) | exact Or.inr (by decide)) ?_ | refine xw_lk_s2 (by decide) (by decide) (by first | exact Or.inl rfl | exact Or.inl (xw_cat_rf _) | exact Or.inr (by decide)) ?_)) ?_
    refine rp_callV hR (lkX3_digest_19 Y) rfl (by first | assumption | exact xq_v0 (by decide)) rfl (Nat.le_of_ble_eq_true rfl) (Nat.le_of_ble_eq_true rfl) (Nat.le_of_ble_eq_true rfl) ?_
    refine sc_many hR (by omega) ?_
    refine rn_i2l (lkX3_digest_22 Y) ?_
    refine rn_l2 (lkX3_digest_23 Y) ?_
    refine rn_lst (lkX3_digest_24 Y) rfl ?_
    refine rn_inc (lkX3_digest_25 Y) (by repeat (first | assumption | exact xw_lk_e _ _ _ | exact xw_lk_e2 _ _ _ | refine xw_lk_s (by decide) (by first | exact Or.inl rfl | exact Or.inl (xw_cat_rf _) | exact Or.inr (by decide)) ?_ | refine xw_lk_s2 (by decide) (by decide) (by first | exact Or.inl rfl | exact Or.inl (xw_cat_rf _) | exact Or.inr (by decide)) ?_)) rfl ?_
    refine rn_goto (lkX3_digest_28 Y) ?_
    exact ih (i + 1) (by omega) _ (by repeat (first | assumption | exact xw_lk_e _ _ _ | exact xw_lk_e2 _ _ _ | refine xw_lk_s (by decide) (by first | exact Or.inl rfl | exact Or.inl (xw_cat_rf _) | exact Or.inr (by decide)) ?_ | refine xw_lk_s2 (by decide) (by decide) (by first | exact Or.inl rfl | exact Or.inl (xw_cat_rf _) | exact Or.inr (by decide)) ?_)) (by rw [mo_fold]; repeat (first | assumption | exact xw_lk_e _ _ _ | exact xw_lk_e2 _ _ _ | refine xw_lk_s (by decide) (by first | exact Or.inl rfl | exact Or.inl (xw_cat_rf _) | exact Or.inr (by decide)) ?_ | refine xw_lk_s2 (by decide) (by decide) (by first | exact Or.inl rfl | exact Or.inl (xw_cat_rf _) | exact Or.inr (by decide)) ?_)) (by rw [← nI_1]; repeat (first | assumption | exact xw_lk_e _ _ _ | exact xw_lk_e2 _ _ _ | refine xw_lk_s (by decide) (by first | exact Or.inl rfl | exact Or.inl (xw_cat_rf _) | exact Or.inr (by decide)) ?_ | refine xw_lk_s2 (by decide) (by decide) (by first | exact Or.inl rfl | exact Or.inl (xw_cat_rf _) | exact Or.inr (by decide)) ?_))

set_option maxRecDepth 100000 in
set_option maxHeartbeats 4000000 in
theorem lp_dg2 {d : Int64} (hR : xq_rp Y ad s w)  {Rt : xw_R} (h : ∀ lv : xw_L, xw_lk lv 0 = some (.ref (ad 0 0)) → xw_lk lv 1 = some (.long (mo_fF s d (s.1))) → (∃ x, xw_lk lv 3 = some (.int x)) → xw_Run (tbX3_digest Y) Rt 57 lv [] w 0 0) : ∀ (j i : Nat), i + j = s.1 → ∀ lv : xw_L, xw_lk lv 0 = some (.ref (ad 0 0)) → xw_lk lv 1 = some (.long (mo_fF s d i)) → xw_lk lv 3 = some (.int (nI i)) → xw_Run (tbX3_digest Y) Rt 33 lv [] w 0 0 := by
  have hv0 : xq_vl ad s 0 0 := xq_v0 (by decide)
  intro j
  induction j with
  | zero =>
    intro i hi lv hl0 hl1 hl2
    refine rn_ild (lkX3_digest_33 Y) (by repeat (first | assumption | exact xw_lk_e _ _ _ | exact xw_lk_e2 _ _ _ | refine xw_lk_s (by decide) (by first | exact Or.inl rfl | exact Or.inl (xw_cat_rf _) | exact Or.inr (by decide)) ?_ | refine xw_lk_s2 (by decide) (by decide) (by first | exact Or.inl rfl | exact Or.inl (xw_cat_rf _) | exact Or.inr (by decide)) ?_)) ?_
    first | refine rn_ald (lkX3_digest_34 Y) (by repeat (first | assumption | exact xw_lk_e _ _ _ | exact xw_lk_e2 _ _ _ | refine xw_lk_s (by decide) (by first | exact Or.inl rfl | exact Or.inl (xw_cat_rf _) | exact Or.inr (by decide)) ?_ | refine xw_lk_s2 (by decide) (by decide) (by first | exact Or.inl rfl | exact Or.inl (xw_cat_rf _) | exact Or.inr (by decide)) ?_)) ?_ | refine rn_aldO (lkX3_digest_34 Y) (by repeat (first | assumption | exact xw_lk_e _ _ _ | exact xw_lk_e2 _ _ _ | refine xw_lk_s (by decide) (by first | exact Or.inl rfl | exact Or.inl (xw_cat_rf _) | exact Or.inr (by decide)) ?_ | refine xw_lk_s2 (by decide) (by decide) (by first | exact Or.inl rfl | exact Or.inl (xw_cat_rf _) | exact Or.inr (by decide)) ?_)) ?_ | refine rn_aldN (lkX3_digest_34 Y) (by repeat (first | assumption | exact xw_lk_e _ _ _ | exact xw_lk_e2 _ _ _ | refine xw_lk_s (by decide) (by first | exact Or.inl rfl | exact Or.inl (xw_cat_rf _) | exact Or.inr (by decide)) ?_ | refine xw_lk_s2 (by decide) (by decide) (by first | exact Or.inl rfl | exact Or.inl (xw_cat_rf _) | exact Or.inr (by decide)) ?_)) ?_
    refine rp_getf hR (lkX3_digest_35 Y) (by first | assumption | exact xq_v0 (by decide)) rfl rfl ?_
    refine rp_callV hR (lkX3_digest_38 Y) rfl (by first | assumption | exact xq_v0 (by decide)) rfl (Nat.le_of_ble_eq_true rfl) (Nat.le_of_ble_eq_true rfl) (Nat.le_of_ble_eq_true rfl) ?_
    refine sl_sizeF hR ?_
    refine rn_ifc (lkX3_digest_41 Y) (fun _ => ?_) (fun q => absurd (show nI s.1 ≤ nI i by rw [show i = s.1 by omega]; exact Int32.le_refl _) q)
    rw [show i = s.1 by omega] at hl1
    exact h lv hl0 hl1 ⟨_, hl2⟩
  | succ j ih =>
    intro i hi lv hl0 hl1 hl2
    have hki : i < s.1 := by omega
    refine rn_ild (lkX3_digest_33 Y) (by repeat (first | assumption | exact xw_lk_e _ _ _ | exact xw_lk_e2 _ _ _ | refine xw_lk_s (by decide) (by first | exact Or.inl rfl | exact Or.inl (xw_cat_rf _) | exact Or.inr (by decide)) ?_ | refine xw_lk_s2 (by decide) (by decide) (by first | exact Or.inl rfl | exact Or.inl (xw_cat_rf _) | exact Or.inr (by decide)) ?_)) ?_
    first | refine rn_ald (lkX3_digest_34 Y) (by repeat (first | assumption | exact xw_lk_e _ _ _ | exact xw_lk_e2 _ _ _ | refine xw_lk_s (by decide) (by first | exact Or.inl rfl | exact Or.inl (xw_cat_rf _) | exact Or.inr (by decide)) ?_ | refine xw_lk_s2 (by decide) (by decide) (by first | exact Or.inl rfl | exact Or.inl (xw_cat_rf _) | exact Or.inr (by decide)) ?_)) ?_ | refine rn_aldO (lkX3_digest_34 Y) (by repeat (first | assumption | exact xw_lk_e _ _ _ | exact xw_lk_e2 _ _ _ | refine xw_lk_s (by decide) (by first | exact Or.inl rfl | exact Or.inl (xw_cat_rf _) | exact Or.inr (by decide)) ?_ | refine xw_lk_s2 (by decide) (by decide) (by first | exact Or.inl rfl | exact Or.inl (xw_cat_rf _) | exact Or.inr (by decide)) ?_)) ?_ | refine rn_aldN (lkX3_digest_34 Y) (by repeat (first | assumption | exact xw_lk_e _ _ _ | exact xw_lk_e2 _ _ _ | refine xw_lk_s (by decide) (by first | exact Or.inl rfl | exact Or.inl (xw_cat_rf _) | exact Or.inr (by decide)) ?_ | refine xw_lk_s2 (by decide) (by decide) (by first | exact Or.inl rfl | exact Or.inl (xw_cat_rf _) | exact Or.inr (by decide)) ?_)) ?_
    refine rp_getf hR (lkX3_digest_35 Y) (by first | assumption | exact xq_v0 (by decide)) rfl rfl ?_
    refine rp_callV hR (lkX3_digest_38 Y) rfl (by first | assumption | exact xq_v0 (by decide)) rfl (Nat.le_of_ble_eq_true rfl) (Nat.le_of_ble_eq_true rfl) (Nat.le_of_ble_eq_true rfl) ?_
    refine sl_sizeF hR ?_
    refine rn_ifc (lkX3_digest_41 Y) (fun q => absurd q (nI_ge hki (by have := xq_nf hR; omega))) (fun _ => ?_)
    first | refine rn_ald (lkX3_digest_44 Y) (by repeat (first | assumption | exact xw_lk_e _ _ _ | exact xw_lk_e2 _ _ _ | refine xw_lk_s (by decide) (by first | exact Or.inl rfl | exact Or.inl (xw_cat_rf _) | exact Or.inr (by decide)) ?_ | refine xw_lk_s2 (by decide) (by decide) (by first | exact Or.inl rfl | exact Or.inl (xw_cat_rf _) | exact Or.inr (by decide)) ?_)) ?_ | refine rn_aldO (lkX3_digest_44 Y) (by repeat (first | assumption | exact xw_lk_e _ _ _ | exact xw_lk_e2 _ _ _ | refine xw_lk_s (by decide) (by first | exact Or.inl rfl | exact Or.inl (xw_cat_rf _) | exact Or.inr (by decide)) ?_ | refine xw_lk_s2 (by decide) (by decide) (by first | exact Or.inl rfl | exact Or.inl (xw_cat_rf _) | exact Or.inr (by decide)) ?_)) ?_ | refine rn_aldN (lkX3_digest_44 Y) (by repeat (first | assumption | exact xw_lk_e _ _ _ | exact xw_lk_e2 _ _ _ | refine xw_lk_s (by decide) (by first | exact Or.inl rfl | exact Or.inl (xw_cat_rf _) | exact Or.inr (by decide)) ?_ | refine xw_lk_s2 (by decide) (by decide) (by first | exact Or.inl rfl | exact Or.inl (xw_cat_rf _) | exact Or.inr (by decide)) ?_)) ?_
    refine rn_lld (lkX3_digest_45 Y) (by repeat (first | assumption | exact xw_lk_e _ _ _ | exact xw_lk_e2 _ _ _ | refine xw_lk_s (by decide) (by first | exact Or.inl rfl | exact Or.inl (xw_cat_rf _) | exact Or.inr (by decide)) ?_ | refine xw_lk_s2 (by decide) (by decide) (by first | exact Or.inl rfl | exact Or.inl (xw_cat_rf _) | exact Or.inr (by decide)) ?_)) ?_
    refine rn_ild (lkX3_digest_46 Y) (by repeat (first | assumption | exact xw_lk_e _ _ _ | exact xw_lk_e2 _ _ _ | refine xw_lk_s (by decide) (by first | exact Or.inl rfl | exact Or.inl (xw_cat_rf _) | exact Or.inr (by decide)) ?_ | refine xw_lk_s2 (by decide) (by decide) (by first | exact Or.inl rfl | exact Or.inl (xw_cat_rf _) | exact Or.inr (by decide)) ?_)) ?_
    refine rp_callV hR (lkX3_digest_47 Y) rfl (by first | assumption | exact xq_v0 (by decide)) rfl (Nat.le_of_ble_eq_true rfl) (Nat.le_of_ble_eq_true rfl) (Nat.le_of_ble_eq_true rfl) ?_
    refine sc_withF hR hki ?_
    refine rn_lst (lkX3_digest_50 Y) rfl ?_
    refine rn_inc (lkX3_digest_51 Y) (by repeat (first | assumption | exact xw_lk_e _ _ _ | exact xw_lk_e2 _ _ _ | refine xw_lk_s (by decide) (by first | exact Or.inl rfl | exact Or.inl (xw_cat_rf _) | exact Or.inr (by decide)) ?_ | refine xw_lk_s2 (by decide) (by decide) (by first | exact Or.inl rfl | exact Or.inl (xw_cat_rf _) | exact Or.inr (by decide)) ?_)) rfl ?_
    refine rn_goto (lkX3_digest_54 Y) ?_
    exact ih (i + 1) (by omega) _ (by repeat (first | assumption | exact xw_lk_e _ _ _ | exact xw_lk_e2 _ _ _ | refine xw_lk_s (by decide) (by first | exact Or.inl rfl | exact Or.inl (xw_cat_rf _) | exact Or.inr (by decide)) ?_ | refine xw_lk_s2 (by decide) (by decide) (by first | exact Or.inl rfl | exact Or.inl (xw_cat_rf _) | exact Or.inr (by decide)) ?_)) (by rw [mo_fF]; repeat (first | assumption | exact xw_lk_e _ _ _ | exact xw_lk_e2 _ _ _ | refine xw_lk_s (by decide) (by first | exact Or.inl rfl | exact Or.inl (xw_cat_rf _) | exact Or.inr (by decide)) ?_ | refine xw_lk_s2 (by decide) (by decide) (by first | exact Or.inl rfl | exact Or.inl (xw_cat_rf _) | exact Or.inr (by decide)) ?_)) (by rw [← nI_1]; repeat (first | assumption | exact xw_lk_e _ _ _ | exact xw_lk_e2 _ _ _ | refine xw_lk_s (by decide) (by first | exact Or.inl rfl | exact Or.inl (xw_cat_rf _) | exact Or.inr (by decide)) ?_ | refine xw_lk_s2 (by decide) (by decide) (by first | exact Or.inl rfl | exact Or.inl (xw_cat_rf _) | exact Or.inr (by decide)) ?_))

set_option maxRecDepth 100000 in
set_option maxHeartbeats 4000000 in
theorem lp_dg3 {d : Int64} (hR : xq_rp Y ad s w)  {Rt : xw_R} (h : ∀ lv : xw_L, xw_lk lv 0 = some (.ref (ad 0 0)) → xw_lk lv 1 = some (.long (mo_fB s d (s.2.1))) → (∃ x, xw_lk lv 3 = some (.int x)) → xw_Run (tbX3_digest Y) Rt 83 lv [] w 0 0) : ∀ (j i : Nat), i + j = s.2.1 → ∀ lv : xw_L, xw_lk lv 0 = some (.ref (ad 0 0)) → xw_lk lv 1 = some (.long (mo_fB s d i)) → xw_lk lv 3 = some (.int (nI i)) → xw_Run (tbX3_digest Y) Rt 59 lv [] w 0 0 := by
  have hv0 : xq_vl ad s 0 0 := xq_v0 (by decide)
  intro j
  induction j with
  | zero =>
    intro i hi lv hl0 hl1 hl2
    refine rn_ild (lkX3_digest_59 Y) (by repeat (first | assumption | exact xw_lk_e _ _ _ | exact xw_lk_e2 _ _ _ | refine xw_lk_s (by decide) (by first | exact Or.inl rfl | exact Or.inl (xw_cat_rf _) | exact Or.inr (by decide)) ?_ | refine xw_lk_s2 (by decide) (by decide) (by first | exact Or.inl rfl | exact Or.inl (xw_cat_rf _) | exact Or.inr (by decide)) ?_)) ?_
    first | refine rn_ald (lkX3_digest_60 Y) (by repeat (first | assumption | exact xw_lk_e _ _ _ | exact xw_lk_e2 _ _ _ | refine xw_lk_s (by decide) (by first | exact Or.inl rfl | exact Or.inl (xw_cat_rf _) | exact Or.inr (by decide)) ?_ | refine xw_lk_s2 (by decide) (by decide) (by first | exact Or.inl rfl | exact Or.inl (xw_cat_rf _) | exact Or.inr (by decide)) ?_)) ?_ | refine rn_aldO (lkX3_digest_60 Y) (by repeat (first | assumption | exact xw_lk_e _ _ _ | exact xw_lk_e2 _ _ _ | refine xw_lk_s (by decide) (by first | exact Or.inl rfl | exact Or.inl (xw_cat_rf _) | exact Or.inr (by decide)) ?_ | refine xw_lk_s2 (by decide) (by decide) (by first | exact Or.inl rfl | exact Or.inl (xw_cat_rf _) | exact Or.inr (by decide)) ?_)) ?_ | refine rn_aldN (lkX3_digest_60 Y) (by repeat (first | assumption | exact xw_lk_e _ _ _ | exact xw_lk_e2 _ _ _ | refine xw_lk_s (by decide) (by first | exact Or.inl rfl | exact Or.inl (xw_cat_rf _) | exact Or.inr (by decide)) ?_ | refine xw_lk_s2 (by decide) (by decide) (by first | exact Or.inl rfl | exact Or.inl (xw_cat_rf _) | exact Or.inr (by decide)) ?_)) ?_
    refine rp_getf hR (lkX3_digest_61 Y) (by first | assumption | exact xq_v0 (by decide)) rfl rfl ?_
    refine rp_callV hR (lkX3_digest_64 Y) rfl (by first | assumption | exact xq_v0 (by decide)) rfl (Nat.le_of_ble_eq_true rfl) (Nat.le_of_ble_eq_true rfl) (Nat.le_of_ble_eq_true rfl) ?_
    refine sl_sizeB hR ?_
    refine rn_ifc (lkX3_digest_67 Y) (fun _ => ?_) (fun q => absurd (show nI s.2.1 ≤ nI i by rw [show i = s.2.1 by omega]; exact Int32.le_refl _) q)
    rw [show i = s.2.1 by omega] at hl1
    exact h lv hl0 hl1 ⟨_, hl2⟩
  | succ j ih =>
    intro i hi lv hl0 hl1 hl2
    have hki : i < s.2.1 := by omega
    refine rn_ild (lkX3_digest_59 Y) (by repeat (first | assumption | exact xw_lk_e _ _ _ | exact xw_lk_e2 _ _ _ | refine xw_lk_s (by decide) (by first | exact Or.inl rfl | exact Or.inl (xw_cat_rf _) | exact Or.inr (by decide)) ?_ | refine xw_lk_s2 (by decide) (by decide) (by first | exact Or.inl rfl | exact Or.inl (xw_cat_rf _) | exact Or.inr (by decide)) ?_)) ?_
    first | refine rn_ald (lkX3_digest_60 Y) (by repeat (first | assumption | exact xw_lk_e _ _ _ | exact xw_lk_e2 _ _ _ | refine xw_lk_s (by decide) (by first | exact Or.inl rfl | exact Or.inl (xw_cat_rf _) | exact Or.inr (by decide)) ?_ | refine xw_lk_s2 (by decide) (by decide) (by first | exact Or.inl rfl | exact Or.inl (xw_cat_rf _) | exact Or.inr (by decide)) ?_)) ?_ | refine rn_aldO (lkX3_digest_60 Y) (by repeat (first | assumption | exact xw_lk_e _ _ _ | exact xw_lk_e2 _ _ _ | refine xw_lk_s (by decide) (by first | exact Or.inl rfl | exact Or.inl (xw_cat_rf _) | exact Or.inr (by decide)) ?_ | refine xw_lk_s2 (by decide) (by decide) (by first | exact Or.inl rfl | exact Or.inl (xw_cat_rf _) | exact Or.inr (by decide)) ?_)) ?_ | refine rn_aldN (lkX3_digest_60 Y) (by repeat (first | assumption | exact xw_lk_e _ _ _ | exact xw_lk_e2 _ _ _ | refine xw_lk_s (by decide) (by first | exact Or.inl rfl | exact Or.inl (xw_cat_rf _) | exact Or.inr (by decide)) ?_ | refine xw_lk_s2 (by decide) (by decide) (by first | exact Or.inl rfl | exact Or.inl (xw_cat_rf _) | exact Or.inr (by decide)) ?_)) ?_
    refine rp_getf hR (lkX3_digest_61 Y) (by first | assumption | exact xq_v0 (by decide)) rfl rfl ?_
    refine rp_callV hR (lkX3_digest_64 Y) rfl (by first | assumption | exact xq_v0 (by decide)) rfl (Nat.le_of_ble_eq_true rfl) (Nat.le_of_ble_eq_true rfl) (Nat.le_of_ble_eq_true rfl) ?_
    refine sl_sizeB hR ?_
    refine rn_ifc (lkX3_digest_67 Y) (fun q => absurd q (nI_ge hki (by have := xq_nb hR; omega))) (fun _ => ?_)
    first | refine rn_ald (lkX3_digest_70 Y) (by repeat (first | assumption | exact xw_lk_e _ _ _ | exact xw_lk_e2 _ _ _ | refine xw_lk_s (by decide) (by first | exact Or.inl rfl | exact Or.inl (xw_cat_rf _) | exact Or.inr (by decide)) ?_ | refine xw_lk_s2 (by decide) (by decide) (by first | exact Or.inl rfl | exact Or.inl (xw_cat_rf _) | exact Or.inr (by decide)) ?_)) ?_ | refine rn_aldO (lkX3_digest_70 Y) (by repeat (first | assumption | exact xw_lk_e _ _ _ | exact xw_lk_e2 _ _ _ | refine xw_lk_s (by decide) (by first | exact Or.inl rfl | exact Or.inl (xw_cat_rf _) | exact Or.inr (by decide)) ?_ | refine xw_lk_s2 (by decide) (by decide) (by first | exact Or.inl rfl | exact Or.inl (xw_cat_rf _) | exact Or.inr (by decide)) ?_)) ?_ | refine rn_aldN (lkX3_digest_70 Y) (by repeat (first | assumption | exact xw_lk_e _ _ _ | exact xw_lk_e2 _ _ _ | refine xw_lk_s (by decide) (by first | exact Or.inl rfl | exact Or.inl (xw_cat_rf _) | exact Or.inr (by decide)) ?_ | refine xw_lk_s2 (by decide) (by decide) (by first | exact Or.inl rfl | exact Or.inl (xw_cat_rf _) | exact Or.inr (by decide)) ?_)) ?_
    refine rn_lld (lkX3_digest_71 Y) (by repeat (first | assumption | exact xw_lk_e _ _ _ | exact xw_lk_e2 _ _ _ | refine xw_lk_s (by decide) (by first | exact Or.inl rfl | exact Or.inl (xw_cat_rf _) | exact Or.inr (by decide)) ?_ | refine xw_lk_s2 (by decide) (by decide) (by first | exact Or.inl rfl | exact Or.inl (xw_cat_rf _) | exact Or.inr (by decide)) ?_)) ?_
    refine rn_ild (lkX3_digest_72 Y) (by repeat (first | assumption | exact xw_lk_e _ _ _ | exact xw_lk_e2 _ _ _ | refine xw_lk_s (by decide) (by first | exact Or.inl rfl | exact Or.inl (xw_cat_rf _) | exact Or.inr (by decide)) ?_ | refine xw_lk_s2 (by decide) (by decide) (by first | exact Or.inl rfl | exact Or.inl (xw_cat_rf _) | exact Or.inr (by decide)) ?_)) ?_
    refine rp_callV hR (lkX3_digest_73 Y) rfl (by first | assumption | exact xq_v0 (by decide)) rfl (Nat.le_of_ble_eq_true rfl) (Nat.le_of_ble_eq_true rfl) (Nat.le_of_ble_eq_true rfl) ?_
    refine sc_withB hR hki ?_
    refine rn_lst (lkX3_digest_76 Y) rfl ?_
    refine rn_inc (lkX3_digest_77 Y) (by repeat (first | assumption | exact xw_lk_e _ _ _ | exact xw_lk_e2 _ _ _ | refine xw_lk_s (by decide) (by first | exact Or.inl rfl | exact Or.inl (xw_cat_rf _) | exact Or.inr (by decide)) ?_ | refine xw_lk_s2 (by decide) (by decide) (by first | exact Or.inl rfl | exact Or.inl (xw_cat_rf _) | exact Or.inr (by decide)) ?_)) rfl ?_
    refine rn_goto (lkX3_digest_80 Y) ?_
    exact ih (i + 1) (by omega) _ (by repeat (first | assumption | exact xw_lk_e _ _ _ | exact xw_lk_e2 _ _ _ | refine xw_lk_s (by decide) (by first | exact Or.inl rfl | exact Or.inl (xw_cat_rf _) | exact Or.inr (by decide)) ?_ | refine xw_lk_s2 (by decide) (by decide) (by first | exact Or.inl rfl | exact Or.inl (xw_cat_rf _) | exact Or.inr (by decide)) ?_)) (by rw [mo_fB]; repeat (first | assumption | exact xw_lk_e _ _ _ | exact xw_lk_e2 _ _ _ | refine xw_lk_s (by decide) (by first | exact Or.inl rfl | exact Or.inl (xw_cat_rf _) | exact Or.inr (by decide)) ?_ | refine xw_lk_s2 (by decide) (by decide) (by first | exact Or.inl rfl | exact Or.inl (xw_cat_rf _) | exact Or.inr (by decide)) ?_)) (by rw [← nI_1]; repeat (first | assumption | exact xw_lk_e _ _ _ | exact xw_lk_e2 _ _ _ | refine xw_lk_s (by decide) (by first | exact Or.inl rfl | exact Or.inl (xw_cat_rf _) | exact Or.inr (by decide)) ?_ | refine xw_lk_s2 (by decide) (by decide) (by first | exact Or.inl rfl | exact Or.inl (xw_cat_rf _) | exact Or.inr (by decide)) ?_))

set_option maxRecDepth 100000 in
set_option maxHeartbeats 4000000 in
theorem lp_dg4 {d : Int64} {N : Nat} (hR : xq_rp Y ad s w) (hn : xq_i s 8 0 = nI N) (hn2 : N ≤ 16) {Rt : xw_R} (h : ∀ lv : xw_L, xw_lk lv 0 = some (.ref (ad 0 0)) → xw_lk lv 1 = some (.long (mo_fold (fun j => mo_num s (mo_onLine s j)) d N)) → (∃ x, xw_lk lv 3 = some (.int x)) → xw_Run (tbX3_digest Y) Rt 124 lv [] w 0 0) : ∀ (j i : Nat), i + j = N → ∀ lv : xw_L, xw_lk lv 0 = some (.ref (ad 0 0)) → xw_lk lv 1 = some (.long (mo_fold (fun j => mo_num s (mo_onLine s j)) d i)) → xw_lk lv 3 = some (.int (nI i)) → xw_Run (tbX3_digest Y) Rt 97 lv [] w 0 0 := by
  have hv0 : xq_vl ad s 0 0 := xq_v0 (by decide)
  intro j
  induction j with
  | zero =>
    intro i hi lv hl0 hl1 hl2
    refine rn_ild (lkX3_digest_97 Y) (by repeat (first | assumption | exact xw_lk_e _ _ _ | exact xw_lk_e2 _ _ _ | refine xw_lk_s (by decide) (by first | exact Or.inl rfl | exact Or.inl (xw_cat_rf _) | exact Or.inr (by decide)) ?_ | refine xw_lk_s2 (by decide) (by decide) (by first | exact Or.inl rfl | exact Or.inl (xw_cat_rf _) | exact Or.inr (by decide)) ?_)) ?_
    first | refine rn_ald (lkX3_digest_98 Y) (by repeat (first | assumption | exact xw_lk_e _ _ _ | exact xw_lk_e2 _ _ _ | refine xw_lk_s (by decide) (by first | exact Or.inl rfl | exact Or.inl (xw_cat_rf _) | exact Or.inr (by decide)) ?_ | refine xw_lk_s2 (by decide) (by decide) (by first | exact Or.inl rfl | exact Or.inl (xw_cat_rf _) | exact Or.inr (by decide)) ?_)) ?_ | refine rn_aldO (lkX3_digest_98 Y) (by repeat (first | assumption | exact xw_lk_e _ _ _ | exact xw_lk_e2 _ _ _ | refine xw_lk_s (by decide) (by first | exact Or.inl rfl | exact Or.inl (xw_cat_rf _) | exact Or.inr (by decide)) ?_ | refine xw_lk_s2 (by decide) (by decide) (by first | exact Or.inl rfl | exact Or.inl (xw_cat_rf _) | exact Or.inr (by decide)) ?_)) ?_ | refine rn_aldN (lkX3_digest_98 Y) (by repeat (first | assumption | exact xw_lk_e _ _ _ | exact xw_lk_e2 _ _ _ | refine xw_lk_s (by decide) (by first | exact Or.inl rfl | exact Or.inl (xw_cat_rf _) | exact Or.inr (by decide)) ?_ | refine xw_lk_s2 (by decide) (by decide) (by first | exact Or.inl rfl | exact Or.inl (xw_cat_rf _) | exact Or.inr (by decide)) ?_)) ?_
    refine rp_getf hR (lkX3_digest_99 Y) (by first | assumption | exact xq_v0 (by decide)) rfl rfl ?_
    refine rn_ifc (lkX3_digest_102 Y) (fun _ => ?_) (fun q => absurd (show xq_i s 8 0 ≤ nI i by rw [hn, show i = N by omega]; exact Int32.le_refl _) q)
    rw [show i = N by omega] at hl1
    exact h lv hl0 hl1 ⟨_, hl2⟩
  | succ j ih =>
    intro i hi lv hl0 hl1 hl2
    have hki : i < N := by omega
    refine rn_ild (lkX3_digest_97 Y) (by repeat (first | assumption | exact xw_lk_e _ _ _ | exact xw_lk_e2 _ _ _ | refine xw_lk_s (by decide) (by first | exact Or.inl rfl | exact Or.inl (xw_cat_rf _) | exact Or.inr (by decide)) ?_ | refine xw_lk_s2 (by decide) (by decide) (by first | exact Or.inl rfl | exact Or.inl (xw_cat_rf _) | exact Or.inr (by decide)) ?_)) ?_
    first | refine rn_ald (lkX3_digest_98 Y) (by repeat (first | assumption | exact xw_lk_e _ _ _ | exact xw_lk_e2 _ _ _ | refine xw_lk_s (by decide) (by first | exact Or.inl rfl | exact Or.inl (xw_cat_rf _) | exact Or.inr (by decide)) ?_ | refine xw_lk_s2 (by decide) (by decide) (by first | exact Or.inl rfl | exact Or.inl (xw_cat_rf _) | exact Or.inr (by decide)) ?_)) ?_ | refine rn_aldO (lkX3_digest_98 Y) (by repeat (first | assumption | exact xw_lk_e _ _ _ | exact xw_lk_e2 _ _ _ | refine xw_lk_s (by decide) (by first | exact Or.inl rfl | exact Or.inl (xw_cat_rf _) | exact Or.inr (by decide)) ?_ | refine xw_lk_s2 (by decide) (by decide) (by first | exact Or.inl rfl | exact Or.inl (xw_cat_rf _) | exact Or.inr (by decide)) ?_)) ?_ | refine rn_aldN (lkX3_digest_98 Y) (by repeat (first | assumption | exact xw_lk_e _ _ _ | exact xw_lk_e2 _ _ _ | refine xw_lk_s (by decide) (by first | exact Or.inl rfl | exact Or.inl (xw_cat_rf _) | exact Or.inr (by decide)) ?_ | refine xw_lk_s2 (by decide) (by decide) (by first | exact Or.inl rfl | exact Or.inl (xw_cat_rf _) | exact Or.inr (by decide)) ?_)) ?_
    refine rp_getf hR (lkX3_digest_99 Y) (by first | assumption | exact xq_v0 (by decide)) rfl rfl ?_
    refine rn_ifc (lkX3_digest_102 Y) (fun q => absurd q (show ¬ xq_i s 8 0 ≤ nI i by rw [hn]; exact nI_ge hki (by omega))) (fun _ => ?_)
    refine rn_lld (lkX3_digest_105 Y) (by repeat (first | assumption | exact xw_lk_e _ _ _ | exact xw_lk_e2 _ _ _ | refine xw_lk_s (by decide) (by first | exact Or.inl rfl | exact Or.inl (xw_cat_rf _) | exact Or.inr (by decide)) ?_ | refine xw_lk_s2 (by decide) (by decide) (by first | exact Or.inl rfl | exact Or.inl (xw_cat_rf _) | exact Or.inr (by decide)) ?_)) ?_
    refine rn_push (lkX3_digest_106 Y) ?_
    refine rn_l2 (lkX3_digest_109 Y) ?_
    first | refine rn_ald (lkX3_digest_110 Y) (by repeat (first | assumption | exact xw_lk_e _ _ _ | exact xw_lk_e2 _ _ _ | refine xw_lk_s (by decide) (by first | exact Or.inl rfl | exact Or.inl (xw_cat_rf _) | exact Or.inr (by decide)) ?_ | refine xw_lk_s2 (by decide) (by decide) (by first | exact Or.inl rfl | exact Or.inl (xw_cat_rf _) | exact Or.inr (by decide)) ?_)) ?_ | refine rn_aldO (lkX3_digest_110 Y) (by repeat (first | assumption | exact xw_lk_e _ _ _ | exact xw_lk_e2 _ _ _ | refine xw_lk_s (by decide) (by first | exact Or.inl rfl | exact Or.inl (xw_cat_rf _) | exact Or.inr (by decide)) ?_ | refine xw_lk_s2 (by decide) (by decide) (by first | exact Or.inl rfl | exact Or.inl (xw_cat_rf _) | exact Or.inr (by decide)) ?_)) ?_ | refine rn_aldN (lkX3_digest_110 Y) (by repeat (first | assumption | exact xw_lk_e _ _ _ | exact xw_lk_e2 _ _ _ | refine xw_lk_s (by decide) (by first | exact Or.inl rfl | exact Or.inl (xw_cat_rf _) | exact Or.inr (by decide)) ?_ | refine xw_lk_s2 (by decide) (by decide) (by first | exact Or.inl rfl | exact Or.inl (xw_cat_rf _) | exact Or.inr (by decide)) ?_)) ?_
    refine rn_ild (lkX3_digest_111 Y) (by repeat (first | assumption | exact xw_lk_e _ _ _ | exact xw_lk_e2 _ _ _ | refine xw_lk_s (by decide) (by first | exact Or.inl rfl | exact Or.inl (xw_cat_rf _) | exact Or.inr (by decide)) ?_ | refine xw_lk_s2 (by decide) (by decide) (by first | exact Or.inl rfl | exact Or.inl (xw_cat_rf _) | exact Or.inr (by decide)) ?_)) ?_
    refine rp_callV hR (lkX3_digest_112 Y) rfl (by first | assumption | exact xq_v0 (by decide)) rfl (Nat.le_of_ble_eq_true rfl) (Nat.le_of_ble_eq_true rfl) (Nat.le_of_ble_eq_true rfl) ?_
    refine sc_line hR hn hn2 hki ?_
    refine rn_i2l (lkX3_digest_115 Y) ?_
    refine rn_l2 (lkX3_digest_116 Y) ?_
    refine rn_lst (lkX3_digest_117 Y) rfl ?_
    refine rn_inc (lkX3_digest_118 Y) (by repeat (first | assumption | exact xw_lk_e _ _ _ | exact xw_lk_e2 _ _ _ | refine xw_lk_s (by decide) (by first | exact Or.inl rfl | exact Or.inl (xw_cat_rf _) | exact Or.inr (by decide)) ?_ | refine xw_lk_s2 (by decide) (by decide) (by first | exact Or.inl rfl | exact Or.inl (xw_cat_rf _) | exact Or.inr (by decide)) ?_)) rfl ?_
    refine rn_goto (lkX3_digest_121 Y) ?_
    exact ih (i + 1) (by omega) _ (by repeat (first | assumption | exact xw_lk_e _ _ _ | exact xw_lk_e2 _ _ _ | refine xw_lk_s (by decide) (by first | exact Or.inl rfl | exact Or.inl (xw_cat_rf _) | exact Or.inr (by decide)) ?_ | refine xw_lk_s2 (by decide) (by decide) (by first | exact Or.inl rfl | exact Or.inl (xw_cat_rf _) | exact Or.inr (by decide)) ?_)) (by rw [mo_fold]; repeat (first | assumption | exact xw_lk_e _ _ _ | exact xw_lk_e2 _ _ _ | refine xw_lk_s (by decide) (by first | exact Or.inl rfl | exact Or.inl (xw_cat_rf _) | exact Or.inr (by decide)) ?_ | refine xw_lk_s2 (by decide) (by decide) (by first | exact Or.inl rfl | exact Or.inl (xw_cat_rf _) | exact Or.inr (by decide)) ?_)) (by rw [← nI_1]; repeat (first | assumption | exact xw_lk_e _ _ _ | exact xw_lk_e2 _ _ _ | refine xw_lk_s (by decide) (by first | exact Or.inl rfl | exact Or.inl (xw_cat_rf _) | exact Or.inr (by decide)) ?_ | refine xw_lk_s2 (by decide) (by decide) (by first | exact Or.inl rfl | exact Or.inl (xw_cat_rf _) | exact Or.inr (by decide)) ?_))

set_option maxRecDepth 100000 in
set_option maxHeartbeats 4000000 in
theorem sc_digest {N : Nat} (hR : xq_rp Y ad s w) (hn : xq_i s 8 0 = nI N) (hn2 : N ≤ 16) (h : post (some (.long (mo_digest s N))) w) : ptX3_digest Y [.ref (ad 0 0)] w post := by
  refine ⟨(by first | exact Nat.le_of_ble_eq_true rfl | simp [lg_sl, xw_cat_rf, xw_cat_i, xw_cat_r, xw_cat_n, xw_cat_l]), ?_⟩
  refine rn_push (lkX3_digest_0 Y) ?_
  refine rn_lst (lkX3_digest_3 Y) rfl ?_
  refine rn_push (lkX3_digest_4 Y) ?_
  refine rn_ist (lkX3_digest_5 Y) rfl ?_
  refine lp_dg1 (d := 58101) hR (fun lv hl0 hl1 hl3 => ?_) 11 0 rfl _ rfl rfl rfl
  obtain ⟨x3, hl3⟩ := hl3
  refine rn_push (lkX3_digest_31 Y) ?_
  refine rn_ist (lkX3_digest_32 Y) rfl ?_
  refine lp_dg2 (d := mo_fold (mo_many s) 58101 11) hR (fun lv hl0 hl1 hl3 => ?_) s.1 0 (Nat.zero_add _) _ (by repeat (first | assumption | exact xw_lk_e _ _ _ | exact xw_lk_e2 _ _ _ | refine xw_lk_s (by decide) (by first | exact Or.inl rfl | exact Or.inl (xw_cat_rf _) | exact Or.inr (by decide)) ?_ | refine xw_lk_s2 (by decide) (by decide) (by first | exact Or.inl rfl | exact Or.inl (xw_cat_rf _) | exact Or.inr (by decide)) ?_)) (by repeat (first | assumption | exact xw_lk_e _ _ _ | exact xw_lk_e2 _ _ _ | refine xw_lk_s (by decide) (by first | exact Or.inl rfl | exact Or.inl (xw_cat_rf _) | exact Or.inr (by decide)) ?_ | refine xw_lk_s2 (by decide) (by decide) (by first | exact Or.inl rfl | exact Or.inl (xw_cat_rf _) | exact Or.inr (by decide)) ?_)) (by repeat (first | assumption | exact xw_lk_e _ _ _ | exact xw_lk_e2 _ _ _ | refine xw_lk_s (by decide) (by first | exact Or.inl rfl | exact Or.inl (xw_cat_rf _) | exact Or.inr (by decide)) ?_ | refine xw_lk_s2 (by decide) (by decide) (by first | exact Or.inl rfl | exact Or.inl (xw_cat_rf _) | exact Or.inr (by decide)) ?_))
  obtain ⟨x4, hl4⟩ := hl3
  refine rn_push (lkX3_digest_57 Y) ?_
  refine rn_ist (lkX3_digest_58 Y) rfl ?_
  refine lp_dg3 (d := mo_fF s (mo_fold (mo_many s) 58101 11) s.1) hR (fun lv hl0 hl1 hl3 => ?_) s.2.1 0 (Nat.zero_add _) _ (by repeat (first | assumption | exact xw_lk_e _ _ _ | exact xw_lk_e2 _ _ _ | refine xw_lk_s (by decide) (by first | exact Or.inl rfl | exact Or.inl (xw_cat_rf _) | exact Or.inr (by decide)) ?_ | refine xw_lk_s2 (by decide) (by decide) (by first | exact Or.inl rfl | exact Or.inl (xw_cat_rf _) | exact Or.inr (by decide)) ?_)) (by repeat (first | assumption | exact xw_lk_e _ _ _ | exact xw_lk_e2 _ _ _ | refine xw_lk_s (by decide) (by first | exact Or.inl rfl | exact Or.inl (xw_cat_rf _) | exact Or.inr (by decide)) ?_ | refine xw_lk_s2 (by decide) (by decide) (by first | exact Or.inl rfl | exact Or.inl (xw_cat_rf _) | exact Or.inr (by decide)) ?_)) (by repeat (first | assumption | exact xw_lk_e _ _ _ | exact xw_lk_e2 _ _ _ | refine xw_lk_s (by decide) (by first | exact Or.inl rfl | exact Or.inl (xw_cat_rf _) | exact Or.inr (by decide)) ?_ | refine xw_lk_s2 (by decide) (by decide) (by first | exact Or.inl rfl | exact Or.inl (xw_cat_rf _) | exact Or.inr (by decide)) ?_))
  obtain ⟨x5, hl5⟩ := hl3
  have hv0 : xq_vl ad s 0 0 := xq_v0 (by decide)
  refine rn_lld (lkX3_digest_83 Y) (by repeat (first | assumption | exact xw_lk_e _ _ _ | exact xw_lk_e2 _ _ _ | refine xw_lk_s (by decide) (by first | exact Or.inl rfl | exact Or.inl (xw_cat_rf _) | exact Or.inr (by decide)) ?_ | refine xw_lk_s2 (by decide) (by decide) (by first | exact Or.inl rfl | exact Or.inl (xw_cat_rf _) | exact Or.inr (by decide)) ?_)) ?_
  refine rn_push (lkX3_digest_84 Y) ?_
  refine rn_l2 (lkX3_digest_87 Y) ?_
  first | refine rn_ald (lkX3_digest_88 Y) (by repeat (first | assumption | exact xw_lk_e _ _ _ | exact xw_lk_e2 _ _ _ | refine xw_lk_s (by decide) (by first | exact Or.inl rfl | exact Or.inl (xw_cat_rf _) | exact Or.inr (by decide)) ?_ | refine xw_lk_s2 (by decide) (by decide) (by first | exact Or.inl rfl | exact Or.inl (xw_cat_rf _) | exact Or.inr (by decide)) ?_)) ?_ | refine rn_aldO (lkX3_digest_88 Y) (by repeat (first | assumption | exact xw_lk_e _ _ _ | exact xw_lk_e2 _ _ _ | refine xw_lk_s (by decide) (by first | exact Or.inl rfl | exact Or.inl (xw_cat_rf _) | exact Or.inr (by decide)) ?_ | refine xw_lk_s2 (by decide) (by decide) (by first | exact Or.inl rfl | exact Or.inl (xw_cat_rf _) | exact Or.inr (by decide)) ?_)) ?_ | refine rn_aldN (lkX3_digest_88 Y) (by repeat (first | assumption | exact xw_lk_e _ _ _ | exact xw_lk_e2 _ _ _ | refine xw_lk_s (by decide) (by first | exact Or.inl rfl | exact Or.inl (xw_cat_rf _) | exact Or.inr (by decide)) ?_ | refine xw_lk_s2 (by decide) (by decide) (by first | exact Or.inl rfl | exact Or.inl (xw_cat_rf _) | exact Or.inr (by decide)) ?_)) ?_
  refine rp_callV hR (lkX3_digest_89 Y) rfl (by first | assumption | exact xq_v0 (by decide)) rfl (Nat.le_of_ble_eq_true rfl) (Nat.le_of_ble_eq_true rfl) (Nat.le_of_ble_eq_true rfl) ?_
  refine sc_next hR ?_
  refine rn_i2l (lkX3_digest_92 Y) ?_
  refine rn_l2 (lkX3_digest_93 Y) ?_
  refine rn_lst (lkX3_digest_94 Y) rfl ?_
  refine rn_push (lkX3_digest_95 Y) ?_
  refine rn_ist (lkX3_digest_96 Y) rfl ?_
  refine lp_dg4 hR hn hn2 (fun lv hl0 hl1 hl3 => ?_) N 0 (Nat.zero_add _) _ (by repeat (first | assumption | exact xw_lk_e _ _ _ | exact xw_lk_e2 _ _ _ | refine xw_lk_s (by decide) (by first | exact Or.inl rfl | exact Or.inl (xw_cat_rf _) | exact Or.inr (by decide)) ?_ | refine xw_lk_s2 (by decide) (by decide) (by first | exact Or.inl rfl | exact Or.inl (xw_cat_rf _) | exact Or.inr (by decide)) ?_)) (by repeat (first | assumption | exact xw_lk_e _ _ _ | exact xw_lk_e2 _ _ _ | refine xw_lk_s (by decide) (by first | exact Or.inl rfl | exact Or.inl (xw_cat_rf _) | exact Or.inr (by decide)) ?_ | refine xw_lk_s2 (by decide) (by decide) (by first | exact Or.inl rfl | exact Or.inl (xw_cat_rf _) | exact Or.inr (by decide)) ?_)) (by repeat (first | assumption | exact xw_lk_e _ _ _ | exact xw_lk_e2 _ _ _ | refine xw_lk_s (by decide) (by first | exact Or.inl rfl | exact Or.inl (xw_cat_rf _) | exact Or.inr (by decide)) ?_ | refine xw_lk_s2 (by decide) (by decide) (by first | exact Or.inl rfl | exact Or.inl (xw_cat_rf _) | exact Or.inr (by decide)) ?_))
  refine rn_lld (lkX3_digest_124 Y) (by repeat (first | assumption | exact xw_lk_e _ _ _ | exact xw_lk_e2 _ _ _ | refine xw_lk_s (by decide) (by first | exact Or.inl rfl | exact Or.inl (xw_cat_rf _) | exact Or.inr (by decide)) ?_ | refine xw_lk_s2 (by decide) (by decide) (by first | exact Or.inl rfl | exact Or.inl (xw_cat_rf _) | exact Or.inr (by decide)) ?_)) ?_
  refine rn_lret (lkX3_digest_125 Y) ?_
  exact ⟨h, Nat.le_refl _, Nat.le_refl _⟩

/-- THE CELLS THAT ARE NEW since the world w0: where they lie and what they hold -/
def xi_D (w0 w : xw_W) (L : List (Nat × va_E)) : Prop := (∀ p ∈ L, p.1 ∈ w.1 ∧ ¬ p.1 ∈ w0.1 ∧ w.2 p.1 = p.2) ∧ (L.map Prod.fst).Nodup ∧ (∀ y ∈ w0.1, y ∈ w.1 ∧ w.2 y = w0.2 y)
theorem xi_0 (w : xw_W) : xi_D w w [] := ⟨by simp, by simp, fun y h => ⟨h, rfl⟩⟩
theorem xi_new {w0 w : xw_W} {A B : List (Nat × va_E)} {q : Nat} {E : va_E} (h : xi_D w0 w (A ++ B)) (hq : q ∉ w.1) : xi_D w0 (w.1 ++ [q], va_up w.2 q E) (A ++ (q, E) :: B) := by
  obtain ⟨h1, h2, h3⟩ := h
  have hne : ∀ y ∈ w.1, ¬ y = q := fun y hy z => hq (by rw [← z]; exact hy)
  refine ⟨?_, ?_, ?_⟩
  · intro p hp
    have : p = (q, E) ∨ p ∈ A ++ B := by
      simp only [List.mem_append, List.mem_cons] at hp ⊢
      rcases hp with z | z | z
      · exact Or.inr (Or.inl z)
      · exact Or.inl z
      · exact Or.inr (Or.inr z)
    rcases this with rfl | hp
    · exact ⟨List.mem_append_right _ (List.mem_singleton.mpr rfl), fun z => hq (h3 q z).1, va_up_self _ _ _⟩
    · obtain ⟨a1, a2, a3⟩ := h1 p hp
      exact ⟨List.mem_append_left _ a1, a2, (va_up_ne _ _ (hne _ a1)).trans a3⟩
  · rw [List.map_append, List.map_cons]
    rw [List.map_append] at h2
    have hp : (A.map Prod.fst ++ q :: B.map Prod.fst).Perm (q :: (A.map Prod.fst ++ B.map Prod.fst)) := List.perm_middle
    refine hp.nodup_iff.mpr (List.nodup_cons.mpr ⟨fun z => ?_, h2⟩)
    rw [← List.map_append] at z
    obtain ⟨p, hp, e⟩ := List.mem_map.mp z
    exact hq (by rw [← e]; exact (h1 p hp).1)
  · intro y hy
    obtain ⟨a1, a2⟩ := h3 y hy
    exact ⟨List.mem_append_left _ a1, (va_up_ne _ _ (hne _ a1)).trans a2⟩
theorem xi_put {w0 w : xw_W} {A B : List (Nat × va_E)} {a : Nat} {E E' : va_E} (h : xi_D w0 w (A ++ (a, E) :: B)) : xi_D w0 (w.1, va_up w.2 a E') (A ++ (a, E') :: B) := by
  obtain ⟨h1, h2, h3⟩ := h
  have ha := h1 (a, E) (by simp)
  have hnd : ∀ p ∈ A ++ B, ¬ p.1 = a := by
    intro p hp e
    rw [List.map_append, List.map_cons] at h2
    have hp2 : (A.map Prod.fst ++ a :: B.map Prod.fst).Perm (a :: (A.map Prod.fst ++ B.map Prod.fst)) := List.perm_middle
    have h5 := (List.nodup_cons.mp (hp2.nodup_iff.mp h2)).1
    rw [← List.map_append] at h5
    exact h5 (List.mem_map.mpr ⟨p, hp, e⟩)
  refine ⟨?_, ?_, ?_⟩
  · intro p hp
    have : p = (a, E') ∨ p ∈ A ++ B := by
      simp only [List.mem_append, List.mem_cons] at hp ⊢
      rcases hp with z | z | z
      · exact Or.inr (Or.inl z)
      · exact Or.inl z
      · exact Or.inr (Or.inr z)
    rcases this with rfl | hp
    · exact ⟨ha.1, ha.2.1, va_up_self _ _ _⟩
    · obtain ⟨a1, a2, a3⟩ := h1 p (by
        simp only [List.mem_append, List.mem_cons] at hp ⊢
        rcases hp with z | z
        · exact Or.inl z
        · exact Or.inr (Or.inr z))
      exact ⟨a1, a2, (va_up_ne _ _ (hnd p hp)).trans a3⟩
  · rw [List.map_append, List.map_cons] at h2 ⊢
    exact h2
  · intro y hy
    obtain ⟨a1, a2⟩ := h3 y hy
    exact ⟨a1, (va_up_ne _ _ (fun z => ha.2.1 (by rw [← z]; exact hy))).trans a2⟩
theorem xi_at {w0 w : xw_W} {A B : List (Nat × va_E)} {a : Nat} {E : va_E} (h : xi_D w0 w (A ++ (a, E) :: B)) : a ∈ w.1 ∧ w.2 a = E := ⟨(h.1 (a, E) (by simp)).1, (h.1 (a, E) (by simp)).2.2⟩
section
variable {tb : List (Nat × xw_T)} {Rt : xw_R} {pc nx : Nat} {lv : xw_L} {st r : List Value} {k n : Nat} {w0 : xw_W}
theorem rd_new {ci N MC MS : Nat} {fs : List Value} (A B : List (Nat × va_E)) (hD : xi_D w0 w (A ++ B)) (h : xw_lk tb pc = some (tr_new nx ci N fs MC MS)) (h1 : k + 1 ≤ MC) (h2 : n + N ≤ MS) (hk : ∀ (q : Nat) (w' : xw_W), xi_D w0 w' (A ++ (q, .inr (ci, fs)) :: B) → xw_Run tb Rt nx lv (.ref q :: st) w' (k + 1) (n + N)) : xw_Run tb Rt pc lv st w k n :=
  rn_new h h1 h2 (fun q hq => hk q _ (xi_new hD hq))
theorem rd_newq {cA N MC MS : Nat} (A B : List (Nat × va_E)) (hD : xi_D w0 w (A ++ B)) (h : xw_lk tb pc = some (tr_newq nx cA MC MS)) (hb : N ≤ 1000) (h1 : k + 1 ≤ MC) (h2 : n + N ≤ MS) (hk : ∀ (q : Nat) (w' : xw_W), xi_D w0 w' (A ++ (q, .inl (cA, N, .inr (.inr (.inr (.inr (fun _ => none)))))) :: B) → xw_Run tb Rt nx lv (.ref q :: r) w' (k + 1) (n + N)) : xw_Run tb Rt pc lv (.int (nI N) :: r) w k n := by
  refine rn_newq h (nI_pos (by omega)) (by rw [nI_clamp (by omega)]; omega) h1 (by rw [nI_clamp (by omega)]; exact h2) (fun q hq => ?_)
  rw [nI_clamp (by omega)]
  exact hk q _ (xi_new hD hq)
theorem rd_newi {cA N MC MS : Nat} (A B : List (Nat × va_E)) (hD : xi_D w0 w (A ++ B)) (h : xw_lk tb pc = some (tr_newi nx cA MC MS)) (hb : N ≤ 1000) (h1 : k + 1 ≤ MC) (h2 : n + N ≤ MS) (hk : ∀ (q : Nat) (w' : xw_W), xi_D w0 w' (A ++ (q, .inl (cA, N, .inl (fun _ => 0))) :: B) → xw_Run tb Rt nx lv (.ref q :: r) w' (k + 1) (n + N)) : xw_Run tb Rt pc lv (.int (nI N) :: r) w k n := by
  refine rn_newi h (nI_pos (by omega)) (by rw [nI_clamp (by omega)]; omega) h1 (by rw [nI_clamp (by omega)]; exact h2) (fun q hq => ?_)
  rw [nI_clamp (by omega)]
  exact hk q _ (xi_new hD hq)
theorem rd_put {ci kf a : Nat} {ty : FieldType} {fs fs' : List Value} {u : Value} (A B : List (Nat × va_E)) (hD : xi_D w0 w (A ++ (a, .inr (ci, fs)) :: B)) (h : xw_lk tb pc = some (tr_putf nx ci kf ty)) (hl : kf < fs.length) (hf : xw_fit ty u) (hs : fs.set kf u = fs') (hk : ∀ w' : xw_W, xi_D w0 w' (A ++ (a, .inr (ci, fs')) :: B) → xw_Run tb Rt nx lv r w' k n) : xw_Run tb Rt pc lv (u :: .ref a :: r) w k n := by
  subst hs
  exact rn_putf h (xi_at hD).1 (xi_at hD).2 hl hf (hk _ (xi_put hD))
theorem rd_get {ci kf a : Nat} {fs : List Value} {u : Value} (A B : List (Nat × va_E)) (hD : xi_D w0 w (A ++ (a, .inr (ci, fs)) :: B)) (h : xw_lk tb pc = some (tr_getf nx ci kf)) (hu : fs[kf]? = some u) (hk : xw_Run tb Rt nx lv (u :: r) w k n) : xw_Run tb Rt pc lv (.ref a :: r) w k n :=
  rn_getf h (xi_at hD).1 (xi_at hD).2 hu hk
end
variable {w0 : xw_W}

set_option maxRecDepth 100000 in
set_option maxHeartbeats 4000000 in
theorem sd_init1 {x : Nat} {a b c : Int32} (hD : xi_D w0 w [(x, .inr (2, [.int 0, .int 0, .int 0, .int 0, .int 0, .int 0, .null, .int 0, .int 0, .int 0, .int 0, .int 0, .int 0, .int 0]))]) (h : ∀ w', xi_D w0 w' [(x, .inr (2, [.int a, .int b, .int c, .int (-1), .int (-1), .int 0, .null, .int 0, .int 0, .int 0, .int 0, .int 0, .int (-1), .int (-1)]))] → post none w') : ptX1_init Y [.ref x, .int a, .int b, .int c] w post := by
  refine ⟨(by first | exact Nat.le_of_ble_eq_true rfl | simp [lg_sl, xw_cat_rf, xw_cat_i, xw_cat_r, xw_cat_n, xw_cat_l]), ?_⟩
  first | refine rn_ald (lkX1_init_0 Y) rfl ?_ | refine rn_aldO (lkX1_init_0 Y) rfl ?_ | refine rn_aldN (lkX1_init_0 Y) rfl ?_
  refine rn_obj (lkX1_init_1 Y) (Nat.le_of_ble_eq_true rfl) ?_
  first | refine rn_ald (lkX1_init_4 Y) rfl ?_ | refine rn_aldO (lkX1_init_4 Y) rfl ?_ | refine rn_aldN (lkX1_init_4 Y) rfl ?_
  refine rn_push (lkX1_init_5 Y) ?_
  refine rd_put (w0 := w0) [] _ hD (lkX1_init_6 Y) (Nat.le_of_ble_eq_true rfl) (xw_fit_i _) rfl (fun w hD => ?_)
  first | refine rn_ald (lkX1_init_9 Y) rfl ?_ | refine rn_aldO (lkX1_init_9 Y) rfl ?_ | refine rn_aldN (lkX1_init_9 Y) rfl ?_
  refine rn_push (lkX1_init_10 Y) ?_
  refine rd_put (w0 := w0) [] _ hD (lkX1_init_11 Y) (Nat.le_of_ble_eq_true rfl) (xw_fit_i _) rfl (fun w hD => ?_)
  first | refine rn_ald (lkX1_init_14 Y) rfl ?_ | refine rn_aldO (lkX1_init_14 Y) rfl ?_ | refine rn_aldN (lkX1_init_14 Y) rfl ?_
  refine rn_push (lkX1_init_15 Y) ?_
  refine rd_put (w0 := w0) [] _ hD (lkX1_init_16 Y) (Nat.le_of_ble_eq_true rfl) (xw_fit_i _) rfl (fun w hD => ?_)
  first | refine rn_ald (lkX1_init_19 Y) rfl ?_ | refine rn_aldO (lkX1_init_19 Y) rfl ?_ | refine rn_aldN (lkX1_init_19 Y) rfl ?_
  refine rn_push (lkX1_init_20 Y) ?_
  refine rd_put (w0 := w0) [] _ hD (lkX1_init_21 Y) (Nat.le_of_ble_eq_true rfl) (xw_fit_i _) rfl (fun w hD => ?_)
  first | refine rn_ald (lkX1_init_24 Y) rfl ?_ | refine rn_aldO (lkX1_init_24 Y) rfl ?_ | refine rn_aldN (lkX1_init_24 Y) rfl ?_
  refine rn_ild (lkX1_init_25 Y) rfl ?_
  refine rd_put (w0 := w0) [] _ hD (lkX1_init_26 Y) (Nat.le_of_ble_eq_true rfl) (xw_fit_i _) rfl (fun w hD => ?_)
  first | refine rn_ald (lkX1_init_29 Y) rfl ?_ | refine rn_aldO (lkX1_init_29 Y) rfl ?_ | refine rn_aldN (lkX1_init_29 Y) rfl ?_
  refine rn_ild (lkX1_init_30 Y) rfl ?_
  refine rd_put (w0 := w0) [] _ hD (lkX1_init_31 Y) (Nat.le_of_ble_eq_true rfl) (xw_fit_i _) rfl (fun w hD => ?_)
  first | refine rn_ald (lkX1_init_34 Y) rfl ?_ | refine rn_aldO (lkX1_init_34 Y) rfl ?_ | refine rn_aldN (lkX1_init_34 Y) rfl ?_
  refine rn_ild (lkX1_init_35 Y) rfl ?_
  refine rd_put (w0 := w0) [] _ hD (lkX1_init_36 Y) (Nat.le_of_ble_eq_true rfl) (xw_fit_i _) rfl (fun w hD => ?_)
  refine rn_vret (lkX1_init_39 Y) ?_
  exact ⟨h _ hD, Nat.le_refl _, Nat.le_refl _⟩

set_option maxRecDepth 100000 in
set_option maxHeartbeats 4000000 in
theorem sd_init2 {x : Nat} (h : post none w) : ptX2_init Y [.ref x] w post := by
  refine ⟨(by first | exact Nat.le_of_ble_eq_true rfl | simp [lg_sl, xw_cat_rf, xw_cat_i, xw_cat_r, xw_cat_n, xw_cat_l]), ?_⟩
  first | refine rn_ald (lkX2_init_0 Y) rfl ?_ | refine rn_aldO (lkX2_init_0 Y) rfl ?_ | refine rn_aldN (lkX2_init_0 Y) rfl ?_
  refine rn_obj (lkX2_init_1 Y) (Nat.le_of_ble_eq_true rfl) ?_
  refine rn_vret (lkX2_init_4 Y) ?_
  exact ⟨h, Nat.le_refl _, Nat.le_refl _⟩

set_option maxRecDepth 100000 in
set_option maxHeartbeats 4000000 in
theorem sd_init0 {x : Nat} {a b : Int32} {L R : Option Nat} (hD : xi_D w0 w [(x, .inr (1, [.int 0, .int 0, .null, .null, .int 0, .null, .int 0, .int 0, .int 0]))]) (h : ∀ (l r : Nat) (w' : xw_W), xi_D w0 w' [(x, .inr (1, [.int a, .int b, .ref l, .ref r, .int 0, .null, .int (-1), .int 0, .int 0])), (r, .inr (3, [va_rf (R.map (ad 9)), .int 0, .int 0])), (l, .inr (3, [va_rf (L.map (ad 9)), .int 0, .int 0]))] → post none w') : ptX0_init Y [.ref x, .int a, .int b, va_rf (L.map (ad 9)), va_rf (R.map (ad 9))] w post := by
  refine ⟨(by first | exact Nat.le_of_ble_eq_true rfl | simp [lg_sl, xw_cat_rf, xw_cat_i, xw_cat_r, xw_cat_n, xw_cat_l]), ?_⟩
  rw [show lv_args 0 [.ref x, .int a, .int b, va_rf (L.map (ad 9)), va_rf (R.map (ad 9))] = [(0, .ref x), (1, .int a), (2, .int b), (3, va_rf (L.map (ad 9))), (4, va_rf (R.map (ad 9)))] from by simp [lv_args, xw_cat_rf, xw_cat_i, xw_cat_r, xw_cat_n, xw_cat_l]]
  first | refine rn_ald (lkX0_init_0 Y) rfl ?_ | refine rn_aldO (lkX0_init_0 Y) rfl ?_ | refine rn_aldN (lkX0_init_0 Y) rfl ?_
  refine rn_obj (lkX0_init_1 Y) (Nat.le_of_ble_eq_true rfl) ?_
  first | refine rn_ald (lkX0_init_4 Y) rfl ?_ | refine rn_aldO (lkX0_init_4 Y) rfl ?_ | refine rn_aldN (lkX0_init_4 Y) rfl ?_
  refine rd_new (w0 := w0) [_] _ hD (lkX0_init_5 Y) (Nat.le_of_ble_eq_true rfl) (Nat.le_of_ble_eq_true rfl) (fun l w hD => ?_)
  refine rn_dup (lkX0_init_8 Y) (by first | rfl | exact xw_cat_rf _) ?_
  refine rn_callI (lkX0_init_9 Y) rfl (Nat.le_of_ble_eq_true rfl) (Nat.le_of_ble_eq_true rfl) (Nat.le_of_ble_eq_true rfl) ?_
  refine sd_init2 ?_
  refine rd_put (w0 := w0) [] _ hD (lkX0_init_12 Y) (Nat.le_of_ble_eq_true rfl) (xw_fit_o _ (some _)) rfl (fun w hD => ?_)
  first | refine rn_ald (lkX0_init_15 Y) rfl ?_ | refine rn_aldO (lkX0_init_15 Y) rfl ?_ | refine rn_aldN (lkX0_init_15 Y) rfl ?_
  refine rd_new (w0 := w0) [_] _ hD (lkX0_init_16 Y) (Nat.le_of_ble_eq_true rfl) (Nat.le_of_ble_eq_true rfl) (fun r w hD => ?_)
  refine rn_dup (lkX0_init_19 Y) (by first | rfl | exact xw_cat_rf _) ?_
  refine rn_callI (lkX0_init_20 Y) rfl (Nat.le_of_ble_eq_true rfl) (Nat.le_of_ble_eq_true rfl) (Nat.le_of_ble_eq_true rfl) ?_
  refine sd_init2 ?_
  refine rd_put (w0 := w0) [] _ hD (lkX0_init_23 Y) (Nat.le_of_ble_eq_true rfl) (xw_fit_o _ (some _)) rfl (fun w hD => ?_)
  first | refine rn_ald (lkX0_init_26 Y) rfl ?_ | refine rn_aldO (lkX0_init_26 Y) rfl ?_ | refine rn_aldN (lkX0_init_26 Y) rfl ?_
  refine rn_push (lkX0_init_27 Y) ?_
  refine rd_put (w0 := w0) [] _ hD (lkX0_init_28 Y) (Nat.le_of_ble_eq_true rfl) (xw_fit_i _) rfl (fun w hD => ?_)
  first | refine rn_ald (lkX0_init_31 Y) rfl ?_ | refine rn_aldO (lkX0_init_31 Y) rfl ?_ | refine rn_aldN (lkX0_init_31 Y) rfl ?_
  refine rn_push (lkX0_init_32 Y) ?_
  refine rd_put (w0 := w0) [] _ hD (lkX0_init_33 Y) (Nat.le_of_ble_eq_true rfl) (xw_fit_i _) rfl (fun w hD => ?_)
  first | refine rn_ald (lkX0_init_36 Y) rfl ?_ | refine rn_aldO (lkX0_init_36 Y) rfl ?_ | refine rn_aldN (lkX0_init_36 Y) rfl ?_
  refine rn_ild (lkX0_init_37 Y) rfl ?_
  refine rd_put (w0 := w0) [] _ hD (lkX0_init_38 Y) (Nat.le_of_ble_eq_true rfl) (xw_fit_i _) rfl (fun w hD => ?_)
  first | refine rn_ald (lkX0_init_41 Y) rfl ?_ | refine rn_aldO (lkX0_init_41 Y) rfl ?_ | refine rn_aldN (lkX0_init_41 Y) rfl ?_
  refine rn_ild (lkX0_init_42 Y) rfl ?_
  refine rd_put (w0 := w0) [] _ hD (lkX0_init_43 Y) (Nat.le_of_ble_eq_true rfl) (xw_fit_i _) rfl (fun w hD => ?_)
  first | refine rn_ald (lkX0_init_46 Y) rfl ?_ | refine rn_aldO (lkX0_init_46 Y) rfl ?_ | refine rn_aldN (lkX0_init_46 Y) rfl ?_
  refine rd_get (w0 := w0) [] _ hD (lkX0_init_47 Y) rfl ?_
  first | refine rn_ald (lkX0_init_50 Y) rfl ?_ | refine rn_aldO (lkX0_init_50 Y) rfl ?_ | refine rn_aldN (lkX0_init_50 Y) rfl ?_
  refine rd_put (w0 := w0) [_, _] _ hD (lkX0_init_51 Y) (Nat.le_of_ble_eq_true rfl) (xw_fit_o _ _) rfl (fun w hD => ?_)
  first | refine rn_ald (lkX0_init_54 Y) rfl ?_ | refine rn_aldO (lkX0_init_54 Y) rfl ?_ | refine rn_aldN (lkX0_init_54 Y) rfl ?_
  refine rd_get (w0 := w0) [] _ hD (lkX0_init_55 Y) rfl ?_
  first | refine rn_ald (lkX0_init_58 Y) rfl ?_ | refine rn_aldO (lkX0_init_58 Y) rfl ?_ | refine rn_aldN (lkX0_init_58 Y) rfl ?_
  refine rd_put (w0 := w0) [_] _ hD (lkX0_init_60 Y) (Nat.le_of_ble_eq_true rfl) (xw_fit_o _ _) rfl (fun w hD => ?_)
  refine rn_vret (lkX0_init_63 Y) ?_
  exact ⟨h _ _ _ hD, Nat.le_of_ble_eq_true rfl, Nat.le_of_ble_eq_true rfl⟩

set_option maxRecDepth 100000 in
set_option maxHeartbeats 4000000 in
theorem sd_initJ2 {x : Nat} (h : post none w) : ptJxa1e45_init_da8c8 Y [.ref x] w post := by
  refine ⟨(by first | exact Nat.le_of_ble_eq_true rfl | simp [lg_sl, xw_cat_rf, xw_cat_i, xw_cat_r, xw_cat_n, xw_cat_l]), ?_⟩
  first | refine rn_ald (lkJxa1e45_init_da8c8_0 Y) rfl ?_ | refine rn_aldO (lkJxa1e45_init_da8c8_0 Y) rfl ?_ | refine rn_aldN (lkJxa1e45_init_da8c8_0 Y) rfl ?_
  refine rn_obj (lkJxa1e45_init_da8c8_1 Y) (Nat.le_of_ble_eq_true rfl) ?_
  refine rn_vret (lkJxa1e45_init_da8c8_4 Y) ?_
  exact ⟨h, Nat.le_refl _, Nat.le_refl _⟩

set_option maxRecDepth 100000 in
set_option maxHeartbeats 4000000 in
theorem sd_initJ1 {x : Nat} {p : Nat × va_E} {B : List (Nat × va_E)} {u v : Value} (hD : xi_D w0 w (p :: (x, .inr (0, [.int 0, u, v])) :: B)) (h : ∀ w', xi_D w0 w' (p :: (x, .inr (0, [.int 0, u, v])) :: B) → post none w') : ptJxc12de_init_da8c8 Y [.ref x] w post := by
  refine ⟨(by first | exact Nat.le_of_ble_eq_true rfl | simp [lg_sl, xw_cat_rf, xw_cat_i, xw_cat_r, xw_cat_n, xw_cat_l]), ?_⟩
  first | refine rn_ald (lkJxc12de_init_da8c8_0 Y) rfl ?_ | refine rn_aldO (lkJxc12de_init_da8c8_0 Y) rfl ?_ | refine rn_aldN (lkJxc12de_init_da8c8_0 Y) rfl ?_
  refine rn_callI (lkJxc12de_init_da8c8_1 Y) rfl (Nat.le_of_ble_eq_true rfl) (Nat.le_of_ble_eq_true rfl) (Nat.le_of_ble_eq_true rfl) ?_
  refine sd_initJ2 ?_
  first | refine rn_ald (lkJxc12de_init_da8c8_4 Y) rfl ?_ | refine rn_aldO (lkJxc12de_init_da8c8_4 Y) rfl ?_ | refine rn_aldN (lkJxc12de_init_da8c8_4 Y) rfl ?_
  refine rn_push (lkJxc12de_init_da8c8_5 Y) ?_
  refine rd_put (w0 := w0) [p] _ hD (lkJxc12de_init_da8c8_6 Y) (Nat.le_of_ble_eq_true rfl) (xw_fit_i _) rfl (fun w hD => ?_)
  refine rn_vret (lkJxc12de_init_da8c8_9 Y) ?_
  exact ⟨h _ hD, Nat.le_refl _, Nat.le_refl _⟩

set_option maxRecDepth 100000 in
set_option maxHeartbeats 4000000 in
theorem sd_initJ {x : Nat} {p : Nat × va_E} {B : List (Nat × va_E)} (hD : xi_D w0 w (p :: (x, .inr (0, [.int 0, .null, .int 0])) :: B)) (h : ∀ w', xi_D w0 w' (p :: (x, .inr (0, [.int 0, .ref Y.1.1.1, .int 0])) :: B) → post none w') : ptJx4a65c_init_da8c8 Y [.ref x] w post := by
  refine ⟨(by first | exact Nat.le_of_ble_eq_true rfl | simp [lg_sl, xw_cat_rf, xw_cat_i, xw_cat_r, xw_cat_n, xw_cat_l]), ?_⟩
  first | refine rn_ald (lkJx4a65c_init_da8c8_0 Y) rfl ?_ | refine rn_aldO (lkJx4a65c_init_da8c8_0 Y) rfl ?_ | refine rn_aldN (lkJx4a65c_init_da8c8_0 Y) rfl ?_
  refine rn_callI (lkJx4a65c_init_da8c8_1 Y) rfl (Nat.le_of_ble_eq_true rfl) (Nat.le_of_ble_eq_true rfl) (Nat.le_of_ble_eq_true rfl) ?_
  refine sd_initJ1 hD (fun w hD => ?_)
  first | refine rn_ald (lkJx4a65c_init_da8c8_4 Y) rfl ?_ | refine rn_aldO (lkJx4a65c_init_da8c8_4 Y) rfl ?_ | refine rn_aldN (lkJx4a65c_init_da8c8_4 Y) rfl ?_
  refine rn_gets (lkJx4a65c_init_da8c8_5 Y) ?_
  refine rd_put (w0 := w0) [p] _ hD (lkJx4a65c_init_da8c8_8 Y) (Nat.le_of_ble_eq_true rfl) (xw_fit_a _ (some _)) rfl (fun w hD => ?_)
  refine rn_vret (lkJx4a65c_init_da8c8_11 Y) ?_
  exact ⟨h _ hD, Nat.le_refl _, Nat.le_refl _⟩

end XCA
