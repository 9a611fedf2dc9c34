/-! THE OBJECT, on: hits, cards, time -/
section XM8
theorem mo_decided_01 (s : xq_S) (b : Nat) : mo_decided s b = 0 ∨ mo_decided s b = 1 := by
  unfold mo_decided
  split
  · exact Or.inr rfl
  · exact Or.inl rfl
theorem mo_periods_13 (s : xq_S) (b : Nat) : mo_periods s b = nI 1 ∨ mo_periods s b = nI 3 := by
  unfold mo_periods
  split
  · exact Or.inl rfl
  · exact Or.inr rfl
end XM8
section XC8
variable {Y : xw_Y} {ad : Nat → Nat → Nat} {s : xq_S} {w : xw_W} {post : Option Value → xw_W → Prop}

set_option maxRecDepth 100000 in
set_option maxHeartbeats 4000000 in
theorem lp_goOn {b : Nat} {Rt : xw_R} : ∀ (n : Nat) (s : xq_S) (w : xw_W) (p : Nat) (more : Int32), xq_rp Y ad s w → b < s.2.1 → xq_i s 1007 b = nI p → p + n ≤ 100 → 4 ≤ p + n → (∀ w', xq_rp Y ad (mo_goOn n s b more) w' → Rt none w' 0 0) → ∀ lv : xw_L, xw_lk lv 0 = some (.ref (ad 10 b)) → xw_lk lv 2 = some (.int more) → xw_Run (tbX0_goOn Y) Rt 2 lv [] w 0 0 := by
  intro n
  induction n with
  | zero =>
    intro s w p more hR hb hp hp2 hp4 h lv hl0 hl2
    have hv10 : xq_vl ad s 10 b := xq_v10 hb
    refine rn_ild (lkX0_goOn_2 Y) (by repeat (first | assumption | exact xw_lk_e _ _ _ | exact xw_lk_e2 _ _ _ | refine xw_lk_s (by decide) (by first | exact Or.inl rfl | exact Or.inl (xw_cat_rf _) | exact Or.inr (by decide)) ?_ | refine xw_lk_s2 (by decide) (by decide) (by first | exact Or.inl rfl | exact Or.inl (xw_cat_rf _) | exact Or.inr (by decide)) ?_)) ?_
    first | refine rn_ald (lkX0_goOn_3 Y) (by repeat (first | assumption | exact xw_lk_e _ _ _ | exact xw_lk_e2 _ _ _ | refine xw_lk_s (by decide) (by first | exact Or.inl rfl | exact Or.inl (xw_cat_rf _) | exact Or.inr (by decide)) ?_ | refine xw_lk_s2 (by decide) (by decide) (by first | exact Or.inl rfl | exact Or.inl (xw_cat_rf _) | exact Or.inr (by decide)) ?_)) ?_ | refine rn_aldO (lkX0_goOn_3 Y) (by repeat (first | assumption | exact xw_lk_e _ _ _ | exact xw_lk_e2 _ _ _ | refine xw_lk_s (by decide) (by first | exact Or.inl rfl | exact Or.inl (xw_cat_rf _) | exact Or.inr (by decide)) ?_ | refine xw_lk_s2 (by decide) (by decide) (by first | exact Or.inl rfl | exact Or.inl (xw_cat_rf _) | exact Or.inr (by decide)) ?_)) ?_ | refine rn_aldN (lkX0_goOn_3 Y) (by repeat (first | assumption | exact xw_lk_e _ _ _ | exact xw_lk_e2 _ _ _ | refine xw_lk_s (by decide) (by first | exact Or.inl rfl | exact Or.inl (xw_cat_rf _) | exact Or.inr (by decide)) ?_ | refine xw_lk_s2 (by decide) (by decide) (by first | exact Or.inl rfl | exact Or.inl (xw_cat_rf _) | exact Or.inr (by decide)) ?_)) ?_
    refine rp_getf hR (lkX0_goOn_4 Y) (by first | assumption | exact xq_v0 (by decide)) rfl rfl ?_
    refine rn_ifc (lkX0_goOn_7 Y) (fun c_7 => ?_) (fun c_7 => ?_)
    · try dsimp only at c_7
      first | refine rn_ald (lkX0_goOn_60 Y) (by repeat (first | assumption | exact xw_lk_e _ _ _ | exact xw_lk_e2 _ _ _ | refine xw_lk_s (by decide) (by first | exact Or.inl rfl | exact Or.inl (xw_cat_rf _) | exact Or.inr (by decide)) ?_ | refine xw_lk_s2 (by decide) (by decide) (by first | exact Or.inl rfl | exact Or.inl (xw_cat_rf _) | exact Or.inr (by decide)) ?_)) ?_ | refine rn_aldO (lkX0_goOn_60 Y) (by repeat (first | assumption | exact xw_lk_e _ _ _ | exact xw_lk_e2 _ _ _ | refine xw_lk_s (by decide) (by first | exact Or.inl rfl | exact Or.inl (xw_cat_rf _) | exact Or.inr (by decide)) ?_ | refine xw_lk_s2 (by decide) (by decide) (by first | exact Or.inl rfl | exact Or.inl (xw_cat_rf _) | exact Or.inr (by decide)) ?_)) ?_ | refine rn_aldN (lkX0_goOn_60 Y) (by repeat (first | assumption | exact xw_lk_e _ _ _ | exact xw_lk_e2 _ _ _ | refine xw_lk_s (by decide) (by first | exact Or.inl rfl | exact Or.inl (xw_cat_rf _) | exact Or.inr (by decide)) ?_ | refine xw_lk_s2 (by decide) (by decide) (by first | exact Or.inl rfl | exact Or.inl (xw_cat_rf _) | exact Or.inr (by decide)) ?_)) ?_
      refine rn_dup (lkX0_goOn_61 Y) (by first | rfl | exact xw_cat_rf _) ?_
      refine rp_getf hR (lkX0_goOn_62 Y) (by first | assumption | exact xq_v0 (by decide)) rfl rfl ?_
      refine rn_ild (lkX0_goOn_65 Y) (by repeat (first | assumption | exact xw_lk_e _ _ _ | exact xw_lk_e2 _ _ _ | refine xw_lk_s (by decide) (by first | exact Or.inl rfl | exact Or.inl (xw_cat_rf _) | exact Or.inr (by decide)) ?_ | refine xw_lk_s2 (by decide) (by decide) (by first | exact Or.inl rfl | exact Or.inl (xw_cat_rf _) | exact Or.inr (by decide)) ?_)) ?_
      refine rn_i2 (lkX0_goOn_66 Y) ?_
      refine rp_puti (c := 1008) hR (lkX0_goOn_67 Y) (by first | assumption | exact xq_v0 (by decide)) rfl (Nat.le_of_ble_eq_true rfl) (xw_fit_i _) rfl (fun q => absurd q (by decide)) (by simp [xq_en, xq_i_i, xq_r_i]) (fun w hR => ?_)
      refine rn_vret (lkX0_goOn_70 Y) ?_
      exact h _ hR
    · try dsimp only at c_7
      first | refine rn_ald (lkX0_goOn_10 Y) (by repeat (first | assumption | exact xw_lk_e _ _ _ | exact xw_lk_e2 _ _ _ | refine xw_lk_s (by decide) (by first | exact Or.inl rfl | exact Or.inl (xw_cat_rf _) | exact Or.inr (by decide)) ?_ | refine xw_lk_s2 (by decide) (by decide) (by first | exact Or.inl rfl | exact Or.inl (xw_cat_rf _) | exact Or.inr (by decide)) ?_)) ?_ | refine rn_aldO (lkX0_goOn_10 Y) (by repeat (first | assumption | exact xw_lk_e _ _ _ | exact xw_lk_e2 _ _ _ | refine xw_lk_s (by decide) (by first | exact Or.inl rfl | exact Or.inl (xw_cat_rf _) | exact Or.inr (by decide)) ?_ | refine xw_lk_s2 (by decide) (by decide) (by first | exact Or.inl rfl | exact Or.inl (xw_cat_rf _) | exact Or.inr (by decide)) ?_)) ?_ | refine rn_aldN (lkX0_goOn_10 Y) (by repeat (first | assumption | exact xw_lk_e _ _ _ | exact xw_lk_e2 _ _ _ | refine xw_lk_s (by decide) (by first | exact Or.inl rfl | exact Or.inl (xw_cat_rf _) | exact Or.inr (by decide)) ?_ | refine xw_lk_s2 (by decide) (by decide) (by first | exact Or.inl rfl | exact Or.inl (xw_cat_rf _) | exact Or.inr (by decide)) ?_)) ?_
      refine rp_getf hR (lkX0_goOn_11 Y) (by first | assumption | exact xq_v0 (by decide)) rfl rfl ?_
      first | refine rn_ald (lkX0_goOn_14 Y) (by repeat (first | assumption | exact xw_lk_e _ _ _ | exact xw_lk_e2 _ _ _ | refine xw_lk_s (by decide) (by first | exact Or.inl rfl | exact Or.inl (xw_cat_rf _) | exact Or.inr (by decide)) ?_ | refine xw_lk_s2 (by decide) (by decide) (by first | exact Or.inl rfl | exact Or.inl (xw_cat_rf _) | exact Or.inr (by decide)) ?_)) ?_ | refine rn_aldO (lkX0_goOn_14 Y) (by repeat (first | assumption | exact xw_lk_e _ _ _ | exact xw_lk_e2 _ _ _ | refine xw_lk_s (by decide) (by first | exact Or.inl rfl | exact Or.inl (xw_cat_rf _) | exact Or.inr (by decide)) ?_ | refine xw_lk_s2 (by decide) (by decide) (by first | exact Or.inl rfl | exact Or.inl (xw_cat_rf _) | exact Or.inr (by decide)) ?_)) ?_ | refine rn_aldN (lkX0_goOn_14 Y) (by repeat (first | assumption | exact xw_lk_e _ _ _ | exact xw_lk_e2 _ _ _ | refine xw_lk_s (by decide) (by first | exact Or.inl rfl | exact Or.inl (xw_cat_rf _) | exact Or.inr (by decide)) ?_ | refine xw_lk_s2 (by decide) (by decide) (by first | exact Or.inl rfl | exact Or.inl (xw_cat_rf _) | exact Or.inr (by decide)) ?_)) ?_
      refine rp_callV hR (lkX0_goOn_15 Y) rfl (by first | assumption | exact xq_v0 (by decide)) rfl (Nat.le_of_ble_eq_true rfl) (Nat.le_of_ble_eq_true rfl) (Nat.le_of_ble_eq_true rfl) ?_
      refine sc_periods hR hb ?_
      refine rn_ifc (lkX0_goOn_18 Y) (fun _ => ?_) (fun q => absurd (by
      show mo_periods s b < xq_i s 1007 b
      rw [hp]
      rcases mo_periods_13 s b with q | q
      · rw [q]; exact nI_lt (by omega) (by omega)
      · rw [q]; exact nI_lt (by omega) (by omega)) q)
      first | refine rn_ald (lkX0_goOn_60 Y) (by repeat (first | assumption | exact xw_lk_e _ _ _ | exact xw_lk_e2 _ _ _ | refine xw_lk_s (by decide) (by first | exact Or.inl rfl | exact Or.inl (xw_cat_rf _) | exact Or.inr (by decide)) ?_ | refine xw_lk_s2 (by decide) (by decide) (by first | exact Or.inl rfl | exact Or.inl (xw_cat_rf _) | exact Or.inr (by decide)) ?_)) ?_ | refine rn_aldO (lkX0_goOn_60 Y) (by repeat (first | assumption | exact xw_lk_e _ _ _ | exact xw_lk_e2 _ _ _ | refine xw_lk_s (by decide) (by first | exact Or.inl rfl | exact Or.inl (xw_cat_rf _) | exact Or.inr (by decide)) ?_ | refine xw_lk_s2 (by decide) (by decide) (by first | exact Or.inl rfl | exact Or.inl (xw_cat_rf _) | exact Or.inr (by decide)) ?_)) ?_ | refine rn_aldN (lkX0_goOn_60 Y) (by repeat (first | assumption | exact xw_lk_e _ _ _ | exact xw_lk_e2 _ _ _ | refine xw_lk_s (by decide) (by first | exact Or.inl rfl | exact Or.inl (xw_cat_rf _) | exact Or.inr (by decide)) ?_ | refine xw_lk_s2 (by decide) (by decide) (by first | exact Or.inl rfl | exact Or.inl (xw_cat_rf _) | exact Or.inr (by decide)) ?_)) ?_
      refine rn_dup (lkX0_goOn_61 Y) (by first | rfl | exact xw_cat_rf _) ?_
      refine rp_getf hR (lkX0_goOn_62 Y) (by first | assumption | exact xq_v0 (by decide)) rfl rfl ?_
      refine rn_ild (lkX0_goOn_65 Y) (by repeat (first | assumption | exact xw_lk_e _ _ _ | exact xw_lk_e2 _ _ _ | refine xw_lk_s (by decide) (by first | exact Or.inl rfl | exact Or.inl (xw_cat_rf _) | exact Or.inr (by decide)) ?_ | refine xw_lk_s2 (by decide) (by decide) (by first | exact Or.inl rfl | exact Or.inl (xw_cat_rf _) | exact Or.inr (by decide)) ?_)) ?_
      refine rn_i2 (lkX0_goOn_66 Y) ?_
      refine rp_puti (c := 1008) hR (lkX0_goOn_67 Y) (by first | assumption | exact xq_v0 (by decide)) rfl (Nat.le_of_ble_eq_true rfl) (xw_fit_i _) rfl (fun q => absurd q (by decide)) (by simp [xq_en, xq_i_i, xq_r_i]) (fun w hR => ?_)
      refine rn_vret (lkX0_goOn_70 Y) ?_
      exact h _ hR
  | succ n ih =>
    intro s w p more hR hb hp hp2 hp4 h lv hl0 hl2
    have hv10 : xq_vl ad s 10 b := xq_v10 hb
    refine rn_ild (lkX0_goOn_2 Y) (by repeat (first | assumption | exact xw_lk_e _ _ _ | exact xw_lk_e2 _ _ _ | refine xw_lk_s (by decide) (by first | exact Or.inl rfl | exact Or.inl (xw_cat_rf _) | exact Or.inr (by decide)) ?_ | refine xw_lk_s2 (by decide) (by decide) (by first | exact Or.inl rfl | exact Or.inl (xw_cat_rf _) | exact Or.inr (by decide)) ?_)) ?_
    first | refine rn_ald (lkX0_goOn_3 Y) (by repeat (first | assumption | exact xw_lk_e _ _ _ | exact xw_lk_e2 _ _ _ | refine xw_lk_s (by decide) (by first | exact Or.inl rfl | exact Or.inl (xw_cat_rf _) | exact Or.inr (by decide)) ?_ | refine xw_lk_s2 (by decide) (by decide) (by first | exact Or.inl rfl | exact Or.inl (xw_cat_rf _) | exact Or.inr (by decide)) ?_)) ?_ | refine rn_aldO (lkX0_goOn_3 Y) (by repeat (first | assumption | exact xw_lk_e _ _ _ | exact xw_lk_e2 _ _ _ | refine xw_lk_s (by decide) (by first | exact Or.inl rfl | exact Or.inl (xw_cat_rf _) | exact Or.inr (by decide)) ?_ | refine xw_lk_s2 (by decide) (by decide) (by first | exact Or.inl rfl | exact Or.inl (xw_cat_rf _) | exact Or.inr (by decide)) ?_)) ?_ | refine rn_aldN (lkX0_goOn_3 Y) (by repeat (first | assumption | exact xw_lk_e _ _ _ | exact xw_lk_e2 _ _ _ | refine xw_lk_s (by decide) (by first | exact Or.inl rfl | exact Or.inl (xw_cat_rf _) | exact Or.inr (by decide)) ?_ | refine xw_lk_s2 (by decide) (by decide) (by first | exact Or.inl rfl | exact Or.inl (xw_cat_rf _) | exact Or.inr (by decide)) ?_)) ?_
    refine rp_getf hR (lkX0_goOn_4 Y) (by first | assumption | exact xq_v0 (by decide)) rfl rfl ?_
    by_cases hq1 : more < xq_i s 1008 b
    · rw [mo_goOn, if_pos hq1] at h
      refine rn_ifc (lkX0_goOn_7 Y) (fun _ => ?_) (fun q => absurd hq1 q)
      first | refine rn_ald (lkX0_goOn_60 Y) (by repeat (first | assumption | exact xw_lk_e _ _ _ | exact xw_lk_e2 _ _ _ | refine xw_lk_s (by decide) (by first | exact Or.inl rfl | exact Or.inl (xw_cat_rf _) | exact Or.inr (by decide)) ?_ | refine xw_lk_s2 (by decide) (by decide) (by first | exact Or.inl rfl | exact Or.inl (xw_cat_rf _) | exact Or.inr (by decide)) ?_)) ?_ | refine rn_aldO (lkX0_goOn_60 Y) (by repeat (first | assumption | exact xw_lk_e _ _ _ | exact xw_lk_e2 _ _ _ | refine xw_lk_s (by decide) (by first | exact Or.inl rfl | exact Or.inl (xw_cat_rf _) | exact Or.inr (by decide)) ?_ | refine xw_lk_s2 (by decide) (by decide) (by first | exact Or.inl rfl | exact Or.inl (xw_cat_rf _) | exact Or.inr (by decide)) ?_)) ?_ | refine rn_aldN (lkX0_goOn_60 Y) (by repeat (first | assumption | exact xw_lk_e _ _ _ | exact xw_lk_e2 _ _ _ | refine xw_lk_s (by decide) (by first | exact Or.inl rfl | exact Or.inl (xw_cat_rf _) | exact Or.inr (by decide)) ?_ | refine xw_lk_s2 (by decide) (by decide) (by first | exact Or.inl rfl | exact Or.inl (xw_cat_rf _) | exact Or.inr (by decide)) ?_)) ?_
      refine rn_dup (lkX0_goOn_61 Y) (by first | rfl | exact xw_cat_rf _) ?_
      refine rp_getf hR (lkX0_goOn_62 Y) (by first | assumption | exact xq_v0 (by decide)) rfl rfl ?_
      refine rn_ild (lkX0_goOn_65 Y) (by repeat (first | assumption | exact xw_lk_e _ _ _ | exact xw_lk_e2 _ _ _ | refine xw_lk_s (by decide) (by first | exact Or.inl rfl | exact Or.inl (xw_cat_rf _) | exact Or.inr (by decide)) ?_ | refine xw_lk_s2 (by decide) (by decide) (by first | exact Or.inl rfl | exact Or.inl (xw_cat_rf _) | exact Or.inr (by decide)) ?_)) ?_
      refine rn_i2 (lkX0_goOn_66 Y) ?_
      refine rp_puti (c := 1008) hR (lkX0_goOn_67 Y) (by first | assumption | exact xq_v0 (by decide)) rfl (Nat.le_of_ble_eq_true rfl) (xw_fit_i _) rfl (fun q => absurd q (by decide)) (by simp [xq_en, xq_i_i, xq_r_i]) (fun w hR => ?_)
      refine rn_vret (lkX0_goOn_70 Y) ?_
      exact h _ hR
    · skip
      refine rn_ifc (lkX0_goOn_7 Y) (fun q => absurd q hq1) (fun _ => ?_)
      first | refine rn_ald (lkX0_goOn_10 Y) (by repeat (first | assumption | exact xw_lk_e _ _ _ | exact xw_lk_e2 _ _ _ | refine xw_lk_s (by decide) (by first | exact Or.inl rfl | exact Or.inl (xw_cat_rf _) | exact Or.inr (by decide)) ?_ | refine xw_lk_s2 (by decide) (by decide) (by first | exact Or.inl rfl | exact Or.inl (xw_cat_rf _) | exact Or.inr (by decide)) ?_)) ?_ | refine rn_aldO (lkX0_goOn_10 Y) (by repeat (first | assumption | exact xw_lk_e _ _ _ | exact xw_lk_e2 _ _ _ | refine xw_lk_s (by decide) (by first | exact Or.inl rfl | exact Or.inl (xw_cat_rf _) | exact Or.inr (by decide)) ?_ | refine xw_lk_s2 (by decide) (by decide) (by first | exact Or.inl rfl | exact Or.inl (xw_cat_rf _) | exact Or.inr (by decide)) ?_)) ?_ | refine rn_aldN (lkX0_goOn_10 Y) (by repeat (first | assumption | exact xw_lk_e _ _ _ | exact xw_lk_e2 _ _ _ | refine xw_lk_s (by decide) (by first | exact Or.inl rfl | exact Or.inl (xw_cat_rf _) | exact Or.inr (by decide)) ?_ | refine xw_lk_s2 (by decide) (by decide) (by first | exact Or.inl rfl | exact Or.inl (xw_cat_rf _) | exact Or.inr (by decide)) ?_)) ?_
      refine rp_getf hR (lkX0_goOn_11 Y) (by first | assumption | exact xq_v0 (by decide)) rfl rfl ?_
      first | refine rn_ald (lkX0_goOn_14 Y) (by repeat (first | assumption | exact xw_lk_e _ _ _ | exact xw_lk_e2 _ _ _ | refine xw_lk_s (by decide) (by first | exact Or.inl rfl | exact Or.inl (xw_cat_rf _) | exact Or.inr (by decide)) ?_ | refine xw_lk_s2 (by decide) (by decide) (by first | exact Or.inl rfl | exact Or.inl (xw_cat_rf _) | exact Or.inr (by decide)) ?_)) ?_ | refine rn_aldO (lkX0_goOn_14 Y) (by repeat (first | assumption | exact xw_lk_e _ _ _ | exact xw_lk_e2 _ _ _ | refine xw_lk_s (by decide) (by first | exact Or.inl rfl | exact Or.inl (xw_cat_rf _) | exact Or.inr (by decide)) ?_ | refine xw_lk_s2 (by decide) (by decide) (by first | exact Or.inl rfl | exact Or.inl (xw_cat_rf _) | exact Or.inr (by decide)) ?_)) ?_ | refine rn_aldN (lkX0_goOn_14 Y) (by repeat (first | assumption | exact xw_lk_e _ _ _ | exact xw_lk_e2 _ _ _ | refine xw_lk_s (by decide) (by first | exact Or.inl rfl | exact Or.inl (xw_cat_rf _) | exact Or.inr (by decide)) ?_ | refine xw_lk_s2 (by decide) (by decide) (by first | exact Or.inl rfl | exact Or.inl (xw_cat_rf _) | exact Or.inr (by decide)) ?_)) ?_
      refine rp_callV hR (lkX0_goOn_15 Y) rfl (by first | assumption | exact xq_v0 (by decide)) rfl (Nat.le_of_ble_eq_true rfl) (Nat.le_of_ble_eq_true rfl) (Nat.le_of_ble_eq_true rfl) ?_
      refine sc_periods hR hb ?_
      by_cases hq2 : mo_periods s b < xq_i s 1007 b
      · rw [mo_goOn, if_neg hq1, if_pos hq2] at h
        refine rn_ifc (lkX0_goOn_18 Y) (fun _ => ?_) (fun q => absurd hq2 q)
        first | refine rn_ald (lkX0_goOn_60 Y) (by repeat (first | assumption | exact xw_lk_e _ _ _ | exact xw_lk_e2 _ _ _ | refine xw_lk_s (by decide) (by first | exact Or.inl rfl | exact Or.inl (xw_cat_rf _) | exact Or.inr (by decide)) ?_ | refine xw_lk_s2 (by decide) (by decide) (by first | exact Or.inl rfl | exact Or.inl (xw_cat_rf _) | exact Or.inr (by decide)) ?_)) ?_ | refine rn_aldO (lkX0_goOn_60 Y) (by repeat (first | assumption | exact xw_lk_e _ _ _ | exact xw_lk_e2 _ _ _ | refine xw_lk_s (by decide) (by first | exact Or.inl rfl | exact Or.inl (xw_cat_rf _) | exact Or.inr (by decide)) ?_ | refine xw_lk_s2 (by decide) (by decide) (by first | exact Or.inl rfl | exact Or.inl (xw_cat_rf _) | exact Or.inr (by decide)) ?_)) ?_ | refine rn_aldN (lkX0_goOn_60 Y) (by repeat (first | assumption | exact xw_lk_e _ _ _ | exact xw_lk_e2 _ _ _ | refine xw_lk_s (by decide) (by first | exact Or.inl rfl | exact Or.inl (xw_cat_rf _) | exact Or.inr (by decide)) ?_ | refine xw_lk_s2 (by decide) (by decide) (by first | exact Or.inl rfl | exact Or.inl (xw_cat_rf _) | exact Or.inr (by decide)) ?_)) ?_
        refine rn_dup (lkX0_goOn_61 Y) (by first | rfl | exact xw_cat_rf _) ?_
        refine rp_getf hR (lkX0_goOn_62 Y) (by first | assumption | exact xq_v0 (by decide)) rfl rfl ?_
        refine rn_ild (lkX0_goOn_65 Y) (by repeat (first | assumption | exact xw_lk_e _ _ _ | exact xw_lk_e2 _ _ _ | refine xw_lk_s (by decide) (by first | exact Or.inl rfl | exact Or.inl (xw_cat_rf _) | exact Or.inr (by decide)) ?_ | refine xw_lk_s2 (by decide) (by decide) (by first | exact Or.inl rfl | exact Or.inl (xw_cat_rf _) | exact Or.inr (by decide)) ?_)) ?_
        refine rn_i2 (lkX0_goOn_66 Y) ?_
        refine rp_puti (c := 1008) hR (lkX0_goOn_67 Y) (by first | assumption | exact xq_v0 (by decide)) rfl (Nat.le_of_ble_eq_true rfl) (xw_fit_i _) rfl (fun q => absurd q (by decide)) (by simp [xq_en, xq_i_i, xq_r_i]) (fun w hR => ?_)
        refine rn_vret (lkX0_goOn_70 Y) ?_
        exact h _ hR
      · skip
        refine rn_ifc (lkX0_goOn_18 Y) (fun q => absurd q hq2) (fun _ => ?_)
        refine rn_ild (lkX0_goOn_21 Y) (by repeat (first | assumption | exact xw_lk_e _ _ _ | exact xw_lk_e2 _ _ _ | refine xw_lk_s (by decide) (by first | exact Or.inl rfl | exact Or.inl (xw_cat_rf _) | exact Or.inr (by decide)) ?_ | refine xw_lk_s2 (by decide) (by decide) (by first | exact Or.inl rfl | exact Or.inl (xw_cat_rf _) | exact Or.inr (by decide)) ?_)) ?_
        first | refine rn_ald (lkX0_goOn_22 Y) (by repeat (first | assumption | exact xw_lk_e _ _ _ | exact xw_lk_e2 _ _ _ | refine xw_lk_s (by decide) (by first | exact Or.inl rfl | exact Or.inl (xw_cat_rf _) | exact Or.inr (by decide)) ?_ | refine xw_lk_s2 (by decide) (by decide) (by first | exact Or.inl rfl | exact Or.inl (xw_cat_rf _) | exact Or.inr (by decide)) ?_)) ?_ | refine rn_aldO (lkX0_goOn_22 Y) (by repeat (first | assumption | exact xw_lk_e _ _ _ | exact xw_lk_e2 _ _ _ | refine xw_lk_s (by decide) (by first | exact Or.inl rfl | exact Or.inl (xw_cat_rf _) | exact Or.inr (by decide)) ?_ | refine xw_lk_s2 (by decide) (by decide) (by first | exact Or.inl rfl | exact Or.inl (xw_cat_rf _) | exact Or.inr (by decide)) ?_)) ?_ | refine rn_aldN (lkX0_goOn_22 Y) (by repeat (first | assumption | exact xw_lk_e _ _ _ | exact xw_lk_e2 _ _ _ | refine xw_lk_s (by decide) (by first | exact Or.inl rfl | exact Or.inl (xw_cat_rf _) | exact Or.inr (by decide)) ?_ | refine xw_lk_s2 (by decide) (by decide) (by first | exact Or.inl rfl | exact Or.inl (xw_cat_rf _) | exact Or.inr (by decide)) ?_)) ?_
        refine rp_getf hR (lkX0_goOn_23 Y) (by first | assumption | exact xq_v0 (by decide)) rfl rfl ?_
        refine rn_i2 (lkX0_goOn_26 Y) ?_
        refine rn_ist (lkX0_goOn_27 Y) rfl ?_
        first | refine rn_ald (lkX0_goOn_28 Y) (by repeat (first | assumption | exact xw_lk_e _ _ _ | exact xw_lk_e2 _ _ _ | refine xw_lk_s (by decide) (by first | exact Or.inl rfl | exact Or.inl (xw_cat_rf _) | exact Or.inr (by decide)) ?_ | refine xw_lk_s2 (by decide) (by decide) (by first | exact Or.inl rfl | exact Or.inl (xw_cat_rf _) | exact Or.inr (by decide)) ?_)) ?_ | refine rn_aldO (lkX0_goOn_28 Y) (by repeat (first | assumption | exact xw_lk_e _ _ _ | exact xw_lk_e2 _ _ _ | refine xw_lk_s (by decide) (by first | exact Or.inl rfl | exact Or.inl (xw_cat_rf _) | exact Or.inr (by decide)) ?_ | refine xw_lk_s2 (by decide) (by decide) (by first | exact Or.inl rfl | exact Or.inl (xw_cat_rf _) | exact Or.inr (by decide)) ?_)) ?_ | refine rn_aldN (lkX0_goOn_28 Y) (by repeat (first | assumption | exact xw_lk_e _ _ _ | exact xw_lk_e2 _ _ _ | refine xw_lk_s (by decide) (by first | exact Or.inl rfl | exact Or.inl (xw_cat_rf _) | exact Or.inr (by decide)) ?_ | refine xw_lk_s2 (by decide) (by decide) (by first | exact Or.inl rfl | exact Or.inl (xw_cat_rf _) | exact Or.inr (by decide)) ?_)) ?_
        refine rn_dup (lkX0_goOn_29 Y) (by first | rfl | exact xw_cat_rf _) ?_
        refine rp_getf hR (lkX0_goOn_30 Y) (by first | assumption | exact xq_v0 (by decide)) rfl rfl ?_
        refine rn_push (lkX0_goOn_33 Y) ?_
        refine rn_i2 (lkX0_goOn_34 Y) ?_
        refine rp_puti (c := 1007) hR (lkX0_goOn_35 Y) (by first | assumption | exact xq_v0 (by decide)) rfl (Nat.le_of_ble_eq_true rfl) (xw_fit_i _) rfl (fun q => absurd q (by decide)) (by simp [xq_en, xq_i_i, xq_r_i]) (fun w hR => ?_)
        first | refine rn_ald (lkX0_goOn_38 Y) (by repeat (first | assumption | exact xw_lk_e _ _ _ | exact xw_lk_e2 _ _ _ | refine xw_lk_s (by decide) (by first | exact Or.inl rfl | exact Or.inl (xw_cat_rf _) | exact Or.inr (by decide)) ?_ | refine xw_lk_s2 (by decide) (by decide) (by first | exact Or.inl rfl | exact Or.inl (xw_cat_rf _) | exact Or.inr (by decide)) ?_)) ?_ | refine rn_aldO (lkX0_goOn_38 Y) (by repeat (first | assumption | exact xw_lk_e _ _ _ | exact xw_lk_e2 _ _ _ | refine xw_lk_s (by decide) (by first | exact Or.inl rfl | exact Or.inl (xw_cat_rf _) | exact Or.inr (by decide)) ?_ | refine xw_lk_s2 (by decide) (by decide) (by first | exact Or.inl rfl | exact Or.inl (xw_cat_rf _) | exact Or.inr (by decide)) ?_)) ?_ | refine rn_aldN (lkX0_goOn_38 Y) (by repeat (first | assumption | exact xw_lk_e _ _ _ | exact xw_lk_e2 _ _ _ | refine xw_lk_s (by decide) (by first | exact Or.inl rfl | exact Or.inl (xw_cat_rf _) | exact Or.inr (by decide)) ?_ | refine xw_lk_s2 (by decide) (by decide) (by first | exact Or.inl rfl | exact Or.inl (xw_cat_rf _) | exact Or.inr (by decide)) ?_)) ?_
        first | refine rn_ald (lkX0_goOn_39 Y) (by repeat (first | assumption | exact xw_lk_e _ _ _ | exact xw_lk_e2 _ _ _ | refine xw_lk_s (by decide) (by first | exact Or.inl rfl | exact Or.inl (xw_cat_rf _) | exact Or.inr (by decide)) ?_ | refine xw_lk_s2 (by decide) (by decide) (by first | exact Or.inl rfl | exact Or.inl (xw_cat_rf _) | exact Or.inr (by decide)) ?_)) ?_ | refine rn_aldO (lkX0_goOn_39 Y) (by repeat (first | assumption | exact xw_lk_e _ _ _ | exact xw_lk_e2 _ _ _ | refine xw_lk_s (by decide) (by first | exact Or.inl rfl | exact Or.inl (xw_cat_rf _) | exact Or.inr (by decide)) ?_ | refine xw_lk_s2 (by decide) (by decide) (by first | exact Or.inl rfl | exact Or.inl (xw_cat_rf _) | exact Or.inr (by decide)) ?_)) ?_ | refine rn_aldN (lkX0_goOn_39 Y) (by repeat (first | assumption | exact xw_lk_e _ _ _ | exact xw_lk_e2 _ _ _ | refine xw_lk_s (by decide) (by first | exact Or.inl rfl | exact Or.inl (xw_cat_rf _) | exact Or.inr (by decide)) ?_ | refine xw_lk_s2 (by decide) (by decide) (by first | exact Or.inl rfl | exact Or.inl (xw_cat_rf _) | exact Or.inr (by decide)) ?_)) ?_
        refine rp_callV hR (lkX0_goOn_40 Y) rfl (by first | assumption | exact xq_v0 (by decide)) rfl (Nat.le_of_ble_eq_true rfl) (Nat.le_of_ble_eq_true rfl) (Nat.le_of_ble_eq_true rfl) ?_
        refine sc_extra hR hb ?_
        refine rn_ifz (lkX0_goOn_43 Y) (fun c_43 => ?_) (fun c_43 => ?_)
        · try dsimp only at c_43
          refine rn_push (lkX0_goOn_51 Y) ?_
          refine rp_puti (c := 1008) hR (lkX0_goOn_54 Y) (by first | assumption | exact xq_v0 (by decide)) rfl (Nat.le_of_ble_eq_true rfl) (xw_fit_i _) rfl (fun q => absurd q (by decide)) (by simp [xq_en, xq_i_i, xq_r_i]) (fun w hR => ?_)
          refine rn_goto (lkX0_goOn_57 Y) ?_
          have hx : mo_extra (xu_i s 1007 b (xq_i s 1007 b + 1)) b = 0 ∨ ¬ mo_extra (xu_i s 1007 b (xq_i s 1007 b + 1)) b = 0 := Classical.em _
          refine ih _ w (p + 1) _ hR hb (by rw [xq_i_i, if_neg (fun z => absurd z.1 (by decide)), xq_i_i, if_pos ⟨rfl, rfl⟩, hp, nI_1]) (by omega) (by omega) (fun w' hw' => h w' ?_) _ (by repeat (first | assumption | exact xw_lk_e _ _ _ | exact xw_lk_e2 _ _ _ | refine xw_lk_s (by decide) (by first | exact Or.inl rfl | exact Or.inl (xw_cat_rf _) | exact Or.inr (by decide)) ?_ | refine xw_lk_s2 (by decide) (by decide) (by first | exact Or.inl rfl | exact Or.inl (xw_cat_rf _) | exact Or.inr (by decide)) ?_)) (by repeat (first | assumption | exact xw_lk_e _ _ _ | exact xw_lk_e2 _ _ _ | refine xw_lk_s (by decide) (by first | exact Or.inl rfl | exact Or.inl (xw_cat_rf _) | exact Or.inr (by decide)) ?_ | refine xw_lk_s2 (by decide) (by decide) (by first | exact Or.inl rfl | exact Or.inl (xw_cat_rf _) | exact Or.inr (by decide)) ?_))
          rw [mo_goOn, if_neg hq1, if_neg hq2]
          dsimp only
          first | rw [if_pos c_43] | rw [if_neg c_43]
          exact hw'
        · try dsimp only at c_43
          refine rn_push (lkX0_goOn_46 Y) ?_
          refine rn_goto (lkX0_goOn_48 Y) ?_
          refine rp_puti (c := 1008) hR (lkX0_goOn_54 Y) (by first | assumption | exact xq_v0 (by decide)) rfl (Nat.le_of_ble_eq_true rfl) (xw_fit_i _) rfl (fun q => absurd q (by decide)) (by simp [xq_en, xq_i_i, xq_r_i]) (fun w hR => ?_)
          refine rn_goto (lkX0_goOn_57 Y) ?_
          have hx : mo_extra (xu_i s 1007 b (xq_i s 1007 b + 1)) b = 0 ∨ ¬ mo_extra (xu_i s 1007 b (xq_i s 1007 b + 1)) b = 0 := Classical.em _
          refine ih _ w (p + 1) _ hR hb (by rw [xq_i_i, if_neg (fun z => absurd z.1 (by decide)), xq_i_i, if_pos ⟨rfl, rfl⟩, hp, nI_1]) (by omega) (by omega) (fun w' hw' => h w' ?_) _ (by repeat (first | assumption | exact xw_lk_e _ _ _ | exact xw_lk_e2 _ _ _ | refine xw_lk_s (by decide) (by first | exact Or.inl rfl | exact Or.inl (xw_cat_rf _) | exact Or.inr (by decide)) ?_ | refine xw_lk_s2 (by decide) (by decide) (by first | exact Or.inl rfl | exact Or.inl (xw_cat_rf _) | exact Or.inr (by decide)) ?_)) (by repeat (first | assumption | exact xw_lk_e _ _ _ | exact xw_lk_e2 _ _ _ | refine xw_lk_s (by decide) (by first | exact Or.inl rfl | exact Or.inl (xw_cat_rf _) | exact Or.inr (by decide)) ?_ | refine xw_lk_s2 (by decide) (by decide) (by first | exact Or.inl rfl | exact Or.inl (xw_cat_rf _) | exact Or.inr (by decide)) ?_))
          rw [mo_goOn, if_neg hq1, if_neg hq2]
          dsimp only
          first | rw [if_pos c_43] | rw [if_neg c_43]
          exact hw'

set_option maxRecDepth 100000 in
set_option maxHeartbeats 4000000 in
theorem sc_goOn {p : Nat} {x : Int32} {b : Nat} (hR : xq_rp Y ad s w) (hb : b < s.2.1) (hp : xq_i s 1007 b = nI p) (h1 : 1 ≤ p) (h2 : p ≤ 90) (h : ∀ w', xq_rp Y ad (mo_goOn 3 s b x) w' → post none w') : ptX0_goOn Y [.ref (ad 10 b), .int x] w post := by
  refine ⟨(by first | exact Nat.le_of_ble_eq_true rfl | simp [lg_sl, xw_cat_rf, xw_cat_i, xw_cat_r, xw_cat_n, xw_cat_l]), ?_⟩
  refine rn_ild (lkX0_goOn_0 Y) rfl ?_
  refine rn_ist (lkX0_goOn_1 Y) rfl ?_
  exact lp_goOn 3 s w p x hR hb hp (by omega) (by omega) (fun w' hw' => ⟨h w' hw', Nat.le_refl _, Nat.le_refl _⟩) _ rfl rfl

set_option maxRecDepth 100000 in
set_option maxHeartbeats 4000000 in
theorem sc_overHit {b : Nat} (hR : xq_rp Y ad s w) (hb : b < s.2.1) (h : ∀ w', xq_rp Y ad (mo_overHit s b) w' → post (some (.int (mo_decided s b))) w') : ptX3_isOverByHit Y [.ref (ad 0 0), .ref (ad 10 b)] w post := by
  have hv10 : xq_vl ad s 10 b := xq_v10 hb
  have hv11 : xq_vl ad s 11 b := xq_v11 hb
  have hv12 : xq_vl ad s 12 b := xq_v12 hb
  refine ⟨(by first | exact Nat.le_of_ble_eq_true rfl | simp [lg_sl, xw_cat_rf, xw_cat_i, xw_cat_r, xw_cat_n, xw_cat_l]), ?_⟩
  first | refine rn_ald (lkX3_isOverByHit_0 Y) rfl ?_ | refine rn_aldO (lkX3_isOverByHit_0 Y) rfl ?_ | refine rn_aldN (lkX3_isOverByHit_0 Y) rfl ?_
  refine rp_callV hR (lkX3_isOverByHit_1 Y) rfl (by first | assumption | exact xq_v0 (by decide)) rfl (Nat.le_of_ble_eq_true rfl) (Nat.le_of_ble_eq_true rfl) (Nat.le_of_ble_eq_true rfl) ?_
  refine sc_decided hR hb ?_
  unfold mo_overHit at h
  rcases mo_decided_01 s b with hq | hq
  · rw [hq, if_pos rfl] at h
    rw [hq]
    refine rn_ifz (lkX3_isOverByHit_4 Y) (fun q => absurd q (by decide)) (fun _ => ?_)
    refine rn_push (lkX3_isOverByHit_7 Y) ?_
    refine rn_zret (lkX3_isOverByHit_8 Y) (by first | exact Or.inl rfl | exact Or.inr rfl | assumption) ?_
    exact ⟨h _ hR, Nat.le_refl _, Nat.le_refl _⟩
  · rw [hq, if_neg (by decide)] at h
    rw [hq]
    refine rn_ifz (lkX3_isOverByHit_4 Y) (fun _ => ?_) (fun q => absurd (by decide) q)
    first | refine rn_ald (lkX3_isOverByHit_9 Y) rfl ?_ | refine rn_aldO (lkX3_isOverByHit_9 Y) rfl ?_ | refine rn_aldN (lkX3_isOverByHit_9 Y) rfl ?_
    first | refine rn_ald (lkX3_isOverByHit_10 Y) rfl ?_ | refine rn_aldO (lkX3_isOverByHit_10 Y) rfl ?_ | refine rn_aldN (lkX3_isOverByHit_10 Y) rfl ?_
    first | refine rn_ald (lkX3_isOverByHit_11 Y) rfl ?_ | refine rn_aldO (lkX3_isOverByHit_11 Y) rfl ?_ | refine rn_aldN (lkX3_isOverByHit_11 Y) rfl ?_
    refine rp_callV hR (lkX3_isOverByHit_12 Y) rfl (by first | assumption | exact xq_v0 (by decide)) rfl (Nat.le_of_ble_eq_true rfl) (Nat.le_of_ble_eq_true rfl) (Nat.le_of_ble_eq_true rfl) ?_
    refine sc_win hR hb ?_
    first | refine rn_ald (lkX3_isOverByHit_15 Y) rfl ?_ | refine rn_aldO (lkX3_isOverByHit_15 Y) rfl ?_ | refine rn_aldN (lkX3_isOverByHit_15 Y) rfl ?_
    refine rp_getf hR (lkX3_isOverByHit_16 Y) (by first | assumption | exact xq_v0 (by decide)) rfl rfl ?_
    refine rp_callV hR (lkX3_isOverByHit_19 Y) rfl (by first | assumption | exact xq_v0 (by decide)) rfl (Nat.le_of_ble_eq_true rfl) (Nat.le_of_ble_eq_true rfl) (Nat.le_of_ble_eq_true rfl) ?_
    refine sc_finish hR hb (fun k hk => mo_win_lt hR.2.2.1 hb hk) (fun w hR => ?_)
    refine rn_push (lkX3_isOverByHit_22 Y) ?_
    refine rn_zret (lkX3_isOverByHit_23 Y) (by first | exact Or.inl rfl | exact Or.inr rfl | assumption) ?_
    exact ⟨h _ hR, Nat.le_refl _, Nat.le_refl _⟩

set_option maxRecDepth 100000 in
set_option maxHeartbeats 4000000 in
theorem sc_overAfter {p : Nat} {x : Int32} {b : Nat} (hR : xq_rp Y ad s w) (hb : b < s.2.1) (hp : xq_i s 1007 b = nI p) (h1 : 1 ≤ p) (h2 : p ≤ 90) (h : ∀ w', xq_rp Y ad (mo_overAfter s b x) w' → post (some (.int (if mo_until s b ≤ x then 1 else 0))) w') : ptX3_isOverAfter Y [.ref (ad 0 0), .ref (ad 10 b), .int x] w post := by
  have hv10 : xq_vl ad s 10 b := xq_v10 hb
  have hv11 : xq_vl ad s 11 b := xq_v11 hb
  have hv12 : xq_vl ad s 12 b := xq_v12 hb
  refine ⟨(by first | exact Nat.le_of_ble_eq_true rfl | simp [lg_sl, xw_cat_rf, xw_cat_i, xw_cat_r, xw_cat_n, xw_cat_l]), ?_⟩
  first | refine rn_ald (lkX3_isOverAfter_0 Y) rfl ?_ | refine rn_aldO (lkX3_isOverAfter_0 Y) rfl ?_ | refine rn_aldN (lkX3_isOverAfter_0 Y) rfl ?_
  refine rp_callV hR (lkX3_isOverAfter_1 Y) rfl (by first | assumption | exact xq_v0 (by decide)) rfl (Nat.le_of_ble_eq_true rfl) (Nat.le_of_ble_eq_true rfl) (Nat.le_of_ble_eq_true rfl) ?_
  refine sc_until hR hb ?_
  unfold mo_overAfter at h
  by_cases hu : mo_until s b ≤ x
  · rw [if_pos hu] at h
    refine rn_ist (lkX3_isOverAfter_4 Y) rfl ?_
    refine rn_ild (lkX3_isOverAfter_5 Y) rfl ?_
    refine rn_ild (lkX3_isOverAfter_6 Y) rfl ?_
    refine rn_ifc (lkX3_isOverAfter_7 Y) (fun _ => ?_) (fun q => absurd hu q)
    first | refine rn_ald (lkX3_isOverAfter_17 Y) rfl ?_ | refine rn_aldO (lkX3_isOverAfter_17 Y) rfl ?_ | refine rn_aldN (lkX3_isOverAfter_17 Y) rfl ?_
    first | refine rn_ald (lkX3_isOverAfter_18 Y) rfl ?_ | refine rn_aldO (lkX3_isOverAfter_18 Y) rfl ?_ | refine rn_aldN (lkX3_isOverAfter_18 Y) rfl ?_
    first | refine rn_ald (lkX3_isOverAfter_19 Y) rfl ?_ | refine rn_aldO (lkX3_isOverAfter_19 Y) rfl ?_ | refine rn_aldN (lkX3_isOverAfter_19 Y) rfl ?_
    refine rp_callV hR (lkX3_isOverAfter_20 Y) rfl (by first | assumption | exact xq_v0 (by decide)) rfl (Nat.le_of_ble_eq_true rfl) (Nat.le_of_ble_eq_true rfl) (Nat.le_of_ble_eq_true rfl) ?_
    refine sc_win hR hb ?_
    first | refine rn_ald (lkX3_isOverAfter_23 Y) rfl ?_ | refine rn_aldO (lkX3_isOverAfter_23 Y) rfl ?_ | refine rn_aldN (lkX3_isOverAfter_23 Y) rfl ?_
    refine rp_getf hR (lkX3_isOverAfter_24 Y) (by first | assumption | exact xq_v0 (by decide)) rfl rfl ?_
    refine rn_ild (lkX3_isOverAfter_27 Y) rfl ?_
    refine rn_i2 (lkX3_isOverAfter_28 Y) ?_
    refine rp_callV hR (lkX3_isOverAfter_29 Y) rfl (by first | assumption | exact xq_v0 (by decide)) rfl (Nat.le_of_ble_eq_true rfl) (Nat.le_of_ble_eq_true rfl) (Nat.le_of_ble_eq_true rfl) ?_
    refine sc_finish hR hb (fun k hk => mo_win_lt hR.2.2.1 hb hk) (fun w hR => ?_)
    refine rn_push (lkX3_isOverAfter_32 Y) ?_
    refine rn_zret (lkX3_isOverAfter_33 Y) (by first | exact Or.inl rfl | exact Or.inr rfl | assumption) ?_
    have h9 := h _ hR
    first | rw [if_pos hu] at h9 | rw [if_neg hu] at h9
    exact ⟨h9, Nat.le_refl _, Nat.le_refl _⟩
  · rw [if_neg hu] at h
    refine rn_ist (lkX3_isOverAfter_4 Y) rfl ?_
    refine rn_ild (lkX3_isOverAfter_5 Y) rfl ?_
    refine rn_ild (lkX3_isOverAfter_6 Y) rfl ?_
    refine rn_ifc (lkX3_isOverAfter_7 Y) (fun q => absurd q hu) (fun _ => ?_)
    first | refine rn_ald (lkX3_isOverAfter_10 Y) rfl ?_ | refine rn_aldO (lkX3_isOverAfter_10 Y) rfl ?_ | refine rn_aldN (lkX3_isOverAfter_10 Y) rfl ?_
    refine rn_ild (lkX3_isOverAfter_11 Y) rfl ?_
    refine rp_callV hR (lkX3_isOverAfter_12 Y) rfl (by first | assumption | exact xq_v0 (by decide)) rfl (Nat.le_of_ble_eq_true rfl) (Nat.le_of_ble_eq_true rfl) (Nat.le_of_ble_eq_true rfl) ?_
    refine sc_goOn hR hb hp h1 h2 (fun w hR => ?_)
    refine rn_push (lkX3_isOverAfter_15 Y) ?_
    refine rn_zret (lkX3_isOverAfter_16 Y) (by first | exact Or.inl rfl | exact Or.inr rfl | assumption) ?_
    have h9 := h _ hR
    first | rw [if_pos hu] at h9 | rw [if_neg hu] at h9
    exact ⟨h9, Nat.le_refl _, Nat.le_refl _⟩

set_option maxRecDepth 100000 in
set_option maxHeartbeats 4000000 in
theorem lp_putOut {k : Nat} (hk : k < s.1) (hn : s.2.1 ≤ 200) {Rt : xw_R} (h : ∀ w', xq_rp Y ad (mo_voids s k s.2.1) w' → Rt none w' 0 0) : ∀ (j i : Nat), i + j = s.2.1 → ∀ (w : xw_W) (lv : xw_L), xq_rp Y ad (mo_voids s k i) w → xw_lk lv 0 = some (.ref (ad 0 0)) → xw_lk lv 2 = some (va_rf (some (ad 9 k))) → xw_lk lv 4 = some (.int (nI i)) → xw_Run (tbX3_putOut Y) Rt 40 lv [] w 0 0 := by
  intro j
  induction j with
  | zero =>
    intro i hi w lv hR hl0 hl1 hl2
    have hv0 : xq_vl ad (mo_voids s k i) 0 0 := xq_v0 (by decide)
    refine rn_ild (lkX3_putOut_40 Y) (by repeat (first | assumption | exact xw_lk_e _ _ _ | exact xw_lk_e2 _ _ _ | refine xw_lk_s (by decide) (by first | exact Or.inl rfl | exact Or.inl (xw_cat_rf _) | exact Or.inr (by decide)) ?_ | refine xw_lk_s2 (by decide) (by decide) (by first | exact Or.inl rfl | exact Or.inl (xw_cat_rf _) | exact Or.inr (by decide)) ?_)) ?_
    first | refine rn_ald (lkX3_putOut_42 Y) (by repeat (first | assumption | exact xw_lk_e _ _ _ | exact xw_lk_e2 _ _ _ | refine xw_lk_s (by decide) (by first | exact Or.inl rfl | exact Or.inl (xw_cat_rf _) | exact Or.inr (by decide)) ?_ | refine xw_lk_s2 (by decide) (by decide) (by first | exact Or.inl rfl | exact Or.inl (xw_cat_rf _) | exact Or.inr (by decide)) ?_)) ?_ | refine rn_aldO (lkX3_putOut_42 Y) (by repeat (first | assumption | exact xw_lk_e _ _ _ | exact xw_lk_e2 _ _ _ | refine xw_lk_s (by decide) (by first | exact Or.inl rfl | exact Or.inl (xw_cat_rf _) | exact Or.inr (by decide)) ?_ | refine xw_lk_s2 (by decide) (by decide) (by first | exact Or.inl rfl | exact Or.inl (xw_cat_rf _) | exact Or.inr (by decide)) ?_)) ?_ | refine rn_aldN (lkX3_putOut_42 Y) (by repeat (first | assumption | exact xw_lk_e _ _ _ | exact xw_lk_e2 _ _ _ | refine xw_lk_s (by decide) (by first | exact Or.inl rfl | exact Or.inl (xw_cat_rf _) | exact Or.inr (by decide)) ?_ | refine xw_lk_s2 (by decide) (by decide) (by first | exact Or.inl rfl | exact Or.inl (xw_cat_rf _) | exact Or.inr (by decide)) ?_)) ?_
    refine rp_getf hR (lkX3_putOut_43 Y) (by first | assumption | exact xq_v0 (by decide)) rfl rfl ?_
    refine rp_callV hR (lkX3_putOut_46 Y) rfl (by first | assumption | exact xq_v0 (by decide)) rfl (Nat.le_of_ble_eq_true rfl) (Nat.le_of_ble_eq_true rfl) (Nat.le_of_ble_eq_true rfl) ?_
    refine sl_sizeB hR ?_
    rw [mo_voids_2]
    refine rn_ifc (lkX3_putOut_49 Y) (fun _ => ?_) (fun q => absurd (show nI s.2.1 ≤ nI i by rw [show i = s.2.1 by omega]; exact Int32.le_refl _) q)
    refine rn_vret (lkX3_putOut_102 Y) ?_
    rw [show i = s.2.1 by omega] at hR
    exact h _ hR
  | succ j ih =>
    intro i hi w lv hR hl0 hl1 hl2
    have hv0 : xq_vl ad (mo_voids s k i) 0 0 := xq_v0 (by decide)
    have hki : i < s.2.1 := by omega
    have hbi : i < (mo_voids s k i).2.1 := by rw [mo_voids_2]; exact hki
    have hkk : k < (mo_voids s k i).1 := by rw [mo_voids_1]; exact hk
    have hv10 : xq_vl ad (mo_voids s k i) 10 i := xq_v10 hbi
    have hv11 : xq_vl ad (mo_voids s k i) 11 i := xq_v11 hbi
    have hv12 : xq_vl ad (mo_voids s k i) 12 i := xq_v12 hbi
    refine rn_ild (lkX3_putOut_40 Y) (by repeat (first | assumption | exact xw_lk_e _ _ _ | exact xw_lk_e2 _ _ _ | refine xw_lk_s (by decide) (by first | exact Or.inl rfl | exact Or.inl (xw_cat_rf _) | exact Or.inr (by decide)) ?_ | refine xw_lk_s2 (by decide) (by decide) (by first | exact Or.inl rfl | exact Or.inl (xw_cat_rf _) | exact Or.inr (by decide)) ?_)) ?_
    first | refine rn_ald (lkX3_putOut_42 Y) (by repeat (first | assumption | exact xw_lk_e _ _ _ | exact xw_lk_e2 _ _ _ | refine xw_lk_s (by decide) (by first | exact Or.inl rfl | exact Or.inl (xw_cat_rf _) | exact Or.inr (by decide)) ?_ | refine xw_lk_s2 (by decide) (by decide) (by first | exact Or.inl rfl | exact Or.inl (xw_cat_rf _) | exact Or.inr (by decide)) ?_)) ?_ | refine rn_aldO (lkX3_putOut_42 Y) (by repeat (first | assumption | exact xw_lk_e _ _ _ | exact xw_lk_e2 _ _ _ | refine xw_lk_s (by decide) (by first | exact Or.inl rfl | exact Or.inl (xw_cat_rf _) | exact Or.inr (by decide)) ?_ | refine xw_lk_s2 (by decide) (by decide) (by first | exact Or.inl rfl | exact Or.inl (xw_cat_rf _) | exact Or.inr (by decide)) ?_)) ?_ | refine rn_aldN (lkX3_putOut_42 Y) (by repeat (first | assumption | exact xw_lk_e _ _ _ | exact xw_lk_e2 _ _ _ | refine xw_lk_s (by decide) (by first | exact Or.inl rfl | exact Or.inl (xw_cat_rf _) | exact Or.inr (by decide)) ?_ | refine xw_lk_s2 (by decide) (by decide) (by first | exact Or.inl rfl | exact Or.inl (xw_cat_rf _) | exact Or.inr (by decide)) ?_)) ?_
    refine rp_getf hR (lkX3_putOut_43 Y) (by first | assumption | exact xq_v0 (by decide)) rfl rfl ?_
    refine rp_callV hR (lkX3_putOut_46 Y) rfl (by first | assumption | exact xq_v0 (by decide)) rfl (Nat.le_of_ble_eq_true rfl) (Nat.le_of_ble_eq_true rfl) (Nat.le_of_ble_eq_true rfl) ?_
    refine sl_sizeB hR ?_
    rw [mo_voids_2]
    refine rn_ifc (lkX3_putOut_49 Y) (fun q => absurd q (nI_ge hki (by omega))) (fun _ => ?_)
    first | refine rn_ald (lkX3_putOut_52 Y) (by repeat (first | assumption | exact xw_lk_e _ _ _ | exact xw_lk_e2 _ _ _ | refine xw_lk_s (by decide) (by first | exact Or.inl rfl | exact Or.inl (xw_cat_rf _) | exact Or.inr (by decide)) ?_ | refine xw_lk_s2 (by decide) (by decide) (by first | exact Or.inl rfl | exact Or.inl (xw_cat_rf _) | exact Or.inr (by decide)) ?_)) ?_ | refine rn_aldO (lkX3_putOut_52 Y) (by repeat (first | assumption | exact xw_lk_e _ _ _ | exact xw_lk_e2 _ _ _ | refine xw_lk_s (by decide) (by first | exact Or.inl rfl | exact Or.inl (xw_cat_rf _) | exact Or.inr (by decide)) ?_ | refine xw_lk_s2 (by decide) (by decide) (by first | exact Or.inl rfl | exact Or.inl (xw_cat_rf _) | exact Or.inr (by decide)) ?_)) ?_ | refine rn_aldN (lkX3_putOut_52 Y) (by repeat (first | assumption | exact xw_lk_e _ _ _ | exact xw_lk_e2 _ _ _ | refine xw_lk_s (by decide) (by first | exact Or.inl rfl | exact Or.inl (xw_cat_rf _) | exact Or.inr (by decide)) ?_ | refine xw_lk_s2 (by decide) (by decide) (by first | exact Or.inl rfl | exact Or.inl (xw_cat_rf _) | exact Or.inr (by decide)) ?_)) ?_
    refine rp_getf hR (lkX3_putOut_53 Y) (by first | assumption | exact xq_v0 (by decide)) rfl rfl ?_
    refine rn_ild (lkX3_putOut_56 Y) (by repeat (first | assumption | exact xw_lk_e _ _ _ | exact xw_lk_e2 _ _ _ | refine xw_lk_s (by decide) (by first | exact Or.inl rfl | exact Or.inl (xw_cat_rf _) | exact Or.inr (by decide)) ?_ | refine xw_lk_s2 (by decide) (by decide) (by first | exact Or.inl rfl | exact Or.inl (xw_cat_rf _) | exact Or.inr (by decide)) ?_)) ?_
    refine rp_callV hR (lkX3_putOut_58 Y) rfl (by first | assumption | exact xq_v0 (by decide)) rfl (Nat.le_of_ble_eq_true rfl) (Nat.le_of_ble_eq_true rfl) (Nat.le_of_ble_eq_true rfl) ?_
    refine sl_getB hR hbi rfl ?_
    refine rp_cast hR (lkX3_putOut_61 Y) (by first | assumption | exact xq_v0 (by decide)) rfl ?_
    first | refine rn_ast (lkX3_putOut_64 Y) rfl ?_ | refine rn_astO (lkX3_putOut_64 Y) rfl ?_ | refine rn_astN (lkX3_putOut_64 Y) rfl ?_
    first | refine rn_ald (lkX3_putOut_66 Y) (by repeat (first | assumption | exact xw_lk_e _ _ _ | exact xw_lk_e2 _ _ _ | refine xw_lk_s (by decide) (by first | exact Or.inl rfl | exact Or.inl (xw_cat_rf _) | exact Or.inr (by decide)) ?_ | refine xw_lk_s2 (by decide) (by decide) (by first | exact Or.inl rfl | exact Or.inl (xw_cat_rf _) | exact Or.inr (by decide)) ?_)) ?_ | refine rn_aldO (lkX3_putOut_66 Y) (by repeat (first | assumption | exact xw_lk_e _ _ _ | exact xw_lk_e2 _ _ _ | refine xw_lk_s (by decide) (by first | exact Or.inl rfl | exact Or.inl (xw_cat_rf _) | exact Or.inr (by decide)) ?_ | refine xw_lk_s2 (by decide) (by decide) (by first | exact Or.inl rfl | exact Or.inl (xw_cat_rf _) | exact Or.inr (by decide)) ?_)) ?_ | refine rn_aldN (lkX3_putOut_66 Y) (by repeat (first | assumption | exact xw_lk_e _ _ _ | exact xw_lk_e2 _ _ _ | refine xw_lk_s (by decide) (by first | exact Or.inl rfl | exact Or.inl (xw_cat_rf _) | exact Or.inr (by decide)) ?_ | refine xw_lk_s2 (by decide) (by decide) (by first | exact Or.inl rfl | exact Or.inl (xw_cat_rf _) | exact Or.inr (by decide)) ?_)) ?_
    refine rp_getf hR (lkX3_putOut_68 Y) (by first | assumption | exact xq_v0 (by decide)) rfl rfl ?_
    refine rp_getf hR (lkX3_putOut_71 Y) (by first | assumption | exact xq_v0 (by decide)) rfl rfl ?_
    refine rn_aldO (o := some (ad 9 k)) (lkX3_putOut_74 Y) (by repeat (first | assumption | exact xw_lk_e _ _ _ | exact xw_lk_e2 _ _ _ | refine xw_lk_s (by decide) (by first | exact Or.inl rfl | exact Or.inl (xw_cat_rf _) | exact Or.inr (by decide)) ?_ | refine xw_lk_s2 (by decide) (by decide) (by first | exact Or.inl rfl | exact Or.inl (xw_cat_rf _) | exact Or.inr (by decide)) ?_)) ?_
    refine rn_ifa (lkX3_putOut_75 Y) (fun c_75 => ?_) (fun c_75 => ?_)
    · skip
      have ez : xq_r (mo_voids s k i) 1100 i = some k ∨ xq_r (mo_voids s k i) 1200 i = some k := by
        first
        | exact Or.inl (xq_win hR hkk (fun j hj => hR.2.2.1.2.2.1 i j hbi hj) c_75)
        | exact Or.inr (xq_win hR hkk (fun j hj => hR.2.2.1.2.2.2.1 i j hbi hj) c_87)
      first | refine rn_ald (lkX3_putOut_90 Y) (by repeat (first | assumption | exact xw_lk_e _ _ _ | exact xw_lk_e2 _ _ _ | refine xw_lk_s (by decide) (by first | exact Or.inl rfl | exact Or.inl (xw_cat_rf _) | exact Or.inr (by decide)) ?_ | refine xw_lk_s2 (by decide) (by decide) (by first | exact Or.inl rfl | exact Or.inl (xw_cat_rf _) | exact Or.inr (by decide)) ?_)) ?_ | refine rn_aldO (lkX3_putOut_90 Y) (by repeat (first | assumption | exact xw_lk_e _ _ _ | exact xw_lk_e2 _ _ _ | refine xw_lk_s (by decide) (by first | exact Or.inl rfl | exact Or.inl (xw_cat_rf _) | exact Or.inr (by decide)) ?_ | refine xw_lk_s2 (by decide) (by decide) (by first | exact Or.inl rfl | exact Or.inl (xw_cat_rf _) | exact Or.inr (by decide)) ?_)) ?_ | refine rn_aldN (lkX3_putOut_90 Y) (by repeat (first | assumption | exact xw_lk_e _ _ _ | exact xw_lk_e2 _ _ _ | refine xw_lk_s (by decide) (by first | exact Or.inl rfl | exact Or.inl (xw_cat_rf _) | exact Or.inr (by decide)) ?_ | refine xw_lk_s2 (by decide) (by decide) (by first | exact Or.inl rfl | exact Or.inl (xw_cat_rf _) | exact Or.inr (by decide)) ?_)) ?_
      first | refine rn_ald (lkX3_putOut_91 Y) (by repeat (first | assumption | exact xw_lk_e _ _ _ | exact xw_lk_e2 _ _ _ | refine xw_lk_s (by decide) (by first | exact Or.inl rfl | exact Or.inl (xw_cat_rf _) | exact Or.inr (by decide)) ?_ | refine xw_lk_s2 (by decide) (by decide) (by first | exact Or.inl rfl | exact Or.inl (xw_cat_rf _) | exact Or.inr (by decide)) ?_)) ?_ | refine rn_aldO (lkX3_putOut_91 Y) (by repeat (first | assumption | exact xw_lk_e _ _ _ | exact xw_lk_e2 _ _ _ | refine xw_lk_s (by decide) (by first | exact Or.inl rfl | exact Or.inl (xw_cat_rf _) | exact Or.inr (by decide)) ?_ | refine xw_lk_s2 (by decide) (by decide) (by first | exact Or.inl rfl | exact Or.inl (xw_cat_rf _) | exact Or.inr (by decide)) ?_)) ?_ | refine rn_aldN (lkX3_putOut_91 Y) (by repeat (first | assumption | exact xw_lk_e _ _ _ | exact xw_lk_e2 _ _ _ | refine xw_lk_s (by decide) (by first | exact Or.inl rfl | exact Or.inl (xw_cat_rf _) | exact Or.inr (by decide)) ?_ | refine xw_lk_s2 (by decide) (by decide) (by first | exact Or.inl rfl | exact Or.inl (xw_cat_rf _) | exact Or.inr (by decide)) ?_)) ?_
      refine rp_callV hR (lkX3_putOut_93 Y) rfl (by first | assumption | exact xq_v0 (by decide)) rfl (Nat.le_of_ble_eq_true rfl) (Nat.le_of_ble_eq_true rfl) (Nat.le_of_ble_eq_true rfl) ?_
      refine sc_void hR hbi (fun w hR => ?_)
      refine rn_inc (lkX3_putOut_96 Y) (by repeat (first | assumption | exact xw_lk_e _ _ _ | exact xw_lk_e2 _ _ _ | refine xw_lk_s (by decide) (by first | exact Or.inl rfl | exact Or.inl (xw_cat_rf _) | exact Or.inr (by decide)) ?_ | refine xw_lk_s2 (by decide) (by decide) (by first | exact Or.inl rfl | exact Or.inl (xw_cat_rf _) | exact Or.inr (by decide)) ?_)) rfl ?_
      refine rn_goto (lkX3_putOut_99 Y) ?_
      have e : mo_voids s k (i + 1) = mo_void (mo_voids s k i) i := by rw [mo_voids, if_pos ez]
      exact ih (i + 1) (by omega) _ _ (by rw [e]; exact hR) (by repeat (first | assumption | exact xw_lk_e _ _ _ | exact xw_lk_e2 _ _ _ | refine xw_lk_s (by decide) (by first | exact Or.inl rfl | exact Or.inl (xw_cat_rf _) | exact Or.inr (by decide)) ?_ | refine xw_lk_s2 (by decide) (by decide) (by first | exact Or.inl rfl | exact Or.inl (xw_cat_rf _) | exact Or.inr (by decide)) ?_)) (by repeat (first | assumption | exact xw_lk_e _ _ _ | exact xw_lk_e2 _ _ _ | refine xw_lk_s (by decide) (by first | exact Or.inl rfl | exact Or.inl (xw_cat_rf _) | exact Or.inr (by decide)) ?_ | refine xw_lk_s2 (by decide) (by decide) (by first | exact Or.inl rfl | exact Or.inl (xw_cat_rf _) | exact Or.inr (by decide)) ?_)) (by rw [← nI_1]; repeat (first | assumption | exact xw_lk_e _ _ _ | exact xw_lk_e2 _ _ _ | refine xw_lk_s (by decide) (by first | exact Or.inl rfl | exact Or.inl (xw_cat_rf _) | exact Or.inr (by decide)) ?_ | refine xw_lk_s2 (by decide) (by decide) (by first | exact Or.inl rfl | exact Or.inl (xw_cat_rf _) | exact Or.inr (by decide)) ?_))
    · skip
      first | refine rn_ald (lkX3_putOut_78 Y) (by repeat (first | assumption | exact xw_lk_e _ _ _ | exact xw_lk_e2 _ _ _ | refine xw_lk_s (by decide) (by first | exact Or.inl rfl | exact Or.inl (xw_cat_rf _) | exact Or.inr (by decide)) ?_ | refine xw_lk_s2 (by decide) (by decide) (by first | exact Or.inl rfl | exact Or.inl (xw_cat_rf _) | exact Or.inr (by decide)) ?_)) ?_ | refine rn_aldO (lkX3_putOut_78 Y) (by repeat (first | assumption | exact xw_lk_e _ _ _ | exact xw_lk_e2 _ _ _ | refine xw_lk_s (by decide) (by first | exact Or.inl rfl | exact Or.inl (xw_cat_rf _) | exact Or.inr (by decide)) ?_ | refine xw_lk_s2 (by decide) (by decide) (by first | exact Or.inl rfl | exact Or.inl (xw_cat_rf _) | exact Or.inr (by decide)) ?_)) ?_ | refine rn_aldN (lkX3_putOut_78 Y) (by repeat (first | assumption | exact xw_lk_e _ _ _ | exact xw_lk_e2 _ _ _ | refine xw_lk_s (by decide) (by first | exact Or.inl rfl | exact Or.inl (xw_cat_rf _) | exact Or.inr (by decide)) ?_ | refine xw_lk_s2 (by decide) (by decide) (by first | exact Or.inl rfl | exact Or.inl (xw_cat_rf _) | exact Or.inr (by decide)) ?_)) ?_
      refine rp_getf hR (lkX3_putOut_80 Y) (by first | assumption | exact xq_v0 (by decide)) rfl rfl ?_
      refine rp_getf hR (lkX3_putOut_83 Y) (by first | assumption | exact xq_v0 (by decide)) rfl rfl ?_
      refine rn_aldO (o := some (ad 9 k)) (lkX3_putOut_86 Y) (by repeat (first | assumption | exact xw_lk_e _ _ _ | exact xw_lk_e2 _ _ _ | refine xw_lk_s (by decide) (by first | exact Or.inl rfl | exact Or.inl (xw_cat_rf _) | exact Or.inr (by decide)) ?_ | refine xw_lk_s2 (by decide) (by decide) (by first | exact Or.inl rfl | exact Or.inl (xw_cat_rf _) | exact Or.inr (by decide)) ?_)) ?_
      refine rn_ifa (lkX3_putOut_87 Y) (fun c_87 => ?_) (fun c_87 => ?_)
      · skip
        have ez : xq_r (mo_voids s k i) 1100 i = some k ∨ xq_r (mo_voids s k i) 1200 i = some k := by
          first
          | exact Or.inl (xq_win hR hkk (fun j hj => hR.2.2.1.2.2.1 i j hbi hj) c_75)
          | exact Or.inr (xq_win hR hkk (fun j hj => hR.2.2.1.2.2.2.1 i j hbi hj) c_87)
        first | refine rn_ald (lkX3_putOut_90 Y) (by repeat (first | assumption | exact xw_lk_e _ _ _ | exact xw_lk_e2 _ _ _ | refine xw_lk_s (by decide) (by first | exact Or.inl rfl | exact Or.inl (xw_cat_rf _) | exact Or.inr (by decide)) ?_ | refine xw_lk_s2 (by decide) (by decide) (by first | exact Or.inl rfl | exact Or.inl (xw_cat_rf _) | exact Or.inr (by decide)) ?_)) ?_ | refine rn_aldO (lkX3_putOut_90 Y) (by repeat (first | assumption | exact xw_lk_e _ _ _ | exact xw_lk_e2 _ _ _ | refine xw_lk_s (by decide) (by first | exact Or.inl rfl | exact Or.inl (xw_cat_rf _) | exact Or.inr (by decide)) ?_ | refine xw_lk_s2 (by decide) (by decide) (by first | exact Or.inl rfl | exact Or.inl (xw_cat_rf _) | exact Or.inr (by decide)) ?_)) ?_ | refine rn_aldN (lkX3_putOut_90 Y) (by repeat (first | assumption | exact xw_lk_e _ _ _ | exact xw_lk_e2 _ _ _ | refine xw_lk_s (by decide) (by first | exact Or.inl rfl | exact Or.inl (xw_cat_rf _) | exact Or.inr (by decide)) ?_ | refine xw_lk_s2 (by decide) (by decide) (by first | exact Or.inl rfl | exact Or.inl (xw_cat_rf _) | exact Or.inr (by decide)) ?_)) ?_
        first | refine rn_ald (lkX3_putOut_91 Y) (by repeat (first | assumption | exact xw_lk_e _ _ _ | exact xw_lk_e2 _ _ _ | refine xw_lk_s (by decide) (by first | exact Or.inl rfl | exact Or.inl (xw_cat_rf _) | exact Or.inr (by decide)) ?_ | refine xw_lk_s2 (by decide) (by decide) (by first | exact Or.inl rfl | exact Or.inl (xw_cat_rf _) | exact Or.inr (by decide)) ?_)) ?_ | refine rn_aldO (lkX3_putOut_91 Y) (by repeat (first | assumption | exact xw_lk_e _ _ _ | exact xw_lk_e2 _ _ _ | refine xw_lk_s (by decide) (by first | exact Or.inl rfl | exact Or.inl (xw_cat_rf _) | exact Or.inr (by decide)) ?_ | refine xw_lk_s2 (by decide) (by decide) (by first | exact Or.inl rfl | exact Or.inl (xw_cat_rf _) | exact Or.inr (by decide)) ?_)) ?_ | refine rn_aldN (lkX3_putOut_91 Y) (by repeat (first | assumption | exact xw_lk_e _ _ _ | exact xw_lk_e2 _ _ _ | refine xw_lk_s (by decide) (by first | exact Or.inl rfl | exact Or.inl (xw_cat_rf _) | exact Or.inr (by decide)) ?_ | refine xw_lk_s2 (by decide) (by decide) (by first | exact Or.inl rfl | exact Or.inl (xw_cat_rf _) | exact Or.inr (by decide)) ?_)) ?_
        refine rp_callV hR (lkX3_putOut_93 Y) rfl (by first | assumption | exact xq_v0 (by decide)) rfl (Nat.le_of_ble_eq_true rfl) (Nat.le_of_ble_eq_true rfl) (Nat.le_of_ble_eq_true rfl) ?_
        refine sc_void hR hbi (fun w hR => ?_)
        refine rn_inc (lkX3_putOut_96 Y) (by repeat (first | assumption | exact xw_lk_e _ _ _ | exact xw_lk_e2 _ _ _ | refine xw_lk_s (by decide) (by first | exact Or.inl rfl | exact Or.inl (xw_cat_rf _) | exact Or.inr (by decide)) ?_ | refine xw_lk_s2 (by decide) (by decide) (by first | exact Or.inl rfl | exact Or.inl (xw_cat_rf _) | exact Or.inr (by decide)) ?_)) rfl ?_
        refine rn_goto (lkX3_putOut_99 Y) ?_
        have e : mo_voids s k (i + 1) = mo_void (mo_voids s k i) i := by rw [mo_voids, if_pos ez]
        exact ih (i + 1) (by omega) _ _ (by rw [e]; exact hR) (by repeat (first | assumption | exact xw_lk_e _ _ _ | exact xw_lk_e2 _ _ _ | refine xw_lk_s (by decide) (by first | exact Or.inl rfl | exact Or.inl (xw_cat_rf _) | exact Or.inr (by decide)) ?_ | refine xw_lk_s2 (by decide) (by decide) (by first | exact Or.inl rfl | exact Or.inl (xw_cat_rf _) | exact Or.inr (by decide)) ?_)) (by repeat (first | assumption | exact xw_lk_e _ _ _ | exact xw_lk_e2 _ _ _ | refine xw_lk_s (by decide) (by first | exact Or.inl rfl | exact Or.inl (xw_cat_rf _) | exact Or.inr (by decide)) ?_ | refine xw_lk_s2 (by decide) (by decide) (by first | exact Or.inl rfl | exact Or.inl (xw_cat_rf _) | exact Or.inr (by decide)) ?_)) (by rw [← nI_1]; repeat (first | assumption | exact xw_lk_e _ _ _ | exact xw_lk_e2 _ _ _ | refine xw_lk_s (by decide) (by first | exact Or.inl rfl | exact Or.inl (xw_cat_rf _) | exact Or.inr (by decide)) ?_ | refine xw_lk_s2 (by decide) (by decide) (by first | exact Or.inl rfl | exact Or.inl (xw_cat_rf _) | exact Or.inr (by decide)) ?_))
      · skip
        refine rn_inc (lkX3_putOut_96 Y) (by repeat (first | assumption | exact xw_lk_e _ _ _ | exact xw_lk_e2 _ _ _ | refine xw_lk_s (by decide) (by first | exact Or.inl rfl | exact Or.inl (xw_cat_rf _) | exact Or.inr (by decide)) ?_ | refine xw_lk_s2 (by decide) (by decide) (by first | exact Or.inl rfl | exact Or.inl (xw_cat_rf _) | exact Or.inr (by decide)) ?_)) rfl ?_
        refine rn_goto (lkX3_putOut_99 Y) ?_
        have e : mo_voids s k (i + 1) = mo_voids s k i := by
          rw [mo_voids]
          refine if_neg (fun z => ?_)
          rcases z with z | z
          · exact c_75 (by rw [z]; rfl)
          · exact c_87 (by rw [z]; rfl)
        exact ih (i + 1) (by omega) _ _ (by rw [e]; exact hR) (by repeat (first | assumption | exact xw_lk_e _ _ _ | exact xw_lk_e2 _ _ _ | refine xw_lk_s (by decide) (by first | exact Or.inl rfl | exact Or.inl (xw_cat_rf _) | exact Or.inr (by decide)) ?_ | refine xw_lk_s2 (by decide) (by decide) (by first | exact Or.inl rfl | exact Or.inl (xw_cat_rf _) | exact Or.inr (by decide)) ?_)) (by repeat (first | assumption | exact xw_lk_e _ _ _ | exact xw_lk_e2 _ _ _ | refine xw_lk_s (by decide) (by first | exact Or.inl rfl | exact Or.inl (xw_cat_rf _) | exact Or.inr (by decide)) ?_ | refine xw_lk_s2 (by decide) (by decide) (by first | exact Or.inl rfl | exact Or.inl (xw_cat_rf _) | exact Or.inr (by decide)) ?_)) (by rw [← nI_1]; repeat (first | assumption | exact xw_lk_e _ _ _ | exact xw_lk_e2 _ _ _ | refine xw_lk_s (by decide) (by first | exact Or.inl rfl | exact Or.inl (xw_cat_rf _) | exact Or.inr (by decide)) ?_ | refine xw_lk_s2 (by decide) (by decide) (by first | exact Or.inl rfl | exact Or.inl (xw_cat_rf _) | exact Or.inr (by decide)) ?_))

set_option maxRecDepth 100000 in
set_option maxHeartbeats 4000000 in
theorem sc_putOut {k : Nat} {o : Option Nat} {b : Nat} (hR : xq_rp Y ad s w) (hb : b < s.2.1) (hk : k < s.1) (ho : ∀ k, o = some k → k < s.1) (h : ∀ w', xq_rp Y ad (mo_putOut s b k o) w' → post none w') : ptX3_putOut Y [.ref (ad 0 0), .ref (ad 10 b), .ref (ad 9 k), va_rf (o.map (ad 9))] w post := by
  have hv9 : xq_vl ad s 9 k := xq_v9 hk
  have hv10 : xq_vl ad s 10 b := xq_v10 hb
  have hv11 : xq_vl ad s 11 b := xq_v11 hb
  have hv12 : xq_vl ad s 12 b := xq_v12 hb
  refine ⟨(by first | exact Nat.le_of_ble_eq_true rfl | simp [lg_sl, xw_cat_rf, xw_cat_i, xw_cat_r, xw_cat_n, xw_cat_l]), ?_⟩
  rw [show lv_args 0 [.ref (ad 0 0), .ref (ad 10 b), .ref (ad 9 k), va_rf (o.map (ad 9))] = [(0, .ref (ad 0 0)), (1, .ref (ad 10 b)), (2, .ref (ad 9 k)), (3, va_rf (o.map (ad 9)))] from by simp [lv_args, xw_cat_rf, xw_cat_i, xw_cat_r, xw_cat_n, xw_cat_l]]
  first | refine rn_ald (lkX3_putOut_0 Y) rfl ?_ | refine rn_aldO (lkX3_putOut_0 Y) rfl ?_ | refine rn_aldN (lkX3_putOut_0 Y) rfl ?_
  refine rn_ifnR (lkX3_putOut_1 Y) ?_
  first | refine rn_ald (lkX3_putOut_5 Y) rfl ?_ | refine rn_aldO (lkX3_putOut_5 Y) rfl ?_ | refine rn_aldN (lkX3_putOut_5 Y) rfl ?_
  refine rn_push (lkX3_putOut_6 Y) ?_
  refine rp_puti (c := 905) hR (lkX3_putOut_7 Y) (by first | assumption | exact xq_v0 (by decide)) rfl (Nat.le_of_ble_eq_true rfl) xw_fit_z1 rfl (fun _ => Or.inr rfl) (by simp [xq_en, xq_i_i, xq_r_i]) (fun w hR => ?_)
  have hb2 : b < (xu_i s 905 k 1).2.1 := hb
  have ho2 : ∀ j, o = some j → j < (xu_i s 905 k 1).1 := ho
  have hk2 : k < (xu_i s 905 k 1).1 := hk
  have e7 : xq_i (xu_i s 905 k 1) 7 0 = xq_i s 7 0 := rfl
  have e1 : xq_i (xu_i s 905 k 1) 1001 b = xq_i s 1001 b := rfl
  have e2 : (xu_i s 905 k 1).2.1 = s.2.1 := rfl
  unfold mo_putOut at h
  rw [← e7, ← e1, ← e2] at h
  generalize xu_i s 905 k 1 = s2 at hR h hb2 ho2 hk2
  clear e7 e1 e2
  have hv10 : xq_vl ad s2 10 b := xq_v10 hb2
  have hv11 : xq_vl ad s2 11 b := xq_v11 hb2
  have hv12 : xq_vl ad s2 12 b := xq_v12 hb2
  have hv0 : xq_vl ad s2 0 0 := xq_v0 (by decide)
  first | refine rn_ald (lkX3_putOut_10 Y) rfl ?_ | refine rn_aldO (lkX3_putOut_10 Y) rfl ?_ | refine rn_aldN (lkX3_putOut_10 Y) rfl ?_
  refine rp_callV hR (lkX3_putOut_11 Y) rfl (by first | assumption | exact xq_v0 (by decide)) rfl (Nat.le_of_ble_eq_true rfl) (Nat.le_of_ble_eq_true rfl) (Nat.le_of_ble_eq_true rfl) ?_
  refine sc_isOfTable hR hb2 ?_
  by_cases hq : xq_i s2 1001 b = -1
  · rw [if_pos hq] at h ⊢
    refine rn_ifz (lkX3_putOut_14 Y) (fun _ => ?_) (fun q => absurd (by decide) q)
    first | refine rn_ald (lkX3_putOut_28 Y) rfl ?_ | refine rn_aldO (lkX3_putOut_28 Y) rfl ?_ | refine rn_aldN (lkX3_putOut_28 Y) rfl ?_
    first | refine rn_ald (lkX3_putOut_29 Y) rfl ?_ | refine rn_aldO (lkX3_putOut_29 Y) rfl ?_ | refine rn_aldN (lkX3_putOut_29 Y) rfl ?_
    first | refine rn_ald (lkX3_putOut_30 Y) rfl ?_ | refine rn_aldO (lkX3_putOut_30 Y) rfl ?_ | refine rn_aldN (lkX3_putOut_30 Y) rfl ?_
    refine rp_getf hR (lkX3_putOut_31 Y) (by first | assumption | exact xq_v0 (by decide)) rfl rfl ?_
    refine rp_callV hR (lkX3_putOut_34 Y) rfl (by first | assumption | exact xq_v0 (by decide)) rfl (Nat.le_of_ble_eq_true rfl) (Nat.le_of_ble_eq_true rfl) (Nat.le_of_ble_eq_true rfl) ?_
    refine sc_leave hR hb2 (fun w hR => ?_)
    refine rn_push (lkX3_putOut_37 Y) ?_
    refine rn_ist (lkX3_putOut_38 Y) rfl ?_
    refine lp_putOut (s := mo_leave s2 b (xq_i s2 7 0)) (k := k) (by rw [mo_leave_1]; exact hk2) (xq_nb hR) (fun w' hw' => ⟨h w' (by rw [mo_leave_2] at hw'; exact hw'), Nat.le_refl _, Nat.le_refl _⟩) _ 0 (Nat.zero_add _) w _ hR rfl rfl rfl
  · rw [if_neg hq] at h ⊢
    refine rn_ifz (lkX3_putOut_14 Y) (fun q => absurd q (by decide)) (fun _ => ?_)
    first | refine rn_ald (lkX3_putOut_17 Y) rfl ?_ | refine rn_aldO (lkX3_putOut_17 Y) rfl ?_ | refine rn_aldN (lkX3_putOut_17 Y) rfl ?_
    first | refine rn_ald (lkX3_putOut_18 Y) rfl ?_ | refine rn_aldO (lkX3_putOut_18 Y) rfl ?_ | refine rn_aldN (lkX3_putOut_18 Y) rfl ?_
    first | refine rn_ald (lkX3_putOut_19 Y) rfl ?_ | refine rn_aldO (lkX3_putOut_19 Y) rfl ?_ | refine rn_aldN (lkX3_putOut_19 Y) rfl ?_
    first | refine rn_ald (lkX3_putOut_20 Y) rfl ?_ | refine rn_aldO (lkX3_putOut_20 Y) rfl ?_ | refine rn_aldN (lkX3_putOut_20 Y) rfl ?_
    refine rp_getf hR (lkX3_putOut_21 Y) (by first | assumption | exact xq_v0 (by decide)) rfl rfl ?_
    refine rp_callV hR (lkX3_putOut_24 Y) rfl (by first | assumption | exact xq_v0 (by decide)) rfl (Nat.le_of_ble_eq_true rfl) (Nat.le_of_ble_eq_true rfl) (Nat.le_of_ble_eq_true rfl) ?_
    refine sc_finish hR hb2 ho2 (fun w hR => ?_)
    refine rn_vret (lkX3_putOut_27 Y) ?_
    exact ⟨h _ hR, Nat.le_refl _, Nat.le_refl _⟩

set_option maxRecDepth 100000 in
set_option maxHeartbeats 4000000 in
theorem sc_hit0 {j b : Nat} (hR : xq_rp Y ad s w) (hj : j < 3) (hl : xq_r s 300 j = some b) (h : ∀ w', xq_rp Y ad (mo_hit s b 0) w' → post (some (.int (mo_hitR s b 0))) w') : ptX3_hit Y [.ref (ad 0 0), .int (nI j), .int 0] w post := by
  have hb : b < s.2.1 := hR.2.2.1.2.2.2.2.1 j b hl
  have hv10 : xq_vl ad s 10 b := xq_v10 hb
  have hv11 : xq_vl ad s 11 b := xq_v11 hb
  have hv12 : xq_vl ad s 12 b := xq_v12 hb
  refine ⟨(by first | exact Nat.le_of_ble_eq_true rfl | simp [lg_sl, xw_cat_rf, xw_cat_i, xw_cat_r, xw_cat_n, xw_cat_l]), ?_⟩
  refine rn_ild (lkX3_hit_0 Y) rfl ?_
  refine rn_callS (lkX3_hit_1 Y) (Nat.le_of_ble_eq_true rfl) rfl (Nat.le_of_ble_eq_true rfl) (Nat.le_of_ble_eq_true rfl) (Nat.le_of_ble_eq_true rfl) ?_
  refine sc_isPiste1 hj ?_
  refine rn_ifz (lkX3_hit_4 Y) (fun q => absurd q (by decide)) (fun _ => ?_)
  refine rn_ild (lkX3_hit_7 Y) rfl ?_
  refine rn_push (lkX3_hit_8 Y) ?_
  refine rn_push (lkX3_hit_9 Y) ?_
  refine rn_callS (lkX3_hit_10 Y) (Nat.le_of_ble_eq_true rfl) rfl (Nat.le_of_ble_eq_true rfl) (Nat.le_of_ble_eq_true rfl) (Nat.le_of_ble_eq_true rfl) ?_
  refine sc_in1 (by decide) ?_
  refine rn_ifz (lkX3_hit_13 Y) (fun _ => ?_) (fun q => absurd (by decide) q)
  first | refine rn_ald (lkX3_hit_26 Y) rfl ?_ | refine rn_aldO (lkX3_hit_26 Y) rfl ?_ | refine rn_aldN (lkX3_hit_26 Y) rfl ?_
  refine rn_ild (lkX3_hit_27 Y) rfl ?_
  refine rp_callV hR (lkX3_hit_28 Y) rfl (by first | assumption | exact xq_v0 (by decide)) rfl (Nat.le_of_ble_eq_true rfl) (Nat.le_of_ble_eq_true rfl) (Nat.le_of_ble_eq_true rfl) ?_
  refine sc_liveOn hR hj hl ?_
  first | refine rn_ast (lkX3_hit_31 Y) rfl ?_ | refine rn_astO (lkX3_hit_31 Y) rfl ?_ | refine rn_astN (lkX3_hit_31 Y) rfl ?_
  refine rn_ild (lkX3_hit_32 Y) rfl ?_
  refine rn_push (lkX3_hit_33 Y) ?_
  refine rn_ifc (lkX3_hit_34 Y) (fun _ => ?_) (fun q => absurd (by decide) q)
  refine rn_ild (lkX3_hit_46 Y) rfl ?_
  refine rn_push (lkX3_hit_47 Y) ?_
  refine rn_ifc (lkX3_hit_48 Y) (fun q => absurd q (by decide)) (fun _ => ?_)
  first | refine rn_ald (lkX3_hit_51 Y) rfl ?_ | refine rn_aldO (lkX3_hit_51 Y) rfl ?_ | refine rn_aldN (lkX3_hit_51 Y) rfl ?_
  refine rp_getf hR (lkX3_hit_52 Y) (by first | assumption | exact xq_v0 (by decide)) rfl rfl ?_
  refine rn_dup (lkX3_hit_55 Y) (by first | rfl | exact xw_cat_rf _) ?_
  refine rp_getf hR (lkX3_hit_56 Y) (by first | assumption | exact xq_v0 (by decide)) rfl rfl ?_
  refine rn_push (lkX3_hit_59 Y) ?_
  refine rn_i2 (lkX3_hit_60 Y) ?_
  refine rp_puti (c := 1101) hR (lkX3_hit_61 Y) (by first | assumption | exact xq_v0 (by decide)) rfl (Nat.le_of_ble_eq_true rfl) (xw_fit_i _) rfl (fun q => absurd q (by decide)) (by simp [xq_en, xq_i_i, xq_r_i]) (fun w hR => ?_)
  refine rn_ild (lkX3_hit_64 Y) rfl ?_
  refine rn_ifz (lkX3_hit_65 Y) (fun _ => ?_) (fun q => absurd (by decide) q)
  first | refine rn_ald (lkX3_hit_81 Y) rfl ?_ | refine rn_aldO (lkX3_hit_81 Y) rfl ?_ | refine rn_aldN (lkX3_hit_81 Y) rfl ?_
  first | refine rn_ald (lkX3_hit_82 Y) rfl ?_ | refine rn_aldO (lkX3_hit_82 Y) rfl ?_ | refine rn_aldN (lkX3_hit_82 Y) rfl ?_
  refine rp_callV hR (lkX3_hit_83 Y) rfl (by first | assumption | exact xq_v0 (by decide)) rfl (Nat.le_of_ble_eq_true rfl) (Nat.le_of_ble_eq_true rfl) (Nat.le_of_ble_eq_true rfl) ?_
  refine sc_overHit hR hb (fun w hR => ?_)
  refine rn_zret (lkX3_hit_86 Y) (mo_decided_01 _ _) ?_
  exact ⟨h _ hR, Nat.le_refl _, Nat.le_refl _⟩

set_option maxRecDepth 100000 in
set_option maxHeartbeats 4000000 in
theorem sc_hit1 {j b : Nat} (hR : xq_rp Y ad s w) (hj : j < 3) (hl : xq_r s 300 j = some b) (h : ∀ w', xq_rp Y ad (mo_hit s b 1) w' → post (some (.int (mo_hitR s b 1))) w') : ptX3_hit Y [.ref (ad 0 0), .int (nI j), .int 1] w post := by
  have hb : b < s.2.1 := hR.2.2.1.2.2.2.2.1 j b hl
  have hv10 : xq_vl ad s 10 b := xq_v10 hb
  have hv11 : xq_vl ad s 11 b := xq_v11 hb
  have hv12 : xq_vl ad s 12 b := xq_v12 hb
  refine ⟨(by first | exact Nat.le_of_ble_eq_true rfl | simp [lg_sl, xw_cat_rf, xw_cat_i, xw_cat_r, xw_cat_n, xw_cat_l]), ?_⟩
  refine rn_ild (lkX3_hit_0 Y) rfl ?_
  refine rn_callS (lkX3_hit_1 Y) (Nat.le_of_ble_eq_true rfl) rfl (Nat.le_of_ble_eq_true rfl) (Nat.le_of_ble_eq_true rfl) (Nat.le_of_ble_eq_true rfl) ?_
  refine sc_isPiste1 hj ?_
  refine rn_ifz (lkX3_hit_4 Y) (fun q => absurd q (by decide)) (fun _ => ?_)
  refine rn_ild (lkX3_hit_7 Y) rfl ?_
  refine rn_push (lkX3_hit_8 Y) ?_
  refine rn_push (lkX3_hit_9 Y) ?_
  refine rn_callS (lkX3_hit_10 Y) (Nat.le_of_ble_eq_true rfl) rfl (Nat.le_of_ble_eq_true rfl) (Nat.le_of_ble_eq_true rfl) (Nat.le_of_ble_eq_true rfl) ?_
  refine sc_in1 (by decide) ?_
  refine rn_ifz (lkX3_hit_13 Y) (fun _ => ?_) (fun q => absurd (by decide) q)
  first | refine rn_ald (lkX3_hit_26 Y) rfl ?_ | refine rn_aldO (lkX3_hit_26 Y) rfl ?_ | refine rn_aldN (lkX3_hit_26 Y) rfl ?_
  refine rn_ild (lkX3_hit_27 Y) rfl ?_
  refine rp_callV hR (lkX3_hit_28 Y) rfl (by first | assumption | exact xq_v0 (by decide)) rfl (Nat.le_of_ble_eq_true rfl) (Nat.le_of_ble_eq_true rfl) (Nat.le_of_ble_eq_true rfl) ?_
  refine sc_liveOn hR hj hl ?_
  first | refine rn_ast (lkX3_hit_31 Y) rfl ?_ | refine rn_astO (lkX3_hit_31 Y) rfl ?_ | refine rn_astN (lkX3_hit_31 Y) rfl ?_
  refine rn_ild (lkX3_hit_32 Y) rfl ?_
  refine rn_push (lkX3_hit_33 Y) ?_
  refine rn_ifc (lkX3_hit_34 Y) (fun _ => ?_) (fun q => absurd (by decide) q)
  refine rn_ild (lkX3_hit_46 Y) rfl ?_
  refine rn_push (lkX3_hit_47 Y) ?_
  refine rn_ifc (lkX3_hit_48 Y) (fun _ => ?_) (fun q => absurd (by decide) q)
  refine rn_ild (lkX3_hit_64 Y) rfl ?_
  refine rn_ifz (lkX3_hit_65 Y) (fun q => absurd q (by decide)) (fun _ => ?_)
  first | refine rn_ald (lkX3_hit_68 Y) rfl ?_ | refine rn_aldO (lkX3_hit_68 Y) rfl ?_ | refine rn_aldN (lkX3_hit_68 Y) rfl ?_
  refine rp_getf hR (lkX3_hit_69 Y) (by first | assumption | exact xq_v0 (by decide)) rfl rfl ?_
  refine rn_dup (lkX3_hit_72 Y) (by first | rfl | exact xw_cat_rf _) ?_
  refine rp_getf hR (lkX3_hit_73 Y) (by first | assumption | exact xq_v0 (by decide)) rfl rfl ?_
  refine rn_push (lkX3_hit_76 Y) ?_
  refine rn_i2 (lkX3_hit_77 Y) ?_
  refine rp_puti (c := 1201) hR (lkX3_hit_78 Y) (by first | assumption | exact xq_v0 (by decide)) rfl (Nat.le_of_ble_eq_true rfl) (xw_fit_i _) rfl (fun q => absurd q (by decide)) (by simp [xq_en, xq_i_i, xq_r_i]) (fun w hR => ?_)
  first | refine rn_ald (lkX3_hit_81 Y) rfl ?_ | refine rn_aldO (lkX3_hit_81 Y) rfl ?_ | refine rn_aldN (lkX3_hit_81 Y) rfl ?_
  first | refine rn_ald (lkX3_hit_82 Y) rfl ?_ | refine rn_aldO (lkX3_hit_82 Y) rfl ?_ | refine rn_aldN (lkX3_hit_82 Y) rfl ?_
  refine rp_callV hR (lkX3_hit_83 Y) rfl (by first | assumption | exact xq_v0 (by decide)) rfl (Nat.le_of_ble_eq_true rfl) (Nat.le_of_ble_eq_true rfl) (Nat.le_of_ble_eq_true rfl) ?_
  refine sc_overHit hR hb (fun w hR => ?_)
  refine rn_zret (lkX3_hit_86 Y) (mo_decided_01 _ _) ?_
  exact ⟨h _ hR, Nat.le_refl _, Nat.le_refl _⟩

set_option maxRecDepth 100000 in
set_option maxHeartbeats 4000000 in
theorem sc_winnerIn {x : Int32} {j b : Nat} (hR : xq_rp Y ad s w) (hj : j < 3) (hl : xq_r s 300 j = some b) (hx : ¬ (x < 1 ∨ 600 < x)) (h : post (some (.int (if mo_until s b ≤ x then mo_num s (mo_win s b) else -1))) w) : ptX3_winnerIn Y [.ref (ad 0 0), .int (nI j), .int x] w post := by
  have hb : b < s.2.1 := hR.2.2.1.2.2.2.2.1 j b hl
  have hv10 : xq_vl ad s 10 b := xq_v10 hb
  have hv11 : xq_vl ad s 11 b := xq_v11 hb
  have hv12 : xq_vl ad s 12 b := xq_v12 hb
  refine ⟨(by first | exact Nat.le_of_ble_eq_true rfl | simp [lg_sl, xw_cat_rf, xw_cat_i, xw_cat_r, xw_cat_n, xw_cat_l]), ?_⟩
  refine rn_ild (lkX3_winnerIn_0 Y) rfl ?_
  refine rn_callS (lkX3_winnerIn_1 Y) (Nat.le_of_ble_eq_true rfl) rfl (Nat.le_of_ble_eq_true rfl) (Nat.le_of_ble_eq_true rfl) (Nat.le_of_ble_eq_true rfl) ?_
  refine sc_isPiste1 hj ?_
  refine rn_ifz (lkX3_winnerIn_4 Y) (fun q => absurd q (by decide)) (fun _ => ?_)
  refine rn_ild (lkX3_winnerIn_7 Y) rfl ?_
  refine rn_push (lkX3_winnerIn_8 Y) ?_
  refine rn_push (lkX3_winnerIn_9 Y) ?_
  refine rn_callS (lkX3_winnerIn_12 Y) (Nat.le_of_ble_eq_true rfl) rfl (Nat.le_of_ble_eq_true rfl) (Nat.le_of_ble_eq_true rfl) (Nat.le_of_ble_eq_true rfl) ?_
  refine sc_in1 hx ?_
  refine rn_ifz (lkX3_winnerIn_15 Y) (fun _ => ?_) (fun q => absurd (by decide) q)
  first | refine rn_ald (lkX3_winnerIn_29 Y) rfl ?_ | refine rn_aldO (lkX3_winnerIn_29 Y) rfl ?_ | refine rn_aldN (lkX3_winnerIn_29 Y) rfl ?_
  refine rn_ild (lkX3_winnerIn_30 Y) rfl ?_
  refine rp_callV hR (lkX3_winnerIn_31 Y) rfl (by first | assumption | exact xq_v0 (by decide)) rfl (Nat.le_of_ble_eq_true rfl) (Nat.le_of_ble_eq_true rfl) (Nat.le_of_ble_eq_true rfl) ?_
  refine sc_liveOn hR hj hl ?_
  first | refine rn_ast (lkX3_winnerIn_34 Y) rfl ?_ | refine rn_astO (lkX3_winnerIn_34 Y) rfl ?_ | refine rn_astN (lkX3_winnerIn_34 Y) rfl ?_
  refine rn_ild (lkX3_winnerIn_35 Y) rfl ?_
  first | refine rn_ald (lkX3_winnerIn_36 Y) rfl ?_ | refine rn_aldO (lkX3_winnerIn_36 Y) rfl ?_ | refine rn_aldN (lkX3_winnerIn_36 Y) rfl ?_
  refine rp_callV hR (lkX3_winnerIn_37 Y) rfl (by first | assumption | exact xq_v0 (by decide)) rfl (Nat.le_of_ble_eq_true rfl) (Nat.le_of_ble_eq_true rfl) (Nat.le_of_ble_eq_true rfl) ?_
  refine sc_until hR hb ?_
  refine rn_ifc (lkX3_winnerIn_40 Y) (fun c_40 => ?_) (fun c_40 => ?_)
  · try dsimp only at c_40
    first | refine rn_ald (lkX3_winnerIn_47 Y) rfl ?_ | refine rn_aldO (lkX3_winnerIn_47 Y) rfl ?_ | refine rn_aldN (lkX3_winnerIn_47 Y) rfl ?_
    refine rp_callV hR (lkX3_winnerIn_48 Y) rfl (by first | assumption | exact xq_v0 (by decide)) rfl (Nat.le_of_ble_eq_true rfl) (Nat.le_of_ble_eq_true rfl) (Nat.le_of_ble_eq_true rfl) ?_
    refine sc_win hR hb ?_
    refine rn_callS (lkX3_winnerIn_51 Y) (Nat.le_of_ble_eq_true rfl) rfl (Nat.le_of_ble_eq_true rfl) (Nat.le_of_ble_eq_true rfl) (Nat.le_of_ble_eq_true rfl) ?_
    refine sc_num hR (fun k hk => mo_win_lt hR.2.2.1 hb hk) ?_
    refine rn_iret (lkX3_winnerIn_54 Y) ?_
    first | rw [if_pos c_40] at h | rw [if_neg c_40] at h
    exact ⟨h, Nat.le_refl _, Nat.le_refl _⟩
  · try dsimp only at c_40
    refine rn_push (lkX3_winnerIn_43 Y) ?_
    refine rn_goto (lkX3_winnerIn_44 Y) ?_
    refine rn_iret (lkX3_winnerIn_54 Y) ?_
    first | rw [if_pos c_40] at h | rw [if_neg c_40] at h
    exact ⟨h, Nat.le_refl _, Nat.le_refl _⟩

theorem mo_bbegin_1 (s : xq_S) (b : Nat) (t : Int32) : (mo_bbegin s b t).1 = s.1 := by
  unfold mo_bbegin
  rw [mo_sbegin_1, mo_sbegin_1]
  rfl
theorem mo_bbegin_2 (s : xq_S) (b : Nat) (t : Int32) : (mo_bbegin s b t).2.1 = s.2.1 := by
  unfold mo_bbegin
  rw [mo_sbegin_2, mo_sbegin_2]
  rfl

set_option maxRecDepth 100000 in
set_option maxHeartbeats 4000000 in
theorem sc_start {j : Nat} {b : Nat} (hR : xq_rp Y ad s w) (hb : b < s.2.1) (hj : j < 3) (hl : xq_r s 300 j = none) (hy : mo_why s b = 0) (h : ∀ w', xq_rp Y ad (mo_start s b j) w' → post none w') : ptX3_start Y [.ref (ad 0 0), .int (nI b), .int (nI j)] w post := by
  have hv10 : xq_vl ad s 10 b := xq_v10 hb
  have hv11 : xq_vl ad s 11 b := xq_v11 hb
  have hv12 : xq_vl ad s 12 b := xq_v12 hb
  refine ⟨(by first | exact Nat.le_of_ble_eq_true rfl | simp [lg_sl, xw_cat_rf, xw_cat_i, xw_cat_r, xw_cat_n, xw_cat_l]), ?_⟩
  first | refine rn_ald (lkX3_start_0 Y) rfl ?_ | refine rn_aldO (lkX3_start_0 Y) rfl ?_ | refine rn_aldN (lkX3_start_0 Y) rfl ?_
  refine rn_ild (lkX3_start_1 Y) rfl ?_
  refine rp_callV hR (lkX3_start_2 Y) rfl (by first | assumption | exact xq_v0 (by decide)) rfl (Nat.le_of_ble_eq_true rfl) (Nat.le_of_ble_eq_true rfl) (Nat.le_of_ble_eq_true rfl) ?_
  refine sc_boutAt hR hb ?_
  first | refine rn_ast (lkX3_start_5 Y) rfl ?_ | refine rn_astO (lkX3_start_5 Y) rfl ?_ | refine rn_astN (lkX3_start_5 Y) rfl ?_
  refine rn_ild (lkX3_start_6 Y) rfl ?_
  refine rn_callS (lkX3_start_7 Y) (Nat.le_of_ble_eq_true rfl) rfl (Nat.le_of_ble_eq_true rfl) (Nat.le_of_ble_eq_true rfl) (Nat.le_of_ble_eq_true rfl) ?_
  refine sc_isPiste1 hj ?_
  refine rn_ifz (lkX3_start_10 Y) (fun _ => ?_) (fun q => absurd (by decide) q)
  first | refine rn_ald (lkX3_start_23 Y) rfl ?_ | refine rn_aldO (lkX3_start_23 Y) rfl ?_ | refine rn_aldN (lkX3_start_23 Y) rfl ?_
  first | refine rn_ald (lkX3_start_24 Y) rfl ?_ | refine rn_aldO (lkX3_start_24 Y) rfl ?_ | refine rn_aldN (lkX3_start_24 Y) rfl ?_
  refine rp_callV hR (lkX3_start_25 Y) rfl (by first | assumption | exact xq_v0 (by decide)) rfl (Nat.le_of_ble_eq_true rfl) (Nat.le_of_ble_eq_true rfl) (Nat.le_of_ble_eq_true rfl) ?_
  refine sc_why hR hb ?_
  rw [hy]
  refine rn_ifz (lkX3_start_28 Y) (fun q => absurd q (by decide)) (fun _ => ?_)
  first | refine rn_ald (lkX3_start_31 Y) rfl ?_ | refine rn_aldO (lkX3_start_31 Y) rfl ?_ | refine rn_aldN (lkX3_start_31 Y) rfl ?_
  refine rp_getf hR (lkX3_start_32 Y) (by first | assumption | exact xq_v0 (by decide)) rfl rfl ?_
  refine rn_ild (lkX3_start_35 Y) rfl ?_
  refine rn_aald (lkX3_start_36 Y) (hR.1 3 0 (xq_v0 (by decide))).1 (hR.1 3 0 (xq_v0 (by decide))).2 (vp_in_nI hj (by omega)) ?_
  rw [nI_clamp (by omega), hl]
  refine rn_ifnN (lkX3_start_37 Y) ?_
  first | refine rn_ald (lkX3_start_50 Y) rfl ?_ | refine rn_aldO (lkX3_start_50 Y) rfl ?_ | refine rn_aldN (lkX3_start_50 Y) rfl ?_
  refine rn_ild (lkX3_start_51 Y) rfl ?_
  refine rp_callV hR (lkX3_start_52 Y) rfl (by first | assumption | exact xq_v0 (by decide)) rfl (Nat.le_of_ble_eq_true rfl) (Nat.le_of_ble_eq_true rfl) (Nat.le_of_ble_eq_true rfl) ?_
  refine sc_bbegin hR hb (fun w hR => ?_)
  first | refine rn_ald (lkX3_start_55 Y) rfl ?_ | refine rn_aldO (lkX3_start_55 Y) rfl ?_ | refine rn_aldN (lkX3_start_55 Y) rfl ?_
  refine rp_getf hR (lkX3_start_56 Y) (by first | assumption | exact xq_v0 (by decide)) rfl rfl ?_
  refine rn_ild (lkX3_start_59 Y) rfl ?_
  first | refine rn_ald (lkX3_start_60 Y) rfl ?_ | refine rn_aldO (lkX3_start_60 Y) rfl ?_ | refine rn_aldN (lkX3_start_60 Y) rfl ?_
  refine rp_pst (v := some b) hR (lkX3_start_61 Y) rfl hj (fun b' hb' => by cases hb'; rw [mo_bbegin_2]; exact hb) (fun w hR => ?_)
  refine rn_vret (lkX3_start_62 Y) ?_
  exact ⟨h _ hR, Nat.le_refl _, Nat.le_refl _⟩

end XC8
