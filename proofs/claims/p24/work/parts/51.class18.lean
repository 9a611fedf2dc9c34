/-! THE TABLE IS DRAWN: the rounds behind the first, and all -/
section XCI
variable {Y : xw_Y} {ad : Nat → Nat → Nat} {s : xq_S} {w w0 : xw_W} {post : Option Value → xw_W → Prop}

set_option maxRecDepth 100000 in
set_option maxHeartbeats 4000000 in
theorem lp_tb2 {Rt : xw_R} {a r q k0 n0 : Nat} (hr : r ≤ 10) (hq : q ≤ 8) (hB : s.2.1 + q ≤ 130) (hk0 : k0 + 4 * q ≤ 60) (hn0 : n0 + 215 * q ≤ 3300) (h : ∀ (ad : Nat → Nat → Nat) (w : xw_W) (lv : xw_L), ad 0 0 = a → xq_rp Y ad (mo_tb2 s r q) w → xw_lk lv 0 = some (.ref a) → xw_lk lv 1 = some (.int (nI r)) → xw_lk lv 2 = some (.int (nI q)) → xw_Run (tbX3_addTableBouts Y) Rt 123 lv [] w (k0 + 4 * q) (n0 + 215 * q)) : ∀ (j i : Nat), i + j = q → ∀ (ad : Nat → Nat → Nat) (w : xw_W) (lv : xw_L), ad 0 0 = a → xq_rp Y ad (mo_tb2 s r i) w → xw_lk lv 0 = some (.ref a) → xw_lk lv 1 = some (.int (nI r)) → xw_lk lv 2 = some (.int (nI q)) → xw_lk lv 3 = some (.int (nI i)) → xw_Run (tbX3_addTableBouts Y) Rt 87 lv [] w (k0 + 4 * i) (n0 + 215 * i) := by
  intro j
  induction j with
  | zero =>
    intro i hi ad w lv ea hR hl0 hl1 hl2 hl3
    subst ea
    have hv0 : xq_vl ad (mo_tb2 s r i) 0 0 := xq_v0 (by decide)
    refine rn_ild (lkX3_addTableBouts_87 Y) (by repeat (first | assumption | exact xw_lk_e _ _ _ | exact xw_lk_e2 _ _ _ | refine xw_lk_s (by decide) (by first | exact Or.inl rfl | exact Or.inl (xw_cat_rf _) | exact Or.inr (by decide)) ?_ | refine xw_lk_s2 (by decide) (by decide) (by first | exact Or.inl rfl | exact Or.inl (xw_cat_rf _) | exact Or.inr (by decide)) ?_)) ?_
    refine rn_ild (lkX3_addTableBouts_88 Y) (by repeat (first | assumption | exact xw_lk_e _ _ _ | exact xw_lk_e2 _ _ _ | refine xw_lk_s (by decide) (by first | exact Or.inl rfl | exact Or.inl (xw_cat_rf _) | exact Or.inr (by decide)) ?_ | refine xw_lk_s2 (by decide) (by decide) (by first | exact Or.inl rfl | exact Or.inl (xw_cat_rf _) | exact Or.inr (by decide)) ?_)) ?_
    refine rn_ifc (lkX3_addTableBouts_89 Y) (fun _ => ?_) (fun q => absurd (nI_le (by omega) (by omega)) q)
    have e : i = q := by omega
    subst e
    exact h ad _ _ rfl hR hl0 hl1 hl2
  | succ j ih =>
    intro i hi ad w lv ea hR hl0 hl1 hl2 hl3
    subst ea
    have hv0 : xq_vl ad (mo_tb2 s r i) 0 0 := xq_v0 (by decide)
    have hki : i < q := by omega
    refine rn_ild (lkX3_addTableBouts_87 Y) (by repeat (first | assumption | exact xw_lk_e _ _ _ | exact xw_lk_e2 _ _ _ | refine xw_lk_s (by decide) (by first | exact Or.inl rfl | exact Or.inl (xw_cat_rf _) | exact Or.inr (by decide)) ?_ | refine xw_lk_s2 (by decide) (by decide) (by first | exact Or.inl rfl | exact Or.inl (xw_cat_rf _) | exact Or.inr (by decide)) ?_)) ?_
    refine rn_ild (lkX3_addTableBouts_88 Y) (by repeat (first | assumption | exact xw_lk_e _ _ _ | exact xw_lk_e2 _ _ _ | refine xw_lk_s (by decide) (by first | exact Or.inl rfl | exact Or.inl (xw_cat_rf _) | exact Or.inr (by decide)) ?_ | refine xw_lk_s2 (by decide) (by decide) (by first | exact Or.inl rfl | exact Or.inl (xw_cat_rf _) | exact Or.inr (by decide)) ?_)) ?_
    refine rn_ifc (lkX3_addTableBouts_89 Y) (fun q => absurd q (nI_ge hki (by omega))) (fun _ => ?_)
    first | refine rn_ald (lkX3_addTableBouts_92 Y) (by repeat (first | assumption | exact xw_lk_e _ _ _ | exact xw_lk_e2 _ _ _ | refine xw_lk_s (by decide) (by first | exact Or.inl rfl | exact Or.inl (xw_cat_rf _) | exact Or.inr (by decide)) ?_ | refine xw_lk_s2 (by decide) (by decide) (by first | exact Or.inl rfl | exact Or.inl (xw_cat_rf _) | exact Or.inr (by decide)) ?_)) ?_ | refine rn_aldO (lkX3_addTableBouts_92 Y) (by repeat (first | assumption | exact xw_lk_e _ _ _ | exact xw_lk_e2 _ _ _ | refine xw_lk_s (by decide) (by first | exact Or.inl rfl | exact Or.inl (xw_cat_rf _) | exact Or.inr (by decide)) ?_ | refine xw_lk_s2 (by decide) (by decide) (by first | exact Or.inl rfl | exact Or.inl (xw_cat_rf _) | exact Or.inr (by decide)) ?_)) ?_ | refine rn_aldN (lkX3_addTableBouts_92 Y) (by repeat (first | assumption | exact xw_lk_e _ _ _ | exact xw_lk_e2 _ _ _ | refine xw_lk_s (by decide) (by first | exact Or.inl rfl | exact Or.inl (xw_cat_rf _) | exact Or.inr (by decide)) ?_ | refine xw_lk_s2 (by decide) (by decide) (by first | exact Or.inl rfl | exact Or.inl (xw_cat_rf _) | exact Or.inr (by decide)) ?_)) ?_
    refine rp_getf hR (lkX3_addTableBouts_93 Y) (by first | assumption | exact xq_v0 (by decide)) rfl rfl ?_
    have hRw := hR
    refine rd_new (w0 := w) [] [] (xi_0 w) (lkX3_addTableBouts_96 Y) (by omega) (by omega) (fun x w1 hD => ?_)
    have hR := xi_rp hD hRw
    refine rn_dup (lkX3_addTableBouts_99 Y) (by first | rfl | exact xw_cat_rf _) ?_
    first | refine rn_ald (lkX3_addTableBouts_100 Y) (by repeat (first | assumption | exact xw_lk_e _ _ _ | exact xw_lk_e2 _ _ _ | refine xw_lk_s (by decide) (by first | exact Or.inl rfl | exact Or.inl (xw_cat_rf _) | exact Or.inr (by decide)) ?_ | refine xw_lk_s2 (by decide) (by decide) (by first | exact Or.inl rfl | exact Or.inl (xw_cat_rf _) | exact Or.inr (by decide)) ?_)) ?_ | refine rn_aldO (lkX3_addTableBouts_100 Y) (by repeat (first | assumption | exact xw_lk_e _ _ _ | exact xw_lk_e2 _ _ _ | refine xw_lk_s (by decide) (by first | exact Or.inl rfl | exact Or.inl (xw_cat_rf _) | exact Or.inr (by decide)) ?_ | refine xw_lk_s2 (by decide) (by decide) (by first | exact Or.inl rfl | exact Or.inl (xw_cat_rf _) | exact Or.inr (by decide)) ?_)) ?_ | refine rn_aldN (lkX3_addTableBouts_100 Y) (by repeat (first | assumption | exact xw_lk_e _ _ _ | exact xw_lk_e2 _ _ _ | refine xw_lk_s (by decide) (by first | exact Or.inl rfl | exact Or.inl (xw_cat_rf _) | exact Or.inr (by decide)) ?_ | refine xw_lk_s2 (by decide) (by decide) (by first | exact Or.inl rfl | exact Or.inl (xw_cat_rf _) | exact Or.inr (by decide)) ?_)) ?_
    refine rp_getf hR (lkX3_addTableBouts_101 Y) (by first | assumption | exact xq_v0 (by decide)) rfl rfl ?_
    refine rp_callV hR (lkX3_addTableBouts_104 Y) rfl (by first | assumption | exact xq_v0 (by decide)) rfl (Nat.le_of_ble_eq_true rfl) (by first | omega | exact Nat.le_of_ble_eq_true rfl) (by first | omega | exact Nat.le_of_ble_eq_true rfl) ?_
    refine sl_sizeB hR ?_
    refine rn_ild (lkX3_addTableBouts_107 Y) (by repeat (first | assumption | exact xw_lk_e _ _ _ | exact xw_lk_e2 _ _ _ | refine xw_lk_s (by decide) (by first | exact Or.inl rfl | exact Or.inl (xw_cat_rf _) | exact Or.inr (by decide)) ?_ | refine xw_lk_s2 (by decide) (by decide) (by first | exact Or.inl rfl | exact Or.inl (xw_cat_rf _) | exact Or.inr (by decide)) ?_)) ?_
    refine rn_push (lkX3_addTableBouts_108 Y) ?_
    refine rn_push (lkX3_addTableBouts_109 Y) ?_
    refine rn_callI (lkX3_addTableBouts_110 Y) rfl (Nat.le_of_ble_eq_true rfl) (by first | omega | exact Nat.le_of_ble_eq_true rfl) (by first | omega | exact Nat.le_of_ble_eq_true rfl) ?_
    refine sd_init0 (ad := ad) (L := none) (R := none) hD (fun l r2 w2 hD2 => ?_)
    have hR2 := xi_rp hD2 hRw
    have hv2 : xq_vl ad (mo_tb2 s r i) 2 0 := xq_v0 (by decide)
    refine rp_callV hR2 (lkX3_addTableBouts_113 Y) rfl hv2 rfl (Nat.le_of_ble_eq_true rfl) (by omega) (by omega) ?_
    refine sl_newB hRw (by rw [mo_tb2_2]; omega) (fun k hk => by cases hk) (fun k hk => by cases hk) hD2 (fun ad' w' e0 hR' => ?_)
    refine rn_pop (lkX3_addTableBouts_116 Y) rfl ?_
    refine rn_inc (lkX3_addTableBouts_117 Y) (by repeat (first | assumption | exact xw_lk_e _ _ _ | exact xw_lk_e2 _ _ _ | refine xw_lk_s (by decide) (by first | exact Or.inl rfl | exact Or.inl (xw_cat_rf _) | exact Or.inr (by decide)) ?_ | refine xw_lk_s2 (by decide) (by decide) (by first | exact Or.inl rfl | exact Or.inl (xw_cat_rf _) | exact Or.inr (by decide)) ?_)) rfl ?_
    refine rn_goto (lkX3_addTableBouts_120 Y) ?_
    exact ih (i + 1) (by omega) ad' _ _ e0 hR' (by repeat (first | assumption | exact xw_lk_e _ _ _ | exact xw_lk_e2 _ _ _ | refine xw_lk_s (by decide) (by first | exact Or.inl rfl | exact Or.inl (xw_cat_rf _) | exact Or.inr (by decide)) ?_ | refine xw_lk_s2 (by decide) (by decide) (by first | exact Or.inl rfl | exact Or.inl (xw_cat_rf _) | exact Or.inr (by decide)) ?_)) (by repeat (first | assumption | exact xw_lk_e _ _ _ | exact xw_lk_e2 _ _ _ | refine xw_lk_s (by decide) (by first | exact Or.inl rfl | exact Or.inl (xw_cat_rf _) | exact Or.inr (by decide)) ?_ | refine xw_lk_s2 (by decide) (by decide) (by first | exact Or.inl rfl | exact Or.inl (xw_cat_rf _) | exact Or.inr (by decide)) ?_)) (by repeat (first | assumption | exact xw_lk_e _ _ _ | exact xw_lk_e2 _ _ _ | refine xw_lk_s (by decide) (by first | exact Or.inl rfl | exact Or.inl (xw_cat_rf _) | exact Or.inr (by decide)) ?_ | refine xw_lk_s2 (by decide) (by decide) (by first | exact Or.inl rfl | exact Or.inl (xw_cat_rf _) | exact Or.inr (by decide)) ?_)) (by rw [← nI_1]; repeat (first | assumption | exact xw_lk_e _ _ _ | exact xw_lk_e2 _ _ _ | refine xw_lk_s (by decide) (by first | exact Or.inl rfl | exact Or.inl (xw_cat_rf _) | exact Or.inr (by decide)) ?_ | refine xw_lk_s2 (by decide) (by decide) (by first | exact Or.inl rfl | exact Or.inl (xw_cat_rf _) | exact Or.inr (by decide)) ?_))

set_option maxRecDepth 100000 in
set_option maxHeartbeats 4000000 in
theorem lp_tb3 {Rt : xw_R} {a : Nat} : ∀ (f r q : Nat) (s : xq_S) (k n : Nat) (ad : Nat → Nat → Nat) (w : xw_W) (lv : xw_L), r + f ≤ 10 → q < 2 ^ f → q ≤ 8 → s.2.1 + 2 * q ≤ 130 → k + 8 * q ≤ 60 → n + 430 * q ≤ 3300 → ad 0 0 = a → xq_rp Y ad s w → xw_lk lv 0 = some (.ref a) → xw_lk lv 1 = some (.int (nI r)) → xw_lk lv 2 = some (.int (nI q)) → (∀ (k n : Nat) (ad : Nat → Nat → Nat) (w : xw_W) (lv : xw_L), k ≤ 60 → n ≤ 3300 → ad 0 0 = a → xq_rp Y ad (mo_tb3 f s r q) w → xw_lk lv 0 = some (.ref a) → xw_Run (tbX3_addTableBouts Y) Rt 133 lv [] w k n) → xw_Run (tbX3_addTableBouts Y) Rt 81 lv [] w k n := by
  intro f
  induction f with
  | zero =>
    intro r q s k n ad w lv hr hq hq8 hB hk hn ea hR hl0 hl1 hl2 h
    have hq0 : q = 0 := by omega
    subst hq0
    refine rn_ild (lkX3_addTableBouts_81 Y) (by repeat (first | assumption | exact xw_lk_e _ _ _ | exact xw_lk_e2 _ _ _ | refine xw_lk_s (by decide) (by first | exact Or.inl rfl | exact Or.inl (xw_cat_rf _) | exact Or.inr (by decide)) ?_ | refine xw_lk_s2 (by decide) (by decide) (by first | exact Or.inl rfl | exact Or.inl (xw_cat_rf _) | exact Or.inr (by decide)) ?_)) ?_
    refine rn_ifz (lkX3_addTableBouts_82 Y) (fun _ => ?_) (fun q => absurd (by decide) q)
    exact h k n ad w _ (by omega) (by omega) ea hR hl0
  | succ f ih =>
    intro r q s k n ad w lv hr hq hq8 hB hk hn ea hR hl0 hl1 hl2 h
    refine rn_ild (lkX3_addTableBouts_81 Y) (by repeat (first | assumption | exact xw_lk_e _ _ _ | exact xw_lk_e2 _ _ _ | refine xw_lk_s (by decide) (by first | exact Or.inl rfl | exact Or.inl (xw_cat_rf _) | exact Or.inr (by decide)) ?_ | refine xw_lk_s2 (by decide) (by decide) (by first | exact Or.inl rfl | exact Or.inl (xw_cat_rf _) | exact Or.inr (by decide)) ?_)) ?_
    by_cases hq0 : q = 0
    · simp only [mo_tb3, if_pos hq0] at h
      subst hq0
      refine rn_ifz (lkX3_addTableBouts_82 Y) (fun _ => ?_) (fun q => absurd (by decide) q)
      exact h k n ad w _ (by omega) (by omega) ea hR hl0
    · simp only [mo_tb3, if_neg hq0] at h
      refine rn_ifz (lkX3_addTableBouts_82 Y) (fun q => absurd q (nI_nle (by omega) (by omega))) (fun _ => ?_)
      refine rn_push (lkX3_addTableBouts_85 Y) ?_
      refine rn_ist (lkX3_addTableBouts_86 Y) rfl ?_
      refine lp_tb2 (r := r) (s := s) (k0 := k) (n0 := n) (a := a) (by omega) hq8 (by omega) (by omega) (by omega) (fun ad2 w2 lv2 ea2 hR2 hl02 hl12 hl22 => ?_) q 0 (Nat.zero_add _) ad w _ ea hR (by repeat (first | assumption | exact xw_lk_e _ _ _ | exact xw_lk_e2 _ _ _ | refine xw_lk_s (by decide) (by first | exact Or.inl rfl | exact Or.inl (xw_cat_rf _) | exact Or.inr (by decide)) ?_ | refine xw_lk_s2 (by decide) (by decide) (by first | exact Or.inl rfl | exact Or.inl (xw_cat_rf _) | exact Or.inr (by decide)) ?_)) (by repeat (first | assumption | exact xw_lk_e _ _ _ | exact xw_lk_e2 _ _ _ | refine xw_lk_s (by decide) (by first | exact Or.inl rfl | exact Or.inl (xw_cat_rf _) | exact Or.inr (by decide)) ?_ | refine xw_lk_s2 (by decide) (by decide) (by first | exact Or.inl rfl | exact Or.inl (xw_cat_rf _) | exact Or.inr (by decide)) ?_)) (by repeat (first | assumption | exact xw_lk_e _ _ _ | exact xw_lk_e2 _ _ _ | refine xw_lk_s (by decide) (by first | exact Or.inl rfl | exact Or.inl (xw_cat_rf _) | exact Or.inr (by decide)) ?_ | refine xw_lk_s2 (by decide) (by decide) (by first | exact Or.inl rfl | exact Or.inl (xw_cat_rf _) | exact Or.inr (by decide)) ?_)) (by repeat (first | assumption | exact xw_lk_e _ _ _ | exact xw_lk_e2 _ _ _ | refine xw_lk_s (by decide) (by first | exact Or.inl rfl | exact Or.inl (xw_cat_rf _) | exact Or.inr (by decide)) ?_ | refine xw_lk_s2 (by decide) (by decide) (by first | exact Or.inl rfl | exact Or.inl (xw_cat_rf _) | exact Or.inr (by decide)) ?_))
      refine rn_inc (lkX3_addTableBouts_123 Y) hl12 rfl ?_
      refine rn_ild (lkX3_addTableBouts_126 Y) (by repeat (first | assumption | exact xw_lk_e _ _ _ | exact xw_lk_e2 _ _ _ | refine xw_lk_s (by decide) (by first | exact Or.inl rfl | exact Or.inl (xw_cat_rf _) | exact Or.inr (by decide)) ?_ | refine xw_lk_s2 (by decide) (by decide) (by first | exact Or.inl rfl | exact Or.inl (xw_cat_rf _) | exact Or.inr (by decide)) ?_)) ?_
      refine rn_push (lkX3_addTableBouts_127 Y) ?_
      refine rn_i2z (lkX3_addTableBouts_128 Y) (by decide) ?_
      refine rn_ist (lkX3_addTableBouts_129 Y) rfl ?_
      refine rn_goto (lkX3_addTableBouts_130 Y) ?_
      have e2 : (nI q : Int32) / 2 = nI (q / 2) := pk_div (by omega) (by decide) (by decide)
      have hq2 : q / 2 < 2 ^ f := by rw [Nat.pow_succ] at hq; omega
      have hs2 := mo_tb2_2 s r q
      exact ih (r + 1) (q / 2) (mo_tb2 s r q) _ _ ad2 w2 _ (by omega) hq2 (by omega) (by omega) (by omega) (by omega) ea2 hR2 (by repeat (first | assumption | exact xw_lk_e _ _ _ | exact xw_lk_e2 _ _ _ | refine xw_lk_s (by decide) (by first | exact Or.inl rfl | exact Or.inl (xw_cat_rf _) | exact Or.inr (by decide)) ?_ | refine xw_lk_s2 (by decide) (by decide) (by first | exact Or.inl rfl | exact Or.inl (xw_cat_rf _) | exact Or.inr (by decide)) ?_)) (by rw [← nI_1]; repeat (first | assumption | exact xw_lk_e _ _ _ | exact xw_lk_e2 _ _ _ | refine xw_lk_s (by decide) (by first | exact Or.inl rfl | exact Or.inl (xw_cat_rf _) | exact Or.inr (by decide)) ?_ | refine xw_lk_s2 (by decide) (by decide) (by first | exact Or.inl rfl | exact Or.inl (xw_cat_rf _) | exact Or.inr (by decide)) ?_)) (by rw [← e2]; exact xw_lk_e _ _ _) h

end XCI
