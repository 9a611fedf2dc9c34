/-! THE LAW: below, cell, live -/
section XL1
variable {Y : xw_Y} {ad : Nat → Nat → Nat} {s : xq_S} {w w0 : xw_W} {post : Option Value → xw_W → Prop}

set_option maxRecDepth 100000 in
set_option maxHeartbeats 4000000 in
theorem sc_below {v : Int32} {N : Nat} (hN : 0 < N) (hN2 : N < 1000) (h : ∀ r, r < N → post (some (.int (nI r))) w) : ptL_below Y [.int v, .int (nI N)] w post := by
  refine ⟨(by first | exact Nat.le_of_ble_eq_true rfl | simp [lg_sl, xw_cat_rf, xw_cat_i, xw_cat_r, xw_cat_n, xw_cat_l]), ?_⟩
  refine rn_ild (lkL_below_0 Y) rfl ?_
  refine rn_push (lkL_below_1 Y) ?_
  refine rn_i2 (lkL_below_3 Y) ?_
  obtain ⟨j, hj, e⟩ := pk_andE v (m := 2147483647) 31 (by decide)
  rw [e]
  refine rn_ild (lkL_below_4 Y) rfl ?_
  refine rn_i2z (lkL_below_5 Y) (show ¬ nI N = 0 from fun z => by have := (nI_eq (a := N) (b := 0) (by omega) (by decide)).mp z; omega) ?_
  rw [pk_rem (by omega) hN (by omega)]
  refine rn_iret (lkL_below_6 Y) ?_
  exact ⟨h _ (Nat.mod_lt _ hN), Nat.le_refl _, Nat.le_refl _⟩

set_option maxRecDepth 100000 in
set_option maxHeartbeats 4000000 in
theorem sc_cell {i : Nat} (hi : i < 1000) (hY : Y.1.2.2.1 ≤ 260) (h : ∀ x, post (some (.int x)) w) : ptL_cell Y [.ref Y.1.2.1, .int (nI i)] w post := by
  refine ⟨(by first | exact Nat.le_of_ble_eq_true rfl | simp [lg_sl, xw_cat_rf, xw_cat_i, xw_cat_r, xw_cat_n, xw_cat_l]), ?_⟩
  refine rn_ild (lkL_cell_0 Y) rfl ?_
  first | refine rn_ald (lkL_cell_1 Y) rfl ?_ | refine rn_aldO (lkL_cell_1 Y) rfl ?_ | refine rn_aldN (lkL_cell_1 Y) rfl ?_
  refine rn_xlen (lkL_cell_2 Y) ?_
  by_cases hq : Y.1.2.2.1 ≤ i
  · skip
    refine rn_ifc (lkL_cell_3 Y) (fun _ => ?_) (fun q => absurd (show nI Y.1.2.2.1 ≤ nI i from nI_le hq (by omega)) q)
    refine rn_push (lkL_cell_12 Y) ?_
    refine rn_ild (lkL_cell_14 Y) rfl ?_
    refine rn_push (lkL_cell_15 Y) ?_
    refine rn_i2 (lkL_cell_16 Y) ?_
    refine rn_i2 (lkL_cell_17 Y) ?_
    refine rn_iret (lkL_cell_18 Y) ?_
    exact ⟨h _, Nat.le_refl _, Nat.le_refl _⟩
  · skip
    refine rn_ifc (lkL_cell_3 Y) (fun q => absurd q (show ¬ nI Y.1.2.2.1 ≤ nI i from nI_ge (by omega) (by omega))) (fun _ => ?_)
    first | refine rn_ald (lkL_cell_6 Y) rfl ?_ | refine rn_aldO (lkL_cell_6 Y) rfl ?_ | refine rn_aldN (lkL_cell_6 Y) rfl ?_
    refine rn_ild (lkL_cell_7 Y) rfl ?_
    refine rn_xald (lkL_cell_8 Y) (vp_in_nI (by omega) (by omega)) ?_
    refine rn_goto (lkL_cell_9 Y) ?_
    refine rn_iret (lkL_cell_18 Y) ?_
    exact ⟨h _, Nat.le_refl _, Nat.le_refl _⟩

def mo_live (s : xq_S) (j : Nat) : Option Nat := xq_fd (fun b => decide (xq_i s 1006 b = nI j)) s.2.1

set_option maxRecDepth 100000 in
set_option maxHeartbeats 4000000 in
theorem lp_live {p : Nat} (hR : xq_rp Y ad s w)  {Rt : xw_R} (h : Rt (some (.int (match mo_live s p with | some b => nI b | none => -1))) w 0 0) : ∀ (j i : Nat), i + j = s.2.1 → ∀ lv : xw_L, xq_fd (fun b => decide (xq_i s 1006 b = nI p)) i = none → xw_lk lv 0 = some (.ref (ad 0 0)) → xw_lk lv 1 = some (.int (nI p)) → xw_lk lv 2 = some (.int (nI i)) → xw_Run (tbL_live Y) Rt 2 lv [] w 0 0 := by
  have hv0 : xq_vl ad s 0 0 := xq_v0 (by decide)
  intro j
  induction j with
  | zero =>
    intro i hi lv hf hl0 hl1 hl2
    refine rn_ild (lkL_live_2 Y) (by repeat (first | assumption | exact xw_lk_e _ _ _ | exact xw_lk_e2 _ _ _ | refine xw_lk_s (by decide) (by first | exact Or.inl rfl | exact Or.inl (xw_cat_rf _) | exact Or.inr (by decide)) ?_ | refine xw_lk_s2 (by decide) (by decide) (by first | exact Or.inl rfl | exact Or.inl (xw_cat_rf _) | exact Or.inr (by decide)) ?_)) ?_
    first | refine rn_ald (lkL_live_3 Y) (by repeat (first | assumption | exact xw_lk_e _ _ _ | exact xw_lk_e2 _ _ _ | refine xw_lk_s (by decide) (by first | exact Or.inl rfl | exact Or.inl (xw_cat_rf _) | exact Or.inr (by decide)) ?_ | refine xw_lk_s2 (by decide) (by decide) (by first | exact Or.inl rfl | exact Or.inl (xw_cat_rf _) | exact Or.inr (by decide)) ?_)) ?_ | refine rn_aldO (lkL_live_3 Y) (by repeat (first | assumption | exact xw_lk_e _ _ _ | exact xw_lk_e2 _ _ _ | refine xw_lk_s (by decide) (by first | exact Or.inl rfl | exact Or.inl (xw_cat_rf _) | exact Or.inr (by decide)) ?_ | refine xw_lk_s2 (by decide) (by decide) (by first | exact Or.inl rfl | exact Or.inl (xw_cat_rf _) | exact Or.inr (by decide)) ?_)) ?_ | refine rn_aldN (lkL_live_3 Y) (by repeat (first | assumption | exact xw_lk_e _ _ _ | exact xw_lk_e2 _ _ _ | refine xw_lk_s (by decide) (by first | exact Or.inl rfl | exact Or.inl (xw_cat_rf _) | exact Or.inr (by decide)) ?_ | refine xw_lk_s2 (by decide) (by decide) (by first | exact Or.inl rfl | exact Or.inl (xw_cat_rf _) | exact Or.inr (by decide)) ?_)) ?_
    refine rn_push (lkL_live_4 Y) ?_
    refine rp_callV hR (lkL_live_5 Y) rfl (by first | assumption | exact xq_v0 (by decide)) rfl (Nat.le_of_ble_eq_true rfl) (by first | omega | exact Nat.le_of_ble_eq_true rfl) (by first | omega | exact Nat.le_of_ble_eq_true rfl) ?_
    refine sc_many (m := 2) hR (by decide) ?_
    refine rn_ifc (lkL_live_8 Y) (fun _ => ?_) (fun q => absurd (show nI s.2.1 ≤ nI i by rw [show i = s.2.1 by omega]; exact Int32.le_refl _) q)
    refine rn_push (lkL_live_30 Y) ?_
    refine rn_iret (lkL_live_31 Y) ?_
    unfold mo_live at h
    rw [← show i = s.2.1 by omega, hf] at h
    exact h
  | succ j ih =>
    intro i hi lv hf hl0 hl1 hl2
    have hki : i < s.2.1 := by omega
    refine rn_ild (lkL_live_2 Y) (by repeat (first | assumption | exact xw_lk_e _ _ _ | exact xw_lk_e2 _ _ _ | refine xw_lk_s (by decide) (by first | exact Or.inl rfl | exact Or.inl (xw_cat_rf _) | exact Or.inr (by decide)) ?_ | refine xw_lk_s2 (by decide) (by decide) (by first | exact Or.inl rfl | exact Or.inl (xw_cat_rf _) | exact Or.inr (by decide)) ?_)) ?_
    first | refine rn_ald (lkL_live_3 Y) (by repeat (first | assumption | exact xw_lk_e _ _ _ | exact xw_lk_e2 _ _ _ | refine xw_lk_s (by decide) (by first | exact Or.inl rfl | exact Or.inl (xw_cat_rf _) | exact Or.inr (by decide)) ?_ | refine xw_lk_s2 (by decide) (by decide) (by first | exact Or.inl rfl | exact Or.inl (xw_cat_rf _) | exact Or.inr (by decide)) ?_)) ?_ | refine rn_aldO (lkL_live_3 Y) (by repeat (first | assumption | exact xw_lk_e _ _ _ | exact xw_lk_e2 _ _ _ | refine xw_lk_s (by decide) (by first | exact Or.inl rfl | exact Or.inl (xw_cat_rf _) | exact Or.inr (by decide)) ?_ | refine xw_lk_s2 (by decide) (by decide) (by first | exact Or.inl rfl | exact Or.inl (xw_cat_rf _) | exact Or.inr (by decide)) ?_)) ?_ | refine rn_aldN (lkL_live_3 Y) (by repeat (first | assumption | exact xw_lk_e _ _ _ | exact xw_lk_e2 _ _ _ | refine xw_lk_s (by decide) (by first | exact Or.inl rfl | exact Or.inl (xw_cat_rf _) | exact Or.inr (by decide)) ?_ | refine xw_lk_s2 (by decide) (by decide) (by first | exact Or.inl rfl | exact Or.inl (xw_cat_rf _) | exact Or.inr (by decide)) ?_)) ?_
    refine rn_push (lkL_live_4 Y) ?_
    refine rp_callV hR (lkL_live_5 Y) rfl (by first | assumption | exact xq_v0 (by decide)) rfl (Nat.le_of_ble_eq_true rfl) (by first | omega | exact Nat.le_of_ble_eq_true rfl) (by first | omega | exact Nat.le_of_ble_eq_true rfl) ?_
    refine sc_many (m := 2) hR (by decide) ?_
    refine rn_ifc (lkL_live_8 Y) (fun q => absurd q (nI_ge hki (by have := xq_nb hR; omega))) (fun _ => ?_)
    first | refine rn_ald (lkL_live_11 Y) (by repeat (first | assumption | exact xw_lk_e _ _ _ | exact xw_lk_e2 _ _ _ | refine xw_lk_s (by decide) (by first | exact Or.inl rfl | exact Or.inl (xw_cat_rf _) | exact Or.inr (by decide)) ?_ | refine xw_lk_s2 (by decide) (by decide) (by first | exact Or.inl rfl | exact Or.inl (xw_cat_rf _) | exact Or.inr (by decide)) ?_)) ?_ | refine rn_aldO (lkL_live_11 Y) (by repeat (first | assumption | exact xw_lk_e _ _ _ | exact xw_lk_e2 _ _ _ | refine xw_lk_s (by decide) (by first | exact Or.inl rfl | exact Or.inl (xw_cat_rf _) | exact Or.inr (by decide)) ?_ | refine xw_lk_s2 (by decide) (by decide) (by first | exact Or.inl rfl | exact Or.inl (xw_cat_rf _) | exact Or.inr (by decide)) ?_)) ?_ | refine rn_aldN (lkL_live_11 Y) (by repeat (first | assumption | exact xw_lk_e _ _ _ | exact xw_lk_e2 _ _ _ | refine xw_lk_s (by decide) (by first | exact Or.inl rfl | exact Or.inl (xw_cat_rf _) | exact Or.inr (by decide)) ?_ | refine xw_lk_s2 (by decide) (by decide) (by first | exact Or.inl rfl | exact Or.inl (xw_cat_rf _) | exact Or.inr (by decide)) ?_)) ?_
    refine rn_ild (lkL_live_12 Y) (by repeat (first | assumption | exact xw_lk_e _ _ _ | exact xw_lk_e2 _ _ _ | refine xw_lk_s (by decide) (by first | exact Or.inl rfl | exact Or.inl (xw_cat_rf _) | exact Or.inr (by decide)) ?_ | refine xw_lk_s2 (by decide) (by decide) (by first | exact Or.inl rfl | exact Or.inl (xw_cat_rf _) | exact Or.inr (by decide)) ?_)) ?_
    refine rn_push (lkL_live_13 Y) ?_
    refine rp_callV hR (lkL_live_15 Y) rfl (by first | assumption | exact xq_v0 (by decide)) rfl (Nat.le_of_ble_eq_true rfl) (by first | omega | exact Nat.le_of_ble_eq_true rfl) (by first | omega | exact Nat.le_of_ble_eq_true rfl) ?_
    refine sc_ofBout (m := 6) hR hki (by decide) ?_
    rw [show mo_ofBout s i 6 = xq_i s 1006 i from rfl]
    refine rn_ild (lkL_live_18 Y) (by repeat (first | assumption | exact xw_lk_e _ _ _ | exact xw_lk_e2 _ _ _ | refine xw_lk_s (by decide) (by first | exact Or.inl rfl | exact Or.inl (xw_cat_rf _) | exact Or.inr (by decide)) ?_ | refine xw_lk_s2 (by decide) (by decide) (by first | exact Or.inl rfl | exact Or.inl (xw_cat_rf _) | exact Or.inr (by decide)) ?_)) ?_
    refine rn_ifc (lkL_live_19 Y) (fun c_19 => ?_) (fun c_19 => ?_)
    · try dsimp only at c_19
      refine rn_inc (lkL_live_24 Y) (by repeat (first | assumption | exact xw_lk_e _ _ _ | exact xw_lk_e2 _ _ _ | refine xw_lk_s (by decide) (by first | exact Or.inl rfl | exact Or.inl (xw_cat_rf _) | exact Or.inr (by decide)) ?_ | refine xw_lk_s2 (by decide) (by decide) (by first | exact Or.inl rfl | exact Or.inl (xw_cat_rf _) | exact Or.inr (by decide)) ?_)) rfl ?_
      refine rn_goto (lkL_live_27 Y) ?_
      exact ih (i + 1) (by omega) _ (xq_fd_no hf (fun z => c_19 (of_decide_eq_true z))) (by repeat (first | assumption | exact xw_lk_e _ _ _ | exact xw_lk_e2 _ _ _ | refine xw_lk_s (by decide) (by first | exact Or.inl rfl | exact Or.inl (xw_cat_rf _) | exact Or.inr (by decide)) ?_ | refine xw_lk_s2 (by decide) (by decide) (by first | exact Or.inl rfl | exact Or.inl (xw_cat_rf _) | exact Or.inr (by decide)) ?_)) (by repeat (first | assumption | exact xw_lk_e _ _ _ | exact xw_lk_e2 _ _ _ | refine xw_lk_s (by decide) (by first | exact Or.inl rfl | exact Or.inl (xw_cat_rf _) | exact Or.inr (by decide)) ?_ | refine xw_lk_s2 (by decide) (by decide) (by first | exact Or.inl rfl | exact Or.inl (xw_cat_rf _) | exact Or.inr (by decide)) ?_)) (by rw [← nI_1]; repeat (first | assumption | exact xw_lk_e _ _ _ | exact xw_lk_e2 _ _ _ | refine xw_lk_s (by decide) (by first | exact Or.inl rfl | exact Or.inl (xw_cat_rf _) | exact Or.inr (by decide)) ?_ | refine xw_lk_s2 (by decide) (by decide) (by first | exact Or.inl rfl | exact Or.inl (xw_cat_rf _) | exact Or.inr (by decide)) ?_))
    · try dsimp only at c_19
      refine rn_ild (lkL_live_22 Y) (by repeat (first | assumption | exact xw_lk_e _ _ _ | exact xw_lk_e2 _ _ _ | refine xw_lk_s (by decide) (by first | exact Or.inl rfl | exact Or.inl (xw_cat_rf _) | exact Or.inr (by decide)) ?_ | refine xw_lk_s2 (by decide) (by decide) (by first | exact Or.inl rfl | exact Or.inl (xw_cat_rf _) | exact Or.inr (by decide)) ?_)) ?_
      refine rn_iret (lkL_live_23 Y) ?_
      unfold mo_live at h
      rw [xq_fd_hit hf (decide_eq_true (Classical.not_not.mp c_19)) hki] at h
      exact h

set_option maxRecDepth 100000 in
set_option maxHeartbeats 4000000 in
theorem sc_live {p : Nat} (hR : xq_rp Y ad s w) (h : post (some (.int (match mo_live s p with | some b => nI b | none => -1))) w) : ptL_live Y [.ref (ad 0 0), .int (nI p)] w post := by
  refine ⟨(by first | exact Nat.le_of_ble_eq_true rfl | simp [lg_sl, xw_cat_rf, xw_cat_i, xw_cat_r, xw_cat_n, xw_cat_l]), ?_⟩
  refine rn_push (lkL_live_0 Y) ?_
  refine rn_ist (lkL_live_1 Y) rfl ?_
  exact lp_live (p := p) hR ⟨h, Nat.le_refl _, Nat.le_refl _⟩ s.2.1 0 (Nat.zero_add _) _ rfl rfl rfl rfl

end XL1
