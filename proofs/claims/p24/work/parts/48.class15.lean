/-! THE TABLE IS DRAWN: seeds and lines -/
section XCF
variable {Y : xw_Y} {ad : Nat → Nat → Nat} {s : xq_S} {w w0 : xw_W} {post : Option Value → xw_W → Prop}
def mo_seed (s : xq_S) : Nat → xq_S
  | 0 => s
  | i + 1 => xu_r (mo_seed s i) 500 i (mo_inOrder (mo_seed s i) (nI i))
/-- a line's seed goes to the two lines that come of it -/
def mo_ln1 (s : xq_S) (z i : Nat) : xq_S :=
  let x := xq_i s 600 i
  let s := xu_i s 600 (2 * i) x
  xu_i s 600 (2 * i + 1) (2 * nI z - 1 - x)
def mo_ln (s : xq_S) (z : Nat) : Nat → xq_S
  | 0 => s
  | c + 1 => mo_ln (mo_ln1 s z c) z c
def mo_out : Nat → xq_S → Nat → Nat → xq_S × Nat
  | 0, s, z, _ => (s, z)
  | f + 1, s, z, n => if n ≤ z ∨ 16 < 2 * z then (s, z) else mo_out f (mo_ln s z z) (2 * z) n
def mo_setLines (s : xq_S) (n : Nat) : xq_S := xu_i (mo_out 4 (xu_i s 600 0 0) 1 n).1 8 0 (nI (mo_out 4 (xu_i s 600 0 0) 1 n).2)
theorem mo_seed_1 (s : xq_S) : ∀ n, (mo_seed s n).1 = s.1
  | 0 => rfl
  | n + 1 => mo_seed_1 s n
theorem mo_seed_2 (s : xq_S) : ∀ n, (mo_seed s n).2.1 = s.2.1
  | 0 => rfl
  | n + 1 => mo_seed_2 s n
theorem mo_ln_1 : ∀ (c : Nat) (s : xq_S) (z : Nat), (mo_ln s z c).1 = s.1
  | 0, _, _ => rfl
  | c + 1, s, z => mo_ln_1 c _ z
theorem mo_ln_2 : ∀ (c : Nat) (s : xq_S) (z : Nat), (mo_ln s z c).2.1 = s.2.1
  | 0, _, _ => rfl
  | c + 1, s, z => mo_ln_2 c _ z
theorem xn_m1 (c : Nat) : nI c + (-1) = nI c - 1 := by
  cases c with
  | zero => decide
  | succ c => rw [pk_m1, nI_pred]
section
variable {tb : List (Nat × xw_T)} {Rt : xw_R} {pc nx : Nat} {lv : xw_L} {r : List Value} {k n : Nat}
theorem rp_sst {j : Nat} {x : Int32} {v : Option Nat} (hR : xq_rp Y ad s w) (h : xw_lk tb pc = some (tr_aast nx Y.2.2.2.2 [2])) (hx : x = nI j) (hj : j < 16) (hv : ∀ b, v = some b → b < s.1) (hk : ∀ w', xq_rp Y ad (xu_r s 500 j v) w' → xw_Run tb Rt nx lv r w' k n) : xw_Run tb Rt pc lv (va_rf (v.map (ad 9)) :: .int x :: .ref (ad 5 0) :: r) w k n := by
  subst hx
  refine rn_aast (u := v.map (ad 9)) h (hR.1 5 0 (xq_v0 (by decide))).1 (hR.1 5 0 (xq_v0 (by decide))).2 (vp_in_nI hj (by omega)) (fun a ha => ?_) ?_
  · cases v with
    | none => cases ha
    | some b =>
      cases ha
      have h10 := hR.1 9 b (xq_v9 (hv b rfl))
      exact ⟨h10.1, _, _, List.mem_singleton.mpr rfl, h10.2⟩
  · rw [nI_clamp (by omega)]
    refine hk _ (xq_rp_r (c := 500) (e := j) hR (xq_v0 (by decide)) rfl (Or.inr (by decide)) (fun b hb => ⟨fun q => by omega, fun _ => hv b hb⟩) ?_)
    refine congrArg Sum.inl (congrArg (Prod.mk _) (congrArg (Prod.mk _) (congrArg xq_rs ?_)))
    funext i
    rw [xq_r_r]
    by_cases hi : i = j
    · subst hi
      simp [va_up]
    · simp [va_up, hi]
end

set_option maxRecDepth 100000 in
set_option maxHeartbeats 4000000 in
theorem lp_seed {N : Nat} (hN : N ≤ 16) {Rt : xw_R} (h : ∀ w', xq_rp Y ad (mo_seed s N) w' → Rt none w' 0 0) : ∀ (j i : Nat), i + j = N → ∀ (w : xw_W) (lv : xw_L), xq_rp Y ad (mo_seed s i) w → xw_lk lv 0 = some (.ref (ad 0 0)) → xw_lk lv 1 = some (.int (nI N)) → xw_lk lv 2 = some (.int (nI i)) → xw_Run (tbX3_seed Y) Rt 2 lv [] w 0 0 := by
  intro j
  induction j with
  | zero =>
    intro i hi w lv hR hl0 hl1 hl2
    have hv0 : xq_vl ad (mo_seed s i) 0 0 := xq_v0 (by decide)
    refine rn_ild (lkX3_seed_2 Y) (by repeat (first | assumption | exact xw_lk_e _ _ _ | exact xw_lk_e2 _ _ _ | refine xw_lk_s (by decide) (by first | exact Or.inl rfl | exact Or.inl (xw_cat_rf _) | exact Or.inr (by decide)) ?_ | refine xw_lk_s2 (by decide) (by decide) (by first | exact Or.inl rfl | exact Or.inl (xw_cat_rf _) | exact Or.inr (by decide)) ?_)) ?_
    refine rn_ild (lkX3_seed_3 Y) (by repeat (first | assumption | exact xw_lk_e _ _ _ | exact xw_lk_e2 _ _ _ | refine xw_lk_s (by decide) (by first | exact Or.inl rfl | exact Or.inl (xw_cat_rf _) | exact Or.inr (by decide)) ?_ | refine xw_lk_s2 (by decide) (by decide) (by first | exact Or.inl rfl | exact Or.inl (xw_cat_rf _) | exact Or.inr (by decide)) ?_)) ?_
    refine rn_ifc (lkX3_seed_4 Y) (fun _ => ?_) (fun q => absurd (show nI N ≤ nI i by rw [show i = N by omega]; exact Int32.le_refl _) q)
    refine rn_vret (lkX3_seed_30 Y) ?_
    rw [show i = N by omega] at hR
    exact h _ hR
  | succ j ih =>
    intro i hi w lv hR hl0 hl1 hl2
    have hv0 : xq_vl ad (mo_seed s i) 0 0 := xq_v0 (by decide)
    have hki : i < N := by omega
    refine rn_ild (lkX3_seed_2 Y) (by repeat (first | assumption | exact xw_lk_e _ _ _ | exact xw_lk_e2 _ _ _ | refine xw_lk_s (by decide) (by first | exact Or.inl rfl | exact Or.inl (xw_cat_rf _) | exact Or.inr (by decide)) ?_ | refine xw_lk_s2 (by decide) (by decide) (by first | exact Or.inl rfl | exact Or.inl (xw_cat_rf _) | exact Or.inr (by decide)) ?_)) ?_
    refine rn_ild (lkX3_seed_3 Y) (by repeat (first | assumption | exact xw_lk_e _ _ _ | exact xw_lk_e2 _ _ _ | refine xw_lk_s (by decide) (by first | exact Or.inl rfl | exact Or.inl (xw_cat_rf _) | exact Or.inr (by decide)) ?_ | refine xw_lk_s2 (by decide) (by decide) (by first | exact Or.inl rfl | exact Or.inl (xw_cat_rf _) | exact Or.inr (by decide)) ?_)) ?_
    refine rn_ifc (lkX3_seed_4 Y) (fun q => absurd q (nI_ge hki (by omega))) (fun _ => ?_)
    refine rn_ild (lkX3_seed_7 Y) (by repeat (first | assumption | exact xw_lk_e _ _ _ | exact xw_lk_e2 _ _ _ | refine xw_lk_s (by decide) (by first | exact Or.inl rfl | exact Or.inl (xw_cat_rf _) | exact Or.inr (by decide)) ?_ | refine xw_lk_s2 (by decide) (by decide) (by first | exact Or.inl rfl | exact Or.inl (xw_cat_rf _) | exact Or.inr (by decide)) ?_)) ?_
    refine rn_push (lkX3_seed_8 Y) ?_
    refine rn_ifc (lkX3_seed_10 Y) (fun q => absurd q (show ¬ (16 : Int32) ≤ nI i from nI_ge (b := 16) (by omega) (by omega))) (fun _ => ?_)
    first | refine rn_ald (lkX3_seed_13 Y) (by repeat (first | assumption | exact xw_lk_e _ _ _ | exact xw_lk_e2 _ _ _ | refine xw_lk_s (by decide) (by first | exact Or.inl rfl | exact Or.inl (xw_cat_rf _) | exact Or.inr (by decide)) ?_ | refine xw_lk_s2 (by decide) (by decide) (by first | exact Or.inl rfl | exact Or.inl (xw_cat_rf _) | exact Or.inr (by decide)) ?_)) ?_ | refine rn_aldO (lkX3_seed_13 Y) (by repeat (first | assumption | exact xw_lk_e _ _ _ | exact xw_lk_e2 _ _ _ | refine xw_lk_s (by decide) (by first | exact Or.inl rfl | exact Or.inl (xw_cat_rf _) | exact Or.inr (by decide)) ?_ | refine xw_lk_s2 (by decide) (by decide) (by first | exact Or.inl rfl | exact Or.inl (xw_cat_rf _) | exact Or.inr (by decide)) ?_)) ?_ | refine rn_aldN (lkX3_seed_13 Y) (by repeat (first | assumption | exact xw_lk_e _ _ _ | exact xw_lk_e2 _ _ _ | refine xw_lk_s (by decide) (by first | exact Or.inl rfl | exact Or.inl (xw_cat_rf _) | exact Or.inr (by decide)) ?_ | refine xw_lk_s2 (by decide) (by decide) (by first | exact Or.inl rfl | exact Or.inl (xw_cat_rf _) | exact Or.inr (by decide)) ?_)) ?_
    refine rp_getf hR (lkX3_seed_14 Y) (by first | assumption | exact xq_v0 (by decide)) rfl rfl ?_
    refine rn_ild (lkX3_seed_17 Y) (by repeat (first | assumption | exact xw_lk_e _ _ _ | exact xw_lk_e2 _ _ _ | refine xw_lk_s (by decide) (by first | exact Or.inl rfl | exact Or.inl (xw_cat_rf _) | exact Or.inr (by decide)) ?_ | refine xw_lk_s2 (by decide) (by decide) (by first | exact Or.inl rfl | exact Or.inl (xw_cat_rf _) | exact Or.inr (by decide)) ?_)) ?_
    first | refine rn_ald (lkX3_seed_18 Y) (by repeat (first | assumption | exact xw_lk_e _ _ _ | exact xw_lk_e2 _ _ _ | refine xw_lk_s (by decide) (by first | exact Or.inl rfl | exact Or.inl (xw_cat_rf _) | exact Or.inr (by decide)) ?_ | refine xw_lk_s2 (by decide) (by decide) (by first | exact Or.inl rfl | exact Or.inl (xw_cat_rf _) | exact Or.inr (by decide)) ?_)) ?_ | refine rn_aldO (lkX3_seed_18 Y) (by repeat (first | assumption | exact xw_lk_e _ _ _ | exact xw_lk_e2 _ _ _ | refine xw_lk_s (by decide) (by first | exact Or.inl rfl | exact Or.inl (xw_cat_rf _) | exact Or.inr (by decide)) ?_ | refine xw_lk_s2 (by decide) (by decide) (by first | exact Or.inl rfl | exact Or.inl (xw_cat_rf _) | exact Or.inr (by decide)) ?_)) ?_ | refine rn_aldN (lkX3_seed_18 Y) (by repeat (first | assumption | exact xw_lk_e _ _ _ | exact xw_lk_e2 _ _ _ | refine xw_lk_s (by decide) (by first | exact Or.inl rfl | exact Or.inl (xw_cat_rf _) | exact Or.inr (by decide)) ?_ | refine xw_lk_s2 (by decide) (by decide) (by first | exact Or.inl rfl | exact Or.inl (xw_cat_rf _) | exact Or.inr (by decide)) ?_)) ?_
    refine rn_ild (lkX3_seed_19 Y) (by repeat (first | assumption | exact xw_lk_e _ _ _ | exact xw_lk_e2 _ _ _ | refine xw_lk_s (by decide) (by first | exact Or.inl rfl | exact Or.inl (xw_cat_rf _) | exact Or.inr (by decide)) ?_ | refine xw_lk_s2 (by decide) (by decide) (by first | exact Or.inl rfl | exact Or.inl (xw_cat_rf _) | exact Or.inr (by decide)) ?_)) ?_
    refine rp_callV hR (lkX3_seed_20 Y) rfl (by first | assumption | exact xq_v0 (by decide)) rfl (Nat.le_of_ble_eq_true rfl) (Nat.le_of_ble_eq_true rfl) (Nat.le_of_ble_eq_true rfl) ?_
    refine sc_inOrder hR ?_
    refine rp_sst hR (lkX3_seed_23 Y) rfl (by omega) (fun k hk => (xq_fd_lt hk).1) (fun w hR => ?_)
    refine rn_inc (lkX3_seed_24 Y) (by repeat (first | assumption | exact xw_lk_e _ _ _ | exact xw_lk_e2 _ _ _ | refine xw_lk_s (by decide) (by first | exact Or.inl rfl | exact Or.inl (xw_cat_rf _) | exact Or.inr (by decide)) ?_ | refine xw_lk_s2 (by decide) (by decide) (by first | exact Or.inl rfl | exact Or.inl (xw_cat_rf _) | exact Or.inr (by decide)) ?_)) rfl ?_
    refine rn_goto (lkX3_seed_27 Y) ?_
    exact ih (i + 1) (by omega) _ _ hR (by repeat (first | assumption | exact xw_lk_e _ _ _ | exact xw_lk_e2 _ _ _ | refine xw_lk_s (by decide) (by first | exact Or.inl rfl | exact Or.inl (xw_cat_rf _) | exact Or.inr (by decide)) ?_ | refine xw_lk_s2 (by decide) (by decide) (by first | exact Or.inl rfl | exact Or.inl (xw_cat_rf _) | exact Or.inr (by decide)) ?_)) (by repeat (first | assumption | exact xw_lk_e _ _ _ | exact xw_lk_e2 _ _ _ | refine xw_lk_s (by decide) (by first | exact Or.inl rfl | exact Or.inl (xw_cat_rf _) | exact Or.inr (by decide)) ?_ | refine xw_lk_s2 (by decide) (by decide) (by first | exact Or.inl rfl | exact Or.inl (xw_cat_rf _) | exact Or.inr (by decide)) ?_)) (by rw [← nI_1]; repeat (first | assumption | exact xw_lk_e _ _ _ | exact xw_lk_e2 _ _ _ | refine xw_lk_s (by decide) (by first | exact Or.inl rfl | exact Or.inl (xw_cat_rf _) | exact Or.inr (by decide)) ?_ | refine xw_lk_s2 (by decide) (by decide) (by first | exact Or.inl rfl | exact Or.inl (xw_cat_rf _) | exact Or.inr (by decide)) ?_))

set_option maxRecDepth 100000 in
set_option maxHeartbeats 4000000 in
theorem sc_seed {N : Nat} (hR : xq_rp Y ad s w) (hN : N ≤ 16) (h : ∀ w', xq_rp Y ad (mo_seed s N) w' → post none w') : ptX3_seed Y [.ref (ad 0 0), .int (nI N)] w post := by
  refine ⟨(by first | exact Nat.le_of_ble_eq_true rfl | simp [lg_sl, xw_cat_rf, xw_cat_i, xw_cat_r, xw_cat_n, xw_cat_l]), ?_⟩
  refine rn_push (lkX3_seed_0 Y) ?_
  refine rn_ist (lkX3_seed_1 Y) rfl ?_
  exact lp_seed hN (fun w' hw' => ⟨h w' hw', Nat.le_refl _, Nat.le_refl _⟩) N 0 (Nat.zero_add _) w _ hR rfl rfl rfl

set_option maxRecDepth 100000 in
set_option maxHeartbeats 4000000 in
theorem lp_lines1 {Rt : xw_R} {N z : Nat} (hz : z ≤ 8) : ∀ (c : Nat), c ≤ z → ∀ (s : xq_S) (w : xw_W) (lv : xw_L), xq_rp Y ad s w → (∀ (w' : xw_W) (lv' : xw_L), xq_rp Y ad (mo_ln s z c) w' → xw_lk lv' 0 = some (.ref (ad 0 0)) → xw_lk lv' 1 = some (.int (nI N)) → xw_lk lv' 2 = some (.int (nI z)) → xw_Run (tbX3_setLines Y) Rt 72 lv' [] w' 0 0) → xw_lk lv 0 = some (.ref (ad 0 0)) → xw_lk lv 1 = some (.int (nI N)) → xw_lk lv 2 = some (.int (nI z)) → xw_lk lv 3 = some (.int (nI c - 1)) → xw_Run (tbX3_setLines Y) Rt 26 lv [] w 0 0 := by
  intro c
  induction c with
  | zero =>
    intro hc s w lv hR h hl0 hl1 hl2 hl3
    refine rn_ild (lkX3_setLines_26 Y) (by repeat (first | assumption | exact xw_lk_e _ _ _ | exact xw_lk_e2 _ _ _ | refine xw_lk_s (by decide) (by first | exact Or.inl rfl | exact Or.inl (xw_cat_rf _) | exact Or.inr (by decide)) ?_ | refine xw_lk_s2 (by decide) (by decide) (by first | exact Or.inl rfl | exact Or.inl (xw_cat_rf _) | exact Or.inr (by decide)) ?_)) ?_
    refine rn_ifz (lkX3_setLines_27 Y) (fun _ => ?_) (fun q => absurd (by decide) q)
    exact h w _ hR hl0 hl1 hl2
  | succ c ih =>
    intro hc s w lv hR h hl0 hl1 hl2 hl3
    rw [nI_pred] at hl3
    have hv0 : xq_vl ad s 0 0 := xq_v0 (by decide)
    refine rn_ild (lkX3_setLines_26 Y) (by repeat (first | assumption | exact xw_lk_e _ _ _ | exact xw_lk_e2 _ _ _ | refine xw_lk_s (by decide) (by first | exact Or.inl rfl | exact Or.inl (xw_cat_rf _) | exact Or.inr (by decide)) ?_ | refine xw_lk_s2 (by decide) (by decide) (by first | exact Or.inl rfl | exact Or.inl (xw_cat_rf _) | exact Or.inr (by decide)) ?_)) ?_
    refine rn_ifz (lkX3_setLines_27 Y) (fun q => absurd q (nI_pos (by omega))) (fun _ => ?_)
    first | refine rn_ald (lkX3_setLines_30 Y) (by repeat (first | assumption | exact xw_lk_e _ _ _ | exact xw_lk_e2 _ _ _ | refine xw_lk_s (by decide) (by first | exact Or.inl rfl | exact Or.inl (xw_cat_rf _) | exact Or.inr (by decide)) ?_ | refine xw_lk_s2 (by decide) (by decide) (by first | exact Or.inl rfl | exact Or.inl (xw_cat_rf _) | exact Or.inr (by decide)) ?_)) ?_ | refine rn_aldO (lkX3_setLines_30 Y) (by repeat (first | assumption | exact xw_lk_e _ _ _ | exact xw_lk_e2 _ _ _ | refine xw_lk_s (by decide) (by first | exact Or.inl rfl | exact Or.inl (xw_cat_rf _) | exact Or.inr (by decide)) ?_ | refine xw_lk_s2 (by decide) (by decide) (by first | exact Or.inl rfl | exact Or.inl (xw_cat_rf _) | exact Or.inr (by decide)) ?_)) ?_ | refine rn_aldN (lkX3_setLines_30 Y) (by repeat (first | assumption | exact xw_lk_e _ _ _ | exact xw_lk_e2 _ _ _ | refine xw_lk_s (by decide) (by first | exact Or.inl rfl | exact Or.inl (xw_cat_rf _) | exact Or.inr (by decide)) ?_ | refine xw_lk_s2 (by decide) (by decide) (by first | exact Or.inl rfl | exact Or.inl (xw_cat_rf _) | exact Or.inr (by decide)) ?_)) ?_
    refine rp_getf hR (lkX3_setLines_31 Y) (by first | assumption | exact xq_v0 (by decide)) rfl rfl ?_
    refine rn_ild (lkX3_setLines_34 Y) (by repeat (first | assumption | exact xw_lk_e _ _ _ | exact xw_lk_e2 _ _ _ | refine xw_lk_s (by decide) (by first | exact Or.inl rfl | exact Or.inl (xw_cat_rf _) | exact Or.inr (by decide)) ?_ | refine xw_lk_s2 (by decide) (by decide) (by first | exact Or.inl rfl | exact Or.inl (xw_cat_rf _) | exact Or.inr (by decide)) ?_)) ?_
    refine rp_ild6 hR (lkX3_setLines_35 Y) rfl (by omega) ?_
    refine rn_ist (lkX3_setLines_36 Y) rfl ?_
    first | refine rn_ald (lkX3_setLines_38 Y) (by repeat (first | assumption | exact xw_lk_e _ _ _ | exact xw_lk_e2 _ _ _ | refine xw_lk_s (by decide) (by first | exact Or.inl rfl | exact Or.inl (xw_cat_rf _) | exact Or.inr (by decide)) ?_ | refine xw_lk_s2 (by decide) (by decide) (by first | exact Or.inl rfl | exact Or.inl (xw_cat_rf _) | exact Or.inr (by decide)) ?_)) ?_ | refine rn_aldO (lkX3_setLines_38 Y) (by repeat (first | assumption | exact xw_lk_e _ _ _ | exact xw_lk_e2 _ _ _ | refine xw_lk_s (by decide) (by first | exact Or.inl rfl | exact Or.inl (xw_cat_rf _) | exact Or.inr (by decide)) ?_ | refine xw_lk_s2 (by decide) (by decide) (by first | exact Or.inl rfl | exact Or.inl (xw_cat_rf _) | exact Or.inr (by decide)) ?_)) ?_ | refine rn_aldN (lkX3_setLines_38 Y) (by repeat (first | assumption | exact xw_lk_e _ _ _ | exact xw_lk_e2 _ _ _ | refine xw_lk_s (by decide) (by first | exact Or.inl rfl | exact Or.inl (xw_cat_rf _) | exact Or.inr (by decide)) ?_ | refine xw_lk_s2 (by decide) (by decide) (by first | exact Or.inl rfl | exact Or.inl (xw_cat_rf _) | exact Or.inr (by decide)) ?_)) ?_
    refine rp_getf hR (lkX3_setLines_39 Y) (by first | assumption | exact xq_v0 (by decide)) rfl rfl ?_
    refine rn_push (lkX3_setLines_42 Y) ?_
    refine rn_ild (lkX3_setLines_43 Y) (by repeat (first | assumption | exact xw_lk_e _ _ _ | exact xw_lk_e2 _ _ _ | refine xw_lk_s (by decide) (by first | exact Or.inl rfl | exact Or.inl (xw_cat_rf _) | exact Or.inr (by decide)) ?_ | refine xw_lk_s2 (by decide) (by decide) (by first | exact Or.inl rfl | exact Or.inl (xw_cat_rf _) | exact Or.inr (by decide)) ?_)) ?_
    refine rn_i2 (lkX3_setLines_44 Y) ?_
    refine rn_ild (lkX3_setLines_45 Y) (by repeat (first | assumption | exact xw_lk_e _ _ _ | exact xw_lk_e2 _ _ _ | refine xw_lk_s (by decide) (by first | exact Or.inl rfl | exact Or.inl (xw_cat_rf _) | exact Or.inr (by decide)) ?_ | refine xw_lk_s2 (by decide) (by decide) (by first | exact Or.inl rfl | exact Or.inl (xw_cat_rf _) | exact Or.inr (by decide)) ?_)) ?_
    refine rp_ist6 hR (lkX3_setLines_47 Y) (show (nI 2 * nI c : Int32) = nI (2 * c) from pk_mul 2 c) (by omega) (fun w hR => ?_)
    first | refine rn_ald (lkX3_setLines_48 Y) (by repeat (first | assumption | exact xw_lk_e _ _ _ | exact xw_lk_e2 _ _ _ | refine xw_lk_s (by decide) (by first | exact Or.inl rfl | exact Or.inl (xw_cat_rf _) | exact Or.inr (by decide)) ?_ | refine xw_lk_s2 (by decide) (by decide) (by first | exact Or.inl rfl | exact Or.inl (xw_cat_rf _) | exact Or.inr (by decide)) ?_)) ?_ | refine rn_aldO (lkX3_setLines_48 Y) (by repeat (first | assumption | exact xw_lk_e _ _ _ | exact xw_lk_e2 _ _ _ | refine xw_lk_s (by decide) (by first | exact Or.inl rfl | exact Or.inl (xw_cat_rf _) | exact Or.inr (by decide)) ?_ | refine xw_lk_s2 (by decide) (by decide) (by first | exact Or.inl rfl | exact Or.inl (xw_cat_rf _) | exact Or.inr (by decide)) ?_)) ?_ | refine rn_aldN (lkX3_setLines_48 Y) (by repeat (first | assumption | exact xw_lk_e _ _ _ | exact xw_lk_e2 _ _ _ | refine xw_lk_s (by decide) (by first | exact Or.inl rfl | exact Or.inl (xw_cat_rf _) | exact Or.inr (by decide)) ?_ | refine xw_lk_s2 (by decide) (by decide) (by first | exact Or.inl rfl | exact Or.inl (xw_cat_rf _) | exact Or.inr (by decide)) ?_)) ?_
    refine rp_getf hR (lkX3_setLines_49 Y) (by first | assumption | exact xq_v0 (by decide)) rfl rfl ?_
    refine rn_push (lkX3_setLines_52 Y) ?_
    refine rn_ild (lkX3_setLines_53 Y) (by repeat (first | assumption | exact xw_lk_e _ _ _ | exact xw_lk_e2 _ _ _ | refine xw_lk_s (by decide) (by first | exact Or.inl rfl | exact Or.inl (xw_cat_rf _) | exact Or.inr (by decide)) ?_ | refine xw_lk_s2 (by decide) (by decide) (by first | exact Or.inl rfl | exact Or.inl (xw_cat_rf _) | exact Or.inr (by decide)) ?_)) ?_
    refine rn_i2 (lkX3_setLines_54 Y) ?_
    refine rn_push (lkX3_setLines_55 Y) ?_
    refine rn_i2 (lkX3_setLines_56 Y) ?_
    refine rn_push (lkX3_setLines_57 Y) ?_
    refine rn_ild (lkX3_setLines_58 Y) (by repeat (first | assumption | exact xw_lk_e _ _ _ | exact xw_lk_e2 _ _ _ | refine xw_lk_s (by decide) (by first | exact Or.inl rfl | exact Or.inl (xw_cat_rf _) | exact Or.inr (by decide)) ?_ | refine xw_lk_s2 (by decide) (by decide) (by first | exact Or.inl rfl | exact Or.inl (xw_cat_rf _) | exact Or.inr (by decide)) ?_)) ?_
    refine rn_i2 (lkX3_setLines_59 Y) ?_
    refine rn_push (lkX3_setLines_60 Y) ?_
    refine rn_i2 (lkX3_setLines_61 Y) ?_
    refine rn_ild (lkX3_setLines_62 Y) (by repeat (first | assumption | exact xw_lk_e _ _ _ | exact xw_lk_e2 _ _ _ | refine xw_lk_s (by decide) (by first | exact Or.inl rfl | exact Or.inl (xw_cat_rf _) | exact Or.inr (by decide)) ?_ | refine xw_lk_s2 (by decide) (by decide) (by first | exact Or.inl rfl | exact Or.inl (xw_cat_rf _) | exact Or.inr (by decide)) ?_)) ?_
    refine rn_i2 (lkX3_setLines_64 Y) ?_
    refine rp_ist6 hR (lkX3_setLines_65 Y) (show (nI 2 * nI c + 1 : Int32) = nI (2 * c + 1) by rw [pk_mul, nI_1]) (by omega) (fun w hR => ?_)
    refine rn_inc (lkX3_setLines_66 Y) (by repeat (first | assumption | exact xw_lk_e _ _ _ | exact xw_lk_e2 _ _ _ | refine xw_lk_s (by decide) (by first | exact Or.inl rfl | exact Or.inl (xw_cat_rf _) | exact Or.inr (by decide)) ?_ | refine xw_lk_s2 (by decide) (by decide) (by first | exact Or.inl rfl | exact Or.inl (xw_cat_rf _) | exact Or.inr (by decide)) ?_)) rfl ?_
    refine rn_goto (lkX3_setLines_69 Y) ?_
    exact ih (by omega) (mo_ln1 s z c) _ _ hR h (by repeat (first | assumption | exact xw_lk_e _ _ _ | exact xw_lk_e2 _ _ _ | refine xw_lk_s (by decide) (by first | exact Or.inl rfl | exact Or.inl (xw_cat_rf _) | exact Or.inr (by decide)) ?_ | refine xw_lk_s2 (by decide) (by decide) (by first | exact Or.inl rfl | exact Or.inl (xw_cat_rf _) | exact Or.inr (by decide)) ?_)) (by repeat (first | assumption | exact xw_lk_e _ _ _ | exact xw_lk_e2 _ _ _ | refine xw_lk_s (by decide) (by first | exact Or.inl rfl | exact Or.inl (xw_cat_rf _) | exact Or.inr (by decide)) ?_ | refine xw_lk_s2 (by decide) (by decide) (by first | exact Or.inl rfl | exact Or.inl (xw_cat_rf _) | exact Or.inr (by decide)) ?_)) (by repeat (first | assumption | exact xw_lk_e _ _ _ | exact xw_lk_e2 _ _ _ | refine xw_lk_s (by decide) (by first | exact Or.inl rfl | exact Or.inl (xw_cat_rf _) | exact Or.inr (by decide)) ?_ | refine xw_lk_s2 (by decide) (by decide) (by first | exact Or.inl rfl | exact Or.inl (xw_cat_rf _) | exact Or.inr (by decide)) ?_)) (by rw [← xn_m1]; repeat (first | assumption | exact xw_lk_e _ _ _ | exact xw_lk_e2 _ _ _ | refine xw_lk_s (by decide) (by first | exact Or.inl rfl | exact Or.inl (xw_cat_rf _) | exact Or.inr (by decide)) ?_ | refine xw_lk_s2 (by decide) (by decide) (by first | exact Or.inl rfl | exact Or.inl (xw_cat_rf _) | exact Or.inr (by decide)) ?_))

set_option maxRecDepth 100000 in
set_option maxHeartbeats 4000000 in
theorem lp_lines2 {Rt : xw_R} {N : Nat} (hN : N ≤ 16) : ∀ (f z : Nat), 0 < z → z ≤ 16 → 16 ≤ z * 2 ^ f → ∀ (s : xq_S) (w : xw_W) (lv : xw_L), xq_rp Y ad s w → (∀ w' : xw_W, xq_rp Y ad (xu_i (mo_out f s z N).1 8 0 (nI (mo_out f s z N).2)) w' → Rt none w' 0 0) → xw_lk lv 0 = some (.ref (ad 0 0)) → xw_lk lv 1 = some (.int (nI N)) → xw_lk lv 2 = some (.int (nI z)) → xw_Run (tbX3_setLines Y) Rt 9 lv [] w 0 0 := by
  intro f
  induction f with
  | zero =>
    intro z hz0 hz hzf s w lv hR h hl0 hl1 hl2
    have hz16 : z = 16 := by omega
    have hv0 : xq_vl ad s 0 0 := xq_v0 (by decide)
    refine rn_ild (lkX3_setLines_9 Y) (by repeat (first | assumption | exact xw_lk_e _ _ _ | exact xw_lk_e2 _ _ _ | refine xw_lk_s (by decide) (by first | exact Or.inl rfl | exact Or.inl (xw_cat_rf _) | exact Or.inr (by decide)) ?_ | refine xw_lk_s2 (by decide) (by decide) (by first | exact Or.inl rfl | exact Or.inl (xw_cat_rf _) | exact Or.inr (by decide)) ?_)) ?_
    refine rn_ild (lkX3_setLines_10 Y) (by repeat (first | assumption | exact xw_lk_e _ _ _ | exact xw_lk_e2 _ _ _ | refine xw_lk_s (by decide) (by first | exact Or.inl rfl | exact Or.inl (xw_cat_rf _) | exact Or.inr (by decide)) ?_ | refine xw_lk_s2 (by decide) (by decide) (by first | exact Or.inl rfl | exact Or.inl (xw_cat_rf _) | exact Or.inr (by decide)) ?_)) ?_
    refine rn_ifc (lkX3_setLines_11 Y) (fun _ => ?_) (fun q => absurd (nI_le (by omega) (by omega)) q)
    first | refine rn_ald (lkX3_setLines_79 Y) (by repeat (first | assumption | exact xw_lk_e _ _ _ | exact xw_lk_e2 _ _ _ | refine xw_lk_s (by decide) (by first | exact Or.inl rfl | exact Or.inl (xw_cat_rf _) | exact Or.inr (by decide)) ?_ | refine xw_lk_s2 (by decide) (by decide) (by first | exact Or.inl rfl | exact Or.inl (xw_cat_rf _) | exact Or.inr (by decide)) ?_)) ?_ | refine rn_aldO (lkX3_setLines_79 Y) (by repeat (first | assumption | exact xw_lk_e _ _ _ | exact xw_lk_e2 _ _ _ | refine xw_lk_s (by decide) (by first | exact Or.inl rfl | exact Or.inl (xw_cat_rf _) | exact Or.inr (by decide)) ?_ | refine xw_lk_s2 (by decide) (by decide) (by first | exact Or.inl rfl | exact Or.inl (xw_cat_rf _) | exact Or.inr (by decide)) ?_)) ?_ | refine rn_aldN (lkX3_setLines_79 Y) (by repeat (first | assumption | exact xw_lk_e _ _ _ | exact xw_lk_e2 _ _ _ | refine xw_lk_s (by decide) (by first | exact Or.inl rfl | exact Or.inl (xw_cat_rf _) | exact Or.inr (by decide)) ?_ | refine xw_lk_s2 (by decide) (by decide) (by first | exact Or.inl rfl | exact Or.inl (xw_cat_rf _) | exact Or.inr (by decide)) ?_)) ?_
    refine rn_ild (lkX3_setLines_80 Y) (by repeat (first | assumption | exact xw_lk_e _ _ _ | exact xw_lk_e2 _ _ _ | refine xw_lk_s (by decide) (by first | exact Or.inl rfl | exact Or.inl (xw_cat_rf _) | exact Or.inr (by decide)) ?_ | refine xw_lk_s2 (by decide) (by decide) (by first | exact Or.inl rfl | exact Or.inl (xw_cat_rf _) | exact Or.inr (by decide)) ?_)) ?_
    refine rp_puti (c := 8) hR (lkX3_setLines_81 Y) (by first | assumption | exact xq_v0 (by decide)) rfl (Nat.le_of_ble_eq_true rfl) (xw_fit_i _) rfl (fun q => absurd q (by decide)) (by simp [xq_en, xq_i_i, xq_r_i]) (fun w hR => ?_)
    refine rn_vret (lkX3_setLines_84 Y) ?_
    exact h _ hR
  | succ f ih =>
    intro z hz0 hz hzf s w lv hR h hl0 hl1 hl2
    have hv0 : xq_vl ad s 0 0 := xq_v0 (by decide)
    have e2 : (nI 2 * nI z : Int32) = nI (2 * z) := pk_mul 2 z
    refine rn_ild (lkX3_setLines_9 Y) (by repeat (first | assumption | exact xw_lk_e _ _ _ | exact xw_lk_e2 _ _ _ | refine xw_lk_s (by decide) (by first | exact Or.inl rfl | exact Or.inl (xw_cat_rf _) | exact Or.inr (by decide)) ?_ | refine xw_lk_s2 (by decide) (by decide) (by first | exact Or.inl rfl | exact Or.inl (xw_cat_rf _) | exact Or.inr (by decide)) ?_)) ?_
    refine rn_ild (lkX3_setLines_10 Y) (by repeat (first | assumption | exact xw_lk_e _ _ _ | exact xw_lk_e2 _ _ _ | refine xw_lk_s (by decide) (by first | exact Or.inl rfl | exact Or.inl (xw_cat_rf _) | exact Or.inr (by decide)) ?_ | refine xw_lk_s2 (by decide) (by decide) (by first | exact Or.inl rfl | exact Or.inl (xw_cat_rf _) | exact Or.inr (by decide)) ?_)) ?_
    by_cases hq1 : N ≤ z
    · rw [mo_out, if_pos (Or.inl hq1)] at h
      refine rn_ifc (lkX3_setLines_11 Y) (fun _ => ?_) (fun q => absurd (nI_le hq1 (by omega)) q)
      first | refine rn_ald (lkX3_setLines_79 Y) (by repeat (first | assumption | exact xw_lk_e _ _ _ | exact xw_lk_e2 _ _ _ | refine xw_lk_s (by decide) (by first | exact Or.inl rfl | exact Or.inl (xw_cat_rf _) | exact Or.inr (by decide)) ?_ | refine xw_lk_s2 (by decide) (by decide) (by first | exact Or.inl rfl | exact Or.inl (xw_cat_rf _) | exact Or.inr (by decide)) ?_)) ?_ | refine rn_aldO (lkX3_setLines_79 Y) (by repeat (first | assumption | exact xw_lk_e _ _ _ | exact xw_lk_e2 _ _ _ | refine xw_lk_s (by decide) (by first | exact Or.inl rfl | exact Or.inl (xw_cat_rf _) | exact Or.inr (by decide)) ?_ | refine xw_lk_s2 (by decide) (by decide) (by first | exact Or.inl rfl | exact Or.inl (xw_cat_rf _) | exact Or.inr (by decide)) ?_)) ?_ | refine rn_aldN (lkX3_setLines_79 Y) (by repeat (first | assumption | exact xw_lk_e _ _ _ | exact xw_lk_e2 _ _ _ | refine xw_lk_s (by decide) (by first | exact Or.inl rfl | exact Or.inl (xw_cat_rf _) | exact Or.inr (by decide)) ?_ | refine xw_lk_s2 (by decide) (by decide) (by first | exact Or.inl rfl | exact Or.inl (xw_cat_rf _) | exact Or.inr (by decide)) ?_)) ?_
      refine rn_ild (lkX3_setLines_80 Y) (by repeat (first | assumption | exact xw_lk_e _ _ _ | exact xw_lk_e2 _ _ _ | refine xw_lk_s (by decide) (by first | exact Or.inl rfl | exact Or.inl (xw_cat_rf _) | exact Or.inr (by decide)) ?_ | refine xw_lk_s2 (by decide) (by decide) (by first | exact Or.inl rfl | exact Or.inl (xw_cat_rf _) | exact Or.inr (by decide)) ?_)) ?_
      refine rp_puti (c := 8) hR (lkX3_setLines_81 Y) (by first | assumption | exact xq_v0 (by decide)) rfl (Nat.le_of_ble_eq_true rfl) (xw_fit_i _) rfl (fun q => absurd q (by decide)) (by simp [xq_en, xq_i_i, xq_r_i]) (fun w hR => ?_)
      refine rn_vret (lkX3_setLines_84 Y) ?_
      exact h _ hR
    · skip
      refine rn_ifc (lkX3_setLines_11 Y) (fun q => absurd q (nI_ge (by omega) (by omega))) (fun _ => ?_)
      refine rn_push (lkX3_setLines_14 Y) ?_
      refine rn_ild (lkX3_setLines_15 Y) (by repeat (first | assumption | exact xw_lk_e _ _ _ | exact xw_lk_e2 _ _ _ | refine xw_lk_s (by decide) (by first | exact Or.inl rfl | exact Or.inl (xw_cat_rf _) | exact Or.inr (by decide)) ?_ | refine xw_lk_s2 (by decide) (by decide) (by first | exact Or.inl rfl | exact Or.inl (xw_cat_rf _) | exact Or.inr (by decide)) ?_)) ?_
      refine rn_i2 (lkX3_setLines_16 Y) ?_
      refine rn_push (lkX3_setLines_17 Y) ?_
      by_cases hq2 : 16 < 2 * z
      · rw [mo_out, if_pos (Or.inr hq2)] at h
        refine rn_ifc (lkX3_setLines_19 Y) (fun _ => ?_) (fun q => absurd (show nI 16 < nI 2 * nI z by rw [e2]; exact nI_lt hq2 (by omega)) q)
        first | refine rn_ald (lkX3_setLines_79 Y) (by repeat (first | assumption | exact xw_lk_e _ _ _ | exact xw_lk_e2 _ _ _ | refine xw_lk_s (by decide) (by first | exact Or.inl rfl | exact Or.inl (xw_cat_rf _) | exact Or.inr (by decide)) ?_ | refine xw_lk_s2 (by decide) (by decide) (by first | exact Or.inl rfl | exact Or.inl (xw_cat_rf _) | exact Or.inr (by decide)) ?_)) ?_ | refine rn_aldO (lkX3_setLines_79 Y) (by repeat (first | assumption | exact xw_lk_e _ _ _ | exact xw_lk_e2 _ _ _ | refine xw_lk_s (by decide) (by first | exact Or.inl rfl | exact Or.inl (xw_cat_rf _) | exact Or.inr (by decide)) ?_ | refine xw_lk_s2 (by decide) (by decide) (by first | exact Or.inl rfl | exact Or.inl (xw_cat_rf _) | exact Or.inr (by decide)) ?_)) ?_ | refine rn_aldN (lkX3_setLines_79 Y) (by repeat (first | assumption | exact xw_lk_e _ _ _ | exact xw_lk_e2 _ _ _ | refine xw_lk_s (by decide) (by first | exact Or.inl rfl | exact Or.inl (xw_cat_rf _) | exact Or.inr (by decide)) ?_ | refine xw_lk_s2 (by decide) (by decide) (by first | exact Or.inl rfl | exact Or.inl (xw_cat_rf _) | exact Or.inr (by decide)) ?_)) ?_
        refine rn_ild (lkX3_setLines_80 Y) (by repeat (first | assumption | exact xw_lk_e _ _ _ | exact xw_lk_e2 _ _ _ | refine xw_lk_s (by decide) (by first | exact Or.inl rfl | exact Or.inl (xw_cat_rf _) | exact Or.inr (by decide)) ?_ | refine xw_lk_s2 (by decide) (by decide) (by first | exact Or.inl rfl | exact Or.inl (xw_cat_rf _) | exact Or.inr (by decide)) ?_)) ?_
        refine rp_puti (c := 8) hR (lkX3_setLines_81 Y) (by first | assumption | exact xq_v0 (by decide)) rfl (Nat.le_of_ble_eq_true rfl) (xw_fit_i _) rfl (fun q => absurd q (by decide)) (by simp [xq_en, xq_i_i, xq_r_i]) (fun w hR => ?_)
        refine rn_vret (lkX3_setLines_84 Y) ?_
        exact h _ hR
      · rw [mo_out, if_neg (by omega)] at h
        refine rn_ifc (lkX3_setLines_19 Y) (fun q => absurd q (show ¬ nI 16 < nI 2 * nI z by rw [e2]; exact nI_nlt (by omega) (by omega))) (fun _ => ?_)
        refine rn_ild (lkX3_setLines_22 Y) (by repeat (first | assumption | exact xw_lk_e _ _ _ | exact xw_lk_e2 _ _ _ | refine xw_lk_s (by decide) (by first | exact Or.inl rfl | exact Or.inl (xw_cat_rf _) | exact Or.inr (by decide)) ?_ | refine xw_lk_s2 (by decide) (by decide) (by first | exact Or.inl rfl | exact Or.inl (xw_cat_rf _) | exact Or.inr (by decide)) ?_)) ?_
        refine rn_push (lkX3_setLines_23 Y) ?_
        refine rn_i2 (lkX3_setLines_24 Y) ?_
        refine rn_ist (lkX3_setLines_25 Y) rfl ?_
        refine lp_lines1 (by omega) z (Nat.le_refl _) s w _ hR (fun w' lv' hR' hl0' hl1' hl2' => ?_) (by repeat (first | assumption | exact xw_lk_e _ _ _ | exact xw_lk_e2 _ _ _ | refine xw_lk_s (by decide) (by first | exact Or.inl rfl | exact Or.inl (xw_cat_rf _) | exact Or.inr (by decide)) ?_ | refine xw_lk_s2 (by decide) (by decide) (by first | exact Or.inl rfl | exact Or.inl (xw_cat_rf _) | exact Or.inr (by decide)) ?_)) (by repeat (first | assumption | exact xw_lk_e _ _ _ | exact xw_lk_e2 _ _ _ | refine xw_lk_s (by decide) (by first | exact Or.inl rfl | exact Or.inl (xw_cat_rf _) | exact Or.inr (by decide)) ?_ | refine xw_lk_s2 (by decide) (by decide) (by first | exact Or.inl rfl | exact Or.inl (xw_cat_rf _) | exact Or.inr (by decide)) ?_)) (by repeat (first | assumption | exact xw_lk_e _ _ _ | exact xw_lk_e2 _ _ _ | refine xw_lk_s (by decide) (by first | exact Or.inl rfl | exact Or.inl (xw_cat_rf _) | exact Or.inr (by decide)) ?_ | refine xw_lk_s2 (by decide) (by decide) (by first | exact Or.inl rfl | exact Or.inl (xw_cat_rf _) | exact Or.inr (by decide)) ?_)) (by repeat (first | assumption | exact xw_lk_e _ _ _ | exact xw_lk_e2 _ _ _ | refine xw_lk_s (by decide) (by first | exact Or.inl rfl | exact Or.inl (xw_cat_rf _) | exact Or.inr (by decide)) ?_ | refine xw_lk_s2 (by decide) (by decide) (by first | exact Or.inl rfl | exact Or.inl (xw_cat_rf _) | exact Or.inr (by decide)) ?_))
        refine rn_ild (lkX3_setLines_72 Y) hl2' ?_
        refine rn_push (lkX3_setLines_73 Y) ?_
        refine rn_i2 (lkX3_setLines_74 Y) ?_
        refine rn_ist (lkX3_setLines_75 Y) rfl ?_
        refine rn_goto (lkX3_setLines_76 Y) ?_
        have e3 : (nI z * nI 2 : Int32) = nI (2 * z) := by rw [pk_mul, Nat.mul_comm]
        have e3 : (nI z * nI 2 : Int32) = nI (2 * z) := by rw [pk_mul, Nat.mul_comm]
        have hzf2 : 16 ≤ 2 * z * 2 ^ f := by
          have q1 : z * 2 ^ (f + 1) = 2 * z * 2 ^ f := by rw [Nat.pow_succ, Nat.mul_comm (2 ^ f) 2, ← Nat.mul_assoc, Nat.mul_comm z 2]
          omega
        exact ih (2 * z) (by omega) (by omega) hzf2 (mo_ln s z z) w' _ hR' h (by repeat (first | assumption | exact xw_lk_e _ _ _ | exact xw_lk_e2 _ _ _ | refine xw_lk_s (by decide) (by first | exact Or.inl rfl | exact Or.inl (xw_cat_rf _) | exact Or.inr (by decide)) ?_ | refine xw_lk_s2 (by decide) (by decide) (by first | exact Or.inl rfl | exact Or.inl (xw_cat_rf _) | exact Or.inr (by decide)) ?_)) (by repeat (first | assumption | exact xw_lk_e _ _ _ | exact xw_lk_e2 _ _ _ | refine xw_lk_s (by decide) (by first | exact Or.inl rfl | exact Or.inl (xw_cat_rf _) | exact Or.inr (by decide)) ?_ | refine xw_lk_s2 (by decide) (by decide) (by first | exact Or.inl rfl | exact Or.inl (xw_cat_rf _) | exact Or.inr (by decide)) ?_)) (by rw [← e3]; exact xw_lk_e _ _ _)

set_option maxRecDepth 100000 in
set_option maxHeartbeats 4000000 in
theorem sc_setLines {N : Nat} (hR : xq_rp Y ad s w) (hN : N ≤ 16) (h : ∀ w', xq_rp Y ad (mo_setLines s N) w' → post none w') : ptX3_setLines Y [.ref (ad 0 0), .int (nI N)] w post := by
  refine ⟨(by first | exact Nat.le_of_ble_eq_true rfl | simp [lg_sl, xw_cat_rf, xw_cat_i, xw_cat_r, xw_cat_n, xw_cat_l]), ?_⟩
  refine rn_push (lkX3_setLines_0 Y) ?_
  refine rn_ist (lkX3_setLines_1 Y) rfl ?_
  first | refine rn_ald (lkX3_setLines_2 Y) rfl ?_ | refine rn_aldO (lkX3_setLines_2 Y) rfl ?_ | refine rn_aldN (lkX3_setLines_2 Y) rfl ?_
  refine rp_getf hR (lkX3_setLines_3 Y) (by first | assumption | exact xq_v0 (by decide)) rfl rfl ?_
  refine rn_push (lkX3_setLines_6 Y) ?_
  refine rn_push (lkX3_setLines_7 Y) ?_
  refine rp_ist6 (j := 0) hR (lkX3_setLines_8 Y) rfl (by decide) (fun w hR => ?_)
  exact lp_lines2 hN 4 1 (by decide) (by decide) (by decide) _ w _ hR (fun w' hw' => ⟨h w' hw', Nat.le_refl _, Nat.le_refl _⟩) rfl rfl rfl

end XCF
