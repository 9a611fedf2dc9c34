/-! THE NEW OBJECT; the pools are formed -/
section XCD
variable {Y : xw_Y} {ad : Nat → Nat → Nat} {s : xq_S} {w w0 : xw_W} {post : Option Value → xw_W → Prop}
def xq_0 : xq_S := (0, 0, (fun _ _ => 0), (fun _ _ => none))
def xa_0 (a q1 q2 q3 q4 q5 q6 e0 : Nat) : Nat → Nat → Nat
  | 0, _ => a
  | 1, _ => q1
  | 2, _ => q2
  | 3, _ => q3
  | 4, _ => q4
  | 5, _ => q5
  | 6, _ => q6
  | 7, _ => e0
  | 8, _ => e0
  | _, _ => 0
theorem sl_pic0 {a q1 q2 q3 q4 q5 q6 : Nat} (hD : xi_D w0 w [(a, .inr (4, [.ref q1, .ref q2, .ref q3, .ref q4, .ref q5, .ref q6, .int 0, .int 0, .int 0, .int 0])), (q6, .inl (Y.2.1, 16, .inl (fun _ => 0))), (q5, .inl (Y.2.2.2.2, 16, .inr (.inr (.inr (.inr (fun _ => none)))))), (q4, .inl (Y.2.1, 4, .inl (fun _ => 0))), (q3, .inl (Y.2.2.2.1, 3, .inr (.inr (.inr (.inr (fun _ => none)))))), (q2, .inr (0, [.int 0, .ref Y.1.1.1, .int 0])), (q1, .inr (0, [.int 0, .ref Y.1.1.1, .int 0]))]) : xq_rp Y (xa_0 a q1 q2 q3 q4 q5 q6 Y.1.1.1) xq_0 w := by
  obtain ⟨h1, h2, h3⟩ := hD
  simp only [List.map_cons, List.map_nil, List.nodup_cons, List.mem_cons, List.not_mem_nil, or_false, not_or, List.nodup_nil, and_true, not_false_eq_true] at h2
  have hv : ∀ t i, xq_vl (xa_0 a q1 q2 q3 q4 q5 q6 Y.1.1.1) xq_0 t i → t ≤ 6 ∧ i = 0 := by
    intro t i h
    have e13 : xa_0 a q1 q2 q3 q4 q5 q6 Y.1.1.1 13 0 = 0 := rfl
    have e14 : xa_0 a q1 q2 q3 q4 q5 q6 Y.1.1.1 14 0 = 0 := rfl
    have e1 : xq_0.1 = 0 := rfl
    have e2 : xq_0.2.1 = 0 := rfl
    unfold xq_vl at h
    rw [e13, e14, e1, e2] at h
    omega
  refine ⟨fun t i h => ?_, fun t i t' i' h h' e => ?_, ?_, ?_⟩
  · obtain ⟨q, rfl⟩ := hv t i h
    rcases (show t = 0 ∨ t = 1 ∨ t = 2 ∨ t = 3 ∨ t = 4 ∨ t = 5 ∨ t = 6 by omega) with rfl | rfl | rfl | rfl | rfl | rfl | rfl
    · have := h1 (a, _) List.mem_cons_self
      exact ⟨this.1, this.2.2⟩
    · have := h1 (q1, _) (List.mem_cons_of_mem _ (List.mem_cons_of_mem _ (List.mem_cons_of_mem _ (List.mem_cons_of_mem _ (List.mem_cons_of_mem _ (List.mem_cons_of_mem _ List.mem_cons_self))))))
      exact ⟨this.1, this.2.2⟩
    · have := h1 (q2, _) (List.mem_cons_of_mem _ (List.mem_cons_of_mem _ (List.mem_cons_of_mem _ (List.mem_cons_of_mem _ (List.mem_cons_of_mem _ List.mem_cons_self)))))
      exact ⟨this.1, this.2.2⟩
    · have := h1 (q3, _) (List.mem_cons_of_mem _ (List.mem_cons_of_mem _ (List.mem_cons_of_mem _ (List.mem_cons_of_mem _ List.mem_cons_self))))
      exact ⟨this.1, this.2.2⟩
    · have := h1 (q4, _) (List.mem_cons_of_mem _ (List.mem_cons_of_mem _ (List.mem_cons_of_mem _ List.mem_cons_self)))
      exact ⟨this.1, this.2.2⟩
    · have := h1 (q5, _) (List.mem_cons_of_mem _ (List.mem_cons_of_mem _ List.mem_cons_self))
      exact ⟨this.1, this.2.2⟩
    · have := h1 (q6, _) (List.mem_cons_of_mem _ List.mem_cons_self)
      exact ⟨this.1, this.2.2⟩
  · obtain ⟨q, rfl⟩ := hv t i h
    obtain ⟨q', rfl⟩ := hv t' i' h'
    rcases (show t = 0 ∨ t = 1 ∨ t = 2 ∨ t = 3 ∨ t = 4 ∨ t = 5 ∨ t = 6 by omega) with rfl | rfl | rfl | rfl | rfl | rfl | rfl <;> rcases (show t' = 0 ∨ t' = 1 ∨ t' = 2 ∨ t' = 3 ∨ t' = 4 ∨ t' = 5 ∨ t' = 6 by omega) with rfl | rfl | rfl | rfl | rfl | rfl | rfl <;> first | exact ⟨rfl, rfl⟩ | (simp only [xa_0] at e; exfalso; omega)
  · refine ⟨fun k b hk q => ?_, fun b k hb q => ?_, fun b k hb q => ?_, fun b k hb q => ?_, fun j b q => ?_, fun j k q => ?_, fun k hk => Or.inl rfl⟩ <;> cases q
  · exact ⟨fun _ => rfl, fun _ => rfl, Nat.le_refl _, Nat.le_refl _, by show 0 ≤ 200; omega, by show 0 ≤ 200; omega, Or.inl rfl, Or.inl rfl⟩

set_option maxRecDepth 100000 in
set_option maxHeartbeats 4000000 in
theorem sc_init {a : Nat} (hD : xi_D w0 w [(a, .inr (4, [.null, .null, .null, .null, .null, .null, .int 0, .int 0, .int 0, .int 0]))]) (h : ∀ (ad : Nat → Nat → Nat) (w' : xw_W), ad 0 0 = a → xq_rp Y ad xq_0 w' → post none w') : ptX3_init Y [.ref a] w post := by
  refine ⟨(by first | exact Nat.le_of_ble_eq_true rfl | simp [lg_sl, xw_cat_rf, xw_cat_i, xw_cat_r, xw_cat_n, xw_cat_l]), ?_⟩
  first | refine rn_ald (lkX3_init_0 Y) rfl ?_ | refine rn_aldO (lkX3_init_0 Y) rfl ?_ | refine rn_aldN (lkX3_init_0 Y) rfl ?_
  refine rn_obj (lkX3_init_1 Y) (Nat.le_of_ble_eq_true rfl) ?_
  first | refine rn_ald (lkX3_init_4 Y) rfl ?_ | refine rn_aldO (lkX3_init_4 Y) rfl ?_ | refine rn_aldN (lkX3_init_4 Y) rfl ?_
  refine rd_new (w0 := w0) [_] _ hD (lkX3_init_5 Y) (Nat.le_of_ble_eq_true rfl) (Nat.le_of_ble_eq_true rfl) (fun q1 w hD => ?_)
  refine rn_dup (lkX3_init_8 Y) (by first | rfl | exact xw_cat_rf _) ?_
  refine rn_callI (lkX3_init_9 Y) rfl (Nat.le_of_ble_eq_true rfl) (Nat.le_of_ble_eq_true rfl) (Nat.le_of_ble_eq_true rfl) ?_
  refine sd_initJ hD (fun w hD => ?_)
  refine rd_put (w0 := w0) [] _ hD (lkX3_init_12 Y) (Nat.le_of_ble_eq_true rfl) (xw_fit_o _ (some _)) rfl (fun w hD => ?_)
  first | refine rn_ald (lkX3_init_15 Y) rfl ?_ | refine rn_aldO (lkX3_init_15 Y) rfl ?_ | refine rn_aldN (lkX3_init_15 Y) rfl ?_
  refine rd_new (w0 := w0) [_] _ hD (lkX3_init_16 Y) (Nat.le_of_ble_eq_true rfl) (Nat.le_of_ble_eq_true rfl) (fun q2 w hD => ?_)
  refine rn_dup (lkX3_init_19 Y) (by first | rfl | exact xw_cat_rf _) ?_
  refine rn_callI (lkX3_init_20 Y) rfl (Nat.le_of_ble_eq_true rfl) (Nat.le_of_ble_eq_true rfl) (Nat.le_of_ble_eq_true rfl) ?_
  refine sd_initJ hD (fun w hD => ?_)
  refine rd_put (w0 := w0) [] _ hD (lkX3_init_23 Y) (Nat.le_of_ble_eq_true rfl) (xw_fit_o _ (some _)) rfl (fun w hD => ?_)
  first | refine rn_ald (lkX3_init_26 Y) rfl ?_ | refine rn_aldO (lkX3_init_26 Y) rfl ?_ | refine rn_aldN (lkX3_init_26 Y) rfl ?_
  refine rn_push (lkX3_init_27 Y) ?_
  refine rd_newq (w0 := w0) (N := 3) [_] _ hD (lkX3_init_28 Y) (by decide) (Nat.le_of_ble_eq_true rfl) (Nat.le_of_ble_eq_true rfl) (fun q3 w hD => ?_)
  refine rd_put (w0 := w0) [] _ hD (lkX3_init_31 Y) (Nat.le_of_ble_eq_true rfl) (xw_fit_a _ (some _)) rfl (fun w hD => ?_)
  first | refine rn_ald (lkX3_init_34 Y) rfl ?_ | refine rn_aldO (lkX3_init_34 Y) rfl ?_ | refine rn_aldN (lkX3_init_34 Y) rfl ?_
  refine rn_push (lkX3_init_35 Y) ?_
  refine rd_newi (w0 := w0) (N := 4) [_] _ hD (lkX3_init_36 Y) (by decide) (Nat.le_of_ble_eq_true rfl) (Nat.le_of_ble_eq_true rfl) (fun q4 w hD => ?_)
  refine rd_put (w0 := w0) [] _ hD (lkX3_init_38 Y) (Nat.le_of_ble_eq_true rfl) (xw_fit_a _ (some _)) rfl (fun w hD => ?_)
  first | refine rn_ald (lkX3_init_41 Y) rfl ?_ | refine rn_aldO (lkX3_init_41 Y) rfl ?_ | refine rn_aldN (lkX3_init_41 Y) rfl ?_
  refine rn_push (lkX3_init_42 Y) ?_
  refine rd_newq (w0 := w0) (N := 16) [_] _ hD (lkX3_init_44 Y) (by decide) (Nat.le_of_ble_eq_true rfl) (Nat.le_of_ble_eq_true rfl) (fun q5 w hD => ?_)
  refine rd_put (w0 := w0) [] _ hD (lkX3_init_47 Y) (Nat.le_of_ble_eq_true rfl) (xw_fit_a _ (some _)) rfl (fun w hD => ?_)
  first | refine rn_ald (lkX3_init_50 Y) rfl ?_ | refine rn_aldO (lkX3_init_50 Y) rfl ?_ | refine rn_aldN (lkX3_init_50 Y) rfl ?_
  refine rn_push (lkX3_init_51 Y) ?_
  refine rd_newi (w0 := w0) (N := 16) [_] _ hD (lkX3_init_53 Y) (by decide) (Nat.le_of_ble_eq_true rfl) (Nat.le_of_ble_eq_true rfl) (fun q6 w hD => ?_)
  refine rd_put (w0 := w0) [] _ hD (lkX3_init_55 Y) (Nat.le_of_ble_eq_true rfl) (xw_fit_a _ (some _)) rfl (fun w hD => ?_)
  refine rn_vret (lkX3_init_58 Y) ?_
  exact ⟨h (xa_0 a q1 q2 q3 q4 q5 q6 Y.1.1.1) _ rfl (sl_pic0 hD), Nat.le_of_ble_eq_true rfl, Nat.le_of_ble_eq_true rfl⟩

theorem rp_ist4 {tb : List (Nat × xw_T)} {Rt : xw_R} {pc nx : Nat} {lv : xw_L} {r : List Value} {k n : Nat} {j : Nat} {x v : Int32} (hR : xq_rp Y ad s w) (h : xw_lk tb pc = some (tr_iast nx Y.2.1)) (hx : x = nI j) (hj : j < 4) (hk : ∀ w', xq_rp Y ad (xu_i s 400 j v) w' → xw_Run tb Rt nx lv r w' k n) : xw_Run tb Rt pc lv (.int v :: .int x :: .ref (ad 4 0) :: r) w k n := by
  subst hx
  refine rn_iast h (hR.1 4 0 (xq_v0 (by decide))).1 (hR.1 4 0 (xq_v0 (by decide))).2 (vp_in_nI hj (by omega)) ?_
  rw [nI_clamp (by omega)]
  refine hk _ (xq_rp_i (c := 400) (e := j) hR (xq_v0 (by decide)) rfl (Or.inr (by decide)) (fun q => absurd q (by decide)) ?_)
  refine congrArg Sum.inl (congrArg (Prod.mk _) (congrArg (Prod.mk _) (congrArg Sum.inl ?_)))
  funext i
  rw [xq_i_i]
  by_cases hi : i = j
  · subst hi
    simp [upd]
  · simp [upd, hi]
theorem rp_ild4 {tb : List (Nat × xw_T)} {Rt : xw_R} {pc nx : Nat} {lv : xw_L} {r : List Value} {k n : Nat} {j : Nat} {x : Int32} (hR : xq_rp Y ad s w) (h : xw_lk tb pc = some (tr_iald nx Y.2.1)) (hx : x = nI j) (hj : j < 4) (hk : xw_Run tb Rt nx lv (.int (xq_i s 400 j) :: r) w k n) : xw_Run tb Rt pc lv (.int x :: .ref (ad 4 0) :: r) w k n := by
  subst hx
  refine rn_iald h (hR.1 4 0 (xq_v0 (by decide))).1 (hR.1 4 0 (xq_v0 (by decide))).2 (vp_in_nI hj (by omega)) ?_
  rw [nI_clamp (by omega)]
  exact hk

theorem rp_ist6 {tb : List (Nat × xw_T)} {Rt : xw_R} {pc nx : Nat} {lv : xw_L} {r : List Value} {k n : Nat} {j : Nat} {x v : Int32} (hR : xq_rp Y ad s w) (h : xw_lk tb pc = some (tr_iast nx Y.2.1)) (hx : x = nI j) (hj : j < 16) (hk : ∀ w', xq_rp Y ad (xu_i s 600 j v) w' → xw_Run tb Rt nx lv r w' k n) : xw_Run tb Rt pc lv (.int v :: .int x :: .ref (ad 6 0) :: r) w k n := by
  subst hx
  refine rn_iast h (hR.1 6 0 (xq_v0 (by decide))).1 (hR.1 6 0 (xq_v0 (by decide))).2 (vp_in_nI hj (by omega)) ?_
  rw [nI_clamp (by omega)]
  refine hk _ (xq_rp_i (c := 600) (e := j) hR (xq_v0 (by decide)) rfl (Or.inr (by decide)) (fun q => absurd q (by decide)) ?_)
  refine congrArg Sum.inl (congrArg (Prod.mk _) (congrArg (Prod.mk _) (congrArg Sum.inl ?_)))
  funext i
  rw [xq_i_i]
  by_cases hi : i = j
  · subst hi
    simp [upd]
  · simp [upd, hi]
theorem rp_ild6 {tb : List (Nat × xw_T)} {Rt : xw_R} {pc nx : Nat} {lv : xw_L} {r : List Value} {k n : Nat} {j : Nat} {x : Int32} (hR : xq_rp Y ad s w) (h : xw_lk tb pc = some (tr_iald nx Y.2.1)) (hx : x = nI j) (hj : j < 16) (hk : xw_Run tb Rt nx lv (.int (xq_i s 600 j) :: r) w k n) : xw_Run tb Rt pc lv (.int x :: .ref (ad 6 0) :: r) w k n := by
  subst hx
  refine rn_iald h (hR.1 6 0 (xq_v0 (by decide))).1 (hR.1 6 0 (xq_v0 (by decide))).2 (vp_in_nI hj (by omega)) ?_
  rw [nI_clamp (by omega)]
  exact hk

set_option maxRecDepth 100000 in
set_option maxHeartbeats 4000000 in
theorem lp_hasClub {p x : Int32} (hR : xq_rp Y ad s w)  {Rt : xw_R} (h0 : Rt (some (.int 0)) w 0 0) (h1 : Rt (some (.int 1)) w 0 0) : ∀ (j i : Nat), i + j = s.1 → ∀ lv : xw_L, xw_lk lv 0 = some (.ref (ad 0 0)) → xw_lk lv 1 = some (.int p) → xw_lk lv 2 = some (.int x) → xw_lk lv 3 = some (.int (nI i)) → xw_Run (tbX3_hasClub Y) Rt 2 lv [] w 0 0 := by
  have hv0 : xq_vl ad s 0 0 := xq_v0 (by decide)
  intro j
  induction j with
  | zero =>
    intro i hi lv hl0 hl1 hl2 hl3
    refine rn_ild (lkX3_hasClub_2 Y) (by repeat (first | assumption | exact xw_lk_e _ _ _ | exact xw_lk_e2 _ _ _ | refine xw_lk_s (by decide) (by first | exact Or.inl rfl | exact Or.inl (xw_cat_rf _) | exact Or.inr (by decide)) ?_ | refine xw_lk_s2 (by decide) (by decide) (by first | exact Or.inl rfl | exact Or.inl (xw_cat_rf _) | exact Or.inr (by decide)) ?_)) ?_
    first | refine rn_ald (lkX3_hasClub_3 Y) (by repeat (first | assumption | exact xw_lk_e _ _ _ | exact xw_lk_e2 _ _ _ | refine xw_lk_s (by decide) (by first | exact Or.inl rfl | exact Or.inl (xw_cat_rf _) | exact Or.inr (by decide)) ?_ | refine xw_lk_s2 (by decide) (by decide) (by first | exact Or.inl rfl | exact Or.inl (xw_cat_rf _) | exact Or.inr (by decide)) ?_)) ?_ | refine rn_aldO (lkX3_hasClub_3 Y) (by repeat (first | assumption | exact xw_lk_e _ _ _ | exact xw_lk_e2 _ _ _ | refine xw_lk_s (by decide) (by first | exact Or.inl rfl | exact Or.inl (xw_cat_rf _) | exact Or.inr (by decide)) ?_ | refine xw_lk_s2 (by decide) (by decide) (by first | exact Or.inl rfl | exact Or.inl (xw_cat_rf _) | exact Or.inr (by decide)) ?_)) ?_ | refine rn_aldN (lkX3_hasClub_3 Y) (by repeat (first | assumption | exact xw_lk_e _ _ _ | exact xw_lk_e2 _ _ _ | refine xw_lk_s (by decide) (by first | exact Or.inl rfl | exact Or.inl (xw_cat_rf _) | exact Or.inr (by decide)) ?_ | refine xw_lk_s2 (by decide) (by decide) (by first | exact Or.inl rfl | exact Or.inl (xw_cat_rf _) | exact Or.inr (by decide)) ?_)) ?_
    refine rp_getf hR (lkX3_hasClub_4 Y) (by first | assumption | exact xq_v0 (by decide)) rfl rfl ?_
    refine rp_callV hR (lkX3_hasClub_7 Y) rfl (by first | assumption | exact xq_v0 (by decide)) rfl (Nat.le_of_ble_eq_true rfl) (Nat.le_of_ble_eq_true rfl) (Nat.le_of_ble_eq_true rfl) ?_
    refine sl_sizeF hR ?_
    refine rn_ifc (lkX3_hasClub_10 Y) (fun _ => ?_) (fun q => absurd (show nI s.1 ≤ nI i by rw [show i = s.1 by omega]; exact Int32.le_refl _) q)
    refine rn_push (lkX3_hasClub_52 Y) ?_
    refine rn_zret (lkX3_hasClub_53 Y) (by first | exact Or.inl rfl | exact Or.inr rfl | assumption) ?_
    exact h0
  | succ j ih =>
    intro i hi lv hl0 hl1 hl2 hl3
    have hki : i < s.1 := by omega
    refine rn_ild (lkX3_hasClub_2 Y) (by repeat (first | assumption | exact xw_lk_e _ _ _ | exact xw_lk_e2 _ _ _ | refine xw_lk_s (by decide) (by first | exact Or.inl rfl | exact Or.inl (xw_cat_rf _) | exact Or.inr (by decide)) ?_ | refine xw_lk_s2 (by decide) (by decide) (by first | exact Or.inl rfl | exact Or.inl (xw_cat_rf _) | exact Or.inr (by decide)) ?_)) ?_
    first | refine rn_ald (lkX3_hasClub_3 Y) (by repeat (first | assumption | exact xw_lk_e _ _ _ | exact xw_lk_e2 _ _ _ | refine xw_lk_s (by decide) (by first | exact Or.inl rfl | exact Or.inl (xw_cat_rf _) | exact Or.inr (by decide)) ?_ | refine xw_lk_s2 (by decide) (by decide) (by first | exact Or.inl rfl | exact Or.inl (xw_cat_rf _) | exact Or.inr (by decide)) ?_)) ?_ | refine rn_aldO (lkX3_hasClub_3 Y) (by repeat (first | assumption | exact xw_lk_e _ _ _ | exact xw_lk_e2 _ _ _ | refine xw_lk_s (by decide) (by first | exact Or.inl rfl | exact Or.inl (xw_cat_rf _) | exact Or.inr (by decide)) ?_ | refine xw_lk_s2 (by decide) (by decide) (by first | exact Or.inl rfl | exact Or.inl (xw_cat_rf _) | exact Or.inr (by decide)) ?_)) ?_ | refine rn_aldN (lkX3_hasClub_3 Y) (by repeat (first | assumption | exact xw_lk_e _ _ _ | exact xw_lk_e2 _ _ _ | refine xw_lk_s (by decide) (by first | exact Or.inl rfl | exact Or.inl (xw_cat_rf _) | exact Or.inr (by decide)) ?_ | refine xw_lk_s2 (by decide) (by decide) (by first | exact Or.inl rfl | exact Or.inl (xw_cat_rf _) | exact Or.inr (by decide)) ?_)) ?_
    refine rp_getf hR (lkX3_hasClub_4 Y) (by first | assumption | exact xq_v0 (by decide)) rfl rfl ?_
    refine rp_callV hR (lkX3_hasClub_7 Y) rfl (by first | assumption | exact xq_v0 (by decide)) rfl (Nat.le_of_ble_eq_true rfl) (Nat.le_of_ble_eq_true rfl) (Nat.le_of_ble_eq_true rfl) ?_
    refine sl_sizeF hR ?_
    refine rn_ifc (lkX3_hasClub_10 Y) (fun q => absurd q (nI_ge hki (by have := xq_nf hR; omega))) (fun _ => ?_)
    first | refine rn_ald (lkX3_hasClub_13 Y) (by repeat (first | assumption | exact xw_lk_e _ _ _ | exact xw_lk_e2 _ _ _ | refine xw_lk_s (by decide) (by first | exact Or.inl rfl | exact Or.inl (xw_cat_rf _) | exact Or.inr (by decide)) ?_ | refine xw_lk_s2 (by decide) (by decide) (by first | exact Or.inl rfl | exact Or.inl (xw_cat_rf _) | exact Or.inr (by decide)) ?_)) ?_ | refine rn_aldO (lkX3_hasClub_13 Y) (by repeat (first | assumption | exact xw_lk_e _ _ _ | exact xw_lk_e2 _ _ _ | refine xw_lk_s (by decide) (by first | exact Or.inl rfl | exact Or.inl (xw_cat_rf _) | exact Or.inr (by decide)) ?_ | refine xw_lk_s2 (by decide) (by decide) (by first | exact Or.inl rfl | exact Or.inl (xw_cat_rf _) | exact Or.inr (by decide)) ?_)) ?_ | refine rn_aldN (lkX3_hasClub_13 Y) (by repeat (first | assumption | exact xw_lk_e _ _ _ | exact xw_lk_e2 _ _ _ | refine xw_lk_s (by decide) (by first | exact Or.inl rfl | exact Or.inl (xw_cat_rf _) | exact Or.inr (by decide)) ?_ | refine xw_lk_s2 (by decide) (by decide) (by first | exact Or.inl rfl | exact Or.inl (xw_cat_rf _) | exact Or.inr (by decide)) ?_)) ?_
    refine rp_getf hR (lkX3_hasClub_14 Y) (by first | assumption | exact xq_v0 (by decide)) rfl rfl ?_
    refine rn_ild (lkX3_hasClub_17 Y) (by repeat (first | assumption | exact xw_lk_e _ _ _ | exact xw_lk_e2 _ _ _ | refine xw_lk_s (by decide) (by first | exact Or.inl rfl | exact Or.inl (xw_cat_rf _) | exact Or.inr (by decide)) ?_ | refine xw_lk_s2 (by decide) (by decide) (by first | exact Or.inl rfl | exact Or.inl (xw_cat_rf _) | exact Or.inr (by decide)) ?_)) ?_
    refine rp_callV hR (lkX3_hasClub_18 Y) rfl (by first | assumption | exact xq_v0 (by decide)) rfl (Nat.le_of_ble_eq_true rfl) (Nat.le_of_ble_eq_true rfl) (Nat.le_of_ble_eq_true rfl) ?_
    refine sl_getF hR hki rfl ?_
    have hv9 : xq_vl ad s 9 i := xq_v9 hki
    refine rp_cast hR (lkX3_hasClub_21 Y) (by first | assumption | exact xq_v0 (by decide)) rfl ?_
    first | refine rn_ast (lkX3_hasClub_24 Y) rfl ?_ | refine rn_astO (lkX3_hasClub_24 Y) rfl ?_ | refine rn_astN (lkX3_hasClub_24 Y) rfl ?_
    first | refine rn_ald (lkX3_hasClub_26 Y) (by repeat (first | assumption | exact xw_lk_e _ _ _ | exact xw_lk_e2 _ _ _ | refine xw_lk_s (by decide) (by first | exact Or.inl rfl | exact Or.inl (xw_cat_rf _) | exact Or.inr (by decide)) ?_ | refine xw_lk_s2 (by decide) (by decide) (by first | exact Or.inl rfl | exact Or.inl (xw_cat_rf _) | exact Or.inr (by decide)) ?_)) ?_ | refine rn_aldO (lkX3_hasClub_26 Y) (by repeat (first | assumption | exact xw_lk_e _ _ _ | exact xw_lk_e2 _ _ _ | refine xw_lk_s (by decide) (by first | exact Or.inl rfl | exact Or.inl (xw_cat_rf _) | exact Or.inr (by decide)) ?_ | refine xw_lk_s2 (by decide) (by decide) (by first | exact Or.inl rfl | exact Or.inl (xw_cat_rf _) | exact Or.inr (by decide)) ?_)) ?_ | refine rn_aldN (lkX3_hasClub_26 Y) (by repeat (first | assumption | exact xw_lk_e _ _ _ | exact xw_lk_e2 _ _ _ | refine xw_lk_s (by decide) (by first | exact Or.inl rfl | exact Or.inl (xw_cat_rf _) | exact Or.inr (by decide)) ?_ | refine xw_lk_s2 (by decide) (by decide) (by first | exact Or.inl rfl | exact Or.inl (xw_cat_rf _) | exact Or.inr (by decide)) ?_)) ?_
    refine rp_getf hR (lkX3_hasClub_28 Y) (by first | assumption | exact xq_v0 (by decide)) rfl rfl ?_
    refine rn_ild (lkX3_hasClub_31 Y) (by repeat (first | assumption | exact xw_lk_e _ _ _ | exact xw_lk_e2 _ _ _ | refine xw_lk_s (by decide) (by first | exact Or.inl rfl | exact Or.inl (xw_cat_rf _) | exact Or.inr (by decide)) ?_ | refine xw_lk_s2 (by decide) (by decide) (by first | exact Or.inl rfl | exact Or.inl (xw_cat_rf _) | exact Or.inr (by decide)) ?_)) ?_
    refine rn_ifc (lkX3_hasClub_32 Y) (fun c_32 => ?_) (fun c_32 => ?_)
    · try dsimp only at c_32
      refine rn_inc (lkX3_hasClub_46 Y) (by repeat (first | assumption | exact xw_lk_e _ _ _ | exact xw_lk_e2 _ _ _ | refine xw_lk_s (by decide) (by first | exact Or.inl rfl | exact Or.inl (xw_cat_rf _) | exact Or.inr (by decide)) ?_ | refine xw_lk_s2 (by decide) (by decide) (by first | exact Or.inl rfl | exact Or.inl (xw_cat_rf _) | exact Or.inr (by decide)) ?_)) rfl ?_
      refine rn_goto (lkX3_hasClub_49 Y) ?_
      exact ih (i + 1) (by omega) _ (by repeat (first | assumption | exact xw_lk_e _ _ _ | exact xw_lk_e2 _ _ _ | refine xw_lk_s (by decide) (by first | exact Or.inl rfl | exact Or.inl (xw_cat_rf _) | exact Or.inr (by decide)) ?_ | refine xw_lk_s2 (by decide) (by decide) (by first | exact Or.inl rfl | exact Or.inl (xw_cat_rf _) | exact Or.inr (by decide)) ?_)) (by repeat (first | assumption | exact xw_lk_e _ _ _ | exact xw_lk_e2 _ _ _ | refine xw_lk_s (by decide) (by first | exact Or.inl rfl | exact Or.inl (xw_cat_rf _) | exact Or.inr (by decide)) ?_ | refine xw_lk_s2 (by decide) (by decide) (by first | exact Or.inl rfl | exact Or.inl (xw_cat_rf _) | exact Or.inr (by decide)) ?_)) (by repeat (first | assumption | exact xw_lk_e _ _ _ | exact xw_lk_e2 _ _ _ | refine xw_lk_s (by decide) (by first | exact Or.inl rfl | exact Or.inl (xw_cat_rf _) | exact Or.inr (by decide)) ?_ | refine xw_lk_s2 (by decide) (by decide) (by first | exact Or.inl rfl | exact Or.inl (xw_cat_rf _) | exact Or.inr (by decide)) ?_)) (by rw [← nI_1]; repeat (first | assumption | exact xw_lk_e _ _ _ | exact xw_lk_e2 _ _ _ | refine xw_lk_s (by decide) (by first | exact Or.inl rfl | exact Or.inl (xw_cat_rf _) | exact Or.inr (by decide)) ?_ | refine xw_lk_s2 (by decide) (by decide) (by first | exact Or.inl rfl | exact Or.inl (xw_cat_rf _) | exact Or.inr (by decide)) ?_))
    · try dsimp only at c_32
      first | refine rn_ald (lkX3_hasClub_35 Y) (by repeat (first | assumption | exact xw_lk_e _ _ _ | exact xw_lk_e2 _ _ _ | refine xw_lk_s (by decide) (by first | exact Or.inl rfl | exact Or.inl (xw_cat_rf _) | exact Or.inr (by decide)) ?_ | refine xw_lk_s2 (by decide) (by decide) (by first | exact Or.inl rfl | exact Or.inl (xw_cat_rf _) | exact Or.inr (by decide)) ?_)) ?_ | refine rn_aldO (lkX3_hasClub_35 Y) (by repeat (first | assumption | exact xw_lk_e _ _ _ | exact xw_lk_e2 _ _ _ | refine xw_lk_s (by decide) (by first | exact Or.inl rfl | exact Or.inl (xw_cat_rf _) | exact Or.inr (by decide)) ?_ | refine xw_lk_s2 (by decide) (by decide) (by first | exact Or.inl rfl | exact Or.inl (xw_cat_rf _) | exact Or.inr (by decide)) ?_)) ?_ | refine rn_aldN (lkX3_hasClub_35 Y) (by repeat (first | assumption | exact xw_lk_e _ _ _ | exact xw_lk_e2 _ _ _ | refine xw_lk_s (by decide) (by first | exact Or.inl rfl | exact Or.inl (xw_cat_rf _) | exact Or.inr (by decide)) ?_ | refine xw_lk_s2 (by decide) (by decide) (by first | exact Or.inl rfl | exact Or.inl (xw_cat_rf _) | exact Or.inr (by decide)) ?_)) ?_
      refine rp_getf hR (lkX3_hasClub_37 Y) (by first | assumption | exact xq_v0 (by decide)) rfl rfl ?_
      refine rn_ild (lkX3_hasClub_40 Y) (by repeat (first | assumption | exact xw_lk_e _ _ _ | exact xw_lk_e2 _ _ _ | refine xw_lk_s (by decide) (by first | exact Or.inl rfl | exact Or.inl (xw_cat_rf _) | exact Or.inr (by decide)) ?_ | refine xw_lk_s2 (by decide) (by decide) (by first | exact Or.inl rfl | exact Or.inl (xw_cat_rf _) | exact Or.inr (by decide)) ?_)) ?_
      refine rn_ifc (lkX3_hasClub_41 Y) (fun c_41 => ?_) (fun c_41 => ?_)
      · try dsimp only at c_41
        refine rn_inc (lkX3_hasClub_46 Y) (by repeat (first | assumption | exact xw_lk_e _ _ _ | exact xw_lk_e2 _ _ _ | refine xw_lk_s (by decide) (by first | exact Or.inl rfl | exact Or.inl (xw_cat_rf _) | exact Or.inr (by decide)) ?_ | refine xw_lk_s2 (by decide) (by decide) (by first | exact Or.inl rfl | exact Or.inl (xw_cat_rf _) | exact Or.inr (by decide)) ?_)) rfl ?_
        refine rn_goto (lkX3_hasClub_49 Y) ?_
        exact ih (i + 1) (by omega) _ (by repeat (first | assumption | exact xw_lk_e _ _ _ | exact xw_lk_e2 _ _ _ | refine xw_lk_s (by decide) (by first | exact Or.inl rfl | exact Or.inl (xw_cat_rf _) | exact Or.inr (by decide)) ?_ | refine xw_lk_s2 (by decide) (by decide) (by first | exact Or.inl rfl | exact Or.inl (xw_cat_rf _) | exact Or.inr (by decide)) ?_)) (by repeat (first | assumption | exact xw_lk_e _ _ _ | exact xw_lk_e2 _ _ _ | refine xw_lk_s (by decide) (by first | exact Or.inl rfl | exact Or.inl (xw_cat_rf _) | exact Or.inr (by decide)) ?_ | refine xw_lk_s2 (by decide) (by decide) (by first | exact Or.inl rfl | exact Or.inl (xw_cat_rf _) | exact Or.inr (by decide)) ?_)) (by repeat (first | assumption | exact xw_lk_e _ _ _ | exact xw_lk_e2 _ _ _ | refine xw_lk_s (by decide) (by first | exact Or.inl rfl | exact Or.inl (xw_cat_rf _) | exact Or.inr (by decide)) ?_ | refine xw_lk_s2 (by decide) (by decide) (by first | exact Or.inl rfl | exact Or.inl (xw_cat_rf _) | exact Or.inr (by decide)) ?_)) (by rw [← nI_1]; repeat (first | assumption | exact xw_lk_e _ _ _ | exact xw_lk_e2 _ _ _ | refine xw_lk_s (by decide) (by first | exact Or.inl rfl | exact Or.inl (xw_cat_rf _) | exact Or.inr (by decide)) ?_ | refine xw_lk_s2 (by decide) (by decide) (by first | exact Or.inl rfl | exact Or.inl (xw_cat_rf _) | exact Or.inr (by decide)) ?_))
      · try dsimp only at c_41
        refine rn_push (lkX3_hasClub_44 Y) ?_
        refine rn_zret (lkX3_hasClub_45 Y) (by first | exact Or.inl rfl | exact Or.inr rfl | assumption) ?_
        exact h1

set_option maxRecDepth 100000 in
set_option maxHeartbeats 4000000 in
theorem sc_hasClub {p x : Int32} (hR : xq_rp Y ad s w) (h0 : post (some (.int 0)) w) (h1 : post (some (.int 1)) w) : ptX3_hasClub Y [.ref (ad 0 0), .int p, .int x] w post := by
  refine ⟨(by first | exact Nat.le_of_ble_eq_true rfl | simp [lg_sl, xw_cat_rf, xw_cat_i, xw_cat_r, xw_cat_n, xw_cat_l]), ?_⟩
  refine rn_push (lkX3_hasClub_0 Y) ?_
  refine rn_ist (lkX3_hasClub_1 Y) rfl ?_
  exact lp_hasClub hR ⟨h0, Nat.le_refl _, Nat.le_refl _⟩ ⟨h1, Nat.le_refl _, Nat.le_refl _⟩ s.1 0 (Nat.zero_add _) _ rfl rfl rfl rfl

set_option maxRecDepth 100000 in
set_option maxHeartbeats 4000000 in
theorem lp_onSpot {p x : Int32} (hR : xq_rp Y ad s w)  {Rt : xw_R} (h0 : Rt (some .null) w 0 0) (h1 : ∀ k, k < s.1 → xq_i s 904 k = x → Rt (some (.ref (ad 9 k))) w 0 0) : ∀ (j i : Nat), i + j = s.1 → ∀ lv : xw_L, xw_lk lv 0 = some (.ref (ad 0 0)) → xw_lk lv 1 = some (.int p) → xw_lk lv 2 = some (.int x) → xw_lk lv 3 = some (.int (nI i)) → xw_Run (tbX3_fencerOnSpot Y) Rt 2 lv [] w 0 0 := by
  have hv0 : xq_vl ad s 0 0 := xq_v0 (by decide)
  intro j
  induction j with
  | zero =>
    intro i hi lv hl0 hl1 hl2 hl3
    refine rn_ild (lkX3_fencerOnSpot_2 Y) (by repeat (first | assumption | exact xw_lk_e _ _ _ | exact xw_lk_e2 _ _ _ | refine xw_lk_s (by decide) (by first | exact Or.inl rfl | exact Or.inl (xw_cat_rf _) | exact Or.inr (by decide)) ?_ | refine xw_lk_s2 (by decide) (by decide) (by first | exact Or.inl rfl | exact Or.inl (xw_cat_rf _) | exact Or.inr (by decide)) ?_)) ?_
    first | refine rn_ald (lkX3_fencerOnSpot_3 Y) (by repeat (first | assumption | exact xw_lk_e _ _ _ | exact xw_lk_e2 _ _ _ | refine xw_lk_s (by decide) (by first | exact Or.inl rfl | exact Or.inl (xw_cat_rf _) | exact Or.inr (by decide)) ?_ | refine xw_lk_s2 (by decide) (by decide) (by first | exact Or.inl rfl | exact Or.inl (xw_cat_rf _) | exact Or.inr (by decide)) ?_)) ?_ | refine rn_aldO (lkX3_fencerOnSpot_3 Y) (by repeat (first | assumption | exact xw_lk_e _ _ _ | exact xw_lk_e2 _ _ _ | refine xw_lk_s (by decide) (by first | exact Or.inl rfl | exact Or.inl (xw_cat_rf _) | exact Or.inr (by decide)) ?_ | refine xw_lk_s2 (by decide) (by decide) (by first | exact Or.inl rfl | exact Or.inl (xw_cat_rf _) | exact Or.inr (by decide)) ?_)) ?_ | refine rn_aldN (lkX3_fencerOnSpot_3 Y) (by repeat (first | assumption | exact xw_lk_e _ _ _ | exact xw_lk_e2 _ _ _ | refine xw_lk_s (by decide) (by first | exact Or.inl rfl | exact Or.inl (xw_cat_rf _) | exact Or.inr (by decide)) ?_ | refine xw_lk_s2 (by decide) (by decide) (by first | exact Or.inl rfl | exact Or.inl (xw_cat_rf _) | exact Or.inr (by decide)) ?_)) ?_
    refine rp_getf hR (lkX3_fencerOnSpot_4 Y) (by first | assumption | exact xq_v0 (by decide)) rfl rfl ?_
    refine rp_callV hR (lkX3_fencerOnSpot_7 Y) rfl (by first | assumption | exact xq_v0 (by decide)) rfl (Nat.le_of_ble_eq_true rfl) (Nat.le_of_ble_eq_true rfl) (Nat.le_of_ble_eq_true rfl) ?_
    refine sl_sizeF hR ?_
    refine rn_ifc (lkX3_fencerOnSpot_10 Y) (fun _ => ?_) (fun q => absurd (show nI s.1 ≤ nI i by rw [show i = s.1 by omega]; exact Int32.le_refl _) q)
    refine rn_push (lkX3_fencerOnSpot_53 Y) ?_
    refine rn_aret (lkX3_fencerOnSpot_54 Y) (by first | exact xw_isR_ref _ | exact xw_isR_null | exact xw_isR_rf _) ?_
    exact h0
  | succ j ih =>
    intro i hi lv hl0 hl1 hl2 hl3
    have hki : i < s.1 := by omega
    refine rn_ild (lkX3_fencerOnSpot_2 Y) (by repeat (first | assumption | exact xw_lk_e _ _ _ | exact xw_lk_e2 _ _ _ | refine xw_lk_s (by decide) (by first | exact Or.inl rfl | exact Or.inl (xw_cat_rf _) | exact Or.inr (by decide)) ?_ | refine xw_lk_s2 (by decide) (by decide) (by first | exact Or.inl rfl | exact Or.inl (xw_cat_rf _) | exact Or.inr (by decide)) ?_)) ?_
    first | refine rn_ald (lkX3_fencerOnSpot_3 Y) (by repeat (first | assumption | exact xw_lk_e _ _ _ | exact xw_lk_e2 _ _ _ | refine xw_lk_s (by decide) (by first | exact Or.inl rfl | exact Or.inl (xw_cat_rf _) | exact Or.inr (by decide)) ?_ | refine xw_lk_s2 (by decide) (by decide) (by first | exact Or.inl rfl | exact Or.inl (xw_cat_rf _) | exact Or.inr (by decide)) ?_)) ?_ | refine rn_aldO (lkX3_fencerOnSpot_3 Y) (by repeat (first | assumption | exact xw_lk_e _ _ _ | exact xw_lk_e2 _ _ _ | refine xw_lk_s (by decide) (by first | exact Or.inl rfl | exact Or.inl (xw_cat_rf _) | exact Or.inr (by decide)) ?_ | refine xw_lk_s2 (by decide) (by decide) (by first | exact Or.inl rfl | exact Or.inl (xw_cat_rf _) | exact Or.inr (by decide)) ?_)) ?_ | refine rn_aldN (lkX3_fencerOnSpot_3 Y) (by repeat (first | assumption | exact xw_lk_e _ _ _ | exact xw_lk_e2 _ _ _ | refine xw_lk_s (by decide) (by first | exact Or.inl rfl | exact Or.inl (xw_cat_rf _) | exact Or.inr (by decide)) ?_ | refine xw_lk_s2 (by decide) (by decide) (by first | exact Or.inl rfl | exact Or.inl (xw_cat_rf _) | exact Or.inr (by decide)) ?_)) ?_
    refine rp_getf hR (lkX3_fencerOnSpot_4 Y) (by first | assumption | exact xq_v0 (by decide)) rfl rfl ?_
    refine rp_callV hR (lkX3_fencerOnSpot_7 Y) rfl (by first | assumption | exact xq_v0 (by decide)) rfl (Nat.le_of_ble_eq_true rfl) (Nat.le_of_ble_eq_true rfl) (Nat.le_of_ble_eq_true rfl) ?_
    refine sl_sizeF hR ?_
    refine rn_ifc (lkX3_fencerOnSpot_10 Y) (fun q => absurd q (nI_ge hki (by have := xq_nf hR; omega))) (fun _ => ?_)
    first | refine rn_ald (lkX3_fencerOnSpot_13 Y) (by repeat (first | assumption | exact xw_lk_e _ _ _ | exact xw_lk_e2 _ _ _ | refine xw_lk_s (by decide) (by first | exact Or.inl rfl | exact Or.inl (xw_cat_rf _) | exact Or.inr (by decide)) ?_ | refine xw_lk_s2 (by decide) (by decide) (by first | exact Or.inl rfl | exact Or.inl (xw_cat_rf _) | exact Or.inr (by decide)) ?_)) ?_ | refine rn_aldO (lkX3_fencerOnSpot_13 Y) (by repeat (first | assumption | exact xw_lk_e _ _ _ | exact xw_lk_e2 _ _ _ | refine xw_lk_s (by decide) (by first | exact Or.inl rfl | exact Or.inl (xw_cat_rf _) | exact Or.inr (by decide)) ?_ | refine xw_lk_s2 (by decide) (by decide) (by first | exact Or.inl rfl | exact Or.inl (xw_cat_rf _) | exact Or.inr (by decide)) ?_)) ?_ | refine rn_aldN (lkX3_fencerOnSpot_13 Y) (by repeat (first | assumption | exact xw_lk_e _ _ _ | exact xw_lk_e2 _ _ _ | refine xw_lk_s (by decide) (by first | exact Or.inl rfl | exact Or.inl (xw_cat_rf _) | exact Or.inr (by decide)) ?_ | refine xw_lk_s2 (by decide) (by decide) (by first | exact Or.inl rfl | exact Or.inl (xw_cat_rf _) | exact Or.inr (by decide)) ?_)) ?_
    refine rp_getf hR (lkX3_fencerOnSpot_14 Y) (by first | assumption | exact xq_v0 (by decide)) rfl rfl ?_
    refine rn_ild (lkX3_fencerOnSpot_17 Y) (by repeat (first | assumption | exact xw_lk_e _ _ _ | exact xw_lk_e2 _ _ _ | refine xw_lk_s (by decide) (by first | exact Or.inl rfl | exact Or.inl (xw_cat_rf _) | exact Or.inr (by decide)) ?_ | refine xw_lk_s2 (by decide) (by decide) (by first | exact Or.inl rfl | exact Or.inl (xw_cat_rf _) | exact Or.inr (by decide)) ?_)) ?_
    refine rp_callV hR (lkX3_fencerOnSpot_18 Y) rfl (by first | assumption | exact xq_v0 (by decide)) rfl (Nat.le_of_ble_eq_true rfl) (Nat.le_of_ble_eq_true rfl) (Nat.le_of_ble_eq_true rfl) ?_
    refine sl_getF hR hki rfl ?_
    have hv9 : xq_vl ad s 9 i := xq_v9 hki
    refine rp_cast hR (lkX3_fencerOnSpot_21 Y) (by first | assumption | exact xq_v0 (by decide)) rfl ?_
    first | refine rn_ast (lkX3_fencerOnSpot_24 Y) rfl ?_ | refine rn_astO (lkX3_fencerOnSpot_24 Y) rfl ?_ | refine rn_astN (lkX3_fencerOnSpot_24 Y) rfl ?_
    first | refine rn_ald (lkX3_fencerOnSpot_26 Y) (by repeat (first | assumption | exact xw_lk_e _ _ _ | exact xw_lk_e2 _ _ _ | refine xw_lk_s (by decide) (by first | exact Or.inl rfl | exact Or.inl (xw_cat_rf _) | exact Or.inr (by decide)) ?_ | refine xw_lk_s2 (by decide) (by decide) (by first | exact Or.inl rfl | exact Or.inl (xw_cat_rf _) | exact Or.inr (by decide)) ?_)) ?_ | refine rn_aldO (lkX3_fencerOnSpot_26 Y) (by repeat (first | assumption | exact xw_lk_e _ _ _ | exact xw_lk_e2 _ _ _ | refine xw_lk_s (by decide) (by first | exact Or.inl rfl | exact Or.inl (xw_cat_rf _) | exact Or.inr (by decide)) ?_ | refine xw_lk_s2 (by decide) (by decide) (by first | exact Or.inl rfl | exact Or.inl (xw_cat_rf _) | exact Or.inr (by decide)) ?_)) ?_ | refine rn_aldN (lkX3_fencerOnSpot_26 Y) (by repeat (first | assumption | exact xw_lk_e _ _ _ | exact xw_lk_e2 _ _ _ | refine xw_lk_s (by decide) (by first | exact Or.inl rfl | exact Or.inl (xw_cat_rf _) | exact Or.inr (by decide)) ?_ | refine xw_lk_s2 (by decide) (by decide) (by first | exact Or.inl rfl | exact Or.inl (xw_cat_rf _) | exact Or.inr (by decide)) ?_)) ?_
    refine rp_getf hR (lkX3_fencerOnSpot_28 Y) (by first | assumption | exact xq_v0 (by decide)) rfl rfl ?_
    refine rn_ild (lkX3_fencerOnSpot_31 Y) (by repeat (first | assumption | exact xw_lk_e _ _ _ | exact xw_lk_e2 _ _ _ | refine xw_lk_s (by decide) (by first | exact Or.inl rfl | exact Or.inl (xw_cat_rf _) | exact Or.inr (by decide)) ?_ | refine xw_lk_s2 (by decide) (by decide) (by first | exact Or.inl rfl | exact Or.inl (xw_cat_rf _) | exact Or.inr (by decide)) ?_)) ?_
    refine rn_ifc (lkX3_fencerOnSpot_32 Y) (fun c_32 => ?_) (fun c_32 => ?_)
    · try dsimp only at c_32
      refine rn_inc (lkX3_fencerOnSpot_47 Y) (by repeat (first | assumption | exact xw_lk_e _ _ _ | exact xw_lk_e2 _ _ _ | refine xw_lk_s (by decide) (by first | exact Or.inl rfl | exact Or.inl (xw_cat_rf _) | exact Or.inr (by decide)) ?_ | refine xw_lk_s2 (by decide) (by decide) (by first | exact Or.inl rfl | exact Or.inl (xw_cat_rf _) | exact Or.inr (by decide)) ?_)) rfl ?_
      refine rn_goto (lkX3_fencerOnSpot_50 Y) ?_
      exact ih (i + 1) (by omega) _ (by repeat (first | assumption | exact xw_lk_e _ _ _ | exact xw_lk_e2 _ _ _ | refine xw_lk_s (by decide) (by first | exact Or.inl rfl | exact Or.inl (xw_cat_rf _) | exact Or.inr (by decide)) ?_ | refine xw_lk_s2 (by decide) (by decide) (by first | exact Or.inl rfl | exact Or.inl (xw_cat_rf _) | exact Or.inr (by decide)) ?_)) (by repeat (first | assumption | exact xw_lk_e _ _ _ | exact xw_lk_e2 _ _ _ | refine xw_lk_s (by decide) (by first | exact Or.inl rfl | exact Or.inl (xw_cat_rf _) | exact Or.inr (by decide)) ?_ | refine xw_lk_s2 (by decide) (by decide) (by first | exact Or.inl rfl | exact Or.inl (xw_cat_rf _) | exact Or.inr (by decide)) ?_)) (by repeat (first | assumption | exact xw_lk_e _ _ _ | exact xw_lk_e2 _ _ _ | refine xw_lk_s (by decide) (by first | exact Or.inl rfl | exact Or.inl (xw_cat_rf _) | exact Or.inr (by decide)) ?_ | refine xw_lk_s2 (by decide) (by decide) (by first | exact Or.inl rfl | exact Or.inl (xw_cat_rf _) | exact Or.inr (by decide)) ?_)) (by rw [← nI_1]; repeat (first | assumption | exact xw_lk_e _ _ _ | exact xw_lk_e2 _ _ _ | refine xw_lk_s (by decide) (by first | exact Or.inl rfl | exact Or.inl (xw_cat_rf _) | exact Or.inr (by decide)) ?_ | refine xw_lk_s2 (by decide) (by decide) (by first | exact Or.inl rfl | exact Or.inl (xw_cat_rf _) | exact Or.inr (by decide)) ?_))
    · try dsimp only at c_32
      first | refine rn_ald (lkX3_fencerOnSpot_35 Y) (by repeat (first | assumption | exact xw_lk_e _ _ _ | exact xw_lk_e2 _ _ _ | refine xw_lk_s (by decide) (by first | exact Or.inl rfl | exact Or.inl (xw_cat_rf _) | exact Or.inr (by decide)) ?_ | refine xw_lk_s2 (by decide) (by decide) (by first | exact Or.inl rfl | exact Or.inl (xw_cat_rf _) | exact Or.inr (by decide)) ?_)) ?_ | refine rn_aldO (lkX3_fencerOnSpot_35 Y) (by repeat (first | assumption | exact xw_lk_e _ _ _ | exact xw_lk_e2 _ _ _ | refine xw_lk_s (by decide) (by first | exact Or.inl rfl | exact Or.inl (xw_cat_rf _) | exact Or.inr (by decide)) ?_ | refine xw_lk_s2 (by decide) (by decide) (by first | exact Or.inl rfl | exact Or.inl (xw_cat_rf _) | exact Or.inr (by decide)) ?_)) ?_ | refine rn_aldN (lkX3_fencerOnSpot_35 Y) (by repeat (first | assumption | exact xw_lk_e _ _ _ | exact xw_lk_e2 _ _ _ | refine xw_lk_s (by decide) (by first | exact Or.inl rfl | exact Or.inl (xw_cat_rf _) | exact Or.inr (by decide)) ?_ | refine xw_lk_s2 (by decide) (by decide) (by first | exact Or.inl rfl | exact Or.inl (xw_cat_rf _) | exact Or.inr (by decide)) ?_)) ?_
      refine rp_getf hR (lkX3_fencerOnSpot_37 Y) (by first | assumption | exact xq_v0 (by decide)) rfl rfl ?_
      refine rn_ild (lkX3_fencerOnSpot_40 Y) (by repeat (first | assumption | exact xw_lk_e _ _ _ | exact xw_lk_e2 _ _ _ | refine xw_lk_s (by decide) (by first | exact Or.inl rfl | exact Or.inl (xw_cat_rf _) | exact Or.inr (by decide)) ?_ | refine xw_lk_s2 (by decide) (by decide) (by first | exact Or.inl rfl | exact Or.inl (xw_cat_rf _) | exact Or.inr (by decide)) ?_)) ?_
      refine rn_ifc (lkX3_fencerOnSpot_41 Y) (fun c_41 => ?_) (fun c_41 => ?_)
      · try dsimp only at c_41
        refine rn_inc (lkX3_fencerOnSpot_47 Y) (by repeat (first | assumption | exact xw_lk_e _ _ _ | exact xw_lk_e2 _ _ _ | refine xw_lk_s (by decide) (by first | exact Or.inl rfl | exact Or.inl (xw_cat_rf _) | exact Or.inr (by decide)) ?_ | refine xw_lk_s2 (by decide) (by decide) (by first | exact Or.inl rfl | exact Or.inl (xw_cat_rf _) | exact Or.inr (by decide)) ?_)) rfl ?_
        refine rn_goto (lkX3_fencerOnSpot_50 Y) ?_
        exact ih (i + 1) (by omega) _ (by repeat (first | assumption | exact xw_lk_e _ _ _ | exact xw_lk_e2 _ _ _ | refine xw_lk_s (by decide) (by first | exact Or.inl rfl | exact Or.inl (xw_cat_rf _) | exact Or.inr (by decide)) ?_ | refine xw_lk_s2 (by decide) (by decide) (by first | exact Or.inl rfl | exact Or.inl (xw_cat_rf _) | exact Or.inr (by decide)) ?_)) (by repeat (first | assumption | exact xw_lk_e _ _ _ | exact xw_lk_e2 _ _ _ | refine xw_lk_s (by decide) (by first | exact Or.inl rfl | exact Or.inl (xw_cat_rf _) | exact Or.inr (by decide)) ?_ | refine xw_lk_s2 (by decide) (by decide) (by first | exact Or.inl rfl | exact Or.inl (xw_cat_rf _) | exact Or.inr (by decide)) ?_)) (by repeat (first | assumption | exact xw_lk_e _ _ _ | exact xw_lk_e2 _ _ _ | refine xw_lk_s (by decide) (by first | exact Or.inl rfl | exact Or.inl (xw_cat_rf _) | exact Or.inr (by decide)) ?_ | refine xw_lk_s2 (by decide) (by decide) (by first | exact Or.inl rfl | exact Or.inl (xw_cat_rf _) | exact Or.inr (by decide)) ?_)) (by rw [← nI_1]; repeat (first | assumption | exact xw_lk_e _ _ _ | exact xw_lk_e2 _ _ _ | refine xw_lk_s (by decide) (by first | exact Or.inl rfl | exact Or.inl (xw_cat_rf _) | exact Or.inr (by decide)) ?_ | refine xw_lk_s2 (by decide) (by decide) (by first | exact Or.inl rfl | exact Or.inl (xw_cat_rf _) | exact Or.inr (by decide)) ?_))
      · try dsimp only at c_41
        first | refine rn_ald (lkX3_fencerOnSpot_44 Y) (by repeat (first | assumption | exact xw_lk_e _ _ _ | exact xw_lk_e2 _ _ _ | refine xw_lk_s (by decide) (by first | exact Or.inl rfl | exact Or.inl (xw_cat_rf _) | exact Or.inr (by decide)) ?_ | refine xw_lk_s2 (by decide) (by decide) (by first | exact Or.inl rfl | exact Or.inl (xw_cat_rf _) | exact Or.inr (by decide)) ?_)) ?_ | refine rn_aldO (lkX3_fencerOnSpot_44 Y) (by repeat (first | assumption | exact xw_lk_e _ _ _ | exact xw_lk_e2 _ _ _ | refine xw_lk_s (by decide) (by first | exact Or.inl rfl | exact Or.inl (xw_cat_rf _) | exact Or.inr (by decide)) ?_ | refine xw_lk_s2 (by decide) (by decide) (by first | exact Or.inl rfl | exact Or.inl (xw_cat_rf _) | exact Or.inr (by decide)) ?_)) ?_ | refine rn_aldN (lkX3_fencerOnSpot_44 Y) (by repeat (first | assumption | exact xw_lk_e _ _ _ | exact xw_lk_e2 _ _ _ | refine xw_lk_s (by decide) (by first | exact Or.inl rfl | exact Or.inl (xw_cat_rf _) | exact Or.inr (by decide)) ?_ | refine xw_lk_s2 (by decide) (by decide) (by first | exact Or.inl rfl | exact Or.inl (xw_cat_rf _) | exact Or.inr (by decide)) ?_)) ?_
        refine rn_aret (lkX3_fencerOnSpot_46 Y) (by first | exact xw_isR_ref _ | exact xw_isR_null | exact xw_isR_rf _) ?_
        exact h1 i hki (Classical.not_not.mp c_41)

set_option maxRecDepth 100000 in
set_option maxHeartbeats 4000000 in
theorem sc_onSpot {p x : Int32} (hR : xq_rp Y ad s w) (h0 : post (some .null) w) (h1 : ∀ k, k < s.1 → xq_i s 904 k = x → post (some (.ref (ad 9 k))) w) : ptX3_fencerOnSpot Y [.ref (ad 0 0), .int p, .int x] w post := by
  refine ⟨(by first | exact Nat.le_of_ble_eq_true rfl | simp [lg_sl, xw_cat_rf, xw_cat_i, xw_cat_r, xw_cat_n, xw_cat_l]), ?_⟩
  refine rn_push (lkX3_fencerOnSpot_0 Y) ?_
  refine rn_ist (lkX3_fencerOnSpot_1 Y) rfl ?_
  exact lp_onSpot hR ⟨h0, Nat.le_refl _, Nat.le_refl _⟩ (fun k hk e => ⟨h1 k hk e, Nat.le_refl _, Nat.le_refl _⟩) s.1 0 (Nat.zero_add _) _ rfl rfl rfl rfl

set_option maxRecDepth 100000 in
set_option maxHeartbeats 4000000 in
theorem lp_poolInRow {r x : Int32} {N : Nat} {Rt : xw_R} (hR : xq_rp Y ad s w) (hN : xq_i s 6 0 = nI N) (hN4 : N ≤ 4) (h : ∀ v, Rt (some (.int v)) w 0 0) : ∀ (j i : Nat), i + j = N → ∀ (f : Int32) (lv : xw_L), xw_lk lv 0 = some (.ref (ad 0 0)) → xw_lk lv 1 = some (.int r) → xw_lk lv 2 = some (.int x) → xw_lk lv 3 = some (.int f) → xw_lk lv 4 = some (.int (nI i)) → xw_Run (tbX3_poolInRow Y) Rt 5 lv [] w 0 0 := by
  have hv0 : xq_vl ad s 0 0 := xq_v0 (by decide)
  intro j
  induction j with
  | zero =>
    intro i hi f lv hl0 hl1 hl2 hl3 hl4
    refine rn_ild (lkX3_poolInRow_5 Y) (by repeat (first | assumption | exact xw_lk_e _ _ _ | exact xw_lk_e2 _ _ _ | refine xw_lk_s (by decide) (by first | exact Or.inl rfl | exact Or.inl (xw_cat_rf _) | exact Or.inr (by decide)) ?_ | refine xw_lk_s2 (by decide) (by decide) (by first | exact Or.inl rfl | exact Or.inl (xw_cat_rf _) | exact Or.inr (by decide)) ?_)) ?_
    first | refine rn_ald (lkX3_poolInRow_7 Y) (by repeat (first | assumption | exact xw_lk_e _ _ _ | exact xw_lk_e2 _ _ _ | refine xw_lk_s (by decide) (by first | exact Or.inl rfl | exact Or.inl (xw_cat_rf _) | exact Or.inr (by decide)) ?_ | refine xw_lk_s2 (by decide) (by decide) (by first | exact Or.inl rfl | exact Or.inl (xw_cat_rf _) | exact Or.inr (by decide)) ?_)) ?_ | refine rn_aldO (lkX3_poolInRow_7 Y) (by repeat (first | assumption | exact xw_lk_e _ _ _ | exact xw_lk_e2 _ _ _ | refine xw_lk_s (by decide) (by first | exact Or.inl rfl | exact Or.inl (xw_cat_rf _) | exact Or.inr (by decide)) ?_ | refine xw_lk_s2 (by decide) (by decide) (by first | exact Or.inl rfl | exact Or.inl (xw_cat_rf _) | exact Or.inr (by decide)) ?_)) ?_ | refine rn_aldN (lkX3_poolInRow_7 Y) (by repeat (first | assumption | exact xw_lk_e _ _ _ | exact xw_lk_e2 _ _ _ | refine xw_lk_s (by decide) (by first | exact Or.inl rfl | exact Or.inl (xw_cat_rf _) | exact Or.inr (by decide)) ?_ | refine xw_lk_s2 (by decide) (by decide) (by first | exact Or.inl rfl | exact Or.inl (xw_cat_rf _) | exact Or.inr (by decide)) ?_)) ?_
    refine rp_getf hR (lkX3_poolInRow_8 Y) (by first | assumption | exact xq_v0 (by decide)) rfl rfl ?_
    refine rn_ifc (lkX3_poolInRow_11 Y) (fun _ => ?_) (fun q => absurd (show xq_i s 6 0 ≤ nI i by rw [hN, show i = N by omega]; exact Int32.le_refl _) q)
    refine rn_ild (lkX3_poolInRow_77 Y) (by repeat (first | assumption | exact xw_lk_e _ _ _ | exact xw_lk_e2 _ _ _ | refine xw_lk_s (by decide) (by first | exact Or.inl rfl | exact Or.inl (xw_cat_rf _) | exact Or.inr (by decide)) ?_ | refine xw_lk_s2 (by decide) (by decide) (by first | exact Or.inl rfl | exact Or.inl (xw_cat_rf _) | exact Or.inr (by decide)) ?_)) ?_
    refine rn_iret (lkX3_poolInRow_78 Y) ?_
    exact h _
  | succ j ih =>
    intro i hi f lv hl0 hl1 hl2 hl3 hl4
    have hki : i < N := by omega
    refine rn_ild (lkX3_poolInRow_5 Y) (by repeat (first | assumption | exact xw_lk_e _ _ _ | exact xw_lk_e2 _ _ _ | refine xw_lk_s (by decide) (by first | exact Or.inl rfl | exact Or.inl (xw_cat_rf _) | exact Or.inr (by decide)) ?_ | refine xw_lk_s2 (by decide) (by decide) (by first | exact Or.inl rfl | exact Or.inl (xw_cat_rf _) | exact Or.inr (by decide)) ?_)) ?_
    first | refine rn_ald (lkX3_poolInRow_7 Y) (by repeat (first | assumption | exact xw_lk_e _ _ _ | exact xw_lk_e2 _ _ _ | refine xw_lk_s (by decide) (by first | exact Or.inl rfl | exact Or.inl (xw_cat_rf _) | exact Or.inr (by decide)) ?_ | refine xw_lk_s2 (by decide) (by decide) (by first | exact Or.inl rfl | exact Or.inl (xw_cat_rf _) | exact Or.inr (by decide)) ?_)) ?_ | refine rn_aldO (lkX3_poolInRow_7 Y) (by repeat (first | assumption | exact xw_lk_e _ _ _ | exact xw_lk_e2 _ _ _ | refine xw_lk_s (by decide) (by first | exact Or.inl rfl | exact Or.inl (xw_cat_rf _) | exact Or.inr (by decide)) ?_ | refine xw_lk_s2 (by decide) (by decide) (by first | exact Or.inl rfl | exact Or.inl (xw_cat_rf _) | exact Or.inr (by decide)) ?_)) ?_ | refine rn_aldN (lkX3_poolInRow_7 Y) (by repeat (first | assumption | exact xw_lk_e _ _ _ | exact xw_lk_e2 _ _ _ | refine xw_lk_s (by decide) (by first | exact Or.inl rfl | exact Or.inl (xw_cat_rf _) | exact Or.inr (by decide)) ?_ | refine xw_lk_s2 (by decide) (by decide) (by first | exact Or.inl rfl | exact Or.inl (xw_cat_rf _) | exact Or.inr (by decide)) ?_)) ?_
    refine rp_getf hR (lkX3_poolInRow_8 Y) (by first | assumption | exact xq_v0 (by decide)) rfl rfl ?_
    refine rn_ifc (lkX3_poolInRow_11 Y) (fun q => absurd q (show ¬ xq_i s 6 0 ≤ nI i by rw [hN]; exact nI_ge hki (by omega))) (fun _ => ?_)
    refine rn_ild (lkX3_poolInRow_14 Y) (by repeat (first | assumption | exact xw_lk_e _ _ _ | exact xw_lk_e2 _ _ _ | refine xw_lk_s (by decide) (by first | exact Or.inl rfl | exact Or.inl (xw_cat_rf _) | exact Or.inr (by decide)) ?_ | refine xw_lk_s2 (by decide) (by decide) (by first | exact Or.inl rfl | exact Or.inl (xw_cat_rf _) | exact Or.inr (by decide)) ?_)) ?_
    refine rn_push (lkX3_poolInRow_15 Y) ?_
    refine rn_i2z (lkX3_poolInRow_16 Y) (by decide) ?_
    refine rn_ifz (lkX3_poolInRow_17 Y) (fun c_17 => ?_) (fun c_17 => ?_)
    · try dsimp only at c_17
      first | refine rn_ald (lkX3_poolInRow_25 Y) (by repeat (first | assumption | exact xw_lk_e _ _ _ | exact xw_lk_e2 _ _ _ | refine xw_lk_s (by decide) (by first | exact Or.inl rfl | exact Or.inl (xw_cat_rf _) | exact Or.inr (by decide)) ?_ | refine xw_lk_s2 (by decide) (by decide) (by first | exact Or.inl rfl | exact Or.inl (xw_cat_rf _) | exact Or.inr (by decide)) ?_)) ?_ | refine rn_aldO (lkX3_poolInRow_25 Y) (by repeat (first | assumption | exact xw_lk_e _ _ _ | exact xw_lk_e2 _ _ _ | refine xw_lk_s (by decide) (by first | exact Or.inl rfl | exact Or.inl (xw_cat_rf _) | exact Or.inr (by decide)) ?_ | refine xw_lk_s2 (by decide) (by decide) (by first | exact Or.inl rfl | exact Or.inl (xw_cat_rf _) | exact Or.inr (by decide)) ?_)) ?_ | refine rn_aldN (lkX3_poolInRow_25 Y) (by repeat (first | assumption | exact xw_lk_e _ _ _ | exact xw_lk_e2 _ _ _ | refine xw_lk_s (by decide) (by first | exact Or.inl rfl | exact Or.inl (xw_cat_rf _) | exact Or.inr (by decide)) ?_ | refine xw_lk_s2 (by decide) (by decide) (by first | exact Or.inl rfl | exact Or.inl (xw_cat_rf _) | exact Or.inr (by decide)) ?_)) ?_
      refine rp_getf hR (lkX3_poolInRow_26 Y) (by first | assumption | exact xq_v0 (by decide)) rfl rfl ?_
      refine rn_push (lkX3_poolInRow_29 Y) ?_
      refine rn_i2 (lkX3_poolInRow_30 Y) ?_
      refine rn_ild (lkX3_poolInRow_31 Y) (by repeat (first | assumption | exact xw_lk_e _ _ _ | exact xw_lk_e2 _ _ _ | refine xw_lk_s (by decide) (by first | exact Or.inl rfl | exact Or.inl (xw_cat_rf _) | exact Or.inr (by decide)) ?_ | refine xw_lk_s2 (by decide) (by decide) (by first | exact Or.inl rfl | exact Or.inl (xw_cat_rf _) | exact Or.inr (by decide)) ?_)) ?_
      refine rn_i2 (lkX3_poolInRow_33 Y) ?_
      refine rn_ist (lkX3_poolInRow_34 Y) rfl ?_
      first | refine rn_ald (lkX3_poolInRow_36 Y) (by repeat (first | assumption | exact xw_lk_e _ _ _ | exact xw_lk_e2 _ _ _ | refine xw_lk_s (by decide) (by first | exact Or.inl rfl | exact Or.inl (xw_cat_rf _) | exact Or.inr (by decide)) ?_ | refine xw_lk_s2 (by decide) (by decide) (by first | exact Or.inl rfl | exact Or.inl (xw_cat_rf _) | exact Or.inr (by decide)) ?_)) ?_ | refine rn_aldO (lkX3_poolInRow_36 Y) (by repeat (first | assumption | exact xw_lk_e _ _ _ | exact xw_lk_e2 _ _ _ | refine xw_lk_s (by decide) (by first | exact Or.inl rfl | exact Or.inl (xw_cat_rf _) | exact Or.inr (by decide)) ?_ | refine xw_lk_s2 (by decide) (by decide) (by first | exact Or.inl rfl | exact Or.inl (xw_cat_rf _) | exact Or.inr (by decide)) ?_)) ?_ | refine rn_aldN (lkX3_poolInRow_36 Y) (by repeat (first | assumption | exact xw_lk_e _ _ _ | exact xw_lk_e2 _ _ _ | refine xw_lk_s (by decide) (by first | exact Or.inl rfl | exact Or.inl (xw_cat_rf _) | exact Or.inr (by decide)) ?_ | refine xw_lk_s2 (by decide) (by decide) (by first | exact Or.inl rfl | exact Or.inl (xw_cat_rf _) | exact Or.inr (by decide)) ?_)) ?_
      refine rp_getf hR (lkX3_poolInRow_37 Y) (by first | assumption | exact xq_v0 (by decide)) rfl rfl ?_
      refine rn_ild (lkX3_poolInRow_40 Y) (by repeat (first | assumption | exact xw_lk_e _ _ _ | exact xw_lk_e2 _ _ _ | refine xw_lk_s (by decide) (by first | exact Or.inl rfl | exact Or.inl (xw_cat_rf _) | exact Or.inr (by decide)) ?_ | refine xw_lk_s2 (by decide) (by decide) (by first | exact Or.inl rfl | exact Or.inl (xw_cat_rf _) | exact Or.inr (by decide)) ?_)) ?_
      refine rp_ild4 (j := N - 1 - i) hR (lkX3_poolInRow_42 Y) (by rw [hN]; obtain ⟨z, rfl⟩ : ∃ z, N = z + 1 := ⟨N - 1, by omega⟩; rw [nI_pred, pk_sub (by omega)]; rfl) (by omega) ?_
      refine rn_ild (lkX3_poolInRow_43 Y) (by repeat (first | assumption | exact xw_lk_e _ _ _ | exact xw_lk_e2 _ _ _ | refine xw_lk_s (by decide) (by first | exact Or.inl rfl | exact Or.inl (xw_cat_rf _) | exact Or.inr (by decide)) ?_ | refine xw_lk_s2 (by decide) (by decide) (by first | exact Or.inl rfl | exact Or.inl (xw_cat_rf _) | exact Or.inr (by decide)) ?_)) ?_
      refine rn_ifc (lkX3_poolInRow_44 Y) (fun c_44 => ?_) (fun c_44 => ?_)
      · try dsimp only at c_44
        first | refine rn_ald (lkX3_poolInRow_50 Y) (by repeat (first | assumption | exact xw_lk_e _ _ _ | exact xw_lk_e2 _ _ _ | refine xw_lk_s (by decide) (by first | exact Or.inl rfl | exact Or.inl (xw_cat_rf _) | exact Or.inr (by decide)) ?_ | refine xw_lk_s2 (by decide) (by decide) (by first | exact Or.inl rfl | exact Or.inl (xw_cat_rf _) | exact Or.inr (by decide)) ?_)) ?_ | refine rn_aldO (lkX3_poolInRow_50 Y) (by repeat (first | assumption | exact xw_lk_e _ _ _ | exact xw_lk_e2 _ _ _ | refine xw_lk_s (by decide) (by first | exact Or.inl rfl | exact Or.inl (xw_cat_rf _) | exact Or.inr (by decide)) ?_ | refine xw_lk_s2 (by decide) (by decide) (by first | exact Or.inl rfl | exact Or.inl (xw_cat_rf _) | exact Or.inr (by decide)) ?_)) ?_ | refine rn_aldN (lkX3_poolInRow_50 Y) (by repeat (first | assumption | exact xw_lk_e _ _ _ | exact xw_lk_e2 _ _ _ | refine xw_lk_s (by decide) (by first | exact Or.inl rfl | exact Or.inl (xw_cat_rf _) | exact Or.inr (by decide)) ?_ | refine xw_lk_s2 (by decide) (by decide) (by first | exact Or.inl rfl | exact Or.inl (xw_cat_rf _) | exact Or.inr (by decide)) ?_)) ?_
        refine rn_ild (lkX3_poolInRow_51 Y) (by repeat (first | assumption | exact xw_lk_e _ _ _ | exact xw_lk_e2 _ _ _ | refine xw_lk_s (by decide) (by first | exact Or.inl rfl | exact Or.inl (xw_cat_rf _) | exact Or.inr (by decide)) ?_ | refine xw_lk_s2 (by decide) (by decide) (by first | exact Or.inl rfl | exact Or.inl (xw_cat_rf _) | exact Or.inr (by decide)) ?_)) ?_
        refine rn_ild (lkX3_poolInRow_53 Y) (by repeat (first | assumption | exact xw_lk_e _ _ _ | exact xw_lk_e2 _ _ _ | refine xw_lk_s (by decide) (by first | exact Or.inl rfl | exact Or.inl (xw_cat_rf _) | exact Or.inr (by decide)) ?_ | refine xw_lk_s2 (by decide) (by decide) (by first | exact Or.inl rfl | exact Or.inl (xw_cat_rf _) | exact Or.inr (by decide)) ?_)) ?_
        refine rp_callV hR (lkX3_poolInRow_54 Y) rfl (by first | assumption | exact xq_v0 (by decide)) rfl (Nat.le_of_ble_eq_true rfl) (Nat.le_of_ble_eq_true rfl) (Nat.le_of_ble_eq_true rfl) ?_
        refine sc_hasClub hR ?_ ?_
        · skip
          refine rn_ifz (lkX3_poolInRow_57 Y) (fun q => absurd q (by decide)) (fun _ => ?_)
          refine rn_ild (lkX3_poolInRow_60 Y) (by repeat (first | assumption | exact xw_lk_e _ _ _ | exact xw_lk_e2 _ _ _ | refine xw_lk_s (by decide) (by first | exact Or.inl rfl | exact Or.inl (xw_cat_rf _) | exact Or.inr (by decide)) ?_ | refine xw_lk_s2 (by decide) (by decide) (by first | exact Or.inl rfl | exact Or.inl (xw_cat_rf _) | exact Or.inr (by decide)) ?_)) ?_
          refine rn_iret (lkX3_poolInRow_62 Y) ?_
          exact h _
        · skip
          refine rn_ifz (lkX3_poolInRow_57 Y) (fun _ => ?_) (fun q => absurd (by decide) q)
          refine rn_ild (lkX3_poolInRow_63 Y) (by repeat (first | assumption | exact xw_lk_e _ _ _ | exact xw_lk_e2 _ _ _ | refine xw_lk_s (by decide) (by first | exact Or.inl rfl | exact Or.inl (xw_cat_rf _) | exact Or.inr (by decide)) ?_ | refine xw_lk_s2 (by decide) (by decide) (by first | exact Or.inl rfl | exact Or.inl (xw_cat_rf _) | exact Or.inr (by decide)) ?_)) ?_
          refine rn_push (lkX3_poolInRow_64 Y) ?_
          refine rn_ifc (lkX3_poolInRow_65 Y) (fun c_65 => ?_) (fun c_65 => ?_)
          · try dsimp only at c_65
            refine rn_inc (lkX3_poolInRow_71 Y) (by repeat (first | assumption | exact xw_lk_e _ _ _ | exact xw_lk_e2 _ _ _ | refine xw_lk_s (by decide) (by first | exact Or.inl rfl | exact Or.inl (xw_cat_rf _) | exact Or.inr (by decide)) ?_ | refine xw_lk_s2 (by decide) (by decide) (by first | exact Or.inl rfl | exact Or.inl (xw_cat_rf _) | exact Or.inr (by decide)) ?_)) rfl ?_
            refine rn_goto (lkX3_poolInRow_74 Y) ?_
            exact ih (i + 1) (by omega) _ _ (by repeat (first | assumption | exact xw_lk_e _ _ _ | exact xw_lk_e2 _ _ _ | refine xw_lk_s (by decide) (by first | exact Or.inl rfl | exact Or.inl (xw_cat_rf _) | exact Or.inr (by decide)) ?_ | refine xw_lk_s2 (by decide) (by decide) (by first | exact Or.inl rfl | exact Or.inl (xw_cat_rf _) | exact Or.inr (by decide)) ?_)) (by repeat (first | assumption | exact xw_lk_e _ _ _ | exact xw_lk_e2 _ _ _ | refine xw_lk_s (by decide) (by first | exact Or.inl rfl | exact Or.inl (xw_cat_rf _) | exact Or.inr (by decide)) ?_ | refine xw_lk_s2 (by decide) (by decide) (by first | exact Or.inl rfl | exact Or.inl (xw_cat_rf _) | exact Or.inr (by decide)) ?_)) (by repeat (first | assumption | exact xw_lk_e _ _ _ | exact xw_lk_e2 _ _ _ | refine xw_lk_s (by decide) (by first | exact Or.inl rfl | exact Or.inl (xw_cat_rf _) | exact Or.inr (by decide)) ?_ | refine xw_lk_s2 (by decide) (by decide) (by first | exact Or.inl rfl | exact Or.inl (xw_cat_rf _) | exact Or.inr (by decide)) ?_)) (by repeat (first | assumption | exact xw_lk_e _ _ _ | exact xw_lk_e2 _ _ _ | refine xw_lk_s (by decide) (by first | exact Or.inl rfl | exact Or.inl (xw_cat_rf _) | exact Or.inr (by decide)) ?_ | refine xw_lk_s2 (by decide) (by decide) (by first | exact Or.inl rfl | exact Or.inl (xw_cat_rf _) | exact Or.inr (by decide)) ?_)) (by rw [← nI_1]; repeat (first | assumption | exact xw_lk_e _ _ _ | exact xw_lk_e2 _ _ _ | refine xw_lk_s (by decide) (by first | exact Or.inl rfl | exact Or.inl (xw_cat_rf _) | exact Or.inr (by decide)) ?_ | refine xw_lk_s2 (by decide) (by decide) (by first | exact Or.inl rfl | exact Or.inl (xw_cat_rf _) | exact Or.inr (by decide)) ?_))
          · try dsimp only at c_65
            refine rn_ild (lkX3_poolInRow_68 Y) (by repeat (first | assumption | exact xw_lk_e _ _ _ | exact xw_lk_e2 _ _ _ | refine xw_lk_s (by decide) (by first | exact Or.inl rfl | exact Or.inl (xw_cat_rf _) | exact Or.inr (by decide)) ?_ | refine xw_lk_s2 (by decide) (by decide) (by first | exact Or.inl rfl | exact Or.inl (xw_cat_rf _) | exact Or.inr (by decide)) ?_)) ?_
            refine rn_ist (lkX3_poolInRow_70 Y) rfl ?_
            refine rn_inc (lkX3_poolInRow_71 Y) (by repeat (first | assumption | exact xw_lk_e _ _ _ | exact xw_lk_e2 _ _ _ | refine xw_lk_s (by decide) (by first | exact Or.inl rfl | exact Or.inl (xw_cat_rf _) | exact Or.inr (by decide)) ?_ | refine xw_lk_s2 (by decide) (by decide) (by first | exact Or.inl rfl | exact Or.inl (xw_cat_rf _) | exact Or.inr (by decide)) ?_)) rfl ?_
            refine rn_goto (lkX3_poolInRow_74 Y) ?_
            exact ih (i + 1) (by omega) _ _ (by repeat (first | assumption | exact xw_lk_e _ _ _ | exact xw_lk_e2 _ _ _ | refine xw_lk_s (by decide) (by first | exact Or.inl rfl | exact Or.inl (xw_cat_rf _) | exact Or.inr (by decide)) ?_ | refine xw_lk_s2 (by decide) (by decide) (by first | exact Or.inl rfl | exact Or.inl (xw_cat_rf _) | exact Or.inr (by decide)) ?_)) (by repeat (first | assumption | exact xw_lk_e _ _ _ | exact xw_lk_e2 _ _ _ | refine xw_lk_s (by decide) (by first | exact Or.inl rfl | exact Or.inl (xw_cat_rf _) | exact Or.inr (by decide)) ?_ | refine xw_lk_s2 (by decide) (by decide) (by first | exact Or.inl rfl | exact Or.inl (xw_cat_rf _) | exact Or.inr (by decide)) ?_)) (by repeat (first | assumption | exact xw_lk_e _ _ _ | exact xw_lk_e2 _ _ _ | refine xw_lk_s (by decide) (by first | exact Or.inl rfl | exact Or.inl (xw_cat_rf _) | exact Or.inr (by decide)) ?_ | refine xw_lk_s2 (by decide) (by decide) (by first | exact Or.inl rfl | exact Or.inl (xw_cat_rf _) | exact Or.inr (by decide)) ?_)) (by repeat (first | assumption | exact xw_lk_e _ _ _ | exact xw_lk_e2 _ _ _ | refine xw_lk_s (by decide) (by first | exact Or.inl rfl | exact Or.inl (xw_cat_rf _) | exact Or.inr (by decide)) ?_ | refine xw_lk_s2 (by decide) (by decide) (by first | exact Or.inl rfl | exact Or.inl (xw_cat_rf _) | exact Or.inr (by decide)) ?_)) (by rw [← nI_1]; repeat (first | assumption | exact xw_lk_e _ _ _ | exact xw_lk_e2 _ _ _ | refine xw_lk_s (by decide) (by first | exact Or.inl rfl | exact Or.inl (xw_cat_rf _) | exact Or.inr (by decide)) ?_ | refine xw_lk_s2 (by decide) (by decide) (by first | exact Or.inl rfl | exact Or.inl (xw_cat_rf _) | exact Or.inr (by decide)) ?_))
      · try dsimp only at c_44
        refine rn_goto (lkX3_poolInRow_47 Y) ?_
        refine rn_inc (lkX3_poolInRow_71 Y) (by repeat (first | assumption | exact xw_lk_e _ _ _ | exact xw_lk_e2 _ _ _ | refine xw_lk_s (by decide) (by first | exact Or.inl rfl | exact Or.inl (xw_cat_rf _) | exact Or.inr (by decide)) ?_ | refine xw_lk_s2 (by decide) (by decide) (by first | exact Or.inl rfl | exact Or.inl (xw_cat_rf _) | exact Or.inr (by decide)) ?_)) rfl ?_
        refine rn_goto (lkX3_poolInRow_74 Y) ?_
        exact ih (i + 1) (by omega) _ _ (by repeat (first | assumption | exact xw_lk_e _ _ _ | exact xw_lk_e2 _ _ _ | refine xw_lk_s (by decide) (by first | exact Or.inl rfl | exact Or.inl (xw_cat_rf _) | exact Or.inr (by decide)) ?_ | refine xw_lk_s2 (by decide) (by decide) (by first | exact Or.inl rfl | exact Or.inl (xw_cat_rf _) | exact Or.inr (by decide)) ?_)) (by repeat (first | assumption | exact xw_lk_e _ _ _ | exact xw_lk_e2 _ _ _ | refine xw_lk_s (by decide) (by first | exact Or.inl rfl | exact Or.inl (xw_cat_rf _) | exact Or.inr (by decide)) ?_ | refine xw_lk_s2 (by decide) (by decide) (by first | exact Or.inl rfl | exact Or.inl (xw_cat_rf _) | exact Or.inr (by decide)) ?_)) (by repeat (first | assumption | exact xw_lk_e _ _ _ | exact xw_lk_e2 _ _ _ | refine xw_lk_s (by decide) (by first | exact Or.inl rfl | exact Or.inl (xw_cat_rf _) | exact Or.inr (by decide)) ?_ | refine xw_lk_s2 (by decide) (by decide) (by first | exact Or.inl rfl | exact Or.inl (xw_cat_rf _) | exact Or.inr (by decide)) ?_)) (by repeat (first | assumption | exact xw_lk_e _ _ _ | exact xw_lk_e2 _ _ _ | refine xw_lk_s (by decide) (by first | exact Or.inl rfl | exact Or.inl (xw_cat_rf _) | exact Or.inr (by decide)) ?_ | refine xw_lk_s2 (by decide) (by decide) (by first | exact Or.inl rfl | exact Or.inl (xw_cat_rf _) | exact Or.inr (by decide)) ?_)) (by rw [← nI_1]; repeat (first | assumption | exact xw_lk_e _ _ _ | exact xw_lk_e2 _ _ _ | refine xw_lk_s (by decide) (by first | exact Or.inl rfl | exact Or.inl (xw_cat_rf _) | exact Or.inr (by decide)) ?_ | refine xw_lk_s2 (by decide) (by decide) (by first | exact Or.inl rfl | exact Or.inl (xw_cat_rf _) | exact Or.inr (by decide)) ?_))
    · try dsimp only at c_17
      refine rn_ild (lkX3_poolInRow_20 Y) (by repeat (first | assumption | exact xw_lk_e _ _ _ | exact xw_lk_e2 _ _ _ | refine xw_lk_s (by decide) (by first | exact Or.inl rfl | exact Or.inl (xw_cat_rf _) | exact Or.inr (by decide)) ?_ | refine xw_lk_s2 (by decide) (by decide) (by first | exact Or.inl rfl | exact Or.inl (xw_cat_rf _) | exact Or.inr (by decide)) ?_)) ?_
      refine rn_goto (lkX3_poolInRow_22 Y) ?_
      refine rn_ist (lkX3_poolInRow_34 Y) rfl ?_
      first | refine rn_ald (lkX3_poolInRow_36 Y) (by repeat (first | assumption | exact xw_lk_e _ _ _ | exact xw_lk_e2 _ _ _ | refine xw_lk_s (by decide) (by first | exact Or.inl rfl | exact Or.inl (xw_cat_rf _) | exact Or.inr (by decide)) ?_ | refine xw_lk_s2 (by decide) (by decide) (by first | exact Or.inl rfl | exact Or.inl (xw_cat_rf _) | exact Or.inr (by decide)) ?_)) ?_ | refine rn_aldO (lkX3_poolInRow_36 Y) (by repeat (first | assumption | exact xw_lk_e _ _ _ | exact xw_lk_e2 _ _ _ | refine xw_lk_s (by decide) (by first | exact Or.inl rfl | exact Or.inl (xw_cat_rf _) | exact Or.inr (by decide)) ?_ | refine xw_lk_s2 (by decide) (by decide) (by first | exact Or.inl rfl | exact Or.inl (xw_cat_rf _) | exact Or.inr (by decide)) ?_)) ?_ | refine rn_aldN (lkX3_poolInRow_36 Y) (by repeat (first | assumption | exact xw_lk_e _ _ _ | exact xw_lk_e2 _ _ _ | refine xw_lk_s (by decide) (by first | exact Or.inl rfl | exact Or.inl (xw_cat_rf _) | exact Or.inr (by decide)) ?_ | refine xw_lk_s2 (by decide) (by decide) (by first | exact Or.inl rfl | exact Or.inl (xw_cat_rf _) | exact Or.inr (by decide)) ?_)) ?_
      refine rp_getf hR (lkX3_poolInRow_37 Y) (by first | assumption | exact xq_v0 (by decide)) rfl rfl ?_
      refine rn_ild (lkX3_poolInRow_40 Y) (by repeat (first | assumption | exact xw_lk_e _ _ _ | exact xw_lk_e2 _ _ _ | refine xw_lk_s (by decide) (by first | exact Or.inl rfl | exact Or.inl (xw_cat_rf _) | exact Or.inr (by decide)) ?_ | refine xw_lk_s2 (by decide) (by decide) (by first | exact Or.inl rfl | exact Or.inl (xw_cat_rf _) | exact Or.inr (by decide)) ?_)) ?_
      refine rp_ild4 (j := i) hR (lkX3_poolInRow_42 Y) rfl (by omega) ?_
      refine rn_ild (lkX3_poolInRow_43 Y) (by repeat (first | assumption | exact xw_lk_e _ _ _ | exact xw_lk_e2 _ _ _ | refine xw_lk_s (by decide) (by first | exact Or.inl rfl | exact Or.inl (xw_cat_rf _) | exact Or.inr (by decide)) ?_ | refine xw_lk_s2 (by decide) (by decide) (by first | exact Or.inl rfl | exact Or.inl (xw_cat_rf _) | exact Or.inr (by decide)) ?_)) ?_
      refine rn_ifc (lkX3_poolInRow_44 Y) (fun c_44 => ?_) (fun c_44 => ?_)
      · try dsimp only at c_44
        first | refine rn_ald (lkX3_poolInRow_50 Y) (by repeat (first | assumption | exact xw_lk_e _ _ _ | exact xw_lk_e2 _ _ _ | refine xw_lk_s (by decide) (by first | exact Or.inl rfl | exact Or.inl (xw_cat_rf _) | exact Or.inr (by decide)) ?_ | refine xw_lk_s2 (by decide) (by decide) (by first | exact Or.inl rfl | exact Or.inl (xw_cat_rf _) | exact Or.inr (by decide)) ?_)) ?_ | refine rn_aldO (lkX3_poolInRow_50 Y) (by repeat (first | assumption | exact xw_lk_e _ _ _ | exact xw_lk_e2 _ _ _ | refine xw_lk_s (by decide) (by first | exact Or.inl rfl | exact Or.inl (xw_cat_rf _) | exact Or.inr (by decide)) ?_ | refine xw_lk_s2 (by decide) (by decide) (by first | exact Or.inl rfl | exact Or.inl (xw_cat_rf _) | exact Or.inr (by decide)) ?_)) ?_ | refine rn_aldN (lkX3_poolInRow_50 Y) (by repeat (first | assumption | exact xw_lk_e _ _ _ | exact xw_lk_e2 _ _ _ | refine xw_lk_s (by decide) (by first | exact Or.inl rfl | exact Or.inl (xw_cat_rf _) | exact Or.inr (by decide)) ?_ | refine xw_lk_s2 (by decide) (by decide) (by first | exact Or.inl rfl | exact Or.inl (xw_cat_rf _) | exact Or.inr (by decide)) ?_)) ?_
        refine rn_ild (lkX3_poolInRow_51 Y) (by repeat (first | assumption | exact xw_lk_e _ _ _ | exact xw_lk_e2 _ _ _ | refine xw_lk_s (by decide) (by first | exact Or.inl rfl | exact Or.inl (xw_cat_rf _) | exact Or.inr (by decide)) ?_ | refine xw_lk_s2 (by decide) (by decide) (by first | exact Or.inl rfl | exact Or.inl (xw_cat_rf _) | exact Or.inr (by decide)) ?_)) ?_
        refine rn_ild (lkX3_poolInRow_53 Y) (by repeat (first | assumption | exact xw_lk_e _ _ _ | exact xw_lk_e2 _ _ _ | refine xw_lk_s (by decide) (by first | exact Or.inl rfl | exact Or.inl (xw_cat_rf _) | exact Or.inr (by decide)) ?_ | refine xw_lk_s2 (by decide) (by decide) (by first | exact Or.inl rfl | exact Or.inl (xw_cat_rf _) | exact Or.inr (by decide)) ?_)) ?_
        refine rp_callV hR (lkX3_poolInRow_54 Y) rfl (by first | assumption | exact xq_v0 (by decide)) rfl (Nat.le_of_ble_eq_true rfl) (Nat.le_of_ble_eq_true rfl) (Nat.le_of_ble_eq_true rfl) ?_
        refine sc_hasClub hR ?_ ?_
        · skip
          refine rn_ifz (lkX3_poolInRow_57 Y) (fun q => absurd q (by decide)) (fun _ => ?_)
          refine rn_ild (lkX3_poolInRow_60 Y) (by repeat (first | assumption | exact xw_lk_e _ _ _ | exact xw_lk_e2 _ _ _ | refine xw_lk_s (by decide) (by first | exact Or.inl rfl | exact Or.inl (xw_cat_rf _) | exact Or.inr (by decide)) ?_ | refine xw_lk_s2 (by decide) (by decide) (by first | exact Or.inl rfl | exact Or.inl (xw_cat_rf _) | exact Or.inr (by decide)) ?_)) ?_
          refine rn_iret (lkX3_poolInRow_62 Y) ?_
          exact h _
        · skip
          refine rn_ifz (lkX3_poolInRow_57 Y) (fun _ => ?_) (fun q => absurd (by decide) q)
          refine rn_ild (lkX3_poolInRow_63 Y) (by repeat (first | assumption | exact xw_lk_e _ _ _ | exact xw_lk_e2 _ _ _ | refine xw_lk_s (by decide) (by first | exact Or.inl rfl | exact Or.inl (xw_cat_rf _) | exact Or.inr (by decide)) ?_ | refine xw_lk_s2 (by decide) (by decide) (by first | exact Or.inl rfl | exact Or.inl (xw_cat_rf _) | exact Or.inr (by decide)) ?_)) ?_
          refine rn_push (lkX3_poolInRow_64 Y) ?_
          refine rn_ifc (lkX3_poolInRow_65 Y) (fun c_65 => ?_) (fun c_65 => ?_)
          · try dsimp only at c_65
            refine rn_inc (lkX3_poolInRow_71 Y) (by repeat (first | assumption | exact xw_lk_e _ _ _ | exact xw_lk_e2 _ _ _ | refine xw_lk_s (by decide) (by first | exact Or.inl rfl | exact Or.inl (xw_cat_rf _) | exact Or.inr (by decide)) ?_ | refine xw_lk_s2 (by decide) (by decide) (by first | exact Or.inl rfl | exact Or.inl (xw_cat_rf _) | exact Or.inr (by decide)) ?_)) rfl ?_
            refine rn_goto (lkX3_poolInRow_74 Y) ?_
            exact ih (i + 1) (by omega) _ _ (by repeat (first | assumption | exact xw_lk_e _ _ _ | exact xw_lk_e2 _ _ _ | refine xw_lk_s (by decide) (by first | exact Or.inl rfl | exact Or.inl (xw_cat_rf _) | exact Or.inr (by decide)) ?_ | refine xw_lk_s2 (by decide) (by decide) (by first | exact Or.inl rfl | exact Or.inl (xw_cat_rf _) | exact Or.inr (by decide)) ?_)) (by repeat (first | assumption | exact xw_lk_e _ _ _ | exact xw_lk_e2 _ _ _ | refine xw_lk_s (by decide) (by first | exact Or.inl rfl | exact Or.inl (xw_cat_rf _) | exact Or.inr (by decide)) ?_ | refine xw_lk_s2 (by decide) (by decide) (by first | exact Or.inl rfl | exact Or.inl (xw_cat_rf _) | exact Or.inr (by decide)) ?_)) (by repeat (first | assumption | exact xw_lk_e _ _ _ | exact xw_lk_e2 _ _ _ | refine xw_lk_s (by decide) (by first | exact Or.inl rfl | exact Or.inl (xw_cat_rf _) | exact Or.inr (by decide)) ?_ | refine xw_lk_s2 (by decide) (by decide) (by first | exact Or.inl rfl | exact Or.inl (xw_cat_rf _) | exact Or.inr (by decide)) ?_)) (by repeat (first | assumption | exact xw_lk_e _ _ _ | exact xw_lk_e2 _ _ _ | refine xw_lk_s (by decide) (by first | exact Or.inl rfl | exact Or.inl (xw_cat_rf _) | exact Or.inr (by decide)) ?_ | refine xw_lk_s2 (by decide) (by decide) (by first | exact Or.inl rfl | exact Or.inl (xw_cat_rf _) | exact Or.inr (by decide)) ?_)) (by rw [← nI_1]; repeat (first | assumption | exact xw_lk_e _ _ _ | exact xw_lk_e2 _ _ _ | refine xw_lk_s (by decide) (by first | exact Or.inl rfl | exact Or.inl (xw_cat_rf _) | exact Or.inr (by decide)) ?_ | refine xw_lk_s2 (by decide) (by decide) (by first | exact Or.inl rfl | exact Or.inl (xw_cat_rf _) | exact Or.inr (by decide)) ?_))
          · try dsimp only at c_65
            refine rn_ild (lkX3_poolInRow_68 Y) (by repeat (first | assumption | exact xw_lk_e _ _ _ | exact xw_lk_e2 _ _ _ | refine xw_lk_s (by decide) (by first | exact Or.inl rfl | exact Or.inl (xw_cat_rf _) | exact Or.inr (by decide)) ?_ | refine xw_lk_s2 (by decide) (by decide) (by first | exact Or.inl rfl | exact Or.inl (xw_cat_rf _) | exact Or.inr (by decide)) ?_)) ?_
            refine rn_ist (lkX3_poolInRow_70 Y) rfl ?_
            refine rn_inc (lkX3_poolInRow_71 Y) (by repeat (first | assumption | exact xw_lk_e _ _ _ | exact xw_lk_e2 _ _ _ | refine xw_lk_s (by decide) (by first | exact Or.inl rfl | exact Or.inl (xw_cat_rf _) | exact Or.inr (by decide)) ?_ | refine xw_lk_s2 (by decide) (by decide) (by first | exact Or.inl rfl | exact Or.inl (xw_cat_rf _) | exact Or.inr (by decide)) ?_)) rfl ?_
            refine rn_goto (lkX3_poolInRow_74 Y) ?_
            exact ih (i + 1) (by omega) _ _ (by repeat (first | assumption | exact xw_lk_e _ _ _ | exact xw_lk_e2 _ _ _ | refine xw_lk_s (by decide) (by first | exact Or.inl rfl | exact Or.inl (xw_cat_rf _) | exact Or.inr (by decide)) ?_ | refine xw_lk_s2 (by decide) (by decide) (by first | exact Or.inl rfl | exact Or.inl (xw_cat_rf _) | exact Or.inr (by decide)) ?_)) (by repeat (first | assumption | exact xw_lk_e _ _ _ | exact xw_lk_e2 _ _ _ | refine xw_lk_s (by decide) (by first | exact Or.inl rfl | exact Or.inl (xw_cat_rf _) | exact Or.inr (by decide)) ?_ | refine xw_lk_s2 (by decide) (by decide) (by first | exact Or.inl rfl | exact Or.inl (xw_cat_rf _) | exact Or.inr (by decide)) ?_)) (by repeat (first | assumption | exact xw_lk_e _ _ _ | exact xw_lk_e2 _ _ _ | refine xw_lk_s (by decide) (by first | exact Or.inl rfl | exact Or.inl (xw_cat_rf _) | exact Or.inr (by decide)) ?_ | refine xw_lk_s2 (by decide) (by decide) (by first | exact Or.inl rfl | exact Or.inl (xw_cat_rf _) | exact Or.inr (by decide)) ?_)) (by repeat (first | assumption | exact xw_lk_e _ _ _ | exact xw_lk_e2 _ _ _ | refine xw_lk_s (by decide) (by first | exact Or.inl rfl | exact Or.inl (xw_cat_rf _) | exact Or.inr (by decide)) ?_ | refine xw_lk_s2 (by decide) (by decide) (by first | exact Or.inl rfl | exact Or.inl (xw_cat_rf _) | exact Or.inr (by decide)) ?_)) (by rw [← nI_1]; repeat (first | assumption | exact xw_lk_e _ _ _ | exact xw_lk_e2 _ _ _ | refine xw_lk_s (by decide) (by first | exact Or.inl rfl | exact Or.inl (xw_cat_rf _) | exact Or.inr (by decide)) ?_ | refine xw_lk_s2 (by decide) (by decide) (by first | exact Or.inl rfl | exact Or.inl (xw_cat_rf _) | exact Or.inr (by decide)) ?_))
      · try dsimp only at c_44
        refine rn_goto (lkX3_poolInRow_47 Y) ?_
        refine rn_inc (lkX3_poolInRow_71 Y) (by repeat (first | assumption | exact xw_lk_e _ _ _ | exact xw_lk_e2 _ _ _ | refine xw_lk_s (by decide) (by first | exact Or.inl rfl | exact Or.inl (xw_cat_rf _) | exact Or.inr (by decide)) ?_ | refine xw_lk_s2 (by decide) (by decide) (by first | exact Or.inl rfl | exact Or.inl (xw_cat_rf _) | exact Or.inr (by decide)) ?_)) rfl ?_
        refine rn_goto (lkX3_poolInRow_74 Y) ?_
        exact ih (i + 1) (by omega) _ _ (by repeat (first | assumption | exact xw_lk_e _ _ _ | exact xw_lk_e2 _ _ _ | refine xw_lk_s (by decide) (by first | exact Or.inl rfl | exact Or.inl (xw_cat_rf _) | exact Or.inr (by decide)) ?_ | refine xw_lk_s2 (by decide) (by decide) (by first | exact Or.inl rfl | exact Or.inl (xw_cat_rf _) | exact Or.inr (by decide)) ?_)) (by repeat (first | assumption | exact xw_lk_e _ _ _ | exact xw_lk_e2 _ _ _ | refine xw_lk_s (by decide) (by first | exact Or.inl rfl | exact Or.inl (xw_cat_rf _) | exact Or.inr (by decide)) ?_ | refine xw_lk_s2 (by decide) (by decide) (by first | exact Or.inl rfl | exact Or.inl (xw_cat_rf _) | exact Or.inr (by decide)) ?_)) (by repeat (first | assumption | exact xw_lk_e _ _ _ | exact xw_lk_e2 _ _ _ | refine xw_lk_s (by decide) (by first | exact Or.inl rfl | exact Or.inl (xw_cat_rf _) | exact Or.inr (by decide)) ?_ | refine xw_lk_s2 (by decide) (by decide) (by first | exact Or.inl rfl | exact Or.inl (xw_cat_rf _) | exact Or.inr (by decide)) ?_)) (by repeat (first | assumption | exact xw_lk_e _ _ _ | exact xw_lk_e2 _ _ _ | refine xw_lk_s (by decide) (by first | exact Or.inl rfl | exact Or.inl (xw_cat_rf _) | exact Or.inr (by decide)) ?_ | refine xw_lk_s2 (by decide) (by decide) (by first | exact Or.inl rfl | exact Or.inl (xw_cat_rf _) | exact Or.inr (by decide)) ?_)) (by rw [← nI_1]; repeat (first | assumption | exact xw_lk_e _ _ _ | exact xw_lk_e2 _ _ _ | refine xw_lk_s (by decide) (by first | exact Or.inl rfl | exact Or.inl (xw_cat_rf _) | exact Or.inr (by decide)) ?_ | refine xw_lk_s2 (by decide) (by decide) (by first | exact Or.inl rfl | exact Or.inl (xw_cat_rf _) | exact Or.inr (by decide)) ?_))

set_option maxRecDepth 100000 in
set_option maxHeartbeats 4000000 in
theorem sc_poolInRow {r x : Int32} {N : Nat} (hR : xq_rp Y ad s w) (hN : xq_i s 6 0 = nI N) (hN4 : N ≤ 4) (h : ∀ v, post (some (.int v)) w) : ptX3_poolInRow Y [.ref (ad 0 0), .int r, .int x] w post := by
  refine ⟨(by first | exact Nat.le_of_ble_eq_true rfl | simp [lg_sl, xw_cat_rf, xw_cat_i, xw_cat_r, xw_cat_n, xw_cat_l]), ?_⟩
  refine rn_push (lkX3_poolInRow_0 Y) ?_
  refine rn_ist (lkX3_poolInRow_1 Y) rfl ?_
  refine rn_push (lkX3_poolInRow_2 Y) ?_
  refine rn_ist (lkX3_poolInRow_3 Y) rfl ?_
  exact lp_poolInRow hR hN hN4 (fun v => ⟨h v, Nat.le_refl _, Nat.le_refl _⟩) N 0 (Nat.zero_add _) _ _ rfl rfl rfl rfl rfl

/-- a fencer k goes into the pool p -/
def mo_put (s : xq_S) (k p : Nat) : xq_S :=
  let s := xu_i s 903 k (nI p)
  let s := xu_i s 904 k (xq_i s 400 p)
  xu_i s 400 p (xq_i s 400 p + 1)

set_option maxRecDepth 100000 in
set_option maxHeartbeats 4000000 in
theorem sc_put {o : Option Nat} {r : Int32} {N : Nat} (hR : xq_rp Y ad s w) (ho : ∀ k, o = some k → k < s.1) (hN : xq_i s 6 0 = nI N) (hN4 : N ≤ 4) (h0 : post none w) (h : ∀ k p w', k < s.1 → p < N → xq_rp Y ad (mo_put s k p) w' → post none w') : ptX3_putIntoPool Y [.ref (ad 0 0), va_rf (o.map (ad 9)), .int r] w post := by
  refine ⟨(by first | exact Nat.le_of_ble_eq_true rfl | simp [lg_sl, xw_cat_rf, xw_cat_i, xw_cat_r, xw_cat_n, xw_cat_l]), ?_⟩
  rw [show lv_args 0 [.ref (ad 0 0), va_rf (o.map (ad 9)), .int r] = [(0, .ref (ad 0 0)), (1, va_rf (o.map (ad 9))), (2, .int r)] from by simp [lv_args, xw_cat_rf, xw_cat_i, xw_cat_r, xw_cat_n, xw_cat_l]]
  rcases o with _ | k
  · skip
    first | refine rn_ald (lkX3_putIntoPool_0 Y) rfl ?_ | refine rn_aldO (lkX3_putIntoPool_0 Y) rfl ?_ | refine rn_aldN (lkX3_putIntoPool_0 Y) rfl ?_
    refine rn_ifnN (lkX3_putIntoPool_1 Y) ?_
    refine rn_push (lkX3_putIntoPool_4 Y) ?_
    refine rn_goto (lkX3_putIntoPool_5 Y) ?_
    refine rn_ist (lkX3_putIntoPool_17 Y) rfl ?_
    refine rn_ild (lkX3_putIntoPool_18 Y) rfl ?_
    refine rn_push (lkX3_putIntoPool_19 Y) ?_
    first | refine rn_ald (lkX3_putIntoPool_20 Y) rfl ?_ | refine rn_aldO (lkX3_putIntoPool_20 Y) rfl ?_ | refine rn_aldN (lkX3_putIntoPool_20 Y) rfl ?_
    refine rp_getf hR (lkX3_putIntoPool_21 Y) (by first | assumption | exact xq_v0 (by decide)) rfl rfl ?_
    refine rn_push (lkX3_putIntoPool_24 Y) ?_
    refine rn_i2 (lkX3_putIntoPool_25 Y) ?_
    refine rn_callS (lkX3_putIntoPool_26 Y) (Nat.le_of_ble_eq_true rfl) rfl (Nat.le_of_ble_eq_true rfl) (Nat.le_of_ble_eq_true rfl) (Nat.le_of_ble_eq_true rfl) ?_
    refine sc_isIn ?_
    rw [if_pos (Or.inl (by decide))]
    · skip
      refine rn_ifz (lkX3_putIntoPool_29 Y) (fun _ => ?_) (fun q => absurd (by decide) q)
      refine rn_vret (lkX3_putIntoPool_57 Y) ?_
      exact ⟨h0, Nat.le_refl _, Nat.le_refl _⟩
  · have hk : k < s.1 := ho k rfl
    have hv9 : xq_vl ad s 9 k := xq_v9 hk
    first | refine rn_ald (lkX3_putIntoPool_0 Y) rfl ?_ | refine rn_aldO (lkX3_putIntoPool_0 Y) rfl ?_ | refine rn_aldN (lkX3_putIntoPool_0 Y) rfl ?_
    refine rn_ifnR (lkX3_putIntoPool_1 Y) ?_
    first | refine rn_ald (lkX3_putIntoPool_8 Y) rfl ?_ | refine rn_aldO (lkX3_putIntoPool_8 Y) rfl ?_ | refine rn_aldN (lkX3_putIntoPool_8 Y) rfl ?_
    refine rn_ild (lkX3_putIntoPool_9 Y) rfl ?_
    first | refine rn_ald (lkX3_putIntoPool_10 Y) rfl ?_ | refine rn_aldO (lkX3_putIntoPool_10 Y) rfl ?_ | refine rn_aldN (lkX3_putIntoPool_10 Y) rfl ?_
    refine rp_getf hR (lkX3_putIntoPool_11 Y) (by first | assumption | exact xq_v0 (by decide)) rfl rfl ?_
    refine rp_callV hR (lkX3_putIntoPool_14 Y) rfl (by first | assumption | exact xq_v0 (by decide)) rfl (Nat.le_of_ble_eq_true rfl) (Nat.le_of_ble_eq_true rfl) (Nat.le_of_ble_eq_true rfl) ?_
    refine sc_poolInRow hR hN hN4 (fun v => ?_)
    refine rn_ist (lkX3_putIntoPool_17 Y) rfl ?_
    refine rn_ild (lkX3_putIntoPool_18 Y) rfl ?_
    refine rn_push (lkX3_putIntoPool_19 Y) ?_
    first | refine rn_ald (lkX3_putIntoPool_20 Y) rfl ?_ | refine rn_aldO (lkX3_putIntoPool_20 Y) rfl ?_ | refine rn_aldN (lkX3_putIntoPool_20 Y) rfl ?_
    refine rp_getf hR (lkX3_putIntoPool_21 Y) (by first | assumption | exact xq_v0 (by decide)) rfl rfl ?_
    refine rn_push (lkX3_putIntoPool_24 Y) ?_
    refine rn_i2 (lkX3_putIntoPool_25 Y) ?_
    refine rn_callS (lkX3_putIntoPool_26 Y) (Nat.le_of_ble_eq_true rfl) rfl (Nat.le_of_ble_eq_true rfl) (Nat.le_of_ble_eq_true rfl) (Nat.le_of_ble_eq_true rfl) ?_
    rw [hN]
    refine sc_isIn ?_
    by_cases hc : v < 0 ∨ nI N - 1 < v
    · rw [if_pos hc]
      refine rn_ifz (lkX3_putIntoPool_29 Y) (fun _ => ?_) (fun q => absurd (by decide) q)
      refine rn_vret (lkX3_putIntoPool_57 Y) ?_
      exact ⟨h0, Nat.le_refl _, Nat.le_refl _⟩
    · rw [if_neg hc]
      obtain ⟨p, hp, rfl⟩ := xn_of hc (by omega)
      refine rn_ifz (lkX3_putIntoPool_29 Y) (fun q => absurd q (by decide)) (fun _ => ?_)
      first | refine rn_ald (lkX3_putIntoPool_32 Y) rfl ?_ | refine rn_aldO (lkX3_putIntoPool_32 Y) rfl ?_ | refine rn_aldN (lkX3_putIntoPool_32 Y) rfl ?_
      refine rn_ild (lkX3_putIntoPool_33 Y) rfl ?_
      refine rp_puti (c := 903) hR (lkX3_putIntoPool_34 Y) (by first | assumption | exact xq_v0 (by decide)) rfl (Nat.le_of_ble_eq_true rfl) (xw_fit_i _) rfl (fun q => absurd q (by decide)) (by simp [xq_en, xq_i_i, xq_r_i]) (fun w hR => ?_)
      first | refine rn_ald (lkX3_putIntoPool_37 Y) rfl ?_ | refine rn_aldO (lkX3_putIntoPool_37 Y) rfl ?_ | refine rn_aldN (lkX3_putIntoPool_37 Y) rfl ?_
      first | refine rn_ald (lkX3_putIntoPool_38 Y) rfl ?_ | refine rn_aldO (lkX3_putIntoPool_38 Y) rfl ?_ | refine rn_aldN (lkX3_putIntoPool_38 Y) rfl ?_
      refine rp_getf hR (lkX3_putIntoPool_39 Y) (by first | assumption | exact xq_v0 (by decide)) rfl rfl ?_
      refine rn_ild (lkX3_putIntoPool_42 Y) rfl ?_
      refine rp_ild4 hR (lkX3_putIntoPool_43 Y) rfl (by omega) ?_
      refine rp_puti (c := 904) hR (lkX3_putIntoPool_44 Y) (by first | assumption | exact xq_v0 (by decide)) rfl (Nat.le_of_ble_eq_true rfl) (xw_fit_i _) rfl (fun q => absurd q (by decide)) (by simp [xq_en, xq_i_i, xq_r_i]) (fun w hR => ?_)
      first | refine rn_ald (lkX3_putIntoPool_47 Y) rfl ?_ | refine rn_aldO (lkX3_putIntoPool_47 Y) rfl ?_ | refine rn_aldN (lkX3_putIntoPool_47 Y) rfl ?_
      refine rp_getf hR (lkX3_putIntoPool_48 Y) (by first | assumption | exact xq_v0 (by decide)) rfl rfl ?_
      refine rn_ild (lkX3_putIntoPool_51 Y) rfl ?_
      refine rn_dup2 (lkX3_putIntoPool_52 Y) (by first | rfl | exact xw_cat_rf _) (by first | rfl | exact xw_cat_rf _) ?_
      refine rp_ild4 hR (lkX3_putIntoPool_53 Y) rfl (by omega) ?_
      refine rn_push (lkX3_putIntoPool_54 Y) ?_
      refine rn_i2 (lkX3_putIntoPool_55 Y) ?_
      refine rp_ist4 hR (lkX3_putIntoPool_56 Y) rfl (by omega) (fun w hR => ?_)
      refine rn_vret (lkX3_putIntoPool_57 Y) ?_
      exact ⟨h k p _ hk hp hR, Nat.le_refl _, Nat.le_refl _⟩

end XCD
