/-! THE TABLE IS DRAWN: its bouts -/
section XCG
variable {Y : xw_Y} {ad : Nat → Nat → Nat} {s : xq_S} {w w0 : xw_W} {post : Option Value → xw_W → Prop}
theorem fr_count (s : xq_S) (k : Nat) (x y z t : Int32) {c : Nat} (i : Nat) (h : c < 908 ∨ 911 < c) : xq_i (mo_count s k x y z t) c i = xq_i s c i := by
  unfold mo_count
  simp only [xq_i_i]
  rw [if_neg (by omega), if_neg (by omega), if_neg (by omega), if_neg (by omega)]
theorem fr_scount (s : xq_S) (c0 b : Nat) (o : Option Nat) (x y z : Int32) {c : Nat} (i : Nat) (h : c < 908 ∨ 911 < c) : xq_i (mo_scount s c0 b o x y z) c i = xq_i s c i := by
  unfold mo_scount
  split
  · rfl
  · exact fr_count _ _ _ _ _ _ i h
theorem fr_bcount (s : xq_S) (b : Nat) (o : Option Nat) (x y z : Int32) {c : Nat} (i : Nat) (h : c < 908 ∨ 911 < c) : xq_i (mo_bcount s b o x y z) c i = xq_i s c i := by
  unfold mo_bcount
  rw [fr_scount _ _ _ _ _ _ _ i h, fr_scount _ _ _ _ _ _ _ i h]
theorem fr_lose (s : xq_S) (b : Nat) (l : Option Nat) {c : Nat} (i : Nat) (h : ¬ c = 913) : xq_i (mo_lose s b l) c i = xq_i s c i := by
  unfold mo_lose
  split
  · rfl
  · rw [xq_i_i, if_neg (fun z => h z.1)]
theorem fr_goOnT (s : xq_S) (b : Nat) (c i : Nat) : xq_i (mo_goOnT s b) c i = xq_i s c i := by
  unfold mo_goOnT
  split
  · rfl
  · split <;> rfl
theorem fr_decide (s : xq_S) (b : Nat) (o : Option Nat) {c : Nat} (i : Nat) (h : c < 900) : xq_i (mo_decide s b o) c i = xq_i s c i := by
  unfold mo_decide
  dsimp only
  have e : xq_i (xu_r (xu_i s 1004 b 2) 1005 b o) c i = xq_i s c i := by
    rw [xq_i_r, xq_i_i, if_neg (by omega)]
  split
  · rw [fr_bcount _ _ _ _ _ _ i (by omega), e]
  · rw [fr_goOnT, fr_lose _ _ _ i (by omega), e]
def mo_enter (s : xq_S) (j : Nat) : xq_S := match mo_onLine s j with
  | none => s
  | some k => xu_i (xu_i s 912 k (nI j)) 913 k 4
def mo_tb1 (s : xq_S) : Nat → xq_S
  | 0 => s
  | i + 1 => mo_bout (mo_enter (mo_enter (mo_tb1 s i) (2 * i)) (2 * i + 1)) (nI (mo_tb1 s i).2.1) 0 (mo_onLine (mo_tb1 s i) (2 * i)) (mo_onLine (mo_enter (mo_tb1 s i) (2 * i)) (2 * i + 1))
def mo_tb2 (s : xq_S) (r : Nat) : Nat → xq_S
  | 0 => s
  | i + 1 => mo_bout (mo_tb2 s r i) (nI (mo_tb2 s r i).2.1) (nI r) none none
def mo_tb3 : Nat → xq_S → Nat → Nat → xq_S
  | 0, s, _, _ => s
  | f + 1, s, r, q => if q = 0 then s else mo_tb3 f (mo_tb2 s r q) (r + 1) (q / 2)
def mo_dwo (s : xq_S) (F : Nat) : Nat → xq_S
  | 0 => s
  | i + 1 => if mo_known (mo_dwo s F i) (F + i) = 0 then mo_decide (mo_dwo s F i) (F + i) (if xq_r (mo_dwo s F i) 1100 (F + i) = none then xq_r (mo_dwo s F i) 1200 (F + i) else xq_r (mo_dwo s F i) 1100 (F + i)) else mo_dwo s F i
theorem mo_enter_1 (s : xq_S) (j : Nat) : (mo_enter s j).1 = s.1 := by
  unfold mo_enter
  split <;> rfl
theorem mo_enter_2 (s : xq_S) (j : Nat) : (mo_enter s j).2.1 = s.2.1 := by
  unfold mo_enter
  split <;> rfl
theorem fr_enter (s : xq_S) (j : Nat) {c : Nat} (i : Nat) (h : c < 912) : xq_i (mo_enter s j) c i = xq_i s c i := by
  unfold mo_enter
  split
  · rfl
  · rw [xq_i_i, if_neg (by omega), xq_i_i, if_neg (by omega)]
theorem mo_dwo_1 (s : xq_S) (F : Nat) : ∀ n, (mo_dwo s F n).1 = s.1
  | 0 => rfl
  | n + 1 => by
    rw [mo_dwo]
    split
    · rw [mo_decide_1, mo_dwo_1 s F n]
    · exact mo_dwo_1 s F n
theorem mo_dwo_2 (s : xq_S) (F : Nat) : ∀ n, (mo_dwo s F n).2.1 = s.2.1
  | 0 => rfl
  | n + 1 => by
    rw [mo_dwo]
    split
    · rw [mo_decide_2, mo_dwo_2 s F n]
    · exact mo_dwo_2 s F n
theorem fr_dwo (s : xq_S) (F : Nat) {c : Nat} (i : Nat) (h : c < 900) : ∀ n, xq_i (mo_dwo s F n) c i = xq_i s c i
  | 0 => rfl
  | n + 1 => by
    rw [mo_dwo]
    split
    · rw [fr_decide _ _ _ i h, fr_dwo s F i h n]
    · exact fr_dwo s F i h n

set_option maxRecDepth 100000 in
set_option maxHeartbeats 4000000 in
theorem sc_enter {j n : Nat} (hR : xq_rp Y ad s w) (hn : xq_i s 8 0 = nI n) (hn2 : n ≤ 16) (hj : j < n) (h : ∀ w', xq_rp Y ad (mo_enter s j) w' → post (some (va_rf ((mo_onLine s j).map (ad 9)))) w') : ptX3_enteredOnLine Y [.ref (ad 0 0), .int (nI j)] w post := by
  refine ⟨(by first | exact Nat.le_of_ble_eq_true rfl | simp [lg_sl, xw_cat_rf, xw_cat_i, xw_cat_r, xw_cat_n, xw_cat_l]), ?_⟩
  first | refine rn_ald (lkX3_enteredOnLine_0 Y) rfl ?_ | refine rn_aldO (lkX3_enteredOnLine_0 Y) rfl ?_ | refine rn_aldN (lkX3_enteredOnLine_0 Y) rfl ?_
  refine rn_ild (lkX3_enteredOnLine_1 Y) rfl ?_
  refine rp_callV hR (lkX3_enteredOnLine_2 Y) rfl (by first | assumption | exact xq_v0 (by decide)) rfl (Nat.le_of_ble_eq_true rfl) (Nat.le_of_ble_eq_true rfl) (Nat.le_of_ble_eq_true rfl) ?_
  refine sc_onLine hR hn hn2 hj ?_
  unfold mo_enter at h
  rcases hL : mo_onLine s j with _ | k
  · rw [hL] at h
    rw [xq_rfN]
    dsimp only at h
    first | refine rn_ast (lkX3_enteredOnLine_5 Y) rfl ?_ | refine rn_astO (lkX3_enteredOnLine_5 Y) rfl ?_ | refine rn_astN (lkX3_enteredOnLine_5 Y) rfl ?_
    first | refine rn_ald (lkX3_enteredOnLine_6 Y) rfl ?_ | refine rn_aldO (lkX3_enteredOnLine_6 Y) rfl ?_ | refine rn_aldN (lkX3_enteredOnLine_6 Y) rfl ?_
    refine rn_ifnN (lkX3_enteredOnLine_7 Y) ?_
    first | refine rn_ald (lkX3_enteredOnLine_20 Y) rfl ?_ | refine rn_aldO (lkX3_enteredOnLine_20 Y) rfl ?_ | refine rn_aldN (lkX3_enteredOnLine_20 Y) rfl ?_
    refine rn_aret (lkX3_enteredOnLine_21 Y) (by first | exact xw_isR_ref _ | exact xw_isR_null | exact xw_isR_rf _) ?_
    exact ⟨h _ hR, Nat.le_refl _, Nat.le_refl _⟩
  · rw [hL] at h
    rw [xq_rfS]
    dsimp only at h
    have hv9 : xq_vl ad s 9 k := xq_v9 (mo_onLine_lt hR.2.2.1 hL)
    first | refine rn_ast (lkX3_enteredOnLine_5 Y) rfl ?_ | refine rn_astO (lkX3_enteredOnLine_5 Y) rfl ?_ | refine rn_astN (lkX3_enteredOnLine_5 Y) rfl ?_
    first | refine rn_ald (lkX3_enteredOnLine_6 Y) rfl ?_ | refine rn_aldO (lkX3_enteredOnLine_6 Y) rfl ?_ | refine rn_aldN (lkX3_enteredOnLine_6 Y) rfl ?_
    refine rn_ifnR (lkX3_enteredOnLine_7 Y) ?_
    first | refine rn_ald (lkX3_enteredOnLine_10 Y) rfl ?_ | refine rn_aldO (lkX3_enteredOnLine_10 Y) rfl ?_ | refine rn_aldN (lkX3_enteredOnLine_10 Y) rfl ?_
    refine rn_ild (lkX3_enteredOnLine_11 Y) rfl ?_
    refine rp_puti (c := 912) hR (lkX3_enteredOnLine_12 Y) (by first | assumption | exact xq_v0 (by decide)) rfl (Nat.le_of_ble_eq_true rfl) (xw_fit_i _) rfl (fun q => absurd q (by decide)) (by simp [xq_en, xq_i_i, xq_r_i]) (fun w hR => ?_)
    first | refine rn_ald (lkX3_enteredOnLine_15 Y) rfl ?_ | refine rn_aldO (lkX3_enteredOnLine_15 Y) rfl ?_ | refine rn_aldN (lkX3_enteredOnLine_15 Y) rfl ?_
    refine rn_push (lkX3_enteredOnLine_16 Y) ?_
    refine rp_puti (c := 913) hR (lkX3_enteredOnLine_17 Y) (by first | assumption | exact xq_v0 (by decide)) rfl (Nat.le_of_ble_eq_true rfl) (xw_fit_i _) rfl (fun q => absurd q (by decide)) (by simp [xq_en, xq_i_i, xq_r_i]) (fun w hR => ?_)
    first | refine rn_ald (lkX3_enteredOnLine_20 Y) rfl ?_ | refine rn_aldO (lkX3_enteredOnLine_20 Y) rfl ?_ | refine rn_aldN (lkX3_enteredOnLine_20 Y) rfl ?_
    refine rn_aret (lkX3_enteredOnLine_21 Y) (by first | exact xw_isR_ref _ | exact xw_isR_null | exact xw_isR_rf _) ?_
    exact ⟨h _ hR, Nat.le_refl _, Nat.le_refl _⟩

set_option maxRecDepth 100000 in
set_option maxHeartbeats 4000000 in
theorem lp_dwo {F T : Nat} (h9 : xq_i s 9 0 = nI F) (h8 : xq_i s 8 0 = nI T) (hT : T ≤ 16) (hF : F + T / 2 ≤ s.2.1) (hB : s.2.1 ≤ 200) {Rt : xw_R} (h : ∀ w', xq_rp Y ad (mo_dwo s F (T / 2)) w' → Rt none w' 0 0) : ∀ (j i : Nat), i + j = T / 2 → ∀ (w : xw_W) (lv : xw_L), xq_rp Y ad (mo_dwo s F i) w → xw_lk lv 0 = some (.ref (ad 0 0)) → xw_lk lv 1 = some (.int (nI i)) → xw_Run (tbX3_decideWithoutOther Y) Rt 2 lv [] w 0 0 := by
  intro j
  induction j with
  | zero =>
    intro i hi w lv hR hl0 hl1
    have hv0 : xq_vl ad (mo_dwo s F i) 0 0 := xq_v0 (by decide)
    refine rn_ild (lkX3_decideWithoutOther_2 Y) (by repeat (first | assumption | exact xw_lk_e _ _ _ | exact xw_lk_e2 _ _ _ | refine xw_lk_s (by decide) (by first | exact Or.inl rfl | exact Or.inl (xw_cat_rf _) | exact Or.inr (by decide)) ?_ | refine xw_lk_s2 (by decide) (by decide) (by first | exact Or.inl rfl | exact Or.inl (xw_cat_rf _) | exact Or.inr (by decide)) ?_)) ?_
    first | refine rn_ald (lkX3_decideWithoutOther_3 Y) (by repeat (first | assumption | exact xw_lk_e _ _ _ | exact xw_lk_e2 _ _ _ | refine xw_lk_s (by decide) (by first | exact Or.inl rfl | exact Or.inl (xw_cat_rf _) | exact Or.inr (by decide)) ?_ | refine xw_lk_s2 (by decide) (by decide) (by first | exact Or.inl rfl | exact Or.inl (xw_cat_rf _) | exact Or.inr (by decide)) ?_)) ?_ | refine rn_aldO (lkX3_decideWithoutOther_3 Y) (by repeat (first | assumption | exact xw_lk_e _ _ _ | exact xw_lk_e2 _ _ _ | refine xw_lk_s (by decide) (by first | exact Or.inl rfl | exact Or.inl (xw_cat_rf _) | exact Or.inr (by decide)) ?_ | refine xw_lk_s2 (by decide) (by decide) (by first | exact Or.inl rfl | exact Or.inl (xw_cat_rf _) | exact Or.inr (by decide)) ?_)) ?_ | refine rn_aldN (lkX3_decideWithoutOther_3 Y) (by repeat (first | assumption | exact xw_lk_e _ _ _ | exact xw_lk_e2 _ _ _ | refine xw_lk_s (by decide) (by first | exact Or.inl rfl | exact Or.inl (xw_cat_rf _) | exact Or.inr (by decide)) ?_ | refine xw_lk_s2 (by decide) (by decide) (by first | exact Or.inl rfl | exact Or.inl (xw_cat_rf _) | exact Or.inr (by decide)) ?_)) ?_
    refine rp_getf hR (lkX3_decideWithoutOther_4 Y) (by first | assumption | exact xq_v0 (by decide)) rfl rfl ?_
    refine rn_push (lkX3_decideWithoutOther_7 Y) ?_
    refine rn_i2z (lkX3_decideWithoutOther_8 Y) (by decide) ?_
    refine rn_ifc (lkX3_decideWithoutOther_9 Y) (fun _ => ?_) (fun q => absurd (show xq_i (mo_dwo s F i) 8 0 / 2 ≤ nI i by
      show xq_i (mo_dwo s F i) 8 0 / 2 ≤ nI i
      rw [fr_dwo s F 0 (by decide), h8, show (nI T : Int32) / 2 = nI (T / 2) from pk_div (by omega) (by decide) (by decide)]
      exact nI_le (by omega) (by omega)) q)
    refine rn_vret (lkX3_decideWithoutOther_94 Y) ?_
    rw [show i = T / 2 by omega] at hR
    exact h _ hR
  | succ j ih =>
    intro i hi w lv hR hl0 hl1
    have hv0 : xq_vl ad (mo_dwo s F i) 0 0 := xq_v0 (by decide)
    have hki : i < T / 2 := by omega
    have hbi : F + i < (mo_dwo s F i).2.1 := by rw [mo_dwo_2]; omega
    have hnum : xq_i (mo_dwo s F i) 9 0 + nI i = nI (F + i) := by rw [fr_dwo s F 0 (by decide), h9, nI_add]
    have hv10 : xq_vl ad (mo_dwo s F i) 10 (F + i) := xq_v10 hbi
    have hv11 : xq_vl ad (mo_dwo s F i) 11 (F + i) := xq_v11 hbi
    have hv12 : xq_vl ad (mo_dwo s F i) 12 (F + i) := xq_v12 hbi
    refine rn_ild (lkX3_decideWithoutOther_2 Y) (by repeat (first | assumption | exact xw_lk_e _ _ _ | exact xw_lk_e2 _ _ _ | refine xw_lk_s (by decide) (by first | exact Or.inl rfl | exact Or.inl (xw_cat_rf _) | exact Or.inr (by decide)) ?_ | refine xw_lk_s2 (by decide) (by decide) (by first | exact Or.inl rfl | exact Or.inl (xw_cat_rf _) | exact Or.inr (by decide)) ?_)) ?_
    first | refine rn_ald (lkX3_decideWithoutOther_3 Y) (by repeat (first | assumption | exact xw_lk_e _ _ _ | exact xw_lk_e2 _ _ _ | refine xw_lk_s (by decide) (by first | exact Or.inl rfl | exact Or.inl (xw_cat_rf _) | exact Or.inr (by decide)) ?_ | refine xw_lk_s2 (by decide) (by decide) (by first | exact Or.inl rfl | exact Or.inl (xw_cat_rf _) | exact Or.inr (by decide)) ?_)) ?_ | refine rn_aldO (lkX3_decideWithoutOther_3 Y) (by repeat (first | assumption | exact xw_lk_e _ _ _ | exact xw_lk_e2 _ _ _ | refine xw_lk_s (by decide) (by first | exact Or.inl rfl | exact Or.inl (xw_cat_rf _) | exact Or.inr (by decide)) ?_ | refine xw_lk_s2 (by decide) (by decide) (by first | exact Or.inl rfl | exact Or.inl (xw_cat_rf _) | exact Or.inr (by decide)) ?_)) ?_ | refine rn_aldN (lkX3_decideWithoutOther_3 Y) (by repeat (first | assumption | exact xw_lk_e _ _ _ | exact xw_lk_e2 _ _ _ | refine xw_lk_s (by decide) (by first | exact Or.inl rfl | exact Or.inl (xw_cat_rf _) | exact Or.inr (by decide)) ?_ | refine xw_lk_s2 (by decide) (by decide) (by first | exact Or.inl rfl | exact Or.inl (xw_cat_rf _) | exact Or.inr (by decide)) ?_)) ?_
    refine rp_getf hR (lkX3_decideWithoutOther_4 Y) (by first | assumption | exact xq_v0 (by decide)) rfl rfl ?_
    refine rn_push (lkX3_decideWithoutOther_7 Y) ?_
    refine rn_i2z (lkX3_decideWithoutOther_8 Y) (by decide) ?_
    refine rn_ifc (lkX3_decideWithoutOther_9 Y) (fun q => absurd q (show ¬ xq_i (mo_dwo s F i) 8 0 / 2 ≤ nI i by
      show ¬ xq_i (mo_dwo s F i) 8 0 / 2 ≤ nI i
      rw [fr_dwo s F 0 (by decide), h8, show (nI T : Int32) / 2 = nI (T / 2) from pk_div (by omega) (by decide) (by decide)]
      exact nI_ge (by omega) (by omega))) (fun _ => ?_)
    first | refine rn_ald (lkX3_decideWithoutOther_12 Y) (by repeat (first | assumption | exact xw_lk_e _ _ _ | exact xw_lk_e2 _ _ _ | refine xw_lk_s (by decide) (by first | exact Or.inl rfl | exact Or.inl (xw_cat_rf _) | exact Or.inr (by decide)) ?_ | refine xw_lk_s2 (by decide) (by decide) (by first | exact Or.inl rfl | exact Or.inl (xw_cat_rf _) | exact Or.inr (by decide)) ?_)) ?_ | refine rn_aldO (lkX3_decideWithoutOther_12 Y) (by repeat (first | assumption | exact xw_lk_e _ _ _ | exact xw_lk_e2 _ _ _ | refine xw_lk_s (by decide) (by first | exact Or.inl rfl | exact Or.inl (xw_cat_rf _) | exact Or.inr (by decide)) ?_ | refine xw_lk_s2 (by decide) (by decide) (by first | exact Or.inl rfl | exact Or.inl (xw_cat_rf _) | exact Or.inr (by decide)) ?_)) ?_ | refine rn_aldN (lkX3_decideWithoutOther_12 Y) (by repeat (first | assumption | exact xw_lk_e _ _ _ | exact xw_lk_e2 _ _ _ | refine xw_lk_s (by decide) (by first | exact Or.inl rfl | exact Or.inl (xw_cat_rf _) | exact Or.inr (by decide)) ?_ | refine xw_lk_s2 (by decide) (by decide) (by first | exact Or.inl rfl | exact Or.inl (xw_cat_rf _) | exact Or.inr (by decide)) ?_)) ?_
    refine rp_getf hR (lkX3_decideWithoutOther_13 Y) (by first | assumption | exact xq_v0 (by decide)) rfl rfl ?_
    refine rn_ild (lkX3_decideWithoutOther_16 Y) (by repeat (first | assumption | exact xw_lk_e _ _ _ | exact xw_lk_e2 _ _ _ | refine xw_lk_s (by decide) (by first | exact Or.inl rfl | exact Or.inl (xw_cat_rf _) | exact Or.inr (by decide)) ?_ | refine xw_lk_s2 (by decide) (by decide) (by first | exact Or.inl rfl | exact Or.inl (xw_cat_rf _) | exact Or.inr (by decide)) ?_)) ?_
    refine rn_i2 (lkX3_decideWithoutOther_17 Y) ?_
    refine rn_ist (lkX3_decideWithoutOther_18 Y) rfl ?_
    refine rn_ild (lkX3_decideWithoutOther_19 Y) (by repeat (first | assumption | exact xw_lk_e _ _ _ | exact xw_lk_e2 _ _ _ | refine xw_lk_s (by decide) (by first | exact Or.inl rfl | exact Or.inl (xw_cat_rf _) | exact Or.inr (by decide)) ?_ | refine xw_lk_s2 (by decide) (by decide) (by first | exact Or.inl rfl | exact Or.inl (xw_cat_rf _) | exact Or.inr (by decide)) ?_)) ?_
    refine rn_push (lkX3_decideWithoutOther_20 Y) ?_
    first | refine rn_ald (lkX3_decideWithoutOther_21 Y) (by repeat (first | assumption | exact xw_lk_e _ _ _ | exact xw_lk_e2 _ _ _ | refine xw_lk_s (by decide) (by first | exact Or.inl rfl | exact Or.inl (xw_cat_rf _) | exact Or.inr (by decide)) ?_ | refine xw_lk_s2 (by decide) (by decide) (by first | exact Or.inl rfl | exact Or.inl (xw_cat_rf _) | exact Or.inr (by decide)) ?_)) ?_ | refine rn_aldO (lkX3_decideWithoutOther_21 Y) (by repeat (first | assumption | exact xw_lk_e _ _ _ | exact xw_lk_e2 _ _ _ | refine xw_lk_s (by decide) (by first | exact Or.inl rfl | exact Or.inl (xw_cat_rf _) | exact Or.inr (by decide)) ?_ | refine xw_lk_s2 (by decide) (by decide) (by first | exact Or.inl rfl | exact Or.inl (xw_cat_rf _) | exact Or.inr (by decide)) ?_)) ?_ | refine rn_aldN (lkX3_decideWithoutOther_21 Y) (by repeat (first | assumption | exact xw_lk_e _ _ _ | exact xw_lk_e2 _ _ _ | refine xw_lk_s (by decide) (by first | exact Or.inl rfl | exact Or.inl (xw_cat_rf _) | exact Or.inr (by decide)) ?_ | refine xw_lk_s2 (by decide) (by decide) (by first | exact Or.inl rfl | exact Or.inl (xw_cat_rf _) | exact Or.inr (by decide)) ?_)) ?_
    refine rp_getf hR (lkX3_decideWithoutOther_22 Y) (by first | assumption | exact xq_v0 (by decide)) rfl rfl ?_
    refine rp_callV hR (lkX3_decideWithoutOther_25 Y) rfl (by first | assumption | exact xq_v0 (by decide)) rfl (Nat.le_of_ble_eq_true rfl) (Nat.le_of_ble_eq_true rfl) (Nat.le_of_ble_eq_true rfl) ?_
    refine sl_sizeB hR ?_
    refine rn_push (lkX3_decideWithoutOther_28 Y) ?_
    refine rn_i2 (lkX3_decideWithoutOther_29 Y) ?_
    refine rn_callS (lkX3_decideWithoutOther_30 Y) (Nat.le_of_ble_eq_true rfl) rfl (Nat.le_of_ble_eq_true rfl) (Nat.le_of_ble_eq_true rfl) (Nat.le_of_ble_eq_true rfl) ?_
    rw [hnum]
    refine sc_in1 (xn_in hbi (by rw [mo_dwo_2]; omega)) ?_
    refine rn_ifz (lkX3_decideWithoutOther_33 Y) (fun _ => ?_) (fun q => absurd (by decide) q)
    first | refine rn_ald (lkX3_decideWithoutOther_37 Y) (by repeat (first | assumption | exact xw_lk_e _ _ _ | exact xw_lk_e2 _ _ _ | refine xw_lk_s (by decide) (by first | exact Or.inl rfl | exact Or.inl (xw_cat_rf _) | exact Or.inr (by decide)) ?_ | refine xw_lk_s2 (by decide) (by decide) (by first | exact Or.inl rfl | exact Or.inl (xw_cat_rf _) | exact Or.inr (by decide)) ?_)) ?_ | refine rn_aldO (lkX3_decideWithoutOther_37 Y) (by repeat (first | assumption | exact xw_lk_e _ _ _ | exact xw_lk_e2 _ _ _ | refine xw_lk_s (by decide) (by first | exact Or.inl rfl | exact Or.inl (xw_cat_rf _) | exact Or.inr (by decide)) ?_ | refine xw_lk_s2 (by decide) (by decide) (by first | exact Or.inl rfl | exact Or.inl (xw_cat_rf _) | exact Or.inr (by decide)) ?_)) ?_ | refine rn_aldN (lkX3_decideWithoutOther_37 Y) (by repeat (first | assumption | exact xw_lk_e _ _ _ | exact xw_lk_e2 _ _ _ | refine xw_lk_s (by decide) (by first | exact Or.inl rfl | exact Or.inl (xw_cat_rf _) | exact Or.inr (by decide)) ?_ | refine xw_lk_s2 (by decide) (by decide) (by first | exact Or.inl rfl | exact Or.inl (xw_cat_rf _) | exact Or.inr (by decide)) ?_)) ?_
    refine rp_getf hR (lkX3_decideWithoutOther_38 Y) (by first | assumption | exact xq_v0 (by decide)) rfl rfl ?_
    refine rn_ild (lkX3_decideWithoutOther_41 Y) (by repeat (first | assumption | exact xw_lk_e _ _ _ | exact xw_lk_e2 _ _ _ | refine xw_lk_s (by decide) (by first | exact Or.inl rfl | exact Or.inl (xw_cat_rf _) | exact Or.inr (by decide)) ?_ | refine xw_lk_s2 (by decide) (by decide) (by first | exact Or.inl rfl | exact Or.inl (xw_cat_rf _) | exact Or.inr (by decide)) ?_)) ?_
    refine rp_callV hR (lkX3_decideWithoutOther_42 Y) rfl (by first | assumption | exact xq_v0 (by decide)) rfl (Nat.le_of_ble_eq_true rfl) (Nat.le_of_ble_eq_true rfl) (Nat.le_of_ble_eq_true rfl) ?_
    refine sl_getB hR hbi rfl ?_
    refine rp_cast hR (lkX3_decideWithoutOther_45 Y) (by first | assumption | exact xq_v0 (by decide)) rfl ?_
    first | refine rn_ast (lkX3_decideWithoutOther_48 Y) rfl ?_ | refine rn_astO (lkX3_decideWithoutOther_48 Y) rfl ?_ | refine rn_astN (lkX3_decideWithoutOther_48 Y) rfl ?_
    first | refine rn_ald (lkX3_decideWithoutOther_49 Y) (by repeat (first | assumption | exact xw_lk_e _ _ _ | exact xw_lk_e2 _ _ _ | refine xw_lk_s (by decide) (by first | exact Or.inl rfl | exact Or.inl (xw_cat_rf _) | exact Or.inr (by decide)) ?_ | refine xw_lk_s2 (by decide) (by decide) (by first | exact Or.inl rfl | exact Or.inl (xw_cat_rf _) | exact Or.inr (by decide)) ?_)) ?_ | refine rn_aldO (lkX3_decideWithoutOther_49 Y) (by repeat (first | assumption | exact xw_lk_e _ _ _ | exact xw_lk_e2 _ _ _ | refine xw_lk_s (by decide) (by first | exact Or.inl rfl | exact Or.inl (xw_cat_rf _) | exact Or.inr (by decide)) ?_ | refine xw_lk_s2 (by decide) (by decide) (by first | exact Or.inl rfl | exact Or.inl (xw_cat_rf _) | exact Or.inr (by decide)) ?_)) ?_ | refine rn_aldN (lkX3_decideWithoutOther_49 Y) (by repeat (first | assumption | exact xw_lk_e _ _ _ | exact xw_lk_e2 _ _ _ | refine xw_lk_s (by decide) (by first | exact Or.inl rfl | exact Or.inl (xw_cat_rf _) | exact Or.inr (by decide)) ?_ | refine xw_lk_s2 (by decide) (by decide) (by first | exact Or.inl rfl | exact Or.inl (xw_cat_rf _) | exact Or.inr (by decide)) ?_)) ?_
    refine rp_callV hR (lkX3_decideWithoutOther_50 Y) rfl (by first | assumption | exact xq_v0 (by decide)) rfl (Nat.le_of_ble_eq_true rfl) (Nat.le_of_ble_eq_true rfl) (Nat.le_of_ble_eq_true rfl) ?_
    refine sc_known hR hbi ?_
    by_cases hq : mo_known (mo_dwo s F i) (F + i) = 0
    · rw [hq]
      refine rn_ifz (lkX3_decideWithoutOther_53 Y) (fun q => absurd q (by decide)) (fun _ => ?_)
      first | refine rn_ald (lkX3_decideWithoutOther_56 Y) (by repeat (first | assumption | exact xw_lk_e _ _ _ | exact xw_lk_e2 _ _ _ | refine xw_lk_s (by decide) (by first | exact Or.inl rfl | exact Or.inl (xw_cat_rf _) | exact Or.inr (by decide)) ?_ | refine xw_lk_s2 (by decide) (by decide) (by first | exact Or.inl rfl | exact Or.inl (xw_cat_rf _) | exact Or.inr (by decide)) ?_)) ?_ | refine rn_aldO (lkX3_decideWithoutOther_56 Y) (by repeat (first | assumption | exact xw_lk_e _ _ _ | exact xw_lk_e2 _ _ _ | refine xw_lk_s (by decide) (by first | exact Or.inl rfl | exact Or.inl (xw_cat_rf _) | exact Or.inr (by decide)) ?_ | refine xw_lk_s2 (by decide) (by decide) (by first | exact Or.inl rfl | exact Or.inl (xw_cat_rf _) | exact Or.inr (by decide)) ?_)) ?_ | refine rn_aldN (lkX3_decideWithoutOther_56 Y) (by repeat (first | assumption | exact xw_lk_e _ _ _ | exact xw_lk_e2 _ _ _ | refine xw_lk_s (by decide) (by first | exact Or.inl rfl | exact Or.inl (xw_cat_rf _) | exact Or.inr (by decide)) ?_ | refine xw_lk_s2 (by decide) (by decide) (by first | exact Or.inl rfl | exact Or.inl (xw_cat_rf _) | exact Or.inr (by decide)) ?_)) ?_
      first | refine rn_ald (lkX3_decideWithoutOther_57 Y) (by repeat (first | assumption | exact xw_lk_e _ _ _ | exact xw_lk_e2 _ _ _ | refine xw_lk_s (by decide) (by first | exact Or.inl rfl | exact Or.inl (xw_cat_rf _) | exact Or.inr (by decide)) ?_ | refine xw_lk_s2 (by decide) (by decide) (by first | exact Or.inl rfl | exact Or.inl (xw_cat_rf _) | exact Or.inr (by decide)) ?_)) ?_ | refine rn_aldO (lkX3_decideWithoutOther_57 Y) (by repeat (first | assumption | exact xw_lk_e _ _ _ | exact xw_lk_e2 _ _ _ | refine xw_lk_s (by decide) (by first | exact Or.inl rfl | exact Or.inl (xw_cat_rf _) | exact Or.inr (by decide)) ?_ | refine xw_lk_s2 (by decide) (by decide) (by first | exact Or.inl rfl | exact Or.inl (xw_cat_rf _) | exact Or.inr (by decide)) ?_)) ?_ | refine rn_aldN (lkX3_decideWithoutOther_57 Y) (by repeat (first | assumption | exact xw_lk_e _ _ _ | exact xw_lk_e2 _ _ _ | refine xw_lk_s (by decide) (by first | exact Or.inl rfl | exact Or.inl (xw_cat_rf _) | exact Or.inr (by decide)) ?_ | refine xw_lk_s2 (by decide) (by decide) (by first | exact Or.inl rfl | exact Or.inl (xw_cat_rf _) | exact Or.inr (by decide)) ?_)) ?_
      first | refine rn_ald (lkX3_decideWithoutOther_58 Y) (by repeat (first | assumption | exact xw_lk_e _ _ _ | exact xw_lk_e2 _ _ _ | refine xw_lk_s (by decide) (by first | exact Or.inl rfl | exact Or.inl (xw_cat_rf _) | exact Or.inr (by decide)) ?_ | refine xw_lk_s2 (by decide) (by decide) (by first | exact Or.inl rfl | exact Or.inl (xw_cat_rf _) | exact Or.inr (by decide)) ?_)) ?_ | refine rn_aldO (lkX3_decideWithoutOther_58 Y) (by repeat (first | assumption | exact xw_lk_e _ _ _ | exact xw_lk_e2 _ _ _ | refine xw_lk_s (by decide) (by first | exact Or.inl rfl | exact Or.inl (xw_cat_rf _) | exact Or.inr (by decide)) ?_ | refine xw_lk_s2 (by decide) (by decide) (by first | exact Or.inl rfl | exact Or.inl (xw_cat_rf _) | exact Or.inr (by decide)) ?_)) ?_ | refine rn_aldN (lkX3_decideWithoutOther_58 Y) (by repeat (first | assumption | exact xw_lk_e _ _ _ | exact xw_lk_e2 _ _ _ | refine xw_lk_s (by decide) (by first | exact Or.inl rfl | exact Or.inl (xw_cat_rf _) | exact Or.inr (by decide)) ?_ | refine xw_lk_s2 (by decide) (by decide) (by first | exact Or.inl rfl | exact Or.inl (xw_cat_rf _) | exact Or.inr (by decide)) ?_)) ?_
      refine rp_getf hR (lkX3_decideWithoutOther_59 Y) (by first | assumption | exact xq_v0 (by decide)) rfl rfl ?_
      refine rp_getf hR (lkX3_decideWithoutOther_62 Y) (by first | assumption | exact xq_v0 (by decide)) rfl rfl ?_
      rcases hL : xq_r (mo_dwo s F i) 1100 (F + i) with _ | k
      · rw [xq_rfN]
        refine rn_ifnN (lkX3_decideWithoutOther_65 Y) ?_
        first | refine rn_ald (lkX3_decideWithoutOther_68 Y) (by repeat (first | assumption | exact xw_lk_e _ _ _ | exact xw_lk_e2 _ _ _ | refine xw_lk_s (by decide) (by first | exact Or.inl rfl | exact Or.inl (xw_cat_rf _) | exact Or.inr (by decide)) ?_ | refine xw_lk_s2 (by decide) (by decide) (by first | exact Or.inl rfl | exact Or.inl (xw_cat_rf _) | exact Or.inr (by decide)) ?_)) ?_ | refine rn_aldO (lkX3_decideWithoutOther_68 Y) (by repeat (first | assumption | exact xw_lk_e _ _ _ | exact xw_lk_e2 _ _ _ | refine xw_lk_s (by decide) (by first | exact Or.inl rfl | exact Or.inl (xw_cat_rf _) | exact Or.inr (by decide)) ?_ | refine xw_lk_s2 (by decide) (by decide) (by first | exact Or.inl rfl | exact Or.inl (xw_cat_rf _) | exact Or.inr (by decide)) ?_)) ?_ | refine rn_aldN (lkX3_decideWithoutOther_68 Y) (by repeat (first | assumption | exact xw_lk_e _ _ _ | exact xw_lk_e2 _ _ _ | refine xw_lk_s (by decide) (by first | exact Or.inl rfl | exact Or.inl (xw_cat_rf _) | exact Or.inr (by decide)) ?_ | refine xw_lk_s2 (by decide) (by decide) (by first | exact Or.inl rfl | exact Or.inl (xw_cat_rf _) | exact Or.inr (by decide)) ?_)) ?_
        refine rp_getf hR (lkX3_decideWithoutOther_69 Y) (by first | assumption | exact xq_v0 (by decide)) rfl rfl ?_
        refine rp_getf hR (lkX3_decideWithoutOther_72 Y) (by first | assumption | exact xq_v0 (by decide)) rfl rfl ?_
        refine rn_goto (lkX3_decideWithoutOther_75 Y) ?_
        refine rp_callV hR (lkX3_decideWithoutOther_85 Y) rfl (by first | assumption | exact xq_v0 (by decide)) rfl (Nat.le_of_ble_eq_true rfl) (Nat.le_of_ble_eq_true rfl) (Nat.le_of_ble_eq_true rfl) ?_
        refine sc_decide hR hbi (fun k hk => hR.2.2.1.2.2.2.1 (F + i) k hbi hk) (fun w hR => ?_)
        refine rn_inc (lkX3_decideWithoutOther_88 Y) (by repeat (first | assumption | exact xw_lk_e _ _ _ | exact xw_lk_e2 _ _ _ | refine xw_lk_s (by decide) (by first | exact Or.inl rfl | exact Or.inl (xw_cat_rf _) | exact Or.inr (by decide)) ?_ | refine xw_lk_s2 (by decide) (by decide) (by first | exact Or.inl rfl | exact Or.inl (xw_cat_rf _) | exact Or.inr (by decide)) ?_)) rfl ?_
        refine rn_goto (lkX3_decideWithoutOther_91 Y) ?_
        have e : mo_dwo s F (i + 1) = mo_decide (mo_dwo s F i) (F + i) (xq_r (mo_dwo s F i) 1200 (F + i)) := by rw [mo_dwo, if_pos hq, hL, if_pos rfl]
        exact ih (i + 1) (by omega) _ _ (by rw [e]; exact hR) (by repeat (first | assumption | exact xw_lk_e _ _ _ | exact xw_lk_e2 _ _ _ | refine xw_lk_s (by decide) (by first | exact Or.inl rfl | exact Or.inl (xw_cat_rf _) | exact Or.inr (by decide)) ?_ | refine xw_lk_s2 (by decide) (by decide) (by first | exact Or.inl rfl | exact Or.inl (xw_cat_rf _) | exact Or.inr (by decide)) ?_)) (by rw [← nI_1]; repeat (first | assumption | exact xw_lk_e _ _ _ | exact xw_lk_e2 _ _ _ | refine xw_lk_s (by decide) (by first | exact Or.inl rfl | exact Or.inl (xw_cat_rf _) | exact Or.inr (by decide)) ?_ | refine xw_lk_s2 (by decide) (by decide) (by first | exact Or.inl rfl | exact Or.inl (xw_cat_rf _) | exact Or.inr (by decide)) ?_))
      · rw [xq_rfS]
        refine rn_ifnR (lkX3_decideWithoutOther_65 Y) ?_
        first | refine rn_ald (lkX3_decideWithoutOther_78 Y) (by repeat (first | assumption | exact xw_lk_e _ _ _ | exact xw_lk_e2 _ _ _ | refine xw_lk_s (by decide) (by first | exact Or.inl rfl | exact Or.inl (xw_cat_rf _) | exact Or.inr (by decide)) ?_ | refine xw_lk_s2 (by decide) (by decide) (by first | exact Or.inl rfl | exact Or.inl (xw_cat_rf _) | exact Or.inr (by decide)) ?_)) ?_ | refine rn_aldO (lkX3_decideWithoutOther_78 Y) (by repeat (first | assumption | exact xw_lk_e _ _ _ | exact xw_lk_e2 _ _ _ | refine xw_lk_s (by decide) (by first | exact Or.inl rfl | exact Or.inl (xw_cat_rf _) | exact Or.inr (by decide)) ?_ | refine xw_lk_s2 (by decide) (by decide) (by first | exact Or.inl rfl | exact Or.inl (xw_cat_rf _) | exact Or.inr (by decide)) ?_)) ?_ | refine rn_aldN (lkX3_decideWithoutOther_78 Y) (by repeat (first | assumption | exact xw_lk_e _ _ _ | exact xw_lk_e2 _ _ _ | refine xw_lk_s (by decide) (by first | exact Or.inl rfl | exact Or.inl (xw_cat_rf _) | exact Or.inr (by decide)) ?_ | refine xw_lk_s2 (by decide) (by decide) (by first | exact Or.inl rfl | exact Or.inl (xw_cat_rf _) | exact Or.inr (by decide)) ?_)) ?_
        refine rp_getf hR (lkX3_decideWithoutOther_79 Y) (by first | assumption | exact xq_v0 (by decide)) rfl rfl ?_
        refine rp_getf hR (lkX3_decideWithoutOther_82 Y) (by first | assumption | exact xq_v0 (by decide)) rfl rfl ?_
        rw [hL]
        refine rp_callV hR (lkX3_decideWithoutOther_85 Y) rfl (by first | assumption | exact xq_v0 (by decide)) rfl (Nat.le_of_ble_eq_true rfl) (Nat.le_of_ble_eq_true rfl) (Nat.le_of_ble_eq_true rfl) ?_
        refine sc_decide (o := some k) hR hbi (fun j hj => by cases hj; exact hR.2.2.1.2.2.1 (F + i) k hbi hL) (fun w hR => ?_)
        refine rn_inc (lkX3_decideWithoutOther_88 Y) (by repeat (first | assumption | exact xw_lk_e _ _ _ | exact xw_lk_e2 _ _ _ | refine xw_lk_s (by decide) (by first | exact Or.inl rfl | exact Or.inl (xw_cat_rf _) | exact Or.inr (by decide)) ?_ | refine xw_lk_s2 (by decide) (by decide) (by first | exact Or.inl rfl | exact Or.inl (xw_cat_rf _) | exact Or.inr (by decide)) ?_)) rfl ?_
        refine rn_goto (lkX3_decideWithoutOther_91 Y) ?_
        have e : mo_dwo s F (i + 1) = mo_decide (mo_dwo s F i) (F + i) (some k) := by rw [mo_dwo, if_pos hq, hL, if_neg (by simp)]
        exact ih (i + 1) (by omega) _ _ (by rw [e]; exact hR) (by repeat (first | assumption | exact xw_lk_e _ _ _ | exact xw_lk_e2 _ _ _ | refine xw_lk_s (by decide) (by first | exact Or.inl rfl | exact Or.inl (xw_cat_rf _) | exact Or.inr (by decide)) ?_ | refine xw_lk_s2 (by decide) (by decide) (by first | exact Or.inl rfl | exact Or.inl (xw_cat_rf _) | exact Or.inr (by decide)) ?_)) (by rw [← nI_1]; repeat (first | assumption | exact xw_lk_e _ _ _ | exact xw_lk_e2 _ _ _ | refine xw_lk_s (by decide) (by first | exact Or.inl rfl | exact Or.inl (xw_cat_rf _) | exact Or.inr (by decide)) ?_ | refine xw_lk_s2 (by decide) (by decide) (by first | exact Or.inl rfl | exact Or.inl (xw_cat_rf _) | exact Or.inr (by decide)) ?_))
    · skip
      refine rn_ifz (lkX3_decideWithoutOther_53 Y) (fun _ => ?_) (fun q => absurd hq q)
      refine rn_inc (lkX3_decideWithoutOther_88 Y) (by repeat (first | assumption | exact xw_lk_e _ _ _ | exact xw_lk_e2 _ _ _ | refine xw_lk_s (by decide) (by first | exact Or.inl rfl | exact Or.inl (xw_cat_rf _) | exact Or.inr (by decide)) ?_ | refine xw_lk_s2 (by decide) (by decide) (by first | exact Or.inl rfl | exact Or.inl (xw_cat_rf _) | exact Or.inr (by decide)) ?_)) rfl ?_
      refine rn_goto (lkX3_decideWithoutOther_91 Y) ?_
      have e : mo_dwo s F (i + 1) = mo_dwo s F i := by rw [mo_dwo, if_neg hq]
      exact ih (i + 1) (by omega) _ _ (by rw [e]; exact hR) (by repeat (first | assumption | exact xw_lk_e _ _ _ | exact xw_lk_e2 _ _ _ | refine xw_lk_s (by decide) (by first | exact Or.inl rfl | exact Or.inl (xw_cat_rf _) | exact Or.inr (by decide)) ?_ | refine xw_lk_s2 (by decide) (by decide) (by first | exact Or.inl rfl | exact Or.inl (xw_cat_rf _) | exact Or.inr (by decide)) ?_)) (by rw [← nI_1]; repeat (first | assumption | exact xw_lk_e _ _ _ | exact xw_lk_e2 _ _ _ | refine xw_lk_s (by decide) (by first | exact Or.inl rfl | exact Or.inl (xw_cat_rf _) | exact Or.inr (by decide)) ?_ | refine xw_lk_s2 (by decide) (by decide) (by first | exact Or.inl rfl | exact Or.inl (xw_cat_rf _) | exact Or.inr (by decide)) ?_))

set_option maxRecDepth 100000 in
set_option maxHeartbeats 4000000 in
theorem sc_dwo {F T : Nat} (hR : xq_rp Y ad s w) (h9 : xq_i s 9 0 = nI F) (h8 : xq_i s 8 0 = nI T) (hT : T ≤ 16) (hF : F + T / 2 ≤ s.2.1) (h : ∀ w', xq_rp Y ad (mo_dwo s F (T / 2)) w' → post none w') : ptX3_decideWithoutOther Y [.ref (ad 0 0)] w post := by
  refine ⟨(by first | exact Nat.le_of_ble_eq_true rfl | simp [lg_sl, xw_cat_rf, xw_cat_i, xw_cat_r, xw_cat_n, xw_cat_l]), ?_⟩
  refine rn_push (lkX3_decideWithoutOther_0 Y) ?_
  refine rn_ist (lkX3_decideWithoutOther_1 Y) rfl ?_
  exact lp_dwo h9 h8 hT hF (xq_nb hR) (fun w' hw' => ⟨h w' hw', Nat.le_refl _, Nat.le_refl _⟩) (T / 2) 0 (Nat.zero_add _) w _ hR rfl rfl

end XCG
