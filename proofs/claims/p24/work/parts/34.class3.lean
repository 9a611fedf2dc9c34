/-! BOUTS, on -/
section XM3
theorem mo_count_1 (s : xq_S) (k : Nat) (a b c d : Int32) : (mo_count s k a b c d).1 = s.1 := rfl
theorem mo_count_2 (s : xq_S) (k : Nat) (a b c d : Int32) : (mo_count s k a b c d).2.1 = s.2.1 := rfl
theorem mo_sbegin_1 (s : xq_S) (c b d : Nat) : (mo_sbegin s c b d).1 = s.1 := by unfold mo_sbegin; split <;> rfl
theorem mo_sbegin_2 (s : xq_S) (c b d : Nat) : (mo_sbegin s c b d).2.1 = s.2.1 := by unfold mo_sbegin; split <;> rfl
theorem mo_send_1 (s : xq_S) (c b : Nat) (t : Int32) : (mo_send s c b t).1 = s.1 := by unfold mo_send; split <;> rfl
theorem mo_send_2 (s : xq_S) (c b : Nat) (t : Int32) : (mo_send s c b t).2.1 = s.2.1 := by unfold mo_send; split <;> rfl
theorem mo_scount_1 (s : xq_S) (c b : Nat) (v : Option Nat) (x y z : Int32) : (mo_scount s c b v x y z).1 = s.1 := by unfold mo_scount; split <;> rfl
theorem mo_scount_2 (s : xq_S) (c b : Nat) (v : Option Nat) (x y z : Int32) : (mo_scount s c b v x y z).2.1 = s.2.1 := by unfold mo_scount; split <;> rfl
def mo_known (s : xq_S) (b : Nat) : Int32 := match xq_r s 1100 b with
  | none => 0
  | some _ => match xq_r s 1200 b with
    | none => 0
    | some _ => 1
def mo_rested (s : xq_S) (b : Nat) : Int32 := mo_max (mo_rest s 1100 b) (mo_rest s 1200 b)
/-- the side with priority: 11 the left one, 12 the right one -/
def mo_prio (s : xq_S) (b : Nat) : Nat := if (xq_i s 1000 b + xq_i s 1101 b) - (xq_i s 1000 b + xq_i s 1101 b) / 2 * 2 = 0 then 11 else 12
def mo_prioF (s : xq_S) (b : Nat) : Option Nat := if (xq_i s 1000 b + xq_i s 1101 b) - (xq_i s 1000 b + xq_i s 1101 b) / 2 * 2 = 0 then xq_r s 1100 b else xq_r s 1200 b
def mo_win (s : xq_S) (b : Nat) : Option Nat := if xq_i s 1101 b = xq_i s 1201 b then mo_prioF s b else if xq_i s 1101 b ≤ xq_i s 1201 b then xq_r s 1200 b else xq_r s 1100 b
def mo_decided (s : xq_S) (b : Nat) : Int32 := if ¬ mo_extra s b = 0 ∨ mo_goal s b ≤ xq_i s 1101 b ∨ mo_goal s b ≤ xq_i s 1201 b then 1 else 0
def mo_until (s : xq_S) (b : Nat) : Int32 := if mo_extra s b = 0 then
    (if xq_i s 1101 b = xq_i s 1201 b then xq_i s 1008 b + (mo_periods s b - xq_i s 1007 b) * 180 + 60 else xq_i s 1008 b + (mo_periods s b - xq_i s 1007 b) * 180)
  else xq_i s 1008 b
def mo_bbegin (s : xq_S) (b : Nat) (piste : Int32) : xq_S :=
  let s := xu_i s 1004 b 1
  let s := xu_i s 1006 b piste
  let s := xu_i s 1007 b 1
  let s := xu_i s 1008 b 180
  mo_sbegin (mo_sbegin s 1100 b b) 1200 b b
def mo_bend (s : xq_S) (b : Nat) (time : Int32) : xq_S :=
  let s := xu_i s 1006 b (-1)
  let s := xu_i s 1007 b 0
  let s := xu_i s 1008 b 0
  mo_send (mo_send s 1100 b time) 1200 b time
def mo_bcount (s : xq_S) (b : Nat) (win : Option Nat) (l r times : Int32) : xq_S := mo_scount (mo_scount s 1100 b win l r times) 1200 b win r l times
/-- goOn, at its head with so many seconds more and so many turns at most -/
def mo_goOn : Nat → xq_S → Nat → Int32 → xq_S
  | 0, s, b, more => xu_i s 1008 b (xq_i s 1008 b - more)
  | n + 1, s, b, more =>
    if more < xq_i s 1008 b then xu_i s 1008 b (xq_i s 1008 b - more)
    else if mo_periods s b < xq_i s 1007 b then xu_i s 1008 b (xq_i s 1008 b - more)
    else
      let more2 := more - xq_i s 1008 b
      let s := xu_i s 1007 b (xq_i s 1007 b + 1)
      let s := xu_i s 1008 b (if mo_extra s b = 0 then 180 else 60)
      mo_goOn n s b more2
end XM3
section XC3
variable {Y : xw_Y} {ad : Nat → Nat → Nat} {s : xq_S} {w : xw_W} {post : Option Value → xw_W → Prop}
set_option maxRecDepth 100000 in
set_option maxHeartbeats 4000000 in
theorem sc_known {b : Nat} (hR : xq_rp Y ad s w) (hb : b < s.2.1) (h : post (some (.int (mo_known s b))) w) : ptX0_isKnown Y [.ref (ad 10 b)] w post := by
  have hv10 : xq_vl ad s 10 b := xq_v10 hb
  have hv11 : xq_vl ad s 11 b := xq_v11 hb
  have hv12 : xq_vl ad s 12 b := xq_v12 hb
  refine ⟨(by first | exact Nat.le_of_ble_eq_true rfl | simp [lg_sl, xw_cat_rf, xw_cat_i, xw_cat_r, xw_cat_n, xw_cat_l]), ?_⟩
  unfold mo_known at h
  rcases hL : xq_r s 1100 b with _ | k
  · rw [hL] at h
    first | refine rn_ald (lkX0_isKnown_0 Y) rfl ?_ | refine rn_aldO (lkX0_isKnown_0 Y) rfl ?_ | refine rn_aldN (lkX0_isKnown_0 Y) rfl ?_
    refine rp_getf hR (lkX0_isKnown_1 Y) (by first | assumption | exact xq_v0 (by decide)) rfl rfl ?_
    refine rp_getf hR (lkX0_isKnown_4 Y) (by first | assumption | exact xq_v0 (by decide)) rfl (u := .null) (by rw [hL]; rfl) ?_
    refine rn_ifnN (lkX0_isKnown_7 Y) ?_
    refine rn_push (lkX0_isKnown_24 Y) ?_
    refine rn_zret (lkX0_isKnown_25 Y) (by first | exact Or.inl rfl | exact Or.inr rfl | assumption) ?_
    exact ⟨h, Nat.le_refl _, Nat.le_refl _⟩
  · rw [hL] at h
    first | refine rn_ald (lkX0_isKnown_0 Y) rfl ?_ | refine rn_aldO (lkX0_isKnown_0 Y) rfl ?_ | refine rn_aldN (lkX0_isKnown_0 Y) rfl ?_
    refine rp_getf hR (lkX0_isKnown_1 Y) (by first | assumption | exact xq_v0 (by decide)) rfl rfl ?_
    refine rp_getf hR (lkX0_isKnown_4 Y) (by first | assumption | exact xq_v0 (by decide)) rfl (u := .ref (ad 9 k)) (by rw [hL]; rfl) ?_
    refine rn_ifnR (lkX0_isKnown_7 Y) ?_
    rcases hA : xq_r s 1200 b with _ | j
    · rw [hA] at h
      first | refine rn_ald (lkX0_isKnown_10 Y) rfl ?_ | refine rn_aldO (lkX0_isKnown_10 Y) rfl ?_ | refine rn_aldN (lkX0_isKnown_10 Y) rfl ?_
      refine rp_getf hR (lkX0_isKnown_11 Y) (by first | assumption | exact xq_v0 (by decide)) rfl rfl ?_
      refine rp_getf hR (lkX0_isKnown_14 Y) (by first | assumption | exact xq_v0 (by decide)) rfl (u := .null) (by rw [hA]; rfl) ?_
      refine rn_ifnN (lkX0_isKnown_17 Y) ?_
      refine rn_push (lkX0_isKnown_24 Y) ?_
      refine rn_zret (lkX0_isKnown_25 Y) (by first | exact Or.inl rfl | exact Or.inr rfl | assumption) ?_
      exact ⟨h, Nat.le_refl _, Nat.le_refl _⟩
    · rw [hA] at h
      first | refine rn_ald (lkX0_isKnown_10 Y) rfl ?_ | refine rn_aldO (lkX0_isKnown_10 Y) rfl ?_ | refine rn_aldN (lkX0_isKnown_10 Y) rfl ?_
      refine rp_getf hR (lkX0_isKnown_11 Y) (by first | assumption | exact xq_v0 (by decide)) rfl rfl ?_
      refine rp_getf hR (lkX0_isKnown_14 Y) (by first | assumption | exact xq_v0 (by decide)) rfl (u := .ref (ad 9 j)) (by rw [hA]; rfl) ?_
      refine rn_ifnR (lkX0_isKnown_17 Y) ?_
      refine rn_push (lkX0_isKnown_20 Y) ?_
      refine rn_goto (lkX0_isKnown_21 Y) ?_
      refine rn_zret (lkX0_isKnown_25 Y) (by first | exact Or.inl rfl | exact Or.inr rfl | assumption) ?_
      exact ⟨h, Nat.le_refl _, Nat.le_refl _⟩

set_option maxRecDepth 100000 in
set_option maxHeartbeats 4000000 in
theorem sc_rested {b : Nat} (hR : xq_rp Y ad s w) (hb : b < s.2.1) (h : post (some (.int (mo_rested s b))) w) : ptX0_restedAt Y [.ref (ad 10 b)] w post := by
  have hv10 : xq_vl ad s 10 b := xq_v10 hb
  have hv11 : xq_vl ad s 11 b := xq_v11 hb
  have hv12 : xq_vl ad s 12 b := xq_v12 hb
  refine ⟨(by first | exact Nat.le_of_ble_eq_true rfl | simp [lg_sl, xw_cat_rf, xw_cat_i, xw_cat_r, xw_cat_n, xw_cat_l]), ?_⟩
  first | refine rn_ald (lkX0_restedAt_0 Y) rfl ?_ | refine rn_aldO (lkX0_restedAt_0 Y) rfl ?_ | refine rn_aldN (lkX0_restedAt_0 Y) rfl ?_
  refine rp_getf hR (lkX0_restedAt_1 Y) (by first | assumption | exact xq_v0 (by decide)) rfl rfl ?_
  refine rp_callV hR (lkX0_restedAt_4 Y) rfl (by first | assumption | exact xq_v0 (by decide)) rfl (Nat.le_of_ble_eq_true rfl) (Nat.le_of_ble_eq_true rfl) (Nat.le_of_ble_eq_true rfl) ?_
  refine sc_rest11 hR hb ?_
  first | refine rn_ald (lkX0_restedAt_7 Y) rfl ?_ | refine rn_aldO (lkX0_restedAt_7 Y) rfl ?_ | refine rn_aldN (lkX0_restedAt_7 Y) rfl ?_
  refine rp_getf hR (lkX0_restedAt_8 Y) (by first | assumption | exact xq_v0 (by decide)) rfl rfl ?_
  refine rp_callV hR (lkX0_restedAt_11 Y) rfl (by first | assumption | exact xq_v0 (by decide)) rfl (Nat.le_of_ble_eq_true rfl) (Nat.le_of_ble_eq_true rfl) (Nat.le_of_ble_eq_true rfl) ?_
  refine sc_rest12 hR hb ?_
  refine rn_max (lkX0_restedAt_14 Y) (Nat.le_of_ble_eq_true rfl) (Nat.le_of_ble_eq_true rfl) (Nat.le_of_ble_eq_true rfl) ?_
  refine rn_iret (lkX0_restedAt_17 Y) ?_
  exact ⟨h, Nat.le_refl _, Nat.le_refl _⟩

set_option maxRecDepth 100000 in
set_option maxHeartbeats 4000000 in
theorem sc_prio {b : Nat} (hR : xq_rp Y ad s w) (hb : b < s.2.1) (h : post (some (.ref (ad (mo_prio s b) b))) w) : ptX0_withPriority Y [.ref (ad 10 b)] w post := by
  have hv10 : xq_vl ad s 10 b := xq_v10 hb
  have hv11 : xq_vl ad s 11 b := xq_v11 hb
  have hv12 : xq_vl ad s 12 b := xq_v12 hb
  refine ⟨(by first | exact Nat.le_of_ble_eq_true rfl | simp [lg_sl, xw_cat_rf, xw_cat_i, xw_cat_r, xw_cat_n, xw_cat_l]), ?_⟩
  first | refine rn_ald (lkX0_withPriority_0 Y) rfl ?_ | refine rn_aldO (lkX0_withPriority_0 Y) rfl ?_ | refine rn_aldN (lkX0_withPriority_0 Y) rfl ?_
  refine rp_getf hR (lkX0_withPriority_1 Y) (by first | assumption | exact xq_v0 (by decide)) rfl rfl ?_
  first | refine rn_ald (lkX0_withPriority_4 Y) rfl ?_ | refine rn_aldO (lkX0_withPriority_4 Y) rfl ?_ | refine rn_aldN (lkX0_withPriority_4 Y) rfl ?_
  refine rp_getf hR (lkX0_withPriority_5 Y) (by first | assumption | exact xq_v0 (by decide)) rfl rfl ?_
  refine rp_getf hR (lkX0_withPriority_8 Y) (by first | assumption | exact xq_v0 (by decide)) rfl rfl ?_
  refine rn_i2 (lkX0_withPriority_11 Y) ?_
  refine rn_push (lkX0_withPriority_12 Y) ?_
  refine rn_i2z (lkX0_withPriority_13 Y) (by decide) ?_
  refine rn_ifz (lkX0_withPriority_14 Y) (fun c_14 => ?_) (fun c_14 => ?_)
  · try dsimp only at c_14
    first | refine rn_ald (lkX0_withPriority_24 Y) rfl ?_ | refine rn_aldO (lkX0_withPriority_24 Y) rfl ?_ | refine rn_aldN (lkX0_withPriority_24 Y) rfl ?_
    refine rp_getf hR (lkX0_withPriority_25 Y) (by first | assumption | exact xq_v0 (by decide)) rfl rfl ?_
    refine rn_aret (lkX0_withPriority_28 Y) (by first | exact xw_isR_ref _ | exact xw_isR_null | exact xw_isR_rf _) ?_
    unfold mo_prio at h
    first | (rw [if_neg c_14] at h; exact ⟨h, Nat.le_refl _, Nat.le_refl _⟩) | (rw [if_pos (Classical.not_not.mp c_14)] at h; exact ⟨h, Nat.le_refl _, Nat.le_refl _⟩)
  · try dsimp only at c_14
    first | refine rn_ald (lkX0_withPriority_17 Y) rfl ?_ | refine rn_aldO (lkX0_withPriority_17 Y) rfl ?_ | refine rn_aldN (lkX0_withPriority_17 Y) rfl ?_
    refine rp_getf hR (lkX0_withPriority_18 Y) (by first | assumption | exact xq_v0 (by decide)) rfl rfl ?_
    refine rn_goto (lkX0_withPriority_21 Y) ?_
    refine rn_aret (lkX0_withPriority_28 Y) (by first | exact xw_isR_ref _ | exact xw_isR_null | exact xw_isR_rf _) ?_
    unfold mo_prio at h
    first | (rw [if_neg c_14] at h; exact ⟨h, Nat.le_refl _, Nat.le_refl _⟩) | (rw [if_pos (Classical.not_not.mp c_14)] at h; exact ⟨h, Nat.le_refl _, Nat.le_refl _⟩)

set_option maxRecDepth 100000 in
set_option maxHeartbeats 4000000 in
theorem sc_win {b : Nat} (hR : xq_rp Y ad s w) (hb : b < s.2.1) (h : post (some (va_rf ((mo_win s b).map (ad 9)))) w) : ptX0_winnerAsItStands Y [.ref (ad 10 b)] w post := by
  have hv10 : xq_vl ad s 10 b := xq_v10 hb
  have hv11 : xq_vl ad s 11 b := xq_v11 hb
  have hv12 : xq_vl ad s 12 b := xq_v12 hb
  refine ⟨(by first | exact Nat.le_of_ble_eq_true rfl | simp [lg_sl, xw_cat_rf, xw_cat_i, xw_cat_r, xw_cat_n, xw_cat_l]), ?_⟩
  first | refine rn_ald (lkX0_winnerAsItStands_0 Y) rfl ?_ | refine rn_aldO (lkX0_winnerAsItStands_0 Y) rfl ?_ | refine rn_aldN (lkX0_winnerAsItStands_0 Y) rfl ?_
  refine rp_getf hR (lkX0_winnerAsItStands_1 Y) (by first | assumption | exact xq_v0 (by decide)) rfl rfl ?_
  refine rp_getf hR (lkX0_winnerAsItStands_4 Y) (by first | assumption | exact xq_v0 (by decide)) rfl rfl ?_
  first | refine rn_ald (lkX0_winnerAsItStands_7 Y) rfl ?_ | refine rn_aldO (lkX0_winnerAsItStands_7 Y) rfl ?_ | refine rn_aldN (lkX0_winnerAsItStands_7 Y) rfl ?_
  refine rp_getf hR (lkX0_winnerAsItStands_8 Y) (by first | assumption | exact xq_v0 (by decide)) rfl rfl ?_
  refine rp_getf hR (lkX0_winnerAsItStands_11 Y) (by first | assumption | exact xq_v0 (by decide)) rfl rfl ?_
  refine rn_ifc (lkX0_winnerAsItStands_14 Y) (fun c_14 => ?_) (fun c_14 => ?_)
  · try dsimp only at c_14
    first | refine rn_ald (lkX0_winnerAsItStands_25 Y) rfl ?_ | refine rn_aldO (lkX0_winnerAsItStands_25 Y) rfl ?_ | refine rn_aldN (lkX0_winnerAsItStands_25 Y) rfl ?_
    refine rp_getf hR (lkX0_winnerAsItStands_26 Y) (by first | assumption | exact xq_v0 (by decide)) rfl rfl ?_
    refine rp_getf hR (lkX0_winnerAsItStands_29 Y) (by first | assumption | exact xq_v0 (by decide)) rfl rfl ?_
    first | refine rn_ald (lkX0_winnerAsItStands_32 Y) rfl ?_ | refine rn_aldO (lkX0_winnerAsItStands_32 Y) rfl ?_ | refine rn_aldN (lkX0_winnerAsItStands_32 Y) rfl ?_
    refine rp_getf hR (lkX0_winnerAsItStands_33 Y) (by first | assumption | exact xq_v0 (by decide)) rfl rfl ?_
    refine rp_getf hR (lkX0_winnerAsItStands_36 Y) (by first | assumption | exact xq_v0 (by decide)) rfl rfl ?_
    refine rn_ifc (lkX0_winnerAsItStands_39 Y) (fun c_39 => ?_) (fun c_39 => ?_)
    · try dsimp only at c_39
      first | refine rn_ald (lkX0_winnerAsItStands_52 Y) rfl ?_ | refine rn_aldO (lkX0_winnerAsItStands_52 Y) rfl ?_ | refine rn_aldN (lkX0_winnerAsItStands_52 Y) rfl ?_
      refine rp_getf hR (lkX0_winnerAsItStands_53 Y) (by first | assumption | exact xq_v0 (by decide)) rfl rfl ?_
      refine rp_getf hR (lkX0_winnerAsItStands_56 Y) (by first | assumption | exact xq_v0 (by decide)) rfl rfl ?_
      refine rn_aret (lkX0_winnerAsItStands_59 Y) (by first | exact xw_isR_ref _ | exact xw_isR_null | exact xw_isR_rf _) ?_
      unfold mo_win at h
      rw [if_neg c_14] at h
      first | (rw [if_pos c_39] at h; exact ⟨h, Nat.le_refl _, Nat.le_refl _⟩) | (rw [if_neg c_39] at h; exact ⟨h, Nat.le_refl _, Nat.le_refl _⟩)
    · try dsimp only at c_39
      first | refine rn_ald (lkX0_winnerAsItStands_42 Y) rfl ?_ | refine rn_aldO (lkX0_winnerAsItStands_42 Y) rfl ?_ | refine rn_aldN (lkX0_winnerAsItStands_42 Y) rfl ?_
      refine rp_getf hR (lkX0_winnerAsItStands_43 Y) (by first | assumption | exact xq_v0 (by decide)) rfl rfl ?_
      refine rp_getf hR (lkX0_winnerAsItStands_46 Y) (by first | assumption | exact xq_v0 (by decide)) rfl rfl ?_
      refine rn_goto (lkX0_winnerAsItStands_49 Y) ?_
      refine rn_aret (lkX0_winnerAsItStands_59 Y) (by first | exact xw_isR_ref _ | exact xw_isR_null | exact xw_isR_rf _) ?_
      unfold mo_win at h
      rw [if_neg c_14] at h
      first | (rw [if_pos c_39] at h; exact ⟨h, Nat.le_refl _, Nat.le_refl _⟩) | (rw [if_neg c_39] at h; exact ⟨h, Nat.le_refl _, Nat.le_refl _⟩)
  · try dsimp only at c_14
    first | refine rn_ald (lkX0_winnerAsItStands_17 Y) rfl ?_ | refine rn_aldO (lkX0_winnerAsItStands_17 Y) rfl ?_ | refine rn_aldN (lkX0_winnerAsItStands_17 Y) rfl ?_
    refine rp_callV hR (lkX0_winnerAsItStands_18 Y) rfl (by first | assumption | exact xq_v0 (by decide)) rfl (Nat.le_of_ble_eq_true rfl) (Nat.le_of_ble_eq_true rfl) (Nat.le_of_ble_eq_true rfl) ?_
    refine sc_prio hR hb ?_
    unfold mo_prio
    unfold mo_win mo_prioF at h
    rw [if_pos (Classical.not_not.mp c_14)] at h
    by_cases hq : (xq_i s 1000 b + xq_i s 1101 b) - (xq_i s 1000 b + xq_i s 1101 b) / 2 * 2 = 0
    · rw [if_pos hq] at h ⊢
      refine rp_getf hR (lkX0_winnerAsItStands_21 Y) (by first | assumption | exact xq_v0 (by decide)) rfl rfl ?_
      refine rn_aret (lkX0_winnerAsItStands_24 Y) (by first | exact xw_isR_ref _ | exact xw_isR_null | exact xw_isR_rf _) ?_
      exact ⟨h, Nat.le_refl _, Nat.le_refl _⟩
    · rw [if_neg hq] at h ⊢
      refine rp_getf hR (lkX0_winnerAsItStands_21 Y) (by first | assumption | exact xq_v0 (by decide)) rfl rfl ?_
      refine rn_aret (lkX0_winnerAsItStands_24 Y) (by first | exact xw_isR_ref _ | exact xw_isR_null | exact xw_isR_rf _) ?_
      exact ⟨h, Nat.le_refl _, Nat.le_refl _⟩

set_option maxRecDepth 100000 in
set_option maxHeartbeats 4000000 in
theorem sc_decided {b : Nat} (hR : xq_rp Y ad s w) (hb : b < s.2.1) (h : post (some (.int (mo_decided s b))) w) : ptX0_isDecidedByHit Y [.ref (ad 10 b)] w post := by
  have hv10 : xq_vl ad s 10 b := xq_v10 hb
  have hv11 : xq_vl ad s 11 b := xq_v11 hb
  have hv12 : xq_vl ad s 12 b := xq_v12 hb
  refine ⟨(by first | exact Nat.le_of_ble_eq_true rfl | simp [lg_sl, xw_cat_rf, xw_cat_i, xw_cat_r, xw_cat_n, xw_cat_l]), ?_⟩
  first | refine rn_ald (lkX0_isDecidedByHit_0 Y) rfl ?_ | refine rn_aldO (lkX0_isDecidedByHit_0 Y) rfl ?_ | refine rn_aldN (lkX0_isDecidedByHit_0 Y) rfl ?_
  refine rp_callV hR (lkX0_isDecidedByHit_1 Y) rfl (by first | assumption | exact xq_v0 (by decide)) rfl (Nat.le_of_ble_eq_true rfl) (Nat.le_of_ble_eq_true rfl) (Nat.le_of_ble_eq_true rfl) ?_
  refine sc_extra hR hb ?_
  refine rn_ifz (lkX0_isDecidedByHit_4 Y) (fun c_4 => ?_) (fun c_4 => ?_)
  · try dsimp only at c_4
    refine rn_push (lkX0_isDecidedByHit_35 Y) ?_
    refine rn_goto (lkX0_isDecidedByHit_36 Y) ?_
    refine rn_zret (lkX0_isDecidedByHit_40 Y) (by first | exact Or.inl rfl | exact Or.inr rfl | assumption) ?_
    unfold mo_decided at h
    first | (rw [if_pos (by first | exact Or.inl c_4 | exact Or.inr (Or.inl c_18) | exact Or.inr (Or.inr (Classical.not_not.mp (fun z => c_32 (Int32.not_le.mp z))))  )] at h; exact ⟨h, Nat.le_refl _, Nat.le_refl _⟩) | (rw [if_neg (by rintro (z | z | z); exact c_4 z; exact c_18 z; exact (Int32.not_le.mpr c_32) z)] at h; exact ⟨h, Nat.le_refl _, Nat.le_refl _⟩)
  · try dsimp only at c_4
    first | refine rn_ald (lkX0_isDecidedByHit_7 Y) rfl ?_ | refine rn_aldO (lkX0_isDecidedByHit_7 Y) rfl ?_ | refine rn_aldN (lkX0_isDecidedByHit_7 Y) rfl ?_
    refine rp_getf hR (lkX0_isDecidedByHit_8 Y) (by first | assumption | exact xq_v0 (by decide)) rfl rfl ?_
    refine rp_getf hR (lkX0_isDecidedByHit_11 Y) (by first | assumption | exact xq_v0 (by decide)) rfl rfl ?_
    first | refine rn_ald (lkX0_isDecidedByHit_14 Y) rfl ?_ | refine rn_aldO (lkX0_isDecidedByHit_14 Y) rfl ?_ | refine rn_aldN (lkX0_isDecidedByHit_14 Y) rfl ?_
    refine rp_callV hR (lkX0_isDecidedByHit_15 Y) rfl (by first | assumption | exact xq_v0 (by decide)) rfl (Nat.le_of_ble_eq_true rfl) (Nat.le_of_ble_eq_true rfl) (Nat.le_of_ble_eq_true rfl) ?_
    refine sc_goal hR hb ?_
    refine rn_ifc (lkX0_isDecidedByHit_18 Y) (fun c_18 => ?_) (fun c_18 => ?_)
    · try dsimp only at c_18
      refine rn_push (lkX0_isDecidedByHit_35 Y) ?_
      refine rn_goto (lkX0_isDecidedByHit_36 Y) ?_
      refine rn_zret (lkX0_isDecidedByHit_40 Y) (by first | exact Or.inl rfl | exact Or.inr rfl | assumption) ?_
      unfold mo_decided at h
      first | (rw [if_pos (by first | exact Or.inl c_4 | exact Or.inr (Or.inl c_18) | exact Or.inr (Or.inr (Classical.not_not.mp (fun z => c_32 (Int32.not_le.mp z))))  )] at h; exact ⟨h, Nat.le_refl _, Nat.le_refl _⟩) | (rw [if_neg (by rintro (z | z | z); exact c_4 z; exact c_18 z; exact (Int32.not_le.mpr c_32) z)] at h; exact ⟨h, Nat.le_refl _, Nat.le_refl _⟩)
    · try dsimp only at c_18
      first | refine rn_ald (lkX0_isDecidedByHit_21 Y) rfl ?_ | refine rn_aldO (lkX0_isDecidedByHit_21 Y) rfl ?_ | refine rn_aldN (lkX0_isDecidedByHit_21 Y) rfl ?_
      refine rp_getf hR (lkX0_isDecidedByHit_22 Y) (by first | assumption | exact xq_v0 (by decide)) rfl rfl ?_
      refine rp_getf hR (lkX0_isDecidedByHit_25 Y) (by first | assumption | exact xq_v0 (by decide)) rfl rfl ?_
      first | refine rn_ald (lkX0_isDecidedByHit_28 Y) rfl ?_ | refine rn_aldO (lkX0_isDecidedByHit_28 Y) rfl ?_ | refine rn_aldN (lkX0_isDecidedByHit_28 Y) rfl ?_
      refine rp_callV hR (lkX0_isDecidedByHit_29 Y) rfl (by first | assumption | exact xq_v0 (by decide)) rfl (Nat.le_of_ble_eq_true rfl) (Nat.le_of_ble_eq_true rfl) (Nat.le_of_ble_eq_true rfl) ?_
      refine sc_goal hR hb ?_
      refine rn_ifc (lkX0_isDecidedByHit_32 Y) (fun c_32 => ?_) (fun c_32 => ?_)
      · try dsimp only at c_32
        refine rn_push (lkX0_isDecidedByHit_39 Y) ?_
        refine rn_zret (lkX0_isDecidedByHit_40 Y) (by first | exact Or.inl rfl | exact Or.inr rfl | assumption) ?_
        unfold mo_decided at h
        first | (rw [if_pos (by first | exact Or.inl c_4 | exact Or.inr (Or.inl c_18) | exact Or.inr (Or.inr (Classical.not_not.mp (fun z => c_32 (Int32.not_le.mp z))))  )] at h; exact ⟨h, Nat.le_refl _, Nat.le_refl _⟩) | (rw [if_neg (by rintro (z | z | z); exact c_4 z; exact c_18 z; exact (Int32.not_le.mpr c_32) z)] at h; exact ⟨h, Nat.le_refl _, Nat.le_refl _⟩)
      · try dsimp only at c_32
        refine rn_push (lkX0_isDecidedByHit_35 Y) ?_
        refine rn_goto (lkX0_isDecidedByHit_36 Y) ?_
        refine rn_zret (lkX0_isDecidedByHit_40 Y) (by first | exact Or.inl rfl | exact Or.inr rfl | assumption) ?_
        unfold mo_decided at h
        first | (rw [if_pos (by first | exact Or.inl c_4 | exact Or.inr (Or.inl c_18) | exact Or.inr (Or.inr (Classical.not_not.mp (fun z => c_32 (Int32.not_le.mp z))))  )] at h; exact ⟨h, Nat.le_refl _, Nat.le_refl _⟩) | (rw [if_neg (by rintro (z | z | z); exact c_4 z; exact c_18 z; exact (Int32.not_le.mpr c_32) z)] at h; exact ⟨h, Nat.le_refl _, Nat.le_refl _⟩)

set_option maxRecDepth 100000 in
set_option maxHeartbeats 4000000 in
theorem sc_until {b : Nat} (hR : xq_rp Y ad s w) (hb : b < s.2.1) (h : post (some (.int (mo_until s b))) w) : ptX0_secondsUntilOver Y [.ref (ad 10 b)] w post := by
  have hv10 : xq_vl ad s 10 b := xq_v10 hb
  have hv11 : xq_vl ad s 11 b := xq_v11 hb
  have hv12 : xq_vl ad s 12 b := xq_v12 hb
  refine ⟨(by first | exact Nat.le_of_ble_eq_true rfl | simp [lg_sl, xw_cat_rf, xw_cat_i, xw_cat_r, xw_cat_n, xw_cat_l]), ?_⟩
  first | refine rn_ald (lkX0_secondsUntilOver_0 Y) rfl ?_ | refine rn_aldO (lkX0_secondsUntilOver_0 Y) rfl ?_ | refine rn_aldN (lkX0_secondsUntilOver_0 Y) rfl ?_
  refine rp_callV hR (lkX0_secondsUntilOver_1 Y) rfl (by first | assumption | exact xq_v0 (by decide)) rfl (Nat.le_of_ble_eq_true rfl) (Nat.le_of_ble_eq_true rfl) (Nat.le_of_ble_eq_true rfl) ?_
  refine sc_extra hR hb ?_
  refine rn_ifz (lkX0_secondsUntilOver_4 Y) (fun c_4 => ?_) (fun c_4 => ?_)
  · try dsimp only at c_4
    first | refine rn_ald (lkX0_secondsUntilOver_12 Y) rfl ?_ | refine rn_aldO (lkX0_secondsUntilOver_12 Y) rfl ?_ | refine rn_aldN (lkX0_secondsUntilOver_12 Y) rfl ?_
    refine rp_getf hR (lkX0_secondsUntilOver_13 Y) (by first | assumption | exact xq_v0 (by decide)) rfl rfl ?_
    first | refine rn_ald (lkX0_secondsUntilOver_16 Y) rfl ?_ | refine rn_aldO (lkX0_secondsUntilOver_16 Y) rfl ?_ | refine rn_aldN (lkX0_secondsUntilOver_16 Y) rfl ?_
    refine rp_callV hR (lkX0_secondsUntilOver_17 Y) rfl (by first | assumption | exact xq_v0 (by decide)) rfl (Nat.le_of_ble_eq_true rfl) (Nat.le_of_ble_eq_true rfl) (Nat.le_of_ble_eq_true rfl) ?_
    refine sc_periods hR hb ?_
    first | refine rn_ald (lkX0_secondsUntilOver_20 Y) rfl ?_ | refine rn_aldO (lkX0_secondsUntilOver_20 Y) rfl ?_ | refine rn_aldN (lkX0_secondsUntilOver_20 Y) rfl ?_
    refine rp_getf hR (lkX0_secondsUntilOver_21 Y) (by first | assumption | exact xq_v0 (by decide)) rfl rfl ?_
    refine rn_i2 (lkX0_secondsUntilOver_24 Y) ?_
    refine rn_push (lkX0_secondsUntilOver_25 Y) ?_
    refine rn_i2 (lkX0_secondsUntilOver_28 Y) ?_
    refine rn_i2 (lkX0_secondsUntilOver_29 Y) ?_
    refine rn_ist (lkX0_secondsUntilOver_30 Y) rfl ?_
    first | refine rn_ald (lkX0_secondsUntilOver_31 Y) rfl ?_ | refine rn_aldO (lkX0_secondsUntilOver_31 Y) rfl ?_ | refine rn_aldN (lkX0_secondsUntilOver_31 Y) rfl ?_
    refine rp_getf hR (lkX0_secondsUntilOver_32 Y) (by first | assumption | exact xq_v0 (by decide)) rfl rfl ?_
    refine rp_getf hR (lkX0_secondsUntilOver_35 Y) (by first | assumption | exact xq_v0 (by decide)) rfl rfl ?_
    first | refine rn_ald (lkX0_secondsUntilOver_38 Y) rfl ?_ | refine rn_aldO (lkX0_secondsUntilOver_38 Y) rfl ?_ | refine rn_aldN (lkX0_secondsUntilOver_38 Y) rfl ?_
    refine rp_getf hR (lkX0_secondsUntilOver_39 Y) (by first | assumption | exact xq_v0 (by decide)) rfl rfl ?_
    refine rp_getf hR (lkX0_secondsUntilOver_42 Y) (by first | assumption | exact xq_v0 (by decide)) rfl rfl ?_
    refine rn_ifc (lkX0_secondsUntilOver_45 Y) (fun c_45 => ?_) (fun c_45 => ?_)
    · try dsimp only at c_45
      refine rn_ild (lkX0_secondsUntilOver_55 Y) rfl ?_
      refine rn_iret (lkX0_secondsUntilOver_56 Y) ?_
      unfold mo_until at h
      rw [if_pos c_4] at h
      first | (rw [if_neg c_45] at h; exact ⟨h, Nat.le_refl _, Nat.le_refl _⟩) | (rw [if_pos (Classical.not_not.mp c_45)] at h; exact ⟨h, Nat.le_refl _, Nat.le_refl _⟩)
    · try dsimp only at c_45
      refine rn_ild (lkX0_secondsUntilOver_48 Y) rfl ?_
      refine rn_push (lkX0_secondsUntilOver_49 Y) ?_
      refine rn_i2 (lkX0_secondsUntilOver_51 Y) ?_
      refine rn_goto (lkX0_secondsUntilOver_52 Y) ?_
      refine rn_iret (lkX0_secondsUntilOver_56 Y) ?_
      unfold mo_until at h
      rw [if_pos c_4] at h
      first | (rw [if_neg c_45] at h; exact ⟨h, Nat.le_refl _, Nat.le_refl _⟩) | (rw [if_pos (Classical.not_not.mp c_45)] at h; exact ⟨h, Nat.le_refl _, Nat.le_refl _⟩)
  · try dsimp only at c_4
    first | refine rn_ald (lkX0_secondsUntilOver_7 Y) rfl ?_ | refine rn_aldO (lkX0_secondsUntilOver_7 Y) rfl ?_ | refine rn_aldN (lkX0_secondsUntilOver_7 Y) rfl ?_
    refine rp_getf hR (lkX0_secondsUntilOver_8 Y) (by first | assumption | exact xq_v0 (by decide)) rfl rfl ?_
    refine rn_iret (lkX0_secondsUntilOver_11 Y) ?_
    unfold mo_until at h
    rw [if_neg c_4] at h
    exact ⟨h, Nat.le_refl _, Nat.le_refl _⟩

set_option maxRecDepth 100000 in
set_option maxHeartbeats 4000000 in
theorem sc_bbegin {piste : Int32} {b : Nat} (hR : xq_rp Y ad s w) (hb : b < s.2.1) (h : ∀ w', xq_rp Y ad (mo_bbegin s b piste) w' → post none w') : ptX0_begin Y [.ref (ad 10 b), .int piste] w post := by
  have hv10 : xq_vl ad s 10 b := xq_v10 hb
  have hv11 : xq_vl ad s 11 b := xq_v11 hb
  have hv12 : xq_vl ad s 12 b := xq_v12 hb
  refine ⟨(by first | exact Nat.le_of_ble_eq_true rfl | simp [lg_sl, xw_cat_rf, xw_cat_i, xw_cat_r, xw_cat_n, xw_cat_l]), ?_⟩
  first | refine rn_ald (lkX0_begin_0 Y) rfl ?_ | refine rn_aldO (lkX0_begin_0 Y) rfl ?_ | refine rn_aldN (lkX0_begin_0 Y) rfl ?_
  refine rn_push (lkX0_begin_1 Y) ?_
  refine rp_puti (c := 1004) hR (lkX0_begin_2 Y) (by first | assumption | exact xq_v0 (by decide)) rfl (Nat.le_of_ble_eq_true rfl) (xw_fit_i _) rfl (fun q => absurd q (by decide)) (by simp [xq_en, xq_i_i, xq_r_i]) (fun w hR => ?_)
  first | refine rn_ald (lkX0_begin_5 Y) rfl ?_ | refine rn_aldO (lkX0_begin_5 Y) rfl ?_ | refine rn_aldN (lkX0_begin_5 Y) rfl ?_
  refine rn_ild (lkX0_begin_6 Y) rfl ?_
  refine rp_puti (c := 1006) hR (lkX0_begin_7 Y) (by first | assumption | exact xq_v0 (by decide)) rfl (Nat.le_of_ble_eq_true rfl) (xw_fit_i _) rfl (fun q => absurd q (by decide)) (by simp [xq_en, xq_i_i, xq_r_i]) (fun w hR => ?_)
  first | refine rn_ald (lkX0_begin_10 Y) rfl ?_ | refine rn_aldO (lkX0_begin_10 Y) rfl ?_ | refine rn_aldN (lkX0_begin_10 Y) rfl ?_
  refine rn_push (lkX0_begin_11 Y) ?_
  refine rp_puti (c := 1007) hR (lkX0_begin_12 Y) (by first | assumption | exact xq_v0 (by decide)) rfl (Nat.le_of_ble_eq_true rfl) (xw_fit_i _) rfl (fun q => absurd q (by decide)) (by simp [xq_en, xq_i_i, xq_r_i]) (fun w hR => ?_)
  first | refine rn_ald (lkX0_begin_15 Y) rfl ?_ | refine rn_aldO (lkX0_begin_15 Y) rfl ?_ | refine rn_aldN (lkX0_begin_15 Y) rfl ?_
  refine rn_push (lkX0_begin_16 Y) ?_
  refine rp_puti (c := 1008) hR (lkX0_begin_19 Y) (by first | assumption | exact xq_v0 (by decide)) rfl (Nat.le_of_ble_eq_true rfl) (xw_fit_i _) rfl (fun q => absurd q (by decide)) (by simp [xq_en, xq_i_i, xq_r_i]) (fun w hR => ?_)
  first | refine rn_ald (lkX0_begin_22 Y) rfl ?_ | refine rn_aldO (lkX0_begin_22 Y) rfl ?_ | refine rn_aldN (lkX0_begin_22 Y) rfl ?_
  refine rp_getf hR (lkX0_begin_23 Y) (by first | assumption | exact xq_v0 (by decide)) rfl rfl ?_
  first | refine rn_ald (lkX0_begin_26 Y) rfl ?_ | refine rn_aldO (lkX0_begin_26 Y) rfl ?_ | refine rn_aldN (lkX0_begin_26 Y) rfl ?_
  refine rp_callV hR (lkX0_begin_27 Y) rfl (by first | assumption | exact xq_v0 (by decide)) rfl (Nat.le_of_ble_eq_true rfl) (Nat.le_of_ble_eq_true rfl) (Nat.le_of_ble_eq_true rfl) ?_
  refine sc_sbegin11 hR hb hb (fun w hR => ?_)
  have hb1 : b < (mo_sbegin (xu_i (xu_i (xu_i (xu_i s 1004 b 1) 1006 b piste) 1007 b 1) 1008 b 180) 1100 b b).2.1 := by rw [mo_sbegin_2]; exact hb
  have hv10 := xq_v10 (ad := ad) hb1
  have hv12 := xq_v12 (ad := ad) hb1
  first | refine rn_ald (lkX0_begin_30 Y) rfl ?_ | refine rn_aldO (lkX0_begin_30 Y) rfl ?_ | refine rn_aldN (lkX0_begin_30 Y) rfl ?_
  refine rp_getf hR (lkX0_begin_31 Y) (by first | assumption | exact xq_v0 (by decide)) rfl rfl ?_
  first | refine rn_ald (lkX0_begin_34 Y) rfl ?_ | refine rn_aldO (lkX0_begin_34 Y) rfl ?_ | refine rn_aldN (lkX0_begin_34 Y) rfl ?_
  refine rp_callV hR (lkX0_begin_35 Y) rfl (by first | assumption | exact xq_v0 (by decide)) rfl (Nat.le_of_ble_eq_true rfl) (Nat.le_of_ble_eq_true rfl) (Nat.le_of_ble_eq_true rfl) ?_
  refine sc_sbegin12 hR hb1 hb1 (fun w hR => ?_)
  refine rn_vret (lkX0_begin_38 Y) ?_
  exact ⟨h _ hR, Nat.le_refl _, Nat.le_refl _⟩

set_option maxRecDepth 100000 in
set_option maxHeartbeats 4000000 in
theorem sc_bend {time : Int32} {b : Nat} (hR : xq_rp Y ad s w) (hb : b < s.2.1) (h : ∀ w', xq_rp Y ad (mo_bend s b time) w' → post none w') : ptX0_end Y [.ref (ad 10 b), .int time] w post := by
  have hv10 : xq_vl ad s 10 b := xq_v10 hb
  have hv11 : xq_vl ad s 11 b := xq_v11 hb
  have hv12 : xq_vl ad s 12 b := xq_v12 hb
  refine ⟨(by first | exact Nat.le_of_ble_eq_true rfl | simp [lg_sl, xw_cat_rf, xw_cat_i, xw_cat_r, xw_cat_n, xw_cat_l]), ?_⟩
  first | refine rn_ald (lkX0_end_0 Y) rfl ?_ | refine rn_aldO (lkX0_end_0 Y) rfl ?_ | refine rn_aldN (lkX0_end_0 Y) rfl ?_
  refine rn_push (lkX0_end_1 Y) ?_
  refine rp_puti (c := 1006) hR (lkX0_end_2 Y) (by first | assumption | exact xq_v0 (by decide)) rfl (Nat.le_of_ble_eq_true rfl) (xw_fit_i _) rfl (fun q => absurd q (by decide)) (by simp [xq_en, xq_i_i, xq_r_i]) (fun w hR => ?_)
  first | refine rn_ald (lkX0_end_5 Y) rfl ?_ | refine rn_aldO (lkX0_end_5 Y) rfl ?_ | refine rn_aldN (lkX0_end_5 Y) rfl ?_
  refine rn_push (lkX0_end_6 Y) ?_
  refine rp_puti (c := 1007) hR (lkX0_end_7 Y) (by first | assumption | exact xq_v0 (by decide)) rfl (Nat.le_of_ble_eq_true rfl) (xw_fit_i _) rfl (fun q => absurd q (by decide)) (by simp [xq_en, xq_i_i, xq_r_i]) (fun w hR => ?_)
  first | refine rn_ald (lkX0_end_10 Y) rfl ?_ | refine rn_aldO (lkX0_end_10 Y) rfl ?_ | refine rn_aldN (lkX0_end_10 Y) rfl ?_
  refine rn_push (lkX0_end_11 Y) ?_
  refine rp_puti (c := 1008) hR (lkX0_end_12 Y) (by first | assumption | exact xq_v0 (by decide)) rfl (Nat.le_of_ble_eq_true rfl) (xw_fit_i _) rfl (fun q => absurd q (by decide)) (by simp [xq_en, xq_i_i, xq_r_i]) (fun w hR => ?_)
  first | refine rn_ald (lkX0_end_15 Y) rfl ?_ | refine rn_aldO (lkX0_end_15 Y) rfl ?_ | refine rn_aldN (lkX0_end_15 Y) rfl ?_
  refine rp_getf hR (lkX0_end_16 Y) (by first | assumption | exact xq_v0 (by decide)) rfl rfl ?_
  refine rn_ild (lkX0_end_19 Y) rfl ?_
  refine rp_callV hR (lkX0_end_20 Y) rfl (by first | assumption | exact xq_v0 (by decide)) rfl (Nat.le_of_ble_eq_true rfl) (Nat.le_of_ble_eq_true rfl) (Nat.le_of_ble_eq_true rfl) ?_
  refine sc_send11 hR hb (fun w hR => ?_)
  have hb1 : b < (mo_send (xu_i (xu_i (xu_i s 1006 b (-1)) 1007 b 0) 1008 b 0) 1100 b time).2.1 := by rw [mo_send_2]; exact hb
  have hv10 := xq_v10 (ad := ad) hb1
  have hv12 := xq_v12 (ad := ad) hb1
  first | refine rn_ald (lkX0_end_23 Y) rfl ?_ | refine rn_aldO (lkX0_end_23 Y) rfl ?_ | refine rn_aldN (lkX0_end_23 Y) rfl ?_
  refine rp_getf hR (lkX0_end_24 Y) (by first | assumption | exact xq_v0 (by decide)) rfl rfl ?_
  refine rn_ild (lkX0_end_27 Y) rfl ?_
  refine rp_callV hR (lkX0_end_28 Y) rfl (by first | assumption | exact xq_v0 (by decide)) rfl (Nat.le_of_ble_eq_true rfl) (Nat.le_of_ble_eq_true rfl) (Nat.le_of_ble_eq_true rfl) ?_
  refine sc_send12 hR hb1 (fun w hR => ?_)
  refine rn_vret (lkX0_end_31 Y) ?_
  exact ⟨h _ hR, Nat.le_refl _, Nat.le_refl _⟩

set_option maxRecDepth 100000 in
set_option maxHeartbeats 4000000 in
theorem sc_bcount {win : Option Nat} {l r times : Int32} {b : Nat} (hR : xq_rp Y ad s w) (hb : b < s.2.1) (hwin : ∀ k, win = some k → k < s.1) (h : ∀ w', xq_rp Y ad (mo_bcount s b win l r times) w' → post none w') : ptX0_count Y [.ref (ad 10 b), va_rf (win.map (ad 9)), .int l, .int r, .int times] w post := by
  have hv10 : xq_vl ad s 10 b := xq_v10 hb
  have hv11 : xq_vl ad s 11 b := xq_v11 hb
  have hv12 : xq_vl ad s 12 b := xq_v12 hb
  refine ⟨(by first | exact Nat.le_of_ble_eq_true rfl | simp [lg_sl, xw_cat_rf, xw_cat_i, xw_cat_r, xw_cat_n, xw_cat_l]), ?_⟩
  rw [show lv_args 0 [.ref (ad 10 b), va_rf (win.map (ad 9)), .int l, .int r, .int times] = [(0, .ref (ad 10 b)), (1, va_rf (win.map (ad 9))), (2, .int l), (3, .int r), (4, .int times)] from by simp [lv_args, xw_cat_rf, xw_cat_i, xw_cat_r, xw_cat_n, xw_cat_l]]
  first | refine rn_ald (lkX0_count_0 Y) rfl ?_ | refine rn_aldO (lkX0_count_0 Y) rfl ?_ | refine rn_aldN (lkX0_count_0 Y) rfl ?_
  refine rp_getf hR (lkX0_count_1 Y) (by first | assumption | exact xq_v0 (by decide)) rfl rfl ?_
  first | refine rn_ald (lkX0_count_4 Y) rfl ?_ | refine rn_aldO (lkX0_count_4 Y) rfl ?_ | refine rn_aldN (lkX0_count_4 Y) rfl ?_
  refine rn_ild (lkX0_count_5 Y) rfl ?_
  refine rn_ild (lkX0_count_6 Y) rfl ?_
  refine rn_ild (lkX0_count_7 Y) rfl ?_
  refine rp_callV hR (lkX0_count_9 Y) rfl (by first | assumption | exact xq_v0 (by decide)) rfl (Nat.le_of_ble_eq_true rfl) (Nat.le_of_ble_eq_true rfl) (Nat.le_of_ble_eq_true rfl) ?_
  refine sc_scount11 hR hb hwin (fun w hR => ?_)
  have hb1 : b < (mo_scount s 1100 b win l r times).2.1 := by rw [mo_scount_2]; exact hb
  have hv10 := xq_v10 (ad := ad) hb1
  have hv12 := xq_v12 (ad := ad) hb1
  first | refine rn_ald (lkX0_count_12 Y) rfl ?_ | refine rn_aldO (lkX0_count_12 Y) rfl ?_ | refine rn_aldN (lkX0_count_12 Y) rfl ?_
  refine rp_getf hR (lkX0_count_13 Y) (by first | assumption | exact xq_v0 (by decide)) rfl rfl ?_
  first | refine rn_ald (lkX0_count_16 Y) rfl ?_ | refine rn_aldO (lkX0_count_16 Y) rfl ?_ | refine rn_aldN (lkX0_count_16 Y) rfl ?_
  refine rn_ild (lkX0_count_17 Y) rfl ?_
  refine rn_ild (lkX0_count_18 Y) rfl ?_
  refine rn_ild (lkX0_count_19 Y) rfl ?_
  refine rp_callV hR (lkX0_count_21 Y) rfl (by first | assumption | exact xq_v0 (by decide)) rfl (Nat.le_of_ble_eq_true rfl) (Nat.le_of_ble_eq_true rfl) (Nat.le_of_ble_eq_true rfl) ?_
  refine sc_scount12 hR hb1 (fun k hk => by rw [mo_scount_1]; exact hwin k hk) (fun w hR => ?_)
  refine rn_vret (lkX0_count_24 Y) ?_
  exact ⟨h _ hR, Nat.le_refl _, Nat.le_refl _⟩

set_option maxRecDepth 100000 in
set_option maxHeartbeats 4000000 in
theorem sc_sideOf {who : Int32} {b : Nat} (hR : xq_rp Y ad s w) (hb : b < s.2.1) (h : post (some (.ref (ad (if who = 0 then 11 else 12) b))) w) : ptX0_sideOf Y [.ref (ad 10 b), .int who] w post := by
  have hv10 : xq_vl ad s 10 b := xq_v10 hb
  have hv11 : xq_vl ad s 11 b := xq_v11 hb
  have hv12 : xq_vl ad s 12 b := xq_v12 hb
  refine ⟨(by first | exact Nat.le_of_ble_eq_true rfl | simp [lg_sl, xw_cat_rf, xw_cat_i, xw_cat_r, xw_cat_n, xw_cat_l]), ?_⟩
  refine rn_ild (lkX0_sideOf_0 Y) rfl ?_
  refine rn_ifz (lkX0_sideOf_1 Y) (fun c_1 => ?_) (fun c_1 => ?_)
  · try dsimp only at c_1
    first | refine rn_ald (lkX0_sideOf_11 Y) rfl ?_ | refine rn_aldO (lkX0_sideOf_11 Y) rfl ?_ | refine rn_aldN (lkX0_sideOf_11 Y) rfl ?_
    refine rp_getf hR (lkX0_sideOf_12 Y) (by first | assumption | exact xq_v0 (by decide)) rfl rfl ?_
    refine rn_aret (lkX0_sideOf_15 Y) (by first | exact xw_isR_ref _ | exact xw_isR_null | exact xw_isR_rf _) ?_
    first | (rw [if_pos (Classical.not_not.mp c_1)] at h; exact ⟨h, Nat.le_refl _, Nat.le_refl _⟩) | (rw [if_neg c_1] at h; exact ⟨h, Nat.le_refl _, Nat.le_refl _⟩)
  · try dsimp only at c_1
    first | refine rn_ald (lkX0_sideOf_4 Y) rfl ?_ | refine rn_aldO (lkX0_sideOf_4 Y) rfl ?_ | refine rn_aldN (lkX0_sideOf_4 Y) rfl ?_
    refine rp_getf hR (lkX0_sideOf_5 Y) (by first | assumption | exact xq_v0 (by decide)) rfl rfl ?_
    refine rn_goto (lkX0_sideOf_8 Y) ?_
    refine rn_aret (lkX0_sideOf_15 Y) (by first | exact xw_isR_ref _ | exact xw_isR_null | exact xw_isR_rf _) ?_
    first | (rw [if_pos (Classical.not_not.mp c_1)] at h; exact ⟨h, Nat.le_refl _, Nat.le_refl _⟩) | (rw [if_neg c_1] at h; exact ⟨h, Nat.le_refl _, Nat.le_refl _⟩)

end XC3
