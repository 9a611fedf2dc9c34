/-! SIDES AND BOUTS, on -/
section XM2
def mo_inLive (s : xq_S) (c b : Nat) : Int32 := match xq_r s c b with
  | none => 0
  | some k => match xq_r s 906 k with
    | none => 0
    | some _ => 1
def mo_rest (s : xq_S) (c b : Nat) : Int32 := match xq_r s c b with
  | none => 0
  | some k => xq_i s 907 k
/-- a side begins the bout d -/
def mo_sbegin (s : xq_S) (c b d : Nat) : xq_S := match xq_r s c b with
  | none => s
  | some k => xu_r s 906 k (some d)
def mo_send (s : xq_S) (c b : Nat) (time : Int32) : xq_S := match xq_r s c b with
  | none => s
  | some k => xu_i (xu_r s 906 k none) 907 k (time + 120)
def mo_scount (s : xq_S) (c b : Nat) (win : Option Nat) (own others times : Int32) : xq_S := match xq_r s c b with
  | none => s
  | some k => mo_count s k (if win = some k then 1 else 0) own others times
end XM2
section XC2
variable {Y : xw_Y} {ad : Nat → Nat → Nat} {s : xq_S} {w : xw_W} {post : Option Value → xw_W → Prop}
theorem xq_r_lt {c b k : Nat} (h : xq_wf s) (hb : b < s.2.1) (hc : c = 1005 ∨ c = 1100 ∨ c = 1200) (hk : xq_r s c b = some k) : k < s.1 := by
  rcases hc with rfl | rfl | rfl
  · exact h.2.1 b k hb hk
  · exact h.2.2.1 b k hb hk
  · exact h.2.2.2.1 b k hb hk

theorem xq_win {win : Option Nat} {k : Nat} (hR : xq_rp Y ad s w) (hk : k < s.1) (hwin : ∀ k, win = some k → k < s.1) (h : win.map (ad 9) = some (ad 9 k)) : win = some k := by
  cases win with
  | none => cases h
  | some j =>
    have h2 : ad 9 j = ad 9 k := Option.some.inj h
    rw [(hR.2.1 9 j 9 k (xq_v9 (hwin j rfl)) (xq_v9 hk) h2).2]

set_option maxRecDepth 100000 in
set_option maxHeartbeats 4000000 in
theorem sc_inLive11 {b : Nat} (hR : xq_rp Y ad s w) (hb : b < s.2.1) (h : post (some (.int (mo_inLive s 1100 b))) w) : ptX2_isInLiveBout Y [.ref (ad 11 b)] w post := by
  have hv11 : xq_vl ad s 11 b := xq_v11 hb
  refine ⟨(by first | exact Nat.le_of_ble_eq_true rfl | simp [lg_sl, xw_cat_rf, xw_cat_i, xw_cat_r, xw_cat_n, xw_cat_l]), ?_⟩
  unfold mo_inLive at h
  rcases hL : xq_r s 1100 b with _ | k
  · rw [hL] at h
    first | refine rn_ald (lkX2_isInLiveBout_0 Y) rfl ?_ | refine rn_aldO (lkX2_isInLiveBout_0 Y) rfl ?_ | refine rn_aldN (lkX2_isInLiveBout_0 Y) rfl ?_
    refine rp_getf hR (lkX2_isInLiveBout_1 Y) (by first | assumption | exact xq_v0 (by decide)) rfl (u := .null) (by rw [hL]; rfl) ?_
    refine rn_ifnN (lkX2_isInLiveBout_4 Y) ?_
    refine rn_push (lkX2_isInLiveBout_21 Y) ?_
    refine rn_zret (lkX2_isInLiveBout_22 Y) (by first | exact Or.inl rfl | exact Or.inr rfl | assumption) ?_
    exact ⟨h, Nat.le_refl _, Nat.le_refl _⟩
  · rw [hL] at h
    have hk : k < s.1 := xq_r_lt hR.2.2.1 hb (by decide) hL
    have hv9 : xq_vl ad s 9 k := xq_v9 hk
    try dsimp only at h
    rcases hA : xq_r s 906 k with _ | d
    · rw [hA] at h
      first | refine rn_ald (lkX2_isInLiveBout_0 Y) rfl ?_ | refine rn_aldO (lkX2_isInLiveBout_0 Y) rfl ?_ | refine rn_aldN (lkX2_isInLiveBout_0 Y) rfl ?_
      refine rp_getf hR (lkX2_isInLiveBout_1 Y) (by first | assumption | exact xq_v0 (by decide)) rfl (u := .ref (ad 9 k)) (by rw [hL]; rfl) ?_
      refine rn_ifnR (lkX2_isInLiveBout_4 Y) ?_
      first | refine rn_ald (lkX2_isInLiveBout_7 Y) rfl ?_ | refine rn_aldO (lkX2_isInLiveBout_7 Y) rfl ?_ | refine rn_aldN (lkX2_isInLiveBout_7 Y) rfl ?_
      refine rp_getf hR (lkX2_isInLiveBout_8 Y) (by first | assumption | exact xq_v0 (by decide)) rfl (u := .ref (ad 9 k)) (by rw [hL]; rfl) ?_
      refine rp_getf hR (lkX2_isInLiveBout_11 Y) (by first | assumption | exact xq_v0 (by decide)) rfl (u := .null) (by rw [hA]; rfl) ?_
      refine rn_ifnN (lkX2_isInLiveBout_14 Y) ?_
      refine rn_push (lkX2_isInLiveBout_21 Y) ?_
      refine rn_zret (lkX2_isInLiveBout_22 Y) (by first | exact Or.inl rfl | exact Or.inr rfl | assumption) ?_
      exact ⟨h, Nat.le_refl _, Nat.le_refl _⟩
    · rw [hA] at h
      first | refine rn_ald (lkX2_isInLiveBout_0 Y) rfl ?_ | refine rn_aldO (lkX2_isInLiveBout_0 Y) rfl ?_ | refine rn_aldN (lkX2_isInLiveBout_0 Y) rfl ?_
      refine rp_getf hR (lkX2_isInLiveBout_1 Y) (by first | assumption | exact xq_v0 (by decide)) rfl (u := .ref (ad 9 k)) (by rw [hL]; rfl) ?_
      refine rn_ifnR (lkX2_isInLiveBout_4 Y) ?_
      first | refine rn_ald (lkX2_isInLiveBout_7 Y) rfl ?_ | refine rn_aldO (lkX2_isInLiveBout_7 Y) rfl ?_ | refine rn_aldN (lkX2_isInLiveBout_7 Y) rfl ?_
      refine rp_getf hR (lkX2_isInLiveBout_8 Y) (by first | assumption | exact xq_v0 (by decide)) rfl (u := .ref (ad 9 k)) (by rw [hL]; rfl) ?_
      refine rp_getf hR (lkX2_isInLiveBout_11 Y) (by first | assumption | exact xq_v0 (by decide)) rfl (u := .ref (ad 10 d)) (by rw [hA]; rfl) ?_
      refine rn_ifnR (lkX2_isInLiveBout_14 Y) ?_
      refine rn_push (lkX2_isInLiveBout_17 Y) ?_
      refine rn_goto (lkX2_isInLiveBout_18 Y) ?_
      refine rn_zret (lkX2_isInLiveBout_22 Y) (by first | exact Or.inl rfl | exact Or.inr rfl | assumption) ?_
      exact ⟨h, Nat.le_refl _, Nat.le_refl _⟩

set_option maxRecDepth 100000 in
set_option maxHeartbeats 4000000 in
theorem sc_rest11 {b : Nat} (hR : xq_rp Y ad s w) (hb : b < s.2.1) (h : post (some (.int (mo_rest s 1100 b))) w) : ptX2_restedAt Y [.ref (ad 11 b)] w post := by
  have hv11 : xq_vl ad s 11 b := xq_v11 hb
  refine ⟨(by first | exact Nat.le_of_ble_eq_true rfl | simp [lg_sl, xw_cat_rf, xw_cat_i, xw_cat_r, xw_cat_n, xw_cat_l]), ?_⟩
  unfold mo_rest at h
  rcases hL : xq_r s 1100 b with _ | k
  · rw [hL] at h
    first | refine rn_ald (lkX2_restedAt_0 Y) rfl ?_ | refine rn_aldO (lkX2_restedAt_0 Y) rfl ?_ | refine rn_aldN (lkX2_restedAt_0 Y) rfl ?_
    refine rp_getf hR (lkX2_restedAt_1 Y) (by first | assumption | exact xq_v0 (by decide)) rfl (u := .null) (by rw [hL]; rfl) ?_
    refine rn_ifnN (lkX2_restedAt_4 Y) ?_
    refine rn_push (lkX2_restedAt_7 Y) ?_
    refine rn_goto (lkX2_restedAt_8 Y) ?_
    refine rn_iret (lkX2_restedAt_18 Y) ?_
    exact ⟨h, Nat.le_refl _, Nat.le_refl _⟩
  · rw [hL] at h
    have hk : k < s.1 := xq_r_lt hR.2.2.1 hb (by decide) hL
    have hv9 : xq_vl ad s 9 k := xq_v9 hk
    first | refine rn_ald (lkX2_restedAt_0 Y) rfl ?_ | refine rn_aldO (lkX2_restedAt_0 Y) rfl ?_ | refine rn_aldN (lkX2_restedAt_0 Y) rfl ?_
    refine rp_getf hR (lkX2_restedAt_1 Y) (by first | assumption | exact xq_v0 (by decide)) rfl (u := .ref (ad 9 k)) (by rw [hL]; rfl) ?_
    refine rn_ifnR (lkX2_restedAt_4 Y) ?_
    first | refine rn_ald (lkX2_restedAt_11 Y) rfl ?_ | refine rn_aldO (lkX2_restedAt_11 Y) rfl ?_ | refine rn_aldN (lkX2_restedAt_11 Y) rfl ?_
    refine rp_getf hR (lkX2_restedAt_12 Y) (by first | assumption | exact xq_v0 (by decide)) rfl (u := .ref (ad 9 k)) (by rw [hL]; rfl) ?_
    refine rp_getf hR (lkX2_restedAt_15 Y) (by first | assumption | exact xq_v0 (by decide)) rfl rfl ?_
    refine rn_iret (lkX2_restedAt_18 Y) ?_
    exact ⟨h, Nat.le_refl _, Nat.le_refl _⟩

set_option maxRecDepth 100000 in
set_option maxHeartbeats 4000000 in
theorem sc_sbegin11 {d : Nat} {b : Nat} (hR : xq_rp Y ad s w) (hb : b < s.2.1) (hd : d < s.2.1) (h : ∀ w', xq_rp Y ad (mo_sbegin s 1100 b d) w' → post none w') : ptX2_begin Y [.ref (ad 11 b), .ref (ad 10 d)] w post := by
  have hv11 : xq_vl ad s 11 b := xq_v11 hb
  refine ⟨(by first | exact Nat.le_of_ble_eq_true rfl | simp [lg_sl, xw_cat_rf, xw_cat_i, xw_cat_r, xw_cat_n, xw_cat_l]), ?_⟩
  unfold mo_sbegin at h
  rcases hL : xq_r s 1100 b with _ | k
  · rw [hL] at h
    first | refine rn_ald (lkX2_begin_0 Y) rfl ?_ | refine rn_aldO (lkX2_begin_0 Y) rfl ?_ | refine rn_aldN (lkX2_begin_0 Y) rfl ?_
    refine rp_getf hR (lkX2_begin_1 Y) (by first | assumption | exact xq_v0 (by decide)) rfl (u := .null) (by rw [hL]; rfl) ?_
    refine rn_ifnN (lkX2_begin_4 Y) ?_
    refine rn_vret (lkX2_begin_15 Y) ?_
    exact ⟨h _ hR, Nat.le_refl _, Nat.le_refl _⟩
  · rw [hL] at h
    have hk : k < s.1 := xq_r_lt hR.2.2.1 hb (by decide) hL
    have hv9 : xq_vl ad s 9 k := xq_v9 hk
    first | refine rn_ald (lkX2_begin_0 Y) rfl ?_ | refine rn_aldO (lkX2_begin_0 Y) rfl ?_ | refine rn_aldN (lkX2_begin_0 Y) rfl ?_
    refine rp_getf hR (lkX2_begin_1 Y) (by first | assumption | exact xq_v0 (by decide)) rfl (u := .ref (ad 9 k)) (by rw [hL]; rfl) ?_
    refine rn_ifnR (lkX2_begin_4 Y) ?_
    first | refine rn_ald (lkX2_begin_7 Y) rfl ?_ | refine rn_aldO (lkX2_begin_7 Y) rfl ?_ | refine rn_aldN (lkX2_begin_7 Y) rfl ?_
    refine rp_getf hR (lkX2_begin_8 Y) (by first | assumption | exact xq_v0 (by decide)) rfl (u := .ref (ad 9 k)) (by rw [hL]; rfl) ?_
    first | refine rn_ald (lkX2_begin_11 Y) rfl ?_ | refine rn_aldO (lkX2_begin_11 Y) rfl ?_ | refine rn_aldN (lkX2_begin_11 Y) rfl ?_
    refine rp_putr (c := 906) (v := some d) hR (lkX2_begin_12 Y) (by first | assumption | exact xq_v0 (by decide)) rfl (Nat.le_of_ble_eq_true rfl) (xw_fit_o _ (some _)) rfl (fun k hk2 => ⟨fun _ => by cases hk2; exact hd, fun q => by omega⟩) (by simp [xq_en, xq_i_r, xq_r_r, va_rf]) (fun w hR => ?_)
    refine rn_vret (lkX2_begin_15 Y) ?_
    exact ⟨h _ hR, Nat.le_refl _, Nat.le_refl _⟩

set_option maxRecDepth 100000 in
set_option maxHeartbeats 4000000 in
theorem sc_send11 {time : Int32} {b : Nat} (hR : xq_rp Y ad s w) (hb : b < s.2.1) (h : ∀ w', xq_rp Y ad (mo_send s 1100 b time) w' → post none w') : ptX2_end Y [.ref (ad 11 b), .int time] w post := by
  have hv11 : xq_vl ad s 11 b := xq_v11 hb
  refine ⟨(by first | exact Nat.le_of_ble_eq_true rfl | simp [lg_sl, xw_cat_rf, xw_cat_i, xw_cat_r, xw_cat_n, xw_cat_l]), ?_⟩
  unfold mo_send at h
  rcases hL : xq_r s 1100 b with _ | k
  · rw [hL] at h
    first | refine rn_ald (lkX2_end_0 Y) rfl ?_ | refine rn_aldO (lkX2_end_0 Y) rfl ?_ | refine rn_aldN (lkX2_end_0 Y) rfl ?_
    refine rp_getf hR (lkX2_end_1 Y) (by first | assumption | exact xq_v0 (by decide)) rfl (u := .null) (by rw [hL]; rfl) ?_
    refine rn_ifnN (lkX2_end_4 Y) ?_
    refine rn_vret (lkX2_end_26 Y) ?_
    exact ⟨h _ hR, Nat.le_refl _, Nat.le_refl _⟩
  · rw [hL] at h
    have hk : k < s.1 := xq_r_lt hR.2.2.1 hb (by decide) hL
    have hv9 : xq_vl ad s 9 k := xq_v9 hk
    first | refine rn_ald (lkX2_end_0 Y) rfl ?_ | refine rn_aldO (lkX2_end_0 Y) rfl ?_ | refine rn_aldN (lkX2_end_0 Y) rfl ?_
    refine rp_getf hR (lkX2_end_1 Y) (by first | assumption | exact xq_v0 (by decide)) rfl (u := .ref (ad 9 k)) (by rw [hL]; rfl) ?_
    refine rn_ifnR (lkX2_end_4 Y) ?_
    first | refine rn_ald (lkX2_end_7 Y) rfl ?_ | refine rn_aldO (lkX2_end_7 Y) rfl ?_ | refine rn_aldN (lkX2_end_7 Y) rfl ?_
    refine rp_getf hR (lkX2_end_8 Y) (by first | assumption | exact xq_v0 (by decide)) rfl (u := .ref (ad 9 k)) (by rw [hL]; rfl) ?_
    refine rn_push (lkX2_end_11 Y) ?_
    refine rp_putr (c := 906) (v := none) hR (lkX2_end_12 Y) (by first | assumption | exact xq_v0 (by decide)) rfl (Nat.le_of_ble_eq_true rfl) (xw_fit_o _ none) rfl (fun k hk2 => nomatch hk2) (by simp [xq_en, xq_i_r, xq_r_r, va_rf]) (fun w hR => ?_)
    first | refine rn_ald (lkX2_end_15 Y) rfl ?_ | refine rn_aldO (lkX2_end_15 Y) rfl ?_ | refine rn_aldN (lkX2_end_15 Y) rfl ?_
    refine rp_getf hR (lkX2_end_16 Y) (by first | assumption | exact xq_v0 (by decide)) rfl (u := .ref (ad 9 k)) (by rw [xq_r_r, if_neg (fun z => absurd z.1 (by decide)), hL]; rfl) ?_
    refine rn_ild (lkX2_end_19 Y) rfl ?_
    refine rn_push (lkX2_end_20 Y) ?_
    refine rn_i2 (lkX2_end_22 Y) ?_
    refine rp_puti (c := 907) hR (lkX2_end_23 Y) (by first | assumption | exact xq_v0 (by decide)) rfl (Nat.le_of_ble_eq_true rfl) (xw_fit_i _) rfl (fun q => absurd q (by decide)) (by simp [xq_en, xq_i_i, xq_r_i]) (fun w hR => ?_)
    refine rn_vret (lkX2_end_26 Y) ?_
    exact ⟨h _ hR, Nat.le_refl _, Nat.le_refl _⟩

set_option maxRecDepth 100000 in
set_option maxHeartbeats 4000000 in
theorem sc_scount11 {win : Option Nat} {own others times : Int32} {b : Nat} (hR : xq_rp Y ad s w) (hb : b < s.2.1) (hwin : ∀ k, win = some k → k < s.1) (h : ∀ w', xq_rp Y ad (mo_scount s 1100 b win own others times) w' → post none w') : ptX2_count Y [.ref (ad 11 b), va_rf (win.map (ad 9)), .int own, .int others, .int times] w post := by
  have hv11 : xq_vl ad s 11 b := xq_v11 hb
  refine ⟨(by first | exact Nat.le_of_ble_eq_true rfl | simp [lg_sl, xw_cat_rf, xw_cat_i, xw_cat_r, xw_cat_n, xw_cat_l]), ?_⟩
  rw [show lv_args 0 [.ref (ad 11 b), va_rf (win.map (ad 9)), .int own, .int others, .int times] = [(0, .ref (ad 11 b)), (1, va_rf (win.map (ad 9))), (2, .int own), (3, .int others), (4, .int times)] from by simp [lv_args, xw_cat_rf, xw_cat_i, xw_cat_r, xw_cat_n, xw_cat_l]]
  unfold mo_scount at h
  rcases hL : xq_r s 1100 b with _ | k
  · rw [hL] at h
    first | refine rn_ald (lkX2_count_0 Y) rfl ?_ | refine rn_aldO (lkX2_count_0 Y) rfl ?_ | refine rn_aldN (lkX2_count_0 Y) rfl ?_
    refine rp_getf hR (lkX2_count_1 Y) (by first | assumption | exact xq_v0 (by decide)) rfl (u := .null) (by rw [hL]; rfl) ?_
    refine rn_ifnN (lkX2_count_4 Y) ?_
    refine rn_vret (lkX2_count_31 Y) ?_
    exact ⟨h _ hR, Nat.le_refl _, Nat.le_refl _⟩
  · rw [hL] at h
    have hk : k < s.1 := xq_r_lt hR.2.2.1 hb (by decide) hL
    have hv9 : xq_vl ad s 9 k := xq_v9 hk
    try dsimp only at h
    first | refine rn_ald (lkX2_count_0 Y) rfl ?_ | refine rn_aldO (lkX2_count_0 Y) rfl ?_ | refine rn_aldN (lkX2_count_0 Y) rfl ?_
    refine rp_getf hR (lkX2_count_1 Y) (by first | assumption | exact xq_v0 (by decide)) rfl (u := .ref (ad 9 k)) (by rw [hL]; rfl) ?_
    refine rn_ifnR (lkX2_count_4 Y) ?_
    first | refine rn_ald (lkX2_count_7 Y) rfl ?_ | refine rn_aldO (lkX2_count_7 Y) rfl ?_ | refine rn_aldN (lkX2_count_7 Y) rfl ?_
    refine rp_getf hR (lkX2_count_8 Y) (by first | assumption | exact xq_v0 (by decide)) rfl (u := .ref (ad 9 k)) (by rw [hL]; rfl) ?_
    first | refine rn_ald (lkX2_count_11 Y) rfl ?_ | refine rn_aldO (lkX2_count_11 Y) rfl ?_ | refine rn_aldN (lkX2_count_11 Y) rfl ?_
    first | refine rn_ald (lkX2_count_12 Y) rfl ?_ | refine rn_aldO (lkX2_count_12 Y) rfl ?_ | refine rn_aldN (lkX2_count_12 Y) rfl ?_
    refine rp_getf hR (lkX2_count_13 Y) (by first | assumption | exact xq_v0 (by decide)) rfl (u := va_rf (some (ad 9 k))) (by rw [hL]; rfl) ?_
    refine rn_ifa (lkX2_count_16 Y) (fun c_16 => ?_) (fun c_16 => ?_)
    · have e : win = some k := xq_win hR hk hwin c_16
      rw [if_pos e] at h
      refine rn_push (lkX2_count_19 Y) ?_
      refine rn_goto (lkX2_count_20 Y) ?_
      refine rn_ild (lkX2_count_24 Y) rfl ?_
      refine rn_ild (lkX2_count_25 Y) rfl ?_
      refine rn_ild (lkX2_count_26 Y) rfl ?_
      refine rp_callV hR (lkX2_count_28 Y) rfl hv9 rfl (Nat.le_of_ble_eq_true rfl) (Nat.le_of_ble_eq_true rfl) (Nat.le_of_ble_eq_true rfl) ?_
      refine sc_count1 hR hk (fun w hR => ?_)
      refine rn_vret (lkX2_count_31 Y) ?_
      exact ⟨h _ hR, Nat.le_refl _, Nat.le_refl _⟩
    · have e : ¬ win = some k := fun z => c_16 (by rw [z]; rfl)
      rw [if_neg e] at h
      refine rn_push (lkX2_count_23 Y) ?_
      refine rn_ild (lkX2_count_24 Y) rfl ?_
      refine rn_ild (lkX2_count_25 Y) rfl ?_
      refine rn_ild (lkX2_count_26 Y) rfl ?_
      refine rp_callV hR (lkX2_count_28 Y) rfl hv9 rfl (Nat.le_of_ble_eq_true rfl) (Nat.le_of_ble_eq_true rfl) (Nat.le_of_ble_eq_true rfl) ?_
      refine sc_count1 hR hk (fun w hR => ?_)
      refine rn_vret (lkX2_count_31 Y) ?_
      exact ⟨h _ hR, Nat.le_refl _, Nat.le_refl _⟩

set_option maxRecDepth 100000 in
set_option maxHeartbeats 4000000 in
theorem sc_inLive12 {b : Nat} (hR : xq_rp Y ad s w) (hb : b < s.2.1) (h : post (some (.int (mo_inLive s 1200 b))) w) : ptX2_isInLiveBout Y [.ref (ad 12 b)] w post := by
  have hv12 : xq_vl ad s 12 b := xq_v12 hb
  refine ⟨(by first | exact Nat.le_of_ble_eq_true rfl | simp [lg_sl, xw_cat_rf, xw_cat_i, xw_cat_r, xw_cat_n, xw_cat_l]), ?_⟩
  unfold mo_inLive at h
  rcases hL : xq_r s 1200 b with _ | k
  · rw [hL] at h
    first | refine rn_ald (lkX2_isInLiveBout_0 Y) rfl ?_ | refine rn_aldO (lkX2_isInLiveBout_0 Y) rfl ?_ | refine rn_aldN (lkX2_isInLiveBout_0 Y) rfl ?_
    refine rp_getf hR (lkX2_isInLiveBout_1 Y) (by first | assumption | exact xq_v0 (by decide)) rfl (u := .null) (by rw [hL]; rfl) ?_
    refine rn_ifnN (lkX2_isInLiveBout_4 Y) ?_
    refine rn_push (lkX2_isInLiveBout_21 Y) ?_
    refine rn_zret (lkX2_isInLiveBout_22 Y) (by first | exact Or.inl rfl | exact Or.inr rfl | assumption) ?_
    exact ⟨h, Nat.le_refl _, Nat.le_refl _⟩
  · rw [hL] at h
    have hk : k < s.1 := xq_r_lt hR.2.2.1 hb (by decide) hL
    have hv9 : xq_vl ad s 9 k := xq_v9 hk
    try dsimp only at h
    rcases hA : xq_r s 906 k with _ | d
    · rw [hA] at h
      first | refine rn_ald (lkX2_isInLiveBout_0 Y) rfl ?_ | refine rn_aldO (lkX2_isInLiveBout_0 Y) rfl ?_ | refine rn_aldN (lkX2_isInLiveBout_0 Y) rfl ?_
      refine rp_getf hR (lkX2_isInLiveBout_1 Y) (by first | assumption | exact xq_v0 (by decide)) rfl (u := .ref (ad 9 k)) (by rw [hL]; rfl) ?_
      refine rn_ifnR (lkX2_isInLiveBout_4 Y) ?_
      first | refine rn_ald (lkX2_isInLiveBout_7 Y) rfl ?_ | refine rn_aldO (lkX2_isInLiveBout_7 Y) rfl ?_ | refine rn_aldN (lkX2_isInLiveBout_7 Y) rfl ?_
      refine rp_getf hR (lkX2_isInLiveBout_8 Y) (by first | assumption | exact xq_v0 (by decide)) rfl (u := .ref (ad 9 k)) (by rw [hL]; rfl) ?_
      refine rp_getf hR (lkX2_isInLiveBout_11 Y) (by first | assumption | exact xq_v0 (by decide)) rfl (u := .null) (by rw [hA]; rfl) ?_
      refine rn_ifnN (lkX2_isInLiveBout_14 Y) ?_
      refine rn_push (lkX2_isInLiveBout_21 Y) ?_
      refine rn_zret (lkX2_isInLiveBout_22 Y) (by first | exact Or.inl rfl | exact Or.inr rfl | assumption) ?_
      exact ⟨h, Nat.le_refl _, Nat.le_refl _⟩
    · rw [hA] at h
      first | refine rn_ald (lkX2_isInLiveBout_0 Y) rfl ?_ | refine rn_aldO (lkX2_isInLiveBout_0 Y) rfl ?_ | refine rn_aldN (lkX2_isInLiveBout_0 Y) rfl ?_
      refine rp_getf hR (lkX2_isInLiveBout_1 Y) (by first | assumption | exact xq_v0 (by decide)) rfl (u := .ref (ad 9 k)) (by rw [hL]; rfl) ?_
      refine rn_ifnR (lkX2_isInLiveBout_4 Y) ?_
      first | refine rn_ald (lkX2_isInLiveBout_7 Y) rfl ?_ | refine rn_aldO (lkX2_isInLiveBout_7 Y) rfl ?_ | refine rn_aldN (lkX2_isInLiveBout_7 Y) rfl ?_
      refine rp_getf hR (lkX2_isInLiveBout_8 Y) (by first | assumption | exact xq_v0 (by decide)) rfl (u := .ref (ad 9 k)) (by rw [hL]; rfl) ?_
      refine rp_getf hR (lkX2_isInLiveBout_11 Y) (by first | assumption | exact xq_v0 (by decide)) rfl (u := .ref (ad 10 d)) (by rw [hA]; rfl) ?_
      refine rn_ifnR (lkX2_isInLiveBout_14 Y) ?_
      refine rn_push (lkX2_isInLiveBout_17 Y) ?_
      refine rn_goto (lkX2_isInLiveBout_18 Y) ?_
      refine rn_zret (lkX2_isInLiveBout_22 Y) (by first | exact Or.inl rfl | exact Or.inr rfl | assumption) ?_
      exact ⟨h, Nat.le_refl _, Nat.le_refl _⟩

set_option maxRecDepth 100000 in
set_option maxHeartbeats 4000000 in
theorem sc_rest12 {b : Nat} (hR : xq_rp Y ad s w) (hb : b < s.2.1) (h : post (some (.int (mo_rest s 1200 b))) w) : ptX2_restedAt Y [.ref (ad 12 b)] w post := by
  have hv12 : xq_vl ad s 12 b := xq_v12 hb
  refine ⟨(by first | exact Nat.le_of_ble_eq_true rfl | simp [lg_sl, xw_cat_rf, xw_cat_i, xw_cat_r, xw_cat_n, xw_cat_l]), ?_⟩
  unfold mo_rest at h
  rcases hL : xq_r s 1200 b with _ | k
  · rw [hL] at h
    first | refine rn_ald (lkX2_restedAt_0 Y) rfl ?_ | refine rn_aldO (lkX2_restedAt_0 Y) rfl ?_ | refine rn_aldN (lkX2_restedAt_0 Y) rfl ?_
    refine rp_getf hR (lkX2_restedAt_1 Y) (by first | assumption | exact xq_v0 (by decide)) rfl (u := .null) (by rw [hL]; rfl) ?_
    refine rn_ifnN (lkX2_restedAt_4 Y) ?_
    refine rn_push (lkX2_restedAt_7 Y) ?_
    refine rn_goto (lkX2_restedAt_8 Y) ?_
    refine rn_iret (lkX2_restedAt_18 Y) ?_
    exact ⟨h, Nat.le_refl _, Nat.le_refl _⟩
  · rw [hL] at h
    have hk : k < s.1 := xq_r_lt hR.2.2.1 hb (by decide) hL
    have hv9 : xq_vl ad s 9 k := xq_v9 hk
    first | refine rn_ald (lkX2_restedAt_0 Y) rfl ?_ | refine rn_aldO (lkX2_restedAt_0 Y) rfl ?_ | refine rn_aldN (lkX2_restedAt_0 Y) rfl ?_
    refine rp_getf hR (lkX2_restedAt_1 Y) (by first | assumption | exact xq_v0 (by decide)) rfl (u := .ref (ad 9 k)) (by rw [hL]; rfl) ?_
    refine rn_ifnR (lkX2_restedAt_4 Y) ?_
    first | refine rn_ald (lkX2_restedAt_11 Y) rfl ?_ | refine rn_aldO (lkX2_restedAt_11 Y) rfl ?_ | refine rn_aldN (lkX2_restedAt_11 Y) rfl ?_
    refine rp_getf hR (lkX2_restedAt_12 Y) (by first | assumption | exact xq_v0 (by decide)) rfl (u := .ref (ad 9 k)) (by rw [hL]; rfl) ?_
    refine rp_getf hR (lkX2_restedAt_15 Y) (by first | assumption | exact xq_v0 (by decide)) rfl rfl ?_
    refine rn_iret (lkX2_restedAt_18 Y) ?_
    exact ⟨h, Nat.le_refl _, Nat.le_refl _⟩

set_option maxRecDepth 100000 in
set_option maxHeartbeats 4000000 in
theorem sc_sbegin12 {d : Nat} {b : Nat} (hR : xq_rp Y ad s w) (hb : b < s.2.1) (hd : d < s.2.1) (h : ∀ w', xq_rp Y ad (mo_sbegin s 1200 b d) w' → post none w') : ptX2_begin Y [.ref (ad 12 b), .ref (ad 10 d)] w post := by
  have hv12 : xq_vl ad s 12 b := xq_v12 hb
  refine ⟨(by first | exact Nat.le_of_ble_eq_true rfl | simp [lg_sl, xw_cat_rf, xw_cat_i, xw_cat_r, xw_cat_n, xw_cat_l]), ?_⟩
  unfold mo_sbegin at h
  rcases hL : xq_r s 1200 b with _ | k
  · rw [hL] at h
    first | refine rn_ald (lkX2_begin_0 Y) rfl ?_ | refine rn_aldO (lkX2_begin_0 Y) rfl ?_ | refine rn_aldN (lkX2_begin_0 Y) rfl ?_
    refine rp_getf hR (lkX2_begin_1 Y) (by first | assumption | exact xq_v0 (by decide)) rfl (u := .null) (by rw [hL]; rfl) ?_
    refine rn_ifnN (lkX2_begin_4 Y) ?_
    refine rn_vret (lkX2_begin_15 Y) ?_
    exact ⟨h _ hR, Nat.le_refl _, Nat.le_refl _⟩
  · rw [hL] at h
    have hk : k < s.1 := xq_r_lt hR.2.2.1 hb (by decide) hL
    have hv9 : xq_vl ad s 9 k := xq_v9 hk
    first | refine rn_ald (lkX2_begin_0 Y) rfl ?_ | refine rn_aldO (lkX2_begin_0 Y) rfl ?_ | refine rn_aldN (lkX2_begin_0 Y) rfl ?_
    refine rp_getf hR (lkX2_begin_1 Y) (by first | assumption | exact xq_v0 (by decide)) rfl (u := .ref (ad 9 k)) (by rw [hL]; rfl) ?_
    refine rn_ifnR (lkX2_begin_4 Y) ?_
    first | refine rn_ald (lkX2_begin_7 Y) rfl ?_ | refine rn_aldO (lkX2_begin_7 Y) rfl ?_ | refine rn_aldN (lkX2_begin_7 Y) rfl ?_
    refine rp_getf hR (lkX2_begin_8 Y) (by first | assumption | exact xq_v0 (by decide)) rfl (u := .ref (ad 9 k)) (by rw [hL]; rfl) ?_
    first | refine rn_ald (lkX2_begin_11 Y) rfl ?_ | refine rn_aldO (lkX2_begin_11 Y) rfl ?_ | refine rn_aldN (lkX2_begin_11 Y) rfl ?_
    refine rp_putr (c := 906) (v := some d) hR (lkX2_begin_12 Y) (by first | assumption | exact xq_v0 (by decide)) rfl (Nat.le_of_ble_eq_true rfl) (xw_fit_o _ (some _)) rfl (fun k hk2 => ⟨fun _ => by cases hk2; exact hd, fun q => by omega⟩) (by simp [xq_en, xq_i_r, xq_r_r, va_rf]) (fun w hR => ?_)
    refine rn_vret (lkX2_begin_15 Y) ?_
    exact ⟨h _ hR, Nat.le_refl _, Nat.le_refl _⟩

set_option maxRecDepth 100000 in
set_option maxHeartbeats 4000000 in
theorem sc_send12 {time : Int32} {b : Nat} (hR : xq_rp Y ad s w) (hb : b < s.2.1) (h : ∀ w', xq_rp Y ad (mo_send s 1200 b time) w' → post none w') : ptX2_end Y [.ref (ad 12 b), .int time] w post := by
  have hv12 : xq_vl ad s 12 b := xq_v12 hb
  refine ⟨(by first | exact Nat.le_of_ble_eq_true rfl | simp [lg_sl, xw_cat_rf, xw_cat_i, xw_cat_r, xw_cat_n, xw_cat_l]), ?_⟩
  unfold mo_send at h
  rcases hL : xq_r s 1200 b with _ | k
  · rw [hL] at h
    first | refine rn_ald (lkX2_end_0 Y) rfl ?_ | refine rn_aldO (lkX2_end_0 Y) rfl ?_ | refine rn_aldN (lkX2_end_0 Y) rfl ?_
    refine rp_getf hR (lkX2_end_1 Y) (by first | assumption | exact xq_v0 (by decide)) rfl (u := .null) (by rw [hL]; rfl) ?_
    refine rn_ifnN (lkX2_end_4 Y) ?_
    refine rn_vret (lkX2_end_26 Y) ?_
    exact ⟨h _ hR, Nat.le_refl _, Nat.le_refl _⟩
  · rw [hL] at h
    have hk : k < s.1 := xq_r_lt hR.2.2.1 hb (by decide) hL
    have hv9 : xq_vl ad s 9 k := xq_v9 hk
    first | refine rn_ald (lkX2_end_0 Y) rfl ?_ | refine rn_aldO (lkX2_end_0 Y) rfl ?_ | refine rn_aldN (lkX2_end_0 Y) rfl ?_
    refine rp_getf hR (lkX2_end_1 Y) (by first | assumption | exact xq_v0 (by decide)) rfl (u := .ref (ad 9 k)) (by rw [hL]; rfl) ?_
    refine rn_ifnR (lkX2_end_4 Y) ?_
    first | refine rn_ald (lkX2_end_7 Y) rfl ?_ | refine rn_aldO (lkX2_end_7 Y) rfl ?_ | refine rn_aldN (lkX2_end_7 Y) rfl ?_
    refine rp_getf hR (lkX2_end_8 Y) (by first | assumption | exact xq_v0 (by decide)) rfl (u := .ref (ad 9 k)) (by rw [hL]; rfl) ?_
    refine rn_push (lkX2_end_11 Y) ?_
    refine rp_putr (c := 906) (v := none) hR (lkX2_end_12 Y) (by first | assumption | exact xq_v0 (by decide)) rfl (Nat.le_of_ble_eq_true rfl) (xw_fit_o _ none) rfl (fun k hk2 => nomatch hk2) (by simp [xq_en, xq_i_r, xq_r_r, va_rf]) (fun w hR => ?_)
    first | refine rn_ald (lkX2_end_15 Y) rfl ?_ | refine rn_aldO (lkX2_end_15 Y) rfl ?_ | refine rn_aldN (lkX2_end_15 Y) rfl ?_
    refine rp_getf hR (lkX2_end_16 Y) (by first | assumption | exact xq_v0 (by decide)) rfl (u := .ref (ad 9 k)) (by rw [xq_r_r, if_neg (fun z => absurd z.1 (by decide)), hL]; rfl) ?_
    refine rn_ild (lkX2_end_19 Y) rfl ?_
    refine rn_push (lkX2_end_20 Y) ?_
    refine rn_i2 (lkX2_end_22 Y) ?_
    refine rp_puti (c := 907) hR (lkX2_end_23 Y) (by first | assumption | exact xq_v0 (by decide)) rfl (Nat.le_of_ble_eq_true rfl) (xw_fit_i _) rfl (fun q => absurd q (by decide)) (by simp [xq_en, xq_i_i, xq_r_i]) (fun w hR => ?_)
    refine rn_vret (lkX2_end_26 Y) ?_
    exact ⟨h _ hR, Nat.le_refl _, Nat.le_refl _⟩

set_option maxRecDepth 100000 in
set_option maxHeartbeats 4000000 in
theorem sc_scount12 {win : Option Nat} {own others times : Int32} {b : Nat} (hR : xq_rp Y ad s w) (hb : b < s.2.1) (hwin : ∀ k, win = some k → k < s.1) (h : ∀ w', xq_rp Y ad (mo_scount s 1200 b win own others times) w' → post none w') : ptX2_count Y [.ref (ad 12 b), va_rf (win.map (ad 9)), .int own, .int others, .int times] w post := by
  have hv12 : xq_vl ad s 12 b := xq_v12 hb
  refine ⟨(by first | exact Nat.le_of_ble_eq_true rfl | simp [lg_sl, xw_cat_rf, xw_cat_i, xw_cat_r, xw_cat_n, xw_cat_l]), ?_⟩
  rw [show lv_args 0 [.ref (ad 12 b), va_rf (win.map (ad 9)), .int own, .int others, .int times] = [(0, .ref (ad 12 b)), (1, va_rf (win.map (ad 9))), (2, .int own), (3, .int others), (4, .int times)] from by simp [lv_args, xw_cat_rf, xw_cat_i, xw_cat_r, xw_cat_n, xw_cat_l]]
  unfold mo_scount at h
  rcases hL : xq_r s 1200 b with _ | k
  · rw [hL] at h
    first | refine rn_ald (lkX2_count_0 Y) rfl ?_ | refine rn_aldO (lkX2_count_0 Y) rfl ?_ | refine rn_aldN (lkX2_count_0 Y) rfl ?_
    refine rp_getf hR (lkX2_count_1 Y) (by first | assumption | exact xq_v0 (by decide)) rfl (u := .null) (by rw [hL]; rfl) ?_
    refine rn_ifnN (lkX2_count_4 Y) ?_
    refine rn_vret (lkX2_count_31 Y) ?_
    exact ⟨h _ hR, Nat.le_refl _, Nat.le_refl _⟩
  · rw [hL] at h
    have hk : k < s.1 := xq_r_lt hR.2.2.1 hb (by decide) hL
    have hv9 : xq_vl ad s 9 k := xq_v9 hk
    try dsimp only at h
    first | refine rn_ald (lkX2_count_0 Y) rfl ?_ | refine rn_aldO (lkX2_count_0 Y) rfl ?_ | refine rn_aldN (lkX2_count_0 Y) rfl ?_
    refine rp_getf hR (lkX2_count_1 Y) (by first | assumption | exact xq_v0 (by decide)) rfl (u := .ref (ad 9 k)) (by rw [hL]; rfl) ?_
    refine rn_ifnR (lkX2_count_4 Y) ?_
    first | refine rn_ald (lkX2_count_7 Y) rfl ?_ | refine rn_aldO (lkX2_count_7 Y) rfl ?_ | refine rn_aldN (lkX2_count_7 Y) rfl ?_
    refine rp_getf hR (lkX2_count_8 Y) (by first | assumption | exact xq_v0 (by decide)) rfl (u := .ref (ad 9 k)) (by rw [hL]; rfl) ?_
    first | refine rn_ald (lkX2_count_11 Y) rfl ?_ | refine rn_aldO (lkX2_count_11 Y) rfl ?_ | refine rn_aldN (lkX2_count_11 Y) rfl ?_
    first | refine rn_ald (lkX2_count_12 Y) rfl ?_ | refine rn_aldO (lkX2_count_12 Y) rfl ?_ | refine rn_aldN (lkX2_count_12 Y) rfl ?_
    refine rp_getf hR (lkX2_count_13 Y) (by first | assumption | exact xq_v0 (by decide)) rfl (u := va_rf (some (ad 9 k))) (by rw [hL]; rfl) ?_
    refine rn_ifa (lkX2_count_16 Y) (fun c_16 => ?_) (fun c_16 => ?_)
    · have e : win = some k := xq_win hR hk hwin c_16
      rw [if_pos e] at h
      refine rn_push (lkX2_count_19 Y) ?_
      refine rn_goto (lkX2_count_20 Y) ?_
      refine rn_ild (lkX2_count_24 Y) rfl ?_
      refine rn_ild (lkX2_count_25 Y) rfl ?_
      refine rn_ild (lkX2_count_26 Y) rfl ?_
      refine rp_callV hR (lkX2_count_28 Y) rfl hv9 rfl (Nat.le_of_ble_eq_true rfl) (Nat.le_of_ble_eq_true rfl) (Nat.le_of_ble_eq_true rfl) ?_
      refine sc_count1 hR hk (fun w hR => ?_)
      refine rn_vret (lkX2_count_31 Y) ?_
      exact ⟨h _ hR, Nat.le_refl _, Nat.le_refl _⟩
    · have e : ¬ win = some k := fun z => c_16 (by rw [z]; rfl)
      rw [if_neg e] at h
      refine rn_push (lkX2_count_23 Y) ?_
      refine rn_ild (lkX2_count_24 Y) rfl ?_
      refine rn_ild (lkX2_count_25 Y) rfl ?_
      refine rn_ild (lkX2_count_26 Y) rfl ?_
      refine rp_callV hR (lkX2_count_28 Y) rfl hv9 rfl (Nat.le_of_ble_eq_true rfl) (Nat.le_of_ble_eq_true rfl) (Nat.le_of_ble_eq_true rfl) ?_
      refine sc_count1 hR hk (fun w hR => ?_)
      refine rn_vret (lkX2_count_31 Y) ?_
      exact ⟨h _ hR, Nat.le_refl _, Nat.le_refl _⟩

end XC2
