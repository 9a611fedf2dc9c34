/-! THE FENCERS, SIDES AND BOUTS: what their methods answer and do -/
section XMD
theorem xq_v0 {ad : Nat → Nat → Nat} {s : xq_S} {t : Nat} (h : t ≤ 6) : xq_vl ad s t 0 := Or.inl ⟨h, rfl⟩
theorem xq_v9 {ad : Nat → Nat → Nat} {s : xq_S} {k : Nat} (h : k < s.1) : xq_vl ad s 9 k := Or.inr (Or.inr (Or.inr (Or.inl ⟨rfl, h⟩)))
theorem xq_v10 {ad : Nat → Nat → Nat} {s : xq_S} {b : Nat} (h : b < s.2.1) : xq_vl ad s 10 b := Or.inr (Or.inr (Or.inr (Or.inr ⟨by decide, by decide, h⟩)))
theorem xq_v11 {ad : Nat → Nat → Nat} {s : xq_S} {b : Nat} (h : b < s.2.1) : xq_vl ad s 11 b := Or.inr (Or.inr (Or.inr (Or.inr ⟨by decide, by decide, h⟩)))
theorem xq_v12 {ad : Nat → Nat → Nat} {s : xq_S} {b : Nat} (h : b < s.2.1) : xq_vl ad s 12 b := Or.inr (Or.inr (Or.inr (Or.inr ⟨by decide, by decide, h⟩)))
/-- a fencer's counts -/
def mo_count (s : xq_S) (k : Nat) (wins own others times : Int32) : xq_S :=
  let s := xu_i s 908 k (xq_i s 908 k + times)
  let s := xu_i s 909 k (xq_i s 909 k + (if wins = 0 then 0 else times))
  let s := xu_i s 910 k (xq_i s 910 k + own * times)
  xu_i s 911 k (xq_i s 911 k + others * times)
def mo_max (x y : Int32) : Int32 := if x < y then y else x
/-- WON / MET crosswise -/
def mo_share (s : xq_S) (k j : Nat) : Int32 := xq_i s 909 k * mo_max (xq_i s 908 j) 1
def mo_diff (s : xq_S) (k : Nat) : Int32 := xq_i s 910 k - xq_i s 911 k
/-- who is ahead in the order -/
def mo_ahead (s : xq_S) (k j : Nat) : Int32 :=
  if xq_i s 905 k = xq_i s 905 j then
    if mo_share s k j = mo_share s j k then
      if mo_diff s k = mo_diff s j then
        if xq_i s 910 k = xq_i s 910 j then
          if xq_i s 901 k = xq_i s 901 j then (if xq_i s 900 j ≤ xq_i s 900 k then 0 else 1)
          else (if xq_i s 901 j ≤ xq_i s 901 k then 0 else 1)
        else (if xq_i s 910 k ≤ xq_i s 910 j then 0 else 1)
      else (if mo_diff s k ≤ mo_diff s j then 0 else 1)
    else (if mo_share s k j ≤ mo_share s j k then 0 else 1)
  else xq_i s 905 j
def mo_placed (s : xq_S) (k j : Nat) : Int32 :=
  if xq_i s 905 k = 0 ∧ xq_i s 905 j = 0 ∧ ¬ xq_i s 913 k = xq_i s 913 j then (if xq_i s 913 k ≤ xq_i s 913 j then 0 else 1) else mo_ahead s k j
def mo_goal (s : xq_S) (b : Nat) : Int32 := if xq_i s 1001 b = -1 then 5 else 15
def mo_periods (s : xq_S) (b : Nat) : Int32 := if xq_i s 1001 b = -1 then 1 else 3
def mo_extra (s : xq_S) (b : Nat) : Int32 := if xq_i s 1007 b ≤ mo_periods s b then 0 else 1
end XMD
section XC1
variable {Y : xw_Y} {ad : Nat → Nat → Nat} {s : xq_S} {w : xw_W} {post : Option Value → xw_W → Prop}
set_option maxRecDepth 100000 in
set_option maxHeartbeats 4000000 in
theorem sc_isIn {x a b : Int32} (h : post (some (.int (if x < a ∨ b < x then 0 else 1))) w) : ptX3_isIn Y [.int x, .int a, .int b] w post := by
  refine ⟨(by first | exact Nat.le_of_ble_eq_true rfl | simp [lg_sl, xw_cat_rf, xw_cat_i, xw_cat_r, xw_cat_n, xw_cat_l]), ?_⟩
  refine rn_ild (lkX3_isIn_0 Y) rfl ?_
  refine rn_ild (lkX3_isIn_1 Y) rfl ?_
  refine rn_ifc (lkX3_isIn_2 Y) (fun c_2 => ?_) (fun c_2 => ?_)
  · try dsimp only at c_2
    refine rn_push (lkX3_isIn_14 Y) ?_
    refine rn_zret (lkX3_isIn_15 Y) (by first | exact Or.inl rfl | exact Or.inr rfl | assumption) ?_
    simp only [c_2, or_self, or_true, true_or, or_false, false_or, if_true, if_false] at h
    exact ⟨h, Nat.le_refl _, Nat.le_refl _⟩
  · try dsimp only at c_2
    refine rn_ild (lkX3_isIn_5 Y) rfl ?_
    refine rn_ild (lkX3_isIn_6 Y) rfl ?_
    refine rn_ifc (lkX3_isIn_7 Y) (fun c_7 => ?_) (fun c_7 => ?_)
    · try dsimp only at c_7
      refine rn_push (lkX3_isIn_14 Y) ?_
      refine rn_zret (lkX3_isIn_15 Y) (by first | exact Or.inl rfl | exact Or.inr rfl | assumption) ?_
      simp only [c_2, c_7, or_self, or_true, true_or, or_false, false_or, if_true, if_false] at h
      exact ⟨h, Nat.le_refl _, Nat.le_refl _⟩
    · try dsimp only at c_7
      refine rn_push (lkX3_isIn_10 Y) ?_
      refine rn_goto (lkX3_isIn_11 Y) ?_
      refine rn_zret (lkX3_isIn_15 Y) (by first | exact Or.inl rfl | exact Or.inr rfl | assumption) ?_
      simp only [c_2, c_7, or_self, or_true, true_or, or_false, false_or, if_true, if_false] at h
      exact ⟨h, Nat.le_refl _, Nat.le_refl _⟩

set_option maxRecDepth 100000 in
set_option maxHeartbeats 4000000 in
theorem sc_count1 {k : Nat} {wins own others times : Int32} (hR : xq_rp Y ad s w) (hk : k < s.1) (h : ∀ w', xq_rp Y ad (mo_count s k wins own others times) w' → post none w') : ptX1_count Y [.ref (ad 9 k), .int wins, .int own, .int others, .int times] w post := by
  have hv9 : xq_vl ad s 9 k := xq_v9 hk
  refine ⟨(by first | exact Nat.le_of_ble_eq_true rfl | simp [lg_sl, xw_cat_rf, xw_cat_i, xw_cat_r, xw_cat_n, xw_cat_l]), ?_⟩
  first | refine rn_ald (lkX1_count_0 Y) rfl ?_ | refine rn_aldO (lkX1_count_0 Y) rfl ?_ | refine rn_aldN (lkX1_count_0 Y) rfl ?_
  refine rn_dup (lkX1_count_1 Y) (by first | rfl | exact xw_cat_rf _) ?_
  refine rp_getf hR (lkX1_count_2 Y) (by first | assumption | exact xq_v0 (by decide)) rfl rfl ?_
  refine rn_ild (lkX1_count_5 Y) rfl ?_
  refine rn_i2 (lkX1_count_7 Y) ?_
  refine rp_puti (c := 908) hR (lkX1_count_8 Y) (by assumption) rfl (Nat.le_of_ble_eq_true rfl) (xw_fit_i _) rfl (fun q => absurd q (by decide)) (by simp [xq_en, xq_i_i, xq_r_i]) (fun w hR => ?_)
  first | refine rn_ald (lkX1_count_11 Y) rfl ?_ | refine rn_aldO (lkX1_count_11 Y) rfl ?_ | refine rn_aldN (lkX1_count_11 Y) rfl ?_
  refine rn_dup (lkX1_count_12 Y) (by first | rfl | exact xw_cat_rf _) ?_
  refine rp_getf hR (lkX1_count_13 Y) (by first | assumption | exact xq_v0 (by decide)) rfl rfl ?_
  refine rn_ild (lkX1_count_16 Y) rfl ?_
  refine rn_ifz (lkX1_count_17 Y) (fun c_17 => ?_) (fun c_17 => ?_)
  · try dsimp only at c_17
    refine rn_push (lkX1_count_25 Y) ?_
    refine rn_i2 (lkX1_count_26 Y) ?_
    refine rp_puti (c := 909) hR (lkX1_count_27 Y) (by assumption) rfl (Nat.le_of_ble_eq_true rfl) (xw_fit_i _) rfl (fun q => absurd q (by decide)) (by simp [xq_en, xq_i_i, xq_r_i]) (fun w hR => ?_)
    first | refine rn_ald (lkX1_count_30 Y) rfl ?_ | refine rn_aldO (lkX1_count_30 Y) rfl ?_ | refine rn_aldN (lkX1_count_30 Y) rfl ?_
    refine rn_dup (lkX1_count_31 Y) (by first | rfl | exact xw_cat_rf _) ?_
    refine rp_getf hR (lkX1_count_32 Y) (by first | assumption | exact xq_v0 (by decide)) rfl rfl ?_
    refine rn_ild (lkX1_count_35 Y) rfl ?_
    refine rn_ild (lkX1_count_36 Y) rfl ?_
    refine rn_i2 (lkX1_count_38 Y) ?_
    refine rn_i2 (lkX1_count_39 Y) ?_
    refine rp_puti (c := 910) hR (lkX1_count_40 Y) (by assumption) rfl (Nat.le_of_ble_eq_true rfl) (xw_fit_i _) rfl (fun q => absurd q (by decide)) (by simp [xq_en, xq_i_i, xq_r_i]) (fun w hR => ?_)
    first | refine rn_ald (lkX1_count_43 Y) rfl ?_ | refine rn_aldO (lkX1_count_43 Y) rfl ?_ | refine rn_aldN (lkX1_count_43 Y) rfl ?_
    refine rn_dup (lkX1_count_44 Y) (by first | rfl | exact xw_cat_rf _) ?_
    refine rp_getf hR (lkX1_count_45 Y) (by first | assumption | exact xq_v0 (by decide)) rfl rfl ?_
    refine rn_ild (lkX1_count_48 Y) rfl ?_
    refine rn_ild (lkX1_count_49 Y) rfl ?_
    refine rn_i2 (lkX1_count_51 Y) ?_
    refine rn_i2 (lkX1_count_52 Y) ?_
    refine rp_puti (c := 911) hR (lkX1_count_53 Y) (by assumption) rfl (Nat.le_of_ble_eq_true rfl) (xw_fit_i _) rfl (fun q => absurd q (by decide)) (by simp [xq_en, xq_i_i, xq_r_i]) (fun w hR => ?_)
    refine rn_vret (lkX1_count_56 Y) ?_
    first | (rw [mo_count, if_pos c_17] at h; exact ⟨h _ hR, Nat.le_refl _, Nat.le_refl _⟩) | (rw [mo_count, if_neg c_17] at h; exact ⟨h _ hR, Nat.le_refl _, Nat.le_refl _⟩)
  · try dsimp only at c_17
    refine rn_ild (lkX1_count_20 Y) rfl ?_
    refine rn_goto (lkX1_count_22 Y) ?_
    refine rn_i2 (lkX1_count_26 Y) ?_
    refine rp_puti (c := 909) hR (lkX1_count_27 Y) (by assumption) rfl (Nat.le_of_ble_eq_true rfl) (xw_fit_i _) rfl (fun q => absurd q (by decide)) (by simp [xq_en, xq_i_i, xq_r_i]) (fun w hR => ?_)
    first | refine rn_ald (lkX1_count_30 Y) rfl ?_ | refine rn_aldO (lkX1_count_30 Y) rfl ?_ | refine rn_aldN (lkX1_count_30 Y) rfl ?_
    refine rn_dup (lkX1_count_31 Y) (by first | rfl | exact xw_cat_rf _) ?_
    refine rp_getf hR (lkX1_count_32 Y) (by first | assumption | exact xq_v0 (by decide)) rfl rfl ?_
    refine rn_ild (lkX1_count_35 Y) rfl ?_
    refine rn_ild (lkX1_count_36 Y) rfl ?_
    refine rn_i2 (lkX1_count_38 Y) ?_
    refine rn_i2 (lkX1_count_39 Y) ?_
    refine rp_puti (c := 910) hR (lkX1_count_40 Y) (by assumption) rfl (Nat.le_of_ble_eq_true rfl) (xw_fit_i _) rfl (fun q => absurd q (by decide)) (by simp [xq_en, xq_i_i, xq_r_i]) (fun w hR => ?_)
    first | refine rn_ald (lkX1_count_43 Y) rfl ?_ | refine rn_aldO (lkX1_count_43 Y) rfl ?_ | refine rn_aldN (lkX1_count_43 Y) rfl ?_
    refine rn_dup (lkX1_count_44 Y) (by first | rfl | exact xw_cat_rf _) ?_
    refine rp_getf hR (lkX1_count_45 Y) (by first | assumption | exact xq_v0 (by decide)) rfl rfl ?_
    refine rn_ild (lkX1_count_48 Y) rfl ?_
    refine rn_ild (lkX1_count_49 Y) rfl ?_
    refine rn_i2 (lkX1_count_51 Y) ?_
    refine rn_i2 (lkX1_count_52 Y) ?_
    refine rp_puti (c := 911) hR (lkX1_count_53 Y) (by assumption) rfl (Nat.le_of_ble_eq_true rfl) (xw_fit_i _) rfl (fun q => absurd q (by decide)) (by simp [xq_en, xq_i_i, xq_r_i]) (fun w hR => ?_)
    refine rn_vret (lkX1_count_56 Y) ?_
    first | (rw [mo_count, if_pos c_17] at h; exact ⟨h _ hR, Nat.le_refl _, Nat.le_refl _⟩) | (rw [mo_count, if_neg c_17] at h; exact ⟨h _ hR, Nat.le_refl _, Nat.le_refl _⟩)

set_option maxRecDepth 100000 in
set_option maxHeartbeats 4000000 in
theorem sc_ahead {k j : Nat} (hR : xq_rp Y ad s w) (hk : k < s.1) (hj : j < s.1) (h : post (some (.int (mo_ahead s k j))) w) : ptX1_isAheadOf Y [.ref (ad 9 k), .ref (ad 9 j)] w post := by
  have hv9 : xq_vl ad s 9 k := xq_v9 hk
  have hv9j : xq_vl ad s 9 j := xq_v9 hj
  refine ⟨(by first | exact Nat.le_of_ble_eq_true rfl | simp [lg_sl, xw_cat_rf, xw_cat_i, xw_cat_r, xw_cat_n, xw_cat_l]), ?_⟩
  first | refine rn_ald (lkX1_isAheadOf_0 Y) rfl ?_ | refine rn_aldO (lkX1_isAheadOf_0 Y) rfl ?_ | refine rn_aldN (lkX1_isAheadOf_0 Y) rfl ?_
  refine rp_getf hR (lkX1_isAheadOf_1 Y) (by first | assumption | exact xq_v0 (by decide)) rfl rfl ?_
  first | refine rn_ald (lkX1_isAheadOf_4 Y) rfl ?_ | refine rn_aldO (lkX1_isAheadOf_4 Y) rfl ?_ | refine rn_aldN (lkX1_isAheadOf_4 Y) rfl ?_
  refine rp_getf hR (lkX1_isAheadOf_5 Y) (by first | assumption | exact xq_v0 (by decide)) rfl rfl ?_
  refine rn_ifc (lkX1_isAheadOf_8 Y) (fun c_8 => ?_) (fun c_8 => ?_)
  · try dsimp only at c_8
    first | refine rn_ald (lkX1_isAheadOf_16 Y) rfl ?_ | refine rn_aldO (lkX1_isAheadOf_16 Y) rfl ?_ | refine rn_aldN (lkX1_isAheadOf_16 Y) rfl ?_
    refine rp_getf hR (lkX1_isAheadOf_17 Y) (by first | assumption | exact xq_v0 (by decide)) rfl rfl ?_
    first | refine rn_ald (lkX1_isAheadOf_20 Y) rfl ?_ | refine rn_aldO (lkX1_isAheadOf_20 Y) rfl ?_ | refine rn_aldN (lkX1_isAheadOf_20 Y) rfl ?_
    refine rp_getf hR (lkX1_isAheadOf_21 Y) (by first | assumption | exact xq_v0 (by decide)) rfl rfl ?_
    refine rn_push (lkX1_isAheadOf_24 Y) ?_
    refine rn_max (lkX1_isAheadOf_25 Y) (Nat.le_of_ble_eq_true rfl) (Nat.le_of_ble_eq_true rfl) (Nat.le_of_ble_eq_true rfl) ?_
    refine rn_i2 (lkX1_isAheadOf_28 Y) ?_
    refine rn_ist (lkX1_isAheadOf_29 Y) rfl ?_
    first | refine rn_ald (lkX1_isAheadOf_30 Y) rfl ?_ | refine rn_aldO (lkX1_isAheadOf_30 Y) rfl ?_ | refine rn_aldN (lkX1_isAheadOf_30 Y) rfl ?_
    refine rp_getf hR (lkX1_isAheadOf_31 Y) (by first | assumption | exact xq_v0 (by decide)) rfl rfl ?_
    first | refine rn_ald (lkX1_isAheadOf_34 Y) rfl ?_ | refine rn_aldO (lkX1_isAheadOf_34 Y) rfl ?_ | refine rn_aldN (lkX1_isAheadOf_34 Y) rfl ?_
    refine rp_getf hR (lkX1_isAheadOf_35 Y) (by first | assumption | exact xq_v0 (by decide)) rfl rfl ?_
    refine rn_push (lkX1_isAheadOf_38 Y) ?_
    refine rn_max (lkX1_isAheadOf_39 Y) (Nat.le_of_ble_eq_true rfl) (Nat.le_of_ble_eq_true rfl) (Nat.le_of_ble_eq_true rfl) ?_
    refine rn_i2 (lkX1_isAheadOf_42 Y) ?_
    refine rn_ist (lkX1_isAheadOf_43 Y) rfl ?_
    refine rn_ild (lkX1_isAheadOf_44 Y) rfl ?_
    refine rn_ild (lkX1_isAheadOf_45 Y) rfl ?_
    refine rn_ifc (lkX1_isAheadOf_46 Y) (fun c_46 => ?_) (fun c_46 => ?_)
    · try dsimp only at c_46
      first | refine rn_ald (lkX1_isAheadOf_60 Y) rfl ?_ | refine rn_aldO (lkX1_isAheadOf_60 Y) rfl ?_ | refine rn_aldN (lkX1_isAheadOf_60 Y) rfl ?_
      refine rp_getf hR (lkX1_isAheadOf_61 Y) (by first | assumption | exact xq_v0 (by decide)) rfl rfl ?_
      first | refine rn_ald (lkX1_isAheadOf_64 Y) rfl ?_ | refine rn_aldO (lkX1_isAheadOf_64 Y) rfl ?_ | refine rn_aldN (lkX1_isAheadOf_64 Y) rfl ?_
      refine rp_getf hR (lkX1_isAheadOf_65 Y) (by first | assumption | exact xq_v0 (by decide)) rfl rfl ?_
      refine rn_i2 (lkX1_isAheadOf_68 Y) ?_
      first | refine rn_ald (lkX1_isAheadOf_69 Y) rfl ?_ | refine rn_aldO (lkX1_isAheadOf_69 Y) rfl ?_ | refine rn_aldN (lkX1_isAheadOf_69 Y) rfl ?_
      refine rp_getf hR (lkX1_isAheadOf_70 Y) (by first | assumption | exact xq_v0 (by decide)) rfl rfl ?_
      first | refine rn_ald (lkX1_isAheadOf_73 Y) rfl ?_ | refine rn_aldO (lkX1_isAheadOf_73 Y) rfl ?_ | refine rn_aldN (lkX1_isAheadOf_73 Y) rfl ?_
      refine rp_getf hR (lkX1_isAheadOf_74 Y) (by first | assumption | exact xq_v0 (by decide)) rfl rfl ?_
      refine rn_i2 (lkX1_isAheadOf_77 Y) ?_
      refine rn_ifc (lkX1_isAheadOf_78 Y) (fun c_78 => ?_) (fun c_78 => ?_)
      · try dsimp only at c_78
        first | refine rn_ald (lkX1_isAheadOf_108 Y) rfl ?_ | refine rn_aldO (lkX1_isAheadOf_108 Y) rfl ?_ | refine rn_aldN (lkX1_isAheadOf_108 Y) rfl ?_
        refine rp_getf hR (lkX1_isAheadOf_109 Y) (by first | assumption | exact xq_v0 (by decide)) rfl rfl ?_
        first | refine rn_ald (lkX1_isAheadOf_112 Y) rfl ?_ | refine rn_aldO (lkX1_isAheadOf_112 Y) rfl ?_ | refine rn_aldN (lkX1_isAheadOf_112 Y) rfl ?_
        refine rp_getf hR (lkX1_isAheadOf_113 Y) (by first | assumption | exact xq_v0 (by decide)) rfl rfl ?_
        refine rn_ifc (lkX1_isAheadOf_116 Y) (fun c_116 => ?_) (fun c_116 => ?_)
        · try dsimp only at c_116
          first | refine rn_ald (lkX1_isAheadOf_136 Y) rfl ?_ | refine rn_aldO (lkX1_isAheadOf_136 Y) rfl ?_ | refine rn_aldN (lkX1_isAheadOf_136 Y) rfl ?_
          refine rp_getf hR (lkX1_isAheadOf_137 Y) (by first | assumption | exact xq_v0 (by decide)) rfl rfl ?_
          first | refine rn_ald (lkX1_isAheadOf_140 Y) rfl ?_ | refine rn_aldO (lkX1_isAheadOf_140 Y) rfl ?_ | refine rn_aldN (lkX1_isAheadOf_140 Y) rfl ?_
          refine rp_getf hR (lkX1_isAheadOf_141 Y) (by first | assumption | exact xq_v0 (by decide)) rfl rfl ?_
          refine rn_ifc (lkX1_isAheadOf_144 Y) (fun c_144 => ?_) (fun c_144 => ?_)
          · try dsimp only at c_144
            first | refine rn_ald (lkX1_isAheadOf_164 Y) rfl ?_ | refine rn_aldO (lkX1_isAheadOf_164 Y) rfl ?_ | refine rn_aldN (lkX1_isAheadOf_164 Y) rfl ?_
            refine rp_getf hR (lkX1_isAheadOf_165 Y) (by first | assumption | exact xq_v0 (by decide)) rfl rfl ?_
            first | refine rn_ald (lkX1_isAheadOf_168 Y) rfl ?_ | refine rn_aldO (lkX1_isAheadOf_168 Y) rfl ?_ | refine rn_aldN (lkX1_isAheadOf_168 Y) rfl ?_
            refine rp_getf hR (lkX1_isAheadOf_169 Y) (by first | assumption | exact xq_v0 (by decide)) rfl rfl ?_
            refine rn_ifc (lkX1_isAheadOf_172 Y) (fun c_172 => ?_) (fun c_172 => ?_)
            · try dsimp only at c_172
              refine rn_push (lkX1_isAheadOf_179 Y) ?_
              refine rn_zret (lkX1_isAheadOf_180 Y) (by first | exact Or.inl rfl | exact Or.inr rfl | assumption) ?_
              unfold mo_ahead mo_share mo_max mo_diff at h
              first | rw [if_pos c_8] at h | rw [if_neg c_8] at h | rw [if_pos (Classical.not_not.mp c_8)] at h
              first | rw [if_pos c_46] at h | rw [if_neg c_46] at h | rw [if_pos (Classical.not_not.mp c_46)] at h
              first | rw [if_pos c_78] at h | rw [if_neg c_78] at h | rw [if_pos (Classical.not_not.mp c_78)] at h
              first | rw [if_pos c_116] at h | rw [if_neg c_116] at h | rw [if_pos (Classical.not_not.mp c_116)] at h
              first | rw [if_pos c_144] at h | rw [if_neg c_144] at h | rw [if_pos (Classical.not_not.mp c_144)] at h
              first | rw [if_pos c_172] at h | rw [if_neg c_172] at h | rw [if_pos (Classical.not_not.mp c_172)] at h
              exact ⟨h, Nat.le_refl _, Nat.le_refl _⟩
            · try dsimp only at c_172
              refine rn_push (lkX1_isAheadOf_175 Y) ?_
              refine rn_goto (lkX1_isAheadOf_176 Y) ?_
              refine rn_zret (lkX1_isAheadOf_180 Y) (by first | exact Or.inl rfl | exact Or.inr rfl | assumption) ?_
              unfold mo_ahead mo_share mo_max mo_diff at h
              first | rw [if_pos c_8] at h | rw [if_neg c_8] at h | rw [if_pos (Classical.not_not.mp c_8)] at h
              first | rw [if_pos c_46] at h | rw [if_neg c_46] at h | rw [if_pos (Classical.not_not.mp c_46)] at h
              first | rw [if_pos c_78] at h | rw [if_neg c_78] at h | rw [if_pos (Classical.not_not.mp c_78)] at h
              first | rw [if_pos c_116] at h | rw [if_neg c_116] at h | rw [if_pos (Classical.not_not.mp c_116)] at h
              first | rw [if_pos c_144] at h | rw [if_neg c_144] at h | rw [if_pos (Classical.not_not.mp c_144)] at h
              first | rw [if_pos c_172] at h | rw [if_neg c_172] at h | rw [if_pos (Classical.not_not.mp c_172)] at h
              exact ⟨h, Nat.le_refl _, Nat.le_refl _⟩
          · try dsimp only at c_144
            first | refine rn_ald (lkX1_isAheadOf_147 Y) rfl ?_ | refine rn_aldO (lkX1_isAheadOf_147 Y) rfl ?_ | refine rn_aldN (lkX1_isAheadOf_147 Y) rfl ?_
            refine rp_getf hR (lkX1_isAheadOf_148 Y) (by first | assumption | exact xq_v0 (by decide)) rfl rfl ?_
            first | refine rn_ald (lkX1_isAheadOf_151 Y) rfl ?_ | refine rn_aldO (lkX1_isAheadOf_151 Y) rfl ?_ | refine rn_aldN (lkX1_isAheadOf_151 Y) rfl ?_
            refine rp_getf hR (lkX1_isAheadOf_152 Y) (by first | assumption | exact xq_v0 (by decide)) rfl rfl ?_
            refine rn_ifc (lkX1_isAheadOf_155 Y) (fun c_155 => ?_) (fun c_155 => ?_)
            · try dsimp only at c_155
              refine rn_push (lkX1_isAheadOf_162 Y) ?_
              refine rn_zret (lkX1_isAheadOf_163 Y) (by first | exact Or.inl rfl | exact Or.inr rfl | assumption) ?_
              unfold mo_ahead mo_share mo_max mo_diff at h
              first | rw [if_pos c_8] at h | rw [if_neg c_8] at h | rw [if_pos (Classical.not_not.mp c_8)] at h
              first | rw [if_pos c_46] at h | rw [if_neg c_46] at h | rw [if_pos (Classical.not_not.mp c_46)] at h
              first | rw [if_pos c_78] at h | rw [if_neg c_78] at h | rw [if_pos (Classical.not_not.mp c_78)] at h
              first | rw [if_pos c_116] at h | rw [if_neg c_116] at h | rw [if_pos (Classical.not_not.mp c_116)] at h
              first | rw [if_pos c_144] at h | rw [if_neg c_144] at h | rw [if_pos (Classical.not_not.mp c_144)] at h
              first | rw [if_pos c_155] at h | rw [if_neg c_155] at h | rw [if_pos (Classical.not_not.mp c_155)] at h
              exact ⟨h, Nat.le_refl _, Nat.le_refl _⟩
            · try dsimp only at c_155
              refine rn_push (lkX1_isAheadOf_158 Y) ?_
              refine rn_goto (lkX1_isAheadOf_159 Y) ?_
              refine rn_zret (lkX1_isAheadOf_163 Y) (by first | exact Or.inl rfl | exact Or.inr rfl | assumption) ?_
              unfold mo_ahead mo_share mo_max mo_diff at h
              first | rw [if_pos c_8] at h | rw [if_neg c_8] at h | rw [if_pos (Classical.not_not.mp c_8)] at h
              first | rw [if_pos c_46] at h | rw [if_neg c_46] at h | rw [if_pos (Classical.not_not.mp c_46)] at h
              first | rw [if_pos c_78] at h | rw [if_neg c_78] at h | rw [if_pos (Classical.not_not.mp c_78)] at h
              first | rw [if_pos c_116] at h | rw [if_neg c_116] at h | rw [if_pos (Classical.not_not.mp c_116)] at h
              first | rw [if_pos c_144] at h | rw [if_neg c_144] at h | rw [if_pos (Classical.not_not.mp c_144)] at h
              first | rw [if_pos c_155] at h | rw [if_neg c_155] at h | rw [if_pos (Classical.not_not.mp c_155)] at h
              exact ⟨h, Nat.le_refl _, Nat.le_refl _⟩
        · try dsimp only at c_116
          first | refine rn_ald (lkX1_isAheadOf_119 Y) rfl ?_ | refine rn_aldO (lkX1_isAheadOf_119 Y) rfl ?_ | refine rn_aldN (lkX1_isAheadOf_119 Y) rfl ?_
          refine rp_getf hR (lkX1_isAheadOf_120 Y) (by first | assumption | exact xq_v0 (by decide)) rfl rfl ?_
          first | refine rn_ald (lkX1_isAheadOf_123 Y) rfl ?_ | refine rn_aldO (lkX1_isAheadOf_123 Y) rfl ?_ | refine rn_aldN (lkX1_isAheadOf_123 Y) rfl ?_
          refine rp_getf hR (lkX1_isAheadOf_124 Y) (by first | assumption | exact xq_v0 (by decide)) rfl rfl ?_
          refine rn_ifc (lkX1_isAheadOf_127 Y) (fun c_127 => ?_) (fun c_127 => ?_)
          · try dsimp only at c_127
            refine rn_push (lkX1_isAheadOf_134 Y) ?_
            refine rn_zret (lkX1_isAheadOf_135 Y) (by first | exact Or.inl rfl | exact Or.inr rfl | assumption) ?_
            unfold mo_ahead mo_share mo_max mo_diff at h
            first | rw [if_pos c_8] at h | rw [if_neg c_8] at h | rw [if_pos (Classical.not_not.mp c_8)] at h
            first | rw [if_pos c_46] at h | rw [if_neg c_46] at h | rw [if_pos (Classical.not_not.mp c_46)] at h
            first | rw [if_pos c_78] at h | rw [if_neg c_78] at h | rw [if_pos (Classical.not_not.mp c_78)] at h
            first | rw [if_pos c_116] at h | rw [if_neg c_116] at h | rw [if_pos (Classical.not_not.mp c_116)] at h
            first | rw [if_pos c_127] at h | rw [if_neg c_127] at h | rw [if_pos (Classical.not_not.mp c_127)] at h
            exact ⟨h, Nat.le_refl _, Nat.le_refl _⟩
          · try dsimp only at c_127
            refine rn_push (lkX1_isAheadOf_130 Y) ?_
            refine rn_goto (lkX1_isAheadOf_131 Y) ?_
            refine rn_zret (lkX1_isAheadOf_135 Y) (by first | exact Or.inl rfl | exact Or.inr rfl | assumption) ?_
            unfold mo_ahead mo_share mo_max mo_diff at h
            first | rw [if_pos c_8] at h | rw [if_neg c_8] at h | rw [if_pos (Classical.not_not.mp c_8)] at h
            first | rw [if_pos c_46] at h | rw [if_neg c_46] at h | rw [if_pos (Classical.not_not.mp c_46)] at h
            first | rw [if_pos c_78] at h | rw [if_neg c_78] at h | rw [if_pos (Classical.not_not.mp c_78)] at h
            first | rw [if_pos c_116] at h | rw [if_neg c_116] at h | rw [if_pos (Classical.not_not.mp c_116)] at h
            first | rw [if_pos c_127] at h | rw [if_neg c_127] at h | rw [if_pos (Classical.not_not.mp c_127)] at h
            exact ⟨h, Nat.le_refl _, Nat.le_refl _⟩
      · try dsimp only at c_78
        first | refine rn_ald (lkX1_isAheadOf_81 Y) rfl ?_ | refine rn_aldO (lkX1_isAheadOf_81 Y) rfl ?_ | refine rn_aldN (lkX1_isAheadOf_81 Y) rfl ?_
        refine rp_getf hR (lkX1_isAheadOf_82 Y) (by first | assumption | exact xq_v0 (by decide)) rfl rfl ?_
        first | refine rn_ald (lkX1_isAheadOf_85 Y) rfl ?_ | refine rn_aldO (lkX1_isAheadOf_85 Y) rfl ?_ | refine rn_aldN (lkX1_isAheadOf_85 Y) rfl ?_
        refine rp_getf hR (lkX1_isAheadOf_86 Y) (by first | assumption | exact xq_v0 (by decide)) rfl rfl ?_
        refine rn_i2 (lkX1_isAheadOf_89 Y) ?_
        first | refine rn_ald (lkX1_isAheadOf_90 Y) rfl ?_ | refine rn_aldO (lkX1_isAheadOf_90 Y) rfl ?_ | refine rn_aldN (lkX1_isAheadOf_90 Y) rfl ?_
        refine rp_getf hR (lkX1_isAheadOf_91 Y) (by first | assumption | exact xq_v0 (by decide)) rfl rfl ?_
        first | refine rn_ald (lkX1_isAheadOf_94 Y) rfl ?_ | refine rn_aldO (lkX1_isAheadOf_94 Y) rfl ?_ | refine rn_aldN (lkX1_isAheadOf_94 Y) rfl ?_
        refine rp_getf hR (lkX1_isAheadOf_95 Y) (by first | assumption | exact xq_v0 (by decide)) rfl rfl ?_
        refine rn_i2 (lkX1_isAheadOf_98 Y) ?_
        refine rn_ifc (lkX1_isAheadOf_99 Y) (fun c_99 => ?_) (fun c_99 => ?_)
        · try dsimp only at c_99
          refine rn_push (lkX1_isAheadOf_106 Y) ?_
          refine rn_zret (lkX1_isAheadOf_107 Y) (by first | exact Or.inl rfl | exact Or.inr rfl | assumption) ?_
          unfold mo_ahead mo_share mo_max mo_diff at h
          first | rw [if_pos c_8] at h | rw [if_neg c_8] at h | rw [if_pos (Classical.not_not.mp c_8)] at h
          first | rw [if_pos c_46] at h | rw [if_neg c_46] at h | rw [if_pos (Classical.not_not.mp c_46)] at h
          first | rw [if_pos c_78] at h | rw [if_neg c_78] at h | rw [if_pos (Classical.not_not.mp c_78)] at h
          first | rw [if_pos c_99] at h | rw [if_neg c_99] at h | rw [if_pos (Classical.not_not.mp c_99)] at h
          exact ⟨h, Nat.le_refl _, Nat.le_refl _⟩
        · try dsimp only at c_99
          refine rn_push (lkX1_isAheadOf_102 Y) ?_
          refine rn_goto (lkX1_isAheadOf_103 Y) ?_
          refine rn_zret (lkX1_isAheadOf_107 Y) (by first | exact Or.inl rfl | exact Or.inr rfl | assumption) ?_
          unfold mo_ahead mo_share mo_max mo_diff at h
          first | rw [if_pos c_8] at h | rw [if_neg c_8] at h | rw [if_pos (Classical.not_not.mp c_8)] at h
          first | rw [if_pos c_46] at h | rw [if_neg c_46] at h | rw [if_pos (Classical.not_not.mp c_46)] at h
          first | rw [if_pos c_78] at h | rw [if_neg c_78] at h | rw [if_pos (Classical.not_not.mp c_78)] at h
          first | rw [if_pos c_99] at h | rw [if_neg c_99] at h | rw [if_pos (Classical.not_not.mp c_99)] at h
          exact ⟨h, Nat.le_refl _, Nat.le_refl _⟩
    · try dsimp only at c_46
      refine rn_ild (lkX1_isAheadOf_49 Y) rfl ?_
      refine rn_ild (lkX1_isAheadOf_50 Y) rfl ?_
      refine rn_ifc (lkX1_isAheadOf_51 Y) (fun c_51 => ?_) (fun c_51 => ?_)
      · try dsimp only at c_51
        refine rn_push (lkX1_isAheadOf_58 Y) ?_
        refine rn_zret (lkX1_isAheadOf_59 Y) (by first | exact Or.inl rfl | exact Or.inr rfl | assumption) ?_
        unfold mo_ahead mo_share mo_max mo_diff at h
        first | rw [if_pos c_8] at h | rw [if_neg c_8] at h | rw [if_pos (Classical.not_not.mp c_8)] at h
        first | rw [if_pos c_46] at h | rw [if_neg c_46] at h | rw [if_pos (Classical.not_not.mp c_46)] at h
        first | rw [if_pos c_51] at h | rw [if_neg c_51] at h | rw [if_pos (Classical.not_not.mp c_51)] at h
        exact ⟨h, Nat.le_refl _, Nat.le_refl _⟩
      · try dsimp only at c_51
        refine rn_push (lkX1_isAheadOf_54 Y) ?_
        refine rn_goto (lkX1_isAheadOf_55 Y) ?_
        refine rn_zret (lkX1_isAheadOf_59 Y) (by first | exact Or.inl rfl | exact Or.inr rfl | assumption) ?_
        unfold mo_ahead mo_share mo_max mo_diff at h
        first | rw [if_pos c_8] at h | rw [if_neg c_8] at h | rw [if_pos (Classical.not_not.mp c_8)] at h
        first | rw [if_pos c_46] at h | rw [if_neg c_46] at h | rw [if_pos (Classical.not_not.mp c_46)] at h
        first | rw [if_pos c_51] at h | rw [if_neg c_51] at h | rw [if_pos (Classical.not_not.mp c_51)] at h
        exact ⟨h, Nat.le_refl _, Nat.le_refl _⟩
  · try dsimp only at c_8
    first | refine rn_ald (lkX1_isAheadOf_11 Y) rfl ?_ | refine rn_aldO (lkX1_isAheadOf_11 Y) rfl ?_ | refine rn_aldN (lkX1_isAheadOf_11 Y) rfl ?_
    refine rp_getf hR (lkX1_isAheadOf_12 Y) (by first | assumption | exact xq_v0 (by decide)) rfl rfl ?_
    refine rn_zret (lkX1_isAheadOf_15 Y) (hR.2.2.1.2.2.2.2.2.2 j hj) ?_
    rw [mo_ahead, if_neg c_8] at h
    exact ⟨h, Nat.le_refl _, Nat.le_refl _⟩

theorem mo_ahead_01 {k j : Nat} (h : xq_wf s) (hj : j < s.1) : mo_ahead s k j = 0 ∨ mo_ahead s k j = 1 := by
  unfold mo_ahead
  repeat' split
  all_goals first | exact Or.inl rfl | exact Or.inr rfl | exact h.2.2.2.2.2.2 j hj

set_option maxRecDepth 100000 in
set_option maxHeartbeats 4000000 in
theorem sc_placed {k j : Nat} (hR : xq_rp Y ad s w) (hk : k < s.1) (hj : j < s.1) (h : post (some (.int (mo_placed s k j))) w) : ptX1_isPlacedAheadOf Y [.ref (ad 9 k), .ref (ad 9 j)] w post := by
  have hv9 : xq_vl ad s 9 k := xq_v9 hk
  have hv9j : xq_vl ad s 9 j := xq_v9 hj
  refine ⟨(by first | exact Nat.le_of_ble_eq_true rfl | simp [lg_sl, xw_cat_rf, xw_cat_i, xw_cat_r, xw_cat_n, xw_cat_l]), ?_⟩
  first | refine rn_ald (lkX1_isPlacedAheadOf_0 Y) rfl ?_ | refine rn_aldO (lkX1_isPlacedAheadOf_0 Y) rfl ?_ | refine rn_aldN (lkX1_isPlacedAheadOf_0 Y) rfl ?_
  refine rp_getf hR (lkX1_isPlacedAheadOf_1 Y) (by first | assumption | exact xq_v0 (by decide)) rfl rfl ?_
  refine rn_ifz (lkX1_isPlacedAheadOf_4 Y) (fun c_4 => ?_) (fun c_4 => ?_)
  · try dsimp only at c_4
    first | refine rn_ald (lkX1_isPlacedAheadOf_42 Y) rfl ?_ | refine rn_aldO (lkX1_isPlacedAheadOf_42 Y) rfl ?_ | refine rn_aldN (lkX1_isPlacedAheadOf_42 Y) rfl ?_
    first | refine rn_ald (lkX1_isPlacedAheadOf_43 Y) rfl ?_ | refine rn_aldO (lkX1_isPlacedAheadOf_43 Y) rfl ?_ | refine rn_aldN (lkX1_isPlacedAheadOf_43 Y) rfl ?_
    refine rp_callV hR (lkX1_isPlacedAheadOf_44 Y) rfl (by first | assumption | exact xq_v0 (by decide)) rfl (Nat.le_of_ble_eq_true rfl) (Nat.le_of_ble_eq_true rfl) (Nat.le_of_ble_eq_true rfl) ?_
    refine sc_ahead hR hk hj ?_
    refine rn_zret (lkX1_isPlacedAheadOf_47 Y) (mo_ahead_01 hR.2.2.1 hj) ?_
    unfold mo_placed at h
    simp only [c_4, not_true, not_false_iff, and_true, true_and, and_false, false_and, if_true, if_false, Classical.not_not] at h
    exact ⟨h, Nat.le_refl _, Nat.le_refl _⟩
  · try dsimp only at c_4
    first | refine rn_ald (lkX1_isPlacedAheadOf_7 Y) rfl ?_ | refine rn_aldO (lkX1_isPlacedAheadOf_7 Y) rfl ?_ | refine rn_aldN (lkX1_isPlacedAheadOf_7 Y) rfl ?_
    refine rp_getf hR (lkX1_isPlacedAheadOf_8 Y) (by first | assumption | exact xq_v0 (by decide)) rfl rfl ?_
    refine rn_ifz (lkX1_isPlacedAheadOf_11 Y) (fun c_11 => ?_) (fun c_11 => ?_)
    · try dsimp only at c_11
      first | refine rn_ald (lkX1_isPlacedAheadOf_42 Y) rfl ?_ | refine rn_aldO (lkX1_isPlacedAheadOf_42 Y) rfl ?_ | refine rn_aldN (lkX1_isPlacedAheadOf_42 Y) rfl ?_
      first | refine rn_ald (lkX1_isPlacedAheadOf_43 Y) rfl ?_ | refine rn_aldO (lkX1_isPlacedAheadOf_43 Y) rfl ?_ | refine rn_aldN (lkX1_isPlacedAheadOf_43 Y) rfl ?_
      refine rp_callV hR (lkX1_isPlacedAheadOf_44 Y) rfl (by first | assumption | exact xq_v0 (by decide)) rfl (Nat.le_of_ble_eq_true rfl) (Nat.le_of_ble_eq_true rfl) (Nat.le_of_ble_eq_true rfl) ?_
      refine sc_ahead hR hk hj ?_
      refine rn_zret (lkX1_isPlacedAheadOf_47 Y) (mo_ahead_01 hR.2.2.1 hj) ?_
      unfold mo_placed at h
      simp only [c_4, c_11, not_true, not_false_iff, and_true, true_and, and_false, false_and, if_true, if_false, Classical.not_not] at h
      exact ⟨h, Nat.le_refl _, Nat.le_refl _⟩
    · try dsimp only at c_11
      first | refine rn_ald (lkX1_isPlacedAheadOf_14 Y) rfl ?_ | refine rn_aldO (lkX1_isPlacedAheadOf_14 Y) rfl ?_ | refine rn_aldN (lkX1_isPlacedAheadOf_14 Y) rfl ?_
      refine rp_getf hR (lkX1_isPlacedAheadOf_15 Y) (by first | assumption | exact xq_v0 (by decide)) rfl rfl ?_
      first | refine rn_ald (lkX1_isPlacedAheadOf_18 Y) rfl ?_ | refine rn_aldO (lkX1_isPlacedAheadOf_18 Y) rfl ?_ | refine rn_aldN (lkX1_isPlacedAheadOf_18 Y) rfl ?_
      refine rp_getf hR (lkX1_isPlacedAheadOf_19 Y) (by first | assumption | exact xq_v0 (by decide)) rfl rfl ?_
      refine rn_ifc (lkX1_isPlacedAheadOf_22 Y) (fun c_22 => ?_) (fun c_22 => ?_)
      · try dsimp only at c_22
        first | refine rn_ald (lkX1_isPlacedAheadOf_42 Y) rfl ?_ | refine rn_aldO (lkX1_isPlacedAheadOf_42 Y) rfl ?_ | refine rn_aldN (lkX1_isPlacedAheadOf_42 Y) rfl ?_
        first | refine rn_ald (lkX1_isPlacedAheadOf_43 Y) rfl ?_ | refine rn_aldO (lkX1_isPlacedAheadOf_43 Y) rfl ?_ | refine rn_aldN (lkX1_isPlacedAheadOf_43 Y) rfl ?_
        refine rp_callV hR (lkX1_isPlacedAheadOf_44 Y) rfl (by first | assumption | exact xq_v0 (by decide)) rfl (Nat.le_of_ble_eq_true rfl) (Nat.le_of_ble_eq_true rfl) (Nat.le_of_ble_eq_true rfl) ?_
        refine sc_ahead hR hk hj ?_
        refine rn_zret (lkX1_isPlacedAheadOf_47 Y) (mo_ahead_01 hR.2.2.1 hj) ?_
        unfold mo_placed at h
        simp only [c_4, c_11, c_22, not_true, not_false_iff, and_true, true_and, and_false, false_and, if_true, if_false, Classical.not_not] at h
        exact ⟨h, Nat.le_refl _, Nat.le_refl _⟩
      · try dsimp only at c_22
        first | refine rn_ald (lkX1_isPlacedAheadOf_25 Y) rfl ?_ | refine rn_aldO (lkX1_isPlacedAheadOf_25 Y) rfl ?_ | refine rn_aldN (lkX1_isPlacedAheadOf_25 Y) rfl ?_
        refine rp_getf hR (lkX1_isPlacedAheadOf_26 Y) (by first | assumption | exact xq_v0 (by decide)) rfl rfl ?_
        first | refine rn_ald (lkX1_isPlacedAheadOf_29 Y) rfl ?_ | refine rn_aldO (lkX1_isPlacedAheadOf_29 Y) rfl ?_ | refine rn_aldN (lkX1_isPlacedAheadOf_29 Y) rfl ?_
        refine rp_getf hR (lkX1_isPlacedAheadOf_30 Y) (by first | assumption | exact xq_v0 (by decide)) rfl rfl ?_
        refine rn_ifc (lkX1_isPlacedAheadOf_33 Y) (fun c_33 => ?_) (fun c_33 => ?_)
        · try dsimp only at c_33
          refine rn_push (lkX1_isPlacedAheadOf_40 Y) ?_
          refine rn_zret (lkX1_isPlacedAheadOf_41 Y) (by first | exact Or.inl rfl | exact Or.inr rfl | assumption) ?_
          unfold mo_placed at h
          simp only [Classical.not_not.mp c_4, Classical.not_not.mp c_11, c_22, c_33, not_true, not_false_iff, and_true, true_and, if_true, if_false] at h
          exact ⟨h, Nat.le_refl _, Nat.le_refl _⟩
        · try dsimp only at c_33
          refine rn_push (lkX1_isPlacedAheadOf_36 Y) ?_
          refine rn_goto (lkX1_isPlacedAheadOf_37 Y) ?_
          refine rn_zret (lkX1_isPlacedAheadOf_41 Y) (by first | exact Or.inl rfl | exact Or.inr rfl | assumption) ?_
          unfold mo_placed at h
          simp only [Classical.not_not.mp c_4, Classical.not_not.mp c_11, c_22, c_33, not_true, not_false_iff, and_true, true_and, if_true, if_false] at h
          exact ⟨h, Nat.le_refl _, Nat.le_refl _⟩

set_option maxRecDepth 100000 in
set_option maxHeartbeats 4000000 in
theorem sc_isOfTable {b : Nat} (hR : xq_rp Y ad s w) (hb : b < s.2.1) (h : post (some (.int (if xq_i s 1001 b = -1 then 0 else 1))) w) : ptX0_isOfTable Y [.ref (ad 10 b)] w post := by
  have hv10 : xq_vl ad s 10 b := xq_v10 hb
  have hv11 : xq_vl ad s 11 b := xq_v11 hb
  have hv12 : xq_vl ad s 12 b := xq_v12 hb
  refine ⟨(by first | exact Nat.le_of_ble_eq_true rfl | simp [lg_sl, xw_cat_rf, xw_cat_i, xw_cat_r, xw_cat_n, xw_cat_l]), ?_⟩
  first | refine rn_ald (lkX0_isOfTable_0 Y) rfl ?_ | refine rn_aldO (lkX0_isOfTable_0 Y) rfl ?_ | refine rn_aldN (lkX0_isOfTable_0 Y) rfl ?_
  refine rp_getf hR (lkX0_isOfTable_1 Y) (by first | assumption | exact xq_v0 (by decide)) rfl rfl ?_
  refine rn_push (lkX0_isOfTable_4 Y) ?_
  refine rn_ifc (lkX0_isOfTable_5 Y) (fun c_5 => ?_) (fun c_5 => ?_)
  · try dsimp only at c_5
    refine rn_push (lkX0_isOfTable_12 Y) ?_
    refine rn_zret (lkX0_isOfTable_13 Y) (by first | exact Or.inl rfl | exact Or.inr rfl | assumption) ?_
    simp only [c_5, if_true, if_false, not_true, not_false_iff] at h
    exact ⟨h, Nat.le_refl _, Nat.le_refl _⟩
  · try dsimp only at c_5
    refine rn_push (lkX0_isOfTable_8 Y) ?_
    refine rn_goto (lkX0_isOfTable_9 Y) ?_
    refine rn_zret (lkX0_isOfTable_13 Y) (by first | exact Or.inl rfl | exact Or.inr rfl | assumption) ?_
    simp only [c_5, if_true, if_false, not_true, not_false_iff] at h
    exact ⟨h, Nat.le_refl _, Nat.le_refl _⟩

set_option maxRecDepth 100000 in
set_option maxHeartbeats 4000000 in
theorem sc_goal {b : Nat} (hR : xq_rp Y ad s w) (hb : b < s.2.1) (h : post (some (.int (mo_goal s b))) w) : ptX0_goal Y [.ref (ad 10 b)] w post := by
  have hv10 : xq_vl ad s 10 b := xq_v10 hb
  have hv11 : xq_vl ad s 11 b := xq_v11 hb
  have hv12 : xq_vl ad s 12 b := xq_v12 hb
  refine ⟨(by first | exact Nat.le_of_ble_eq_true rfl | simp [lg_sl, xw_cat_rf, xw_cat_i, xw_cat_r, xw_cat_n, xw_cat_l]), ?_⟩
  first | refine rn_ald (lkX0_goal_0 Y) rfl ?_ | refine rn_aldO (lkX0_goal_0 Y) rfl ?_ | refine rn_aldN (lkX0_goal_0 Y) rfl ?_
  refine rp_callV hR (lkX0_goal_1 Y) rfl (by first | assumption | exact xq_v0 (by decide)) rfl (Nat.le_of_ble_eq_true rfl) (Nat.le_of_ble_eq_true rfl) (Nat.le_of_ble_eq_true rfl) ?_
  refine sc_isOfTable hR hb ?_
  unfold mo_goal at h
  by_cases hq : xq_i s 1001 b = -1
  · rw [if_pos hq] at h ⊢
    refine rn_ifz (lkX0_goal_4 Y) (fun _ => ?_) (fun q => absurd (by decide) q)
    refine rn_push (lkX0_goal_12 Y) ?_
    refine rn_iret (lkX0_goal_13 Y) ?_
    exact ⟨h, Nat.le_refl _, Nat.le_refl _⟩
  · rw [if_neg hq] at h ⊢
    refine rn_ifz (lkX0_goal_4 Y) (fun q => absurd q (by decide)) (fun _ => ?_)
    refine rn_push (lkX0_goal_7 Y) ?_
    refine rn_goto (lkX0_goal_9 Y) ?_
    refine rn_iret (lkX0_goal_13 Y) ?_
    exact ⟨h, Nat.le_refl _, Nat.le_refl _⟩

set_option maxRecDepth 100000 in
set_option maxHeartbeats 4000000 in
theorem sc_periods {b : Nat} (hR : xq_rp Y ad s w) (hb : b < s.2.1) (h : post (some (.int (mo_periods s b))) w) : ptX0_periods Y [.ref (ad 10 b)] w post := by
  have hv10 : xq_vl ad s 10 b := xq_v10 hb
  have hv11 : xq_vl ad s 11 b := xq_v11 hb
  have hv12 : xq_vl ad s 12 b := xq_v12 hb
  refine ⟨(by first | exact Nat.le_of_ble_eq_true rfl | simp [lg_sl, xw_cat_rf, xw_cat_i, xw_cat_r, xw_cat_n, xw_cat_l]), ?_⟩
  first | refine rn_ald (lkX0_periods_0 Y) rfl ?_ | refine rn_aldO (lkX0_periods_0 Y) rfl ?_ | refine rn_aldN (lkX0_periods_0 Y) rfl ?_
  refine rp_callV hR (lkX0_periods_1 Y) rfl (by first | assumption | exact xq_v0 (by decide)) rfl (Nat.le_of_ble_eq_true rfl) (Nat.le_of_ble_eq_true rfl) (Nat.le_of_ble_eq_true rfl) ?_
  refine sc_isOfTable hR hb ?_
  unfold mo_periods at h
  by_cases hq : xq_i s 1001 b = -1
  · rw [if_pos hq] at h ⊢
    refine rn_ifz (lkX0_periods_4 Y) (fun _ => ?_) (fun q => absurd (by decide) q)
    refine rn_push (lkX0_periods_11 Y) ?_
    refine rn_iret (lkX0_periods_12 Y) ?_
    exact ⟨h, Nat.le_refl _, Nat.le_refl _⟩
  · rw [if_neg hq] at h ⊢
    refine rn_ifz (lkX0_periods_4 Y) (fun q => absurd q (by decide)) (fun _ => ?_)
    refine rn_push (lkX0_periods_7 Y) ?_
    refine rn_goto (lkX0_periods_8 Y) ?_
    refine rn_iret (lkX0_periods_12 Y) ?_
    exact ⟨h, Nat.le_refl _, Nat.le_refl _⟩

set_option maxRecDepth 100000 in
set_option maxHeartbeats 4000000 in
theorem sc_extra {b : Nat} (hR : xq_rp Y ad s w) (hb : b < s.2.1) (h : post (some (.int (mo_extra s b))) w) : ptX0_isInExtra Y [.ref (ad 10 b)] w post := by
  have hv10 : xq_vl ad s 10 b := xq_v10 hb
  have hv11 : xq_vl ad s 11 b := xq_v11 hb
  have hv12 : xq_vl ad s 12 b := xq_v12 hb
  refine ⟨(by first | exact Nat.le_of_ble_eq_true rfl | simp [lg_sl, xw_cat_rf, xw_cat_i, xw_cat_r, xw_cat_n, xw_cat_l]), ?_⟩
  first | refine rn_ald (lkX0_isInExtra_0 Y) rfl ?_ | refine rn_aldO (lkX0_isInExtra_0 Y) rfl ?_ | refine rn_aldN (lkX0_isInExtra_0 Y) rfl ?_
  refine rp_getf hR (lkX0_isInExtra_1 Y) (by first | assumption | exact xq_v0 (by decide)) rfl rfl ?_
  first | refine rn_ald (lkX0_isInExtra_4 Y) rfl ?_ | refine rn_aldO (lkX0_isInExtra_4 Y) rfl ?_ | refine rn_aldN (lkX0_isInExtra_4 Y) rfl ?_
  refine rp_callV hR (lkX0_isInExtra_5 Y) rfl (by first | assumption | exact xq_v0 (by decide)) rfl (Nat.le_of_ble_eq_true rfl) (Nat.le_of_ble_eq_true rfl) (Nat.le_of_ble_eq_true rfl) ?_
  refine sc_periods hR hb ?_
  refine rn_ifc (lkX0_isInExtra_8 Y) (fun c_8 => ?_) (fun c_8 => ?_)
  · try dsimp only at c_8
    refine rn_push (lkX0_isInExtra_15 Y) ?_
    refine rn_zret (lkX0_isInExtra_16 Y) (by first | exact Or.inl rfl | exact Or.inr rfl | assumption) ?_
    unfold mo_extra at h
    simp only [c_8, if_true, if_false, not_true, not_false_iff] at h
    exact ⟨h, Nat.le_refl _, Nat.le_refl _⟩
  · try dsimp only at c_8
    refine rn_push (lkX0_isInExtra_11 Y) ?_
    refine rn_goto (lkX0_isInExtra_12 Y) ?_
    refine rn_zret (lkX0_isInExtra_16 Y) (by first | exact Or.inl rfl | exact Or.inr rfl | assumption) ?_
    unfold mo_extra at h
    simp only [c_8, if_true, if_false, not_true, not_false_iff] at h
    exact ⟨h, Nat.le_refl _, Nat.le_refl _⟩

end XC1
