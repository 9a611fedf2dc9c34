/-! THE OBJECT, on: cards and the passing of time -/
section XC9
variable {Y : xw_Y} {ad : Nat → Nat → Nat} {s : xq_S} {w : xw_W} {post : Option Value → xw_W → Prop}

/-- the part of a card behind its true kind t -/
def mo_card2 (s : xq_S) (b own other : Nat) (t : Int32) : xq_S :=
  let s := xu_i s (own + 2) b (mo_max (xq_i s (own + 2) b) (t + 1))
  if t = 1 then mo_overHit (xu_i s (other + 1) b (xq_i s (other + 1) b + 1)) b
  else if t = 2 then (match xq_r s own b with
    | none => s
    | some k => mo_putOut s b k (xq_r s other b)) else s
theorem mo_card_eq (s : xq_S) (b own other : Nat) (kind : Int32) : mo_card s b own other kind = mo_card2 s b own other (mo_kind s b (own + 2) kind) := rfl

set_option maxRecDepth 100000 in
set_option maxHeartbeats 4000000 in
theorem lp_card11 {b k : Nat} {t : Int32} {Rt : xw_R} (hR : xq_rp Y ad s w) (hb : b < s.2.1) (hk : k < s.1) (ho : xq_r s 1100 b = some k) (h : ∀ w', xq_rp Y ad (mo_card2 s b 1100 1200 t) w' → Rt (some (.int t)) w' 0 0) (lv : xw_L) (hl0 : xw_lk lv 0 = some (.ref (ad 0 0))) (hl1 : xw_lk lv 4 = some (.ref (ad 10 b))) (hl2 : xw_lk lv 5 = some (.ref (ad 11 b))) (hl3 : xw_lk lv 6 = some (.ref (ad 12 b))) (hl4 : xw_lk lv 7 = some (.int t)) : xw_Run (tbX3_card Y) Rt 79 lv [] w 0 0 := by
  have hv10 : xq_vl ad s 10 b := xq_v10 hb
  have hv11 : xq_vl ad s 11 b := xq_v11 hb
  have hv12 : xq_vl ad s 12 b := xq_v12 hb
  first | refine rn_ald (lkX3_card_79 Y) (by repeat (first | assumption | exact xw_lk_e _ _ _ | exact xw_lk_e2 _ _ _ | refine xw_lk_s (by decide) (by first | exact Or.inl rfl | exact Or.inl (xw_cat_rf _) | exact Or.inr (by decide)) ?_ | refine xw_lk_s2 (by decide) (by decide) (by first | exact Or.inl rfl | exact Or.inl (xw_cat_rf _) | exact Or.inr (by decide)) ?_)) ?_ | refine rn_aldO (lkX3_card_79 Y) (by repeat (first | assumption | exact xw_lk_e _ _ _ | exact xw_lk_e2 _ _ _ | refine xw_lk_s (by decide) (by first | exact Or.inl rfl | exact Or.inl (xw_cat_rf _) | exact Or.inr (by decide)) ?_ | refine xw_lk_s2 (by decide) (by decide) (by first | exact Or.inl rfl | exact Or.inl (xw_cat_rf _) | exact Or.inr (by decide)) ?_)) ?_ | refine rn_aldN (lkX3_card_79 Y) (by repeat (first | assumption | exact xw_lk_e _ _ _ | exact xw_lk_e2 _ _ _ | refine xw_lk_s (by decide) (by first | exact Or.inl rfl | exact Or.inl (xw_cat_rf _) | exact Or.inr (by decide)) ?_ | refine xw_lk_s2 (by decide) (by decide) (by first | exact Or.inl rfl | exact Or.inl (xw_cat_rf _) | exact Or.inr (by decide)) ?_)) ?_
  first | refine rn_ald (lkX3_card_81 Y) (by repeat (first | assumption | exact xw_lk_e _ _ _ | exact xw_lk_e2 _ _ _ | refine xw_lk_s (by decide) (by first | exact Or.inl rfl | exact Or.inl (xw_cat_rf _) | exact Or.inr (by decide)) ?_ | refine xw_lk_s2 (by decide) (by decide) (by first | exact Or.inl rfl | exact Or.inl (xw_cat_rf _) | exact Or.inr (by decide)) ?_)) ?_ | refine rn_aldO (lkX3_card_81 Y) (by repeat (first | assumption | exact xw_lk_e _ _ _ | exact xw_lk_e2 _ _ _ | refine xw_lk_s (by decide) (by first | exact Or.inl rfl | exact Or.inl (xw_cat_rf _) | exact Or.inr (by decide)) ?_ | refine xw_lk_s2 (by decide) (by decide) (by first | exact Or.inl rfl | exact Or.inl (xw_cat_rf _) | exact Or.inr (by decide)) ?_)) ?_ | refine rn_aldN (lkX3_card_81 Y) (by repeat (first | assumption | exact xw_lk_e _ _ _ | exact xw_lk_e2 _ _ _ | refine xw_lk_s (by decide) (by first | exact Or.inl rfl | exact Or.inl (xw_cat_rf _) | exact Or.inr (by decide)) ?_ | refine xw_lk_s2 (by decide) (by decide) (by first | exact Or.inl rfl | exact Or.inl (xw_cat_rf _) | exact Or.inr (by decide)) ?_)) ?_
  refine rp_getf hR (lkX3_card_83 Y) (by first | assumption | exact xq_v0 (by decide)) rfl rfl ?_
  refine rn_ild (lkX3_card_86 Y) (by repeat (first | assumption | exact xw_lk_e _ _ _ | exact xw_lk_e2 _ _ _ | refine xw_lk_s (by decide) (by first | exact Or.inl rfl | exact Or.inl (xw_cat_rf _) | exact Or.inr (by decide)) ?_ | refine xw_lk_s2 (by decide) (by decide) (by first | exact Or.inl rfl | exact Or.inl (xw_cat_rf _) | exact Or.inr (by decide)) ?_)) ?_
  refine rn_push (lkX3_card_88 Y) ?_
  refine rn_i2 (lkX3_card_89 Y) ?_
  refine rn_max (lkX3_card_90 Y) (Nat.le_of_ble_eq_true rfl) (Nat.le_of_ble_eq_true rfl) (Nat.le_of_ble_eq_true rfl) ?_
  refine rp_puti (c := 1102) hR (lkX3_card_93 Y) (by first | assumption | exact xq_v0 (by decide)) rfl (Nat.le_of_ble_eq_true rfl) (xw_fit_i _) rfl (fun q => absurd q (by decide)) (by simp [xq_en, xq_i_i, xq_r_i]) (fun w hR => ?_)
  unfold mo_card2 mo_max at h
  dsimp only at h
  have hb2 : b < (xu_i s 1102 b (if xq_i s 1102 b < t + 1 then t + 1 else xq_i s 1102 b)).2.1 := hb
  have hk2 : k < (xu_i s 1102 b (if xq_i s 1102 b < t + 1 then t + 1 else xq_i s 1102 b)).1 := hk
  have ho2 : xq_r (xu_i s 1102 b (if xq_i s 1102 b < t + 1 then t + 1 else xq_i s 1102 b)) 1100 b = some k := ho
  generalize xu_i s 1102 b (if xq_i s 1102 b < t + 1 then t + 1 else xq_i s 1102 b) = s2 at hR h hb2 hk2 ho2
  have hv10 : xq_vl ad s2 10 b := xq_v10 hb2
  have hv11 : xq_vl ad s2 11 b := xq_v11 hb2
  have hv12 : xq_vl ad s2 12 b := xq_v12 hb2
  have hv0 : xq_vl ad s2 0 0 := xq_v0 (by decide)
  refine rn_ild (lkX3_card_96 Y) (by repeat (first | assumption | exact xw_lk_e _ _ _ | exact xw_lk_e2 _ _ _ | refine xw_lk_s (by decide) (by first | exact Or.inl rfl | exact Or.inl (xw_cat_rf _) | exact Or.inr (by decide)) ?_ | refine xw_lk_s2 (by decide) (by decide) (by first | exact Or.inl rfl | exact Or.inl (xw_cat_rf _) | exact Or.inr (by decide)) ?_)) ?_
  refine rn_push (lkX3_card_98 Y) ?_
  by_cases ht1 : t = 1
  · rw [if_pos ht1] at h
    refine rn_ifc (lkX3_card_99 Y) (fun q => absurd q (fun z => z ht1)) (fun _ => ?_)
    first | refine rn_ald (lkX3_card_102 Y) (by repeat (first | assumption | exact xw_lk_e _ _ _ | exact xw_lk_e2 _ _ _ | refine xw_lk_s (by decide) (by first | exact Or.inl rfl | exact Or.inl (xw_cat_rf _) | exact Or.inr (by decide)) ?_ | refine xw_lk_s2 (by decide) (by decide) (by first | exact Or.inl rfl | exact Or.inl (xw_cat_rf _) | exact Or.inr (by decide)) ?_)) ?_ | refine rn_aldO (lkX3_card_102 Y) (by repeat (first | assumption | exact xw_lk_e _ _ _ | exact xw_lk_e2 _ _ _ | refine xw_lk_s (by decide) (by first | exact Or.inl rfl | exact Or.inl (xw_cat_rf _) | exact Or.inr (by decide)) ?_ | refine xw_lk_s2 (by decide) (by decide) (by first | exact Or.inl rfl | exact Or.inl (xw_cat_rf _) | exact Or.inr (by decide)) ?_)) ?_ | refine rn_aldN (lkX3_card_102 Y) (by repeat (first | assumption | exact xw_lk_e _ _ _ | exact xw_lk_e2 _ _ _ | refine xw_lk_s (by decide) (by first | exact Or.inl rfl | exact Or.inl (xw_cat_rf _) | exact Or.inr (by decide)) ?_ | refine xw_lk_s2 (by decide) (by decide) (by first | exact Or.inl rfl | exact Or.inl (xw_cat_rf _) | exact Or.inr (by decide)) ?_)) ?_
    refine rn_dup (lkX3_card_104 Y) (by first | rfl | exact xw_cat_rf _) ?_
    refine rp_getf hR (lkX3_card_105 Y) (by first | assumption | exact xq_v0 (by decide)) rfl rfl ?_
    refine rn_push (lkX3_card_108 Y) ?_
    refine rn_i2 (lkX3_card_109 Y) ?_
    refine rp_puti (c := 1201) hR (lkX3_card_110 Y) (by first | assumption | exact xq_v0 (by decide)) rfl (Nat.le_of_ble_eq_true rfl) (xw_fit_i _) rfl (fun q => absurd q (by decide)) (by simp [xq_en, xq_i_i, xq_r_i]) (fun w hR => ?_)
    first | refine rn_ald (lkX3_card_113 Y) (by repeat (first | assumption | exact xw_lk_e _ _ _ | exact xw_lk_e2 _ _ _ | refine xw_lk_s (by decide) (by first | exact Or.inl rfl | exact Or.inl (xw_cat_rf _) | exact Or.inr (by decide)) ?_ | refine xw_lk_s2 (by decide) (by decide) (by first | exact Or.inl rfl | exact Or.inl (xw_cat_rf _) | exact Or.inr (by decide)) ?_)) ?_ | refine rn_aldO (lkX3_card_113 Y) (by repeat (first | assumption | exact xw_lk_e _ _ _ | exact xw_lk_e2 _ _ _ | refine xw_lk_s (by decide) (by first | exact Or.inl rfl | exact Or.inl (xw_cat_rf _) | exact Or.inr (by decide)) ?_ | refine xw_lk_s2 (by decide) (by decide) (by first | exact Or.inl rfl | exact Or.inl (xw_cat_rf _) | exact Or.inr (by decide)) ?_)) ?_ | refine rn_aldN (lkX3_card_113 Y) (by repeat (first | assumption | exact xw_lk_e _ _ _ | exact xw_lk_e2 _ _ _ | refine xw_lk_s (by decide) (by first | exact Or.inl rfl | exact Or.inl (xw_cat_rf _) | exact Or.inr (by decide)) ?_ | refine xw_lk_s2 (by decide) (by decide) (by first | exact Or.inl rfl | exact Or.inl (xw_cat_rf _) | exact Or.inr (by decide)) ?_)) ?_
    first | refine rn_ald (lkX3_card_114 Y) (by repeat (first | assumption | exact xw_lk_e _ _ _ | exact xw_lk_e2 _ _ _ | refine xw_lk_s (by decide) (by first | exact Or.inl rfl | exact Or.inl (xw_cat_rf _) | exact Or.inr (by decide)) ?_ | refine xw_lk_s2 (by decide) (by decide) (by first | exact Or.inl rfl | exact Or.inl (xw_cat_rf _) | exact Or.inr (by decide)) ?_)) ?_ | refine rn_aldO (lkX3_card_114 Y) (by repeat (first | assumption | exact xw_lk_e _ _ _ | exact xw_lk_e2 _ _ _ | refine xw_lk_s (by decide) (by first | exact Or.inl rfl | exact Or.inl (xw_cat_rf _) | exact Or.inr (by decide)) ?_ | refine xw_lk_s2 (by decide) (by decide) (by first | exact Or.inl rfl | exact Or.inl (xw_cat_rf _) | exact Or.inr (by decide)) ?_)) ?_ | refine rn_aldN (lkX3_card_114 Y) (by repeat (first | assumption | exact xw_lk_e _ _ _ | exact xw_lk_e2 _ _ _ | refine xw_lk_s (by decide) (by first | exact Or.inl rfl | exact Or.inl (xw_cat_rf _) | exact Or.inr (by decide)) ?_ | refine xw_lk_s2 (by decide) (by decide) (by first | exact Or.inl rfl | exact Or.inl (xw_cat_rf _) | exact Or.inr (by decide)) ?_)) ?_
    refine rp_callV hR (lkX3_card_116 Y) rfl (by first | assumption | exact xq_v0 (by decide)) rfl (Nat.le_of_ble_eq_true rfl) (Nat.le_of_ble_eq_true rfl) (Nat.le_of_ble_eq_true rfl) ?_
    refine sc_overHit hR hb2 (fun w hR => ?_)
    refine rn_pop (lkX3_card_119 Y) rfl ?_
    refine rn_goto (lkX3_card_120 Y) ?_
    refine rn_ild (lkX3_card_145 Y) (by repeat (first | assumption | exact xw_lk_e _ _ _ | exact xw_lk_e2 _ _ _ | refine xw_lk_s (by decide) (by first | exact Or.inl rfl | exact Or.inl (xw_cat_rf _) | exact Or.inr (by decide)) ?_ | refine xw_lk_s2 (by decide) (by decide) (by first | exact Or.inl rfl | exact Or.inl (xw_cat_rf _) | exact Or.inr (by decide)) ?_)) ?_
    refine rn_iret (lkX3_card_147 Y) ?_
    exact h _ hR
  · rw [if_neg ht1] at h
    refine rn_ifc (lkX3_card_99 Y) (fun _ => ?_) (fun q => absurd ht1 q)
    refine rn_ild (lkX3_card_123 Y) (by repeat (first | assumption | exact xw_lk_e _ _ _ | exact xw_lk_e2 _ _ _ | refine xw_lk_s (by decide) (by first | exact Or.inl rfl | exact Or.inl (xw_cat_rf _) | exact Or.inr (by decide)) ?_ | refine xw_lk_s2 (by decide) (by decide) (by first | exact Or.inl rfl | exact Or.inl (xw_cat_rf _) | exact Or.inr (by decide)) ?_)) ?_
    refine rn_push (lkX3_card_125 Y) ?_
    by_cases ht2 : t = 2
    · rw [if_pos ht2, ho2] at h
      try dsimp only at h
      refine rn_ifc (lkX3_card_126 Y) (fun q => absurd q (fun z => z ht2)) (fun _ => ?_)
      first | refine rn_ald (lkX3_card_129 Y) (by repeat (first | assumption | exact xw_lk_e _ _ _ | exact xw_lk_e2 _ _ _ | refine xw_lk_s (by decide) (by first | exact Or.inl rfl | exact Or.inl (xw_cat_rf _) | exact Or.inr (by decide)) ?_ | refine xw_lk_s2 (by decide) (by decide) (by first | exact Or.inl rfl | exact Or.inl (xw_cat_rf _) | exact Or.inr (by decide)) ?_)) ?_ | refine rn_aldO (lkX3_card_129 Y) (by repeat (first | assumption | exact xw_lk_e _ _ _ | exact xw_lk_e2 _ _ _ | refine xw_lk_s (by decide) (by first | exact Or.inl rfl | exact Or.inl (xw_cat_rf _) | exact Or.inr (by decide)) ?_ | refine xw_lk_s2 (by decide) (by decide) (by first | exact Or.inl rfl | exact Or.inl (xw_cat_rf _) | exact Or.inr (by decide)) ?_)) ?_ | refine rn_aldN (lkX3_card_129 Y) (by repeat (first | assumption | exact xw_lk_e _ _ _ | exact xw_lk_e2 _ _ _ | refine xw_lk_s (by decide) (by first | exact Or.inl rfl | exact Or.inl (xw_cat_rf _) | exact Or.inr (by decide)) ?_ | refine xw_lk_s2 (by decide) (by decide) (by first | exact Or.inl rfl | exact Or.inl (xw_cat_rf _) | exact Or.inr (by decide)) ?_)) ?_
      first | refine rn_ald (lkX3_card_130 Y) (by repeat (first | assumption | exact xw_lk_e _ _ _ | exact xw_lk_e2 _ _ _ | refine xw_lk_s (by decide) (by first | exact Or.inl rfl | exact Or.inl (xw_cat_rf _) | exact Or.inr (by decide)) ?_ | refine xw_lk_s2 (by decide) (by decide) (by first | exact Or.inl rfl | exact Or.inl (xw_cat_rf _) | exact Or.inr (by decide)) ?_)) ?_ | refine rn_aldO (lkX3_card_130 Y) (by repeat (first | assumption | exact xw_lk_e _ _ _ | exact xw_lk_e2 _ _ _ | refine xw_lk_s (by decide) (by first | exact Or.inl rfl | exact Or.inl (xw_cat_rf _) | exact Or.inr (by decide)) ?_ | refine xw_lk_s2 (by decide) (by decide) (by first | exact Or.inl rfl | exact Or.inl (xw_cat_rf _) | exact Or.inr (by decide)) ?_)) ?_ | refine rn_aldN (lkX3_card_130 Y) (by repeat (first | assumption | exact xw_lk_e _ _ _ | exact xw_lk_e2 _ _ _ | refine xw_lk_s (by decide) (by first | exact Or.inl rfl | exact Or.inl (xw_cat_rf _) | exact Or.inr (by decide)) ?_ | refine xw_lk_s2 (by decide) (by decide) (by first | exact Or.inl rfl | exact Or.inl (xw_cat_rf _) | exact Or.inr (by decide)) ?_)) ?_
      first | refine rn_ald (lkX3_card_132 Y) (by repeat (first | assumption | exact xw_lk_e _ _ _ | exact xw_lk_e2 _ _ _ | refine xw_lk_s (by decide) (by first | exact Or.inl rfl | exact Or.inl (xw_cat_rf _) | exact Or.inr (by decide)) ?_ | refine xw_lk_s2 (by decide) (by decide) (by first | exact Or.inl rfl | exact Or.inl (xw_cat_rf _) | exact Or.inr (by decide)) ?_)) ?_ | refine rn_aldO (lkX3_card_132 Y) (by repeat (first | assumption | exact xw_lk_e _ _ _ | exact xw_lk_e2 _ _ _ | refine xw_lk_s (by decide) (by first | exact Or.inl rfl | exact Or.inl (xw_cat_rf _) | exact Or.inr (by decide)) ?_ | refine xw_lk_s2 (by decide) (by decide) (by first | exact Or.inl rfl | exact Or.inl (xw_cat_rf _) | exact Or.inr (by decide)) ?_)) ?_ | refine rn_aldN (lkX3_card_132 Y) (by repeat (first | assumption | exact xw_lk_e _ _ _ | exact xw_lk_e2 _ _ _ | refine xw_lk_s (by decide) (by first | exact Or.inl rfl | exact Or.inl (xw_cat_rf _) | exact Or.inr (by decide)) ?_ | refine xw_lk_s2 (by decide) (by decide) (by first | exact Or.inl rfl | exact Or.inl (xw_cat_rf _) | exact Or.inr (by decide)) ?_)) ?_
      refine rp_getf hR (lkX3_card_134 Y) (by first | assumption | exact xq_v0 (by decide)) rfl (u := .ref (ad 9 k)) (by rw [ho2]; rfl) ?_
      first | refine rn_ald (lkX3_card_137 Y) (by repeat (first | assumption | exact xw_lk_e _ _ _ | exact xw_lk_e2 _ _ _ | refine xw_lk_s (by decide) (by first | exact Or.inl rfl | exact Or.inl (xw_cat_rf _) | exact Or.inr (by decide)) ?_ | refine xw_lk_s2 (by decide) (by decide) (by first | exact Or.inl rfl | exact Or.inl (xw_cat_rf _) | exact Or.inr (by decide)) ?_)) ?_ | refine rn_aldO (lkX3_card_137 Y) (by repeat (first | assumption | exact xw_lk_e _ _ _ | exact xw_lk_e2 _ _ _ | refine xw_lk_s (by decide) (by first | exact Or.inl rfl | exact Or.inl (xw_cat_rf _) | exact Or.inr (by decide)) ?_ | refine xw_lk_s2 (by decide) (by decide) (by first | exact Or.inl rfl | exact Or.inl (xw_cat_rf _) | exact Or.inr (by decide)) ?_)) ?_ | refine rn_aldN (lkX3_card_137 Y) (by repeat (first | assumption | exact xw_lk_e _ _ _ | exact xw_lk_e2 _ _ _ | refine xw_lk_s (by decide) (by first | exact Or.inl rfl | exact Or.inl (xw_cat_rf _) | exact Or.inr (by decide)) ?_ | refine xw_lk_s2 (by decide) (by decide) (by first | exact Or.inl rfl | exact Or.inl (xw_cat_rf _) | exact Or.inr (by decide)) ?_)) ?_
      refine rp_getf hR (lkX3_card_139 Y) (by first | assumption | exact xq_v0 (by decide)) rfl rfl ?_
      refine rp_callV hR (lkX3_card_142 Y) rfl (by first | assumption | exact xq_v0 (by decide)) rfl (Nat.le_of_ble_eq_true rfl) (Nat.le_of_ble_eq_true rfl) (Nat.le_of_ble_eq_true rfl) ?_
      refine sc_putOut hR hb2 hk2 (fun j hj => hR.2.2.1.2.2.2.1 b j hb2 hj) (fun w hR => ?_)
      refine rn_ild (lkX3_card_145 Y) (by repeat (first | assumption | exact xw_lk_e _ _ _ | exact xw_lk_e2 _ _ _ | refine xw_lk_s (by decide) (by first | exact Or.inl rfl | exact Or.inl (xw_cat_rf _) | exact Or.inr (by decide)) ?_ | refine xw_lk_s2 (by decide) (by decide) (by first | exact Or.inl rfl | exact Or.inl (xw_cat_rf _) | exact Or.inr (by decide)) ?_)) ?_
      refine rn_iret (lkX3_card_147 Y) ?_
      exact h _ hR
    · rw [if_neg ht2] at h
      refine rn_ifc (lkX3_card_126 Y) (fun _ => ?_) (fun q => absurd ht2 q)
      refine rn_ild (lkX3_card_145 Y) (by repeat (first | assumption | exact xw_lk_e _ _ _ | exact xw_lk_e2 _ _ _ | refine xw_lk_s (by decide) (by first | exact Or.inl rfl | exact Or.inl (xw_cat_rf _) | exact Or.inr (by decide)) ?_ | refine xw_lk_s2 (by decide) (by decide) (by first | exact Or.inl rfl | exact Or.inl (xw_cat_rf _) | exact Or.inr (by decide)) ?_)) ?_
      refine rn_iret (lkX3_card_147 Y) ?_
      exact h _ hR

set_option maxRecDepth 100000 in
set_option maxHeartbeats 4000000 in
theorem sc_card11 {k : Nat} {kind : Int32} {j b : Nat} (hR : xq_rp Y ad s w) (hj : j < 3) (hl : xq_r s 300 j = some b) (hk : k < s.1) (ho : xq_r s 1100 b = some k) (hkind : kind = 0 ∨ kind = 1 ∨ kind = 2) (h : ∀ w', xq_rp Y ad (mo_card s b 1100 1200 kind) w' → post (some (.int (mo_kind s b 1102 kind))) w') : ptX3_card Y [.ref (ad 0 0), .int (nI j), .int 0, .int kind] w post := by
  have hb : b < s.2.1 := hR.2.2.1.2.2.2.2.1 j b hl
  have hv10 : xq_vl ad s 10 b := xq_v10 hb
  have hv11 : xq_vl ad s 11 b := xq_v11 hb
  have hv12 : xq_vl ad s 12 b := xq_v12 hb
  refine ⟨(by first | exact Nat.le_of_ble_eq_true rfl | simp [lg_sl, xw_cat_rf, xw_cat_i, xw_cat_r, xw_cat_n, xw_cat_l]), ?_⟩
  refine rn_ild (lkX3_card_0 Y) rfl ?_
  refine rn_callS (lkX3_card_1 Y) (Nat.le_of_ble_eq_true rfl) rfl (Nat.le_of_ble_eq_true rfl) (Nat.le_of_ble_eq_true rfl) (Nat.le_of_ble_eq_true rfl) ?_
  refine sc_isPiste1 hj ?_
  refine rn_ifz (lkX3_card_4 Y) (fun q => absurd q (by decide)) (fun _ => ?_)
  refine rn_ild (lkX3_card_7 Y) rfl ?_
  refine rn_push (lkX3_card_8 Y) ?_
  refine rn_push (lkX3_card_9 Y) ?_
  refine rn_callS (lkX3_card_10 Y) (Nat.le_of_ble_eq_true rfl) rfl (Nat.le_of_ble_eq_true rfl) (Nat.le_of_ble_eq_true rfl) (Nat.le_of_ble_eq_true rfl) ?_
  refine sc_in1 (by decide) ?_
  refine rn_ifz (lkX3_card_13 Y) (fun q => absurd q (by decide)) (fun _ => ?_)
  refine rn_ild (lkX3_card_16 Y) rfl ?_
  refine rn_push (lkX3_card_17 Y) ?_
  refine rn_push (lkX3_card_18 Y) ?_
  refine rn_callS (lkX3_card_19 Y) (Nat.le_of_ble_eq_true rfl) rfl (Nat.le_of_ble_eq_true rfl) (Nat.le_of_ble_eq_true rfl) (Nat.le_of_ble_eq_true rfl) ?_
  refine sc_in1 (by rcases hkind with z | z | z <;> rw [z] <;> decide) ?_
  refine rn_ifz (lkX3_card_22 Y) (fun _ => ?_) (fun q => absurd (by decide) q)
  first | refine rn_ald (lkX3_card_35 Y) rfl ?_ | refine rn_aldO (lkX3_card_35 Y) rfl ?_ | refine rn_aldN (lkX3_card_35 Y) rfl ?_
  refine rn_ild (lkX3_card_36 Y) rfl ?_
  refine rp_callV hR (lkX3_card_37 Y) rfl (by first | assumption | exact xq_v0 (by decide)) rfl (Nat.le_of_ble_eq_true rfl) (Nat.le_of_ble_eq_true rfl) (Nat.le_of_ble_eq_true rfl) ?_
  refine sc_liveOn hR hj hl ?_
  first | refine rn_ast (lkX3_card_40 Y) rfl ?_ | refine rn_astO (lkX3_card_40 Y) rfl ?_ | refine rn_astN (lkX3_card_40 Y) rfl ?_
  first | refine rn_ald (lkX3_card_42 Y) rfl ?_ | refine rn_aldO (lkX3_card_42 Y) rfl ?_ | refine rn_aldN (lkX3_card_42 Y) rfl ?_
  refine rn_ild (lkX3_card_44 Y) rfl ?_
  refine rp_callV hR (lkX3_card_45 Y) rfl (by first | assumption | exact xq_v0 (by decide)) rfl (Nat.le_of_ble_eq_true rfl) (Nat.le_of_ble_eq_true rfl) (Nat.le_of_ble_eq_true rfl) ?_
  refine sc_sideOf hR hb ?_
  rw [if_pos rfl]
  first | refine rn_ast (lkX3_card_48 Y) rfl ?_ | refine rn_astO (lkX3_card_48 Y) rfl ?_ | refine rn_astN (lkX3_card_48 Y) rfl ?_
  first | refine rn_ald (lkX3_card_50 Y) rfl ?_ | refine rn_aldO (lkX3_card_50 Y) rfl ?_ | refine rn_aldN (lkX3_card_50 Y) rfl ?_
  refine rn_push (lkX3_card_52 Y) ?_
  refine rn_ild (lkX3_card_53 Y) rfl ?_
  refine rn_i2 (lkX3_card_54 Y) ?_
  refine rp_callV hR (lkX3_card_55 Y) rfl (by first | assumption | exact xq_v0 (by decide)) rfl (Nat.le_of_ble_eq_true rfl) (Nat.le_of_ble_eq_true rfl) (Nat.le_of_ble_eq_true rfl) ?_
  refine sc_sideOf hR hb ?_
  rw [if_neg (by decide)]
  first | refine rn_ast (lkX3_card_58 Y) rfl ?_ | refine rn_astO (lkX3_card_58 Y) rfl ?_ | refine rn_astN (lkX3_card_58 Y) rfl ?_
  rw [mo_card_eq] at h
  unfold mo_kind at h
  by_cases hkd : kind = 0
  · rw [if_pos hkd] at h
    refine rn_ild (lkX3_card_60 Y) rfl ?_
    refine rn_ifz (lkX3_card_61 Y) (fun q => absurd q (fun z => z hkd)) (fun _ => ?_)
    first | refine rn_ald (lkX3_card_64 Y) rfl ?_ | refine rn_aldO (lkX3_card_64 Y) rfl ?_ | refine rn_aldN (lkX3_card_64 Y) rfl ?_
    refine rp_getf hR (lkX3_card_66 Y) (by first | assumption | exact xq_v0 (by decide)) rfl rfl ?_
    by_cases hks : xq_i s 1102 b ≤ 0
    · rw [if_pos hks] at h
      refine rn_ifz (lkX3_card_69 Y) (fun _ => ?_) (fun q => absurd hks q)
      subst hkd
      refine rn_ild (lkX3_card_76 Y) rfl ?_
      refine rn_ist (lkX3_card_77 Y) rfl ?_
      exact lp_card11 hR hb hk ho (fun w' hw' => ⟨h w' hw', Nat.le_refl _, Nat.le_refl _⟩) _ rfl rfl rfl rfl rfl
    · rw [if_neg hks] at h
      refine rn_ifz (lkX3_card_69 Y) (fun q => absurd q hks) (fun _ => ?_)
      refine rn_push (lkX3_card_72 Y) ?_
      refine rn_goto (lkX3_card_73 Y) ?_
      refine rn_ist (lkX3_card_77 Y) rfl ?_
      exact lp_card11 hR hb hk ho (fun w' hw' => ⟨h w' hw', Nat.le_refl _, Nat.le_refl _⟩) _ rfl rfl rfl rfl rfl
  · rw [if_neg hkd] at h
    refine rn_ild (lkX3_card_60 Y) rfl ?_
    refine rn_ifz (lkX3_card_61 Y) (fun _ => ?_) (fun q => absurd hkd q)
    refine rn_ild (lkX3_card_76 Y) rfl ?_
    refine rn_ist (lkX3_card_77 Y) rfl ?_
    exact lp_card11 hR hb hk ho (fun w' hw' => ⟨h w' hw', Nat.le_refl _, Nat.le_refl _⟩) _ rfl rfl rfl rfl rfl

set_option maxRecDepth 100000 in
set_option maxHeartbeats 4000000 in
theorem lp_card12 {b k : Nat} {t : Int32} {Rt : xw_R} (hR : xq_rp Y ad s w) (hb : b < s.2.1) (hk : k < s.1) (ho : xq_r s 1200 b = some k) (h : ∀ w', xq_rp Y ad (mo_card2 s b 1200 1100 t) w' → Rt (some (.int t)) w' 0 0) (lv : xw_L) (hl0 : xw_lk lv 0 = some (.ref (ad 0 0))) (hl1 : xw_lk lv 4 = some (.ref (ad 10 b))) (hl2 : xw_lk lv 5 = some (.ref (ad 12 b))) (hl3 : xw_lk lv 6 = some (.ref (ad 11 b))) (hl4 : xw_lk lv 7 = some (.int t)) : xw_Run (tbX3_card Y) Rt 79 lv [] w 0 0 := by
  have hv10 : xq_vl ad s 10 b := xq_v10 hb
  have hv11 : xq_vl ad s 11 b := xq_v11 hb
  have hv12 : xq_vl ad s 12 b := xq_v12 hb
  first | refine rn_ald (lkX3_card_79 Y) (by repeat (first | assumption | exact xw_lk_e _ _ _ | exact xw_lk_e2 _ _ _ | refine xw_lk_s (by decide) (by first | exact Or.inl rfl | exact Or.inl (xw_cat_rf _) | exact Or.inr (by decide)) ?_ | refine xw_lk_s2 (by decide) (by decide) (by first | exact Or.inl rfl | exact Or.inl (xw_cat_rf _) | exact Or.inr (by decide)) ?_)) ?_ | refine rn_aldO (lkX3_card_79 Y) (by repeat (first | assumption | exact xw_lk_e _ _ _ | exact xw_lk_e2 _ _ _ | refine xw_lk_s (by decide) (by first | exact Or.inl rfl | exact Or.inl (xw_cat_rf _) | exact Or.inr (by decide)) ?_ | refine xw_lk_s2 (by decide) (by decide) (by first | exact Or.inl rfl | exact Or.inl (xw_cat_rf _) | exact Or.inr (by decide)) ?_)) ?_ | refine rn_aldN (lkX3_card_79 Y) (by repeat (first | assumption | exact xw_lk_e _ _ _ | exact xw_lk_e2 _ _ _ | refine xw_lk_s (by decide) (by first | exact Or.inl rfl | exact Or.inl (xw_cat_rf _) | exact Or.inr (by decide)) ?_ | refine xw_lk_s2 (by decide) (by decide) (by first | exact Or.inl rfl | exact Or.inl (xw_cat_rf _) | exact Or.inr (by decide)) ?_)) ?_
  first | refine rn_ald (lkX3_card_81 Y) (by repeat (first | assumption | exact xw_lk_e _ _ _ | exact xw_lk_e2 _ _ _ | refine xw_lk_s (by decide) (by first | exact Or.inl rfl | exact Or.inl (xw_cat_rf _) | exact Or.inr (by decide)) ?_ | refine xw_lk_s2 (by decide) (by decide) (by first | exact Or.inl rfl | exact Or.inl (xw_cat_rf _) | exact Or.inr (by decide)) ?_)) ?_ | refine rn_aldO (lkX3_card_81 Y) (by repeat (first | assumption | exact xw_lk_e _ _ _ | exact xw_lk_e2 _ _ _ | refine xw_lk_s (by decide) (by first | exact Or.inl rfl | exact Or.inl (xw_cat_rf _) | exact Or.inr (by decide)) ?_ | refine xw_lk_s2 (by decide) (by decide) (by first | exact Or.inl rfl | exact Or.inl (xw_cat_rf _) | exact Or.inr (by decide)) ?_)) ?_ | refine rn_aldN (lkX3_card_81 Y) (by repeat (first | assumption | exact xw_lk_e _ _ _ | exact xw_lk_e2 _ _ _ | refine xw_lk_s (by decide) (by first | exact Or.inl rfl | exact Or.inl (xw_cat_rf _) | exact Or.inr (by decide)) ?_ | refine xw_lk_s2 (by decide) (by decide) (by first | exact Or.inl rfl | exact Or.inl (xw_cat_rf _) | exact Or.inr (by decide)) ?_)) ?_
  refine rp_getf hR (lkX3_card_83 Y) (by first | assumption | exact xq_v0 (by decide)) rfl rfl ?_
  refine rn_ild (lkX3_card_86 Y) (by repeat (first | assumption | exact xw_lk_e _ _ _ | exact xw_lk_e2 _ _ _ | refine xw_lk_s (by decide) (by first | exact Or.inl rfl | exact Or.inl (xw_cat_rf _) | exact Or.inr (by decide)) ?_ | refine xw_lk_s2 (by decide) (by decide) (by first | exact Or.inl rfl | exact Or.inl (xw_cat_rf _) | exact Or.inr (by decide)) ?_)) ?_
  refine rn_push (lkX3_card_88 Y) ?_
  refine rn_i2 (lkX3_card_89 Y) ?_
  refine rn_max (lkX3_card_90 Y) (Nat.le_of_ble_eq_true rfl) (Nat.le_of_ble_eq_true rfl) (Nat.le_of_ble_eq_true rfl) ?_
  refine rp_puti (c := 1202) hR (lkX3_card_93 Y) (by first | assumption | exact xq_v0 (by decide)) rfl (Nat.le_of_ble_eq_true rfl) (xw_fit_i _) rfl (fun q => absurd q (by decide)) (by simp [xq_en, xq_i_i, xq_r_i]) (fun w hR => ?_)
  unfold mo_card2 mo_max at h
  dsimp only at h
  have hb2 : b < (xu_i s 1202 b (if xq_i s 1202 b < t + 1 then t + 1 else xq_i s 1202 b)).2.1 := hb
  have hk2 : k < (xu_i s 1202 b (if xq_i s 1202 b < t + 1 then t + 1 else xq_i s 1202 b)).1 := hk
  have ho2 : xq_r (xu_i s 1202 b (if xq_i s 1202 b < t + 1 then t + 1 else xq_i s 1202 b)) 1200 b = some k := ho
  generalize xu_i s 1202 b (if xq_i s 1202 b < t + 1 then t + 1 else xq_i s 1202 b) = s2 at hR h hb2 hk2 ho2
  have hv10 : xq_vl ad s2 10 b := xq_v10 hb2
  have hv11 : xq_vl ad s2 11 b := xq_v11 hb2
  have hv12 : xq_vl ad s2 12 b := xq_v12 hb2
  have hv0 : xq_vl ad s2 0 0 := xq_v0 (by decide)
  refine rn_ild (lkX3_card_96 Y) (by repeat (first | assumption | exact xw_lk_e _ _ _ | exact xw_lk_e2 _ _ _ | refine xw_lk_s (by decide) (by first | exact Or.inl rfl | exact Or.inl (xw_cat_rf _) | exact Or.inr (by decide)) ?_ | refine xw_lk_s2 (by decide) (by decide) (by first | exact Or.inl rfl | exact Or.inl (xw_cat_rf _) | exact Or.inr (by decide)) ?_)) ?_
  refine rn_push (lkX3_card_98 Y) ?_
  by_cases ht1 : t = 1
  · rw [if_pos ht1] at h
    refine rn_ifc (lkX3_card_99 Y) (fun q => absurd q (fun z => z ht1)) (fun _ => ?_)
    first | refine rn_ald (lkX3_card_102 Y) (by repeat (first | assumption | exact xw_lk_e _ _ _ | exact xw_lk_e2 _ _ _ | refine xw_lk_s (by decide) (by first | exact Or.inl rfl | exact Or.inl (xw_cat_rf _) | exact Or.inr (by decide)) ?_ | refine xw_lk_s2 (by decide) (by decide) (by first | exact Or.inl rfl | exact Or.inl (xw_cat_rf _) | exact Or.inr (by decide)) ?_)) ?_ | refine rn_aldO (lkX3_card_102 Y) (by repeat (first | assumption | exact xw_lk_e _ _ _ | exact xw_lk_e2 _ _ _ | refine xw_lk_s (by decide) (by first | exact Or.inl rfl | exact Or.inl (xw_cat_rf _) | exact Or.inr (by decide)) ?_ | refine xw_lk_s2 (by decide) (by decide) (by first | exact Or.inl rfl | exact Or.inl (xw_cat_rf _) | exact Or.inr (by decide)) ?_)) ?_ | refine rn_aldN (lkX3_card_102 Y) (by repeat (first | assumption | exact xw_lk_e _ _ _ | exact xw_lk_e2 _ _ _ | refine xw_lk_s (by decide) (by first | exact Or.inl rfl | exact Or.inl (xw_cat_rf _) | exact Or.inr (by decide)) ?_ | refine xw_lk_s2 (by decide) (by decide) (by first | exact Or.inl rfl | exact Or.inl (xw_cat_rf _) | exact Or.inr (by decide)) ?_)) ?_
    refine rn_dup (lkX3_card_104 Y) (by first | rfl | exact xw_cat_rf _) ?_
    refine rp_getf hR (lkX3_card_105 Y) (by first | assumption | exact xq_v0 (by decide)) rfl rfl ?_
    refine rn_push (lkX3_card_108 Y) ?_
    refine rn_i2 (lkX3_card_109 Y) ?_
    refine rp_puti (c := 1101) hR (lkX3_card_110 Y) (by first | assumption | exact xq_v0 (by decide)) rfl (Nat.le_of_ble_eq_true rfl) (xw_fit_i _) rfl (fun q => absurd q (by decide)) (by simp [xq_en, xq_i_i, xq_r_i]) (fun w hR => ?_)
    first | refine rn_ald (lkX3_card_113 Y) (by repeat (first | assumption | exact xw_lk_e _ _ _ | exact xw_lk_e2 _ _ _ | refine xw_lk_s (by decide) (by first | exact Or.inl rfl | exact Or.inl (xw_cat_rf _) | exact Or.inr (by decide)) ?_ | refine xw_lk_s2 (by decide) (by decide) (by first | exact Or.inl rfl | exact Or.inl (xw_cat_rf _) | exact Or.inr (by decide)) ?_)) ?_ | refine rn_aldO (lkX3_card_113 Y) (by repeat (first | assumption | exact xw_lk_e _ _ _ | exact xw_lk_e2 _ _ _ | refine xw_lk_s (by decide) (by first | exact Or.inl rfl | exact Or.inl (xw_cat_rf _) | exact Or.inr (by decide)) ?_ | refine xw_lk_s2 (by decide) (by decide) (by first | exact Or.inl rfl | exact Or.inl (xw_cat_rf _) | exact Or.inr (by decide)) ?_)) ?_ | refine rn_aldN (lkX3_card_113 Y) (by repeat (first | assumption | exact xw_lk_e _ _ _ | exact xw_lk_e2 _ _ _ | refine xw_lk_s (by decide) (by first | exact Or.inl rfl | exact Or.inl (xw_cat_rf _) | exact Or.inr (by decide)) ?_ | refine xw_lk_s2 (by decide) (by decide) (by first | exact Or.inl rfl | exact Or.inl (xw_cat_rf _) | exact Or.inr (by decide)) ?_)) ?_
    first | refine rn_ald (lkX3_card_114 Y) (by repeat (first | assumption | exact xw_lk_e _ _ _ | exact xw_lk_e2 _ _ _ | refine xw_lk_s (by decide) (by first | exact Or.inl rfl | exact Or.inl (xw_cat_rf _) | exact Or.inr (by decide)) ?_ | refine xw_lk_s2 (by decide) (by decide) (by first | exact Or.inl rfl | exact Or.inl (xw_cat_rf _) | exact Or.inr (by decide)) ?_)) ?_ | refine rn_aldO (lkX3_card_114 Y) (by repeat (first | assumption | exact xw_lk_e _ _ _ | exact xw_lk_e2 _ _ _ | refine xw_lk_s (by decide) (by first | exact Or.inl rfl | exact Or.inl (xw_cat_rf _) | exact Or.inr (by decide)) ?_ | refine xw_lk_s2 (by decide) (by decide) (by first | exact Or.inl rfl | exact Or.inl (xw_cat_rf _) | exact Or.inr (by decide)) ?_)) ?_ | refine rn_aldN (lkX3_card_114 Y) (by repeat (first | assumption | exact xw_lk_e _ _ _ | exact xw_lk_e2 _ _ _ | refine xw_lk_s (by decide) (by first | exact Or.inl rfl | exact Or.inl (xw_cat_rf _) | exact Or.inr (by decide)) ?_ | refine xw_lk_s2 (by decide) (by decide) (by first | exact Or.inl rfl | exact Or.inl (xw_cat_rf _) | exact Or.inr (by decide)) ?_)) ?_
    refine rp_callV hR (lkX3_card_116 Y) rfl (by first | assumption | exact xq_v0 (by decide)) rfl (Nat.le_of_ble_eq_true rfl) (Nat.le_of_ble_eq_true rfl) (Nat.le_of_ble_eq_true rfl) ?_
    refine sc_overHit hR hb2 (fun w hR => ?_)
    refine rn_pop (lkX3_card_119 Y) rfl ?_
    refine rn_goto (lkX3_card_120 Y) ?_
    refine rn_ild (lkX3_card_145 Y) (by repeat (first | assumption | exact xw_lk_e _ _ _ | exact xw_lk_e2 _ _ _ | refine xw_lk_s (by decide) (by first | exact Or.inl rfl | exact Or.inl (xw_cat_rf _) | exact Or.inr (by decide)) ?_ | refine xw_lk_s2 (by decide) (by decide) (by first | exact Or.inl rfl | exact Or.inl (xw_cat_rf _) | exact Or.inr (by decide)) ?_)) ?_
    refine rn_iret (lkX3_card_147 Y) ?_
    exact h _ hR
  · rw [if_neg ht1] at h
    refine rn_ifc (lkX3_card_99 Y) (fun _ => ?_) (fun q => absurd ht1 q)
    refine rn_ild (lkX3_card_123 Y) (by repeat (first | assumption | exact xw_lk_e _ _ _ | exact xw_lk_e2 _ _ _ | refine xw_lk_s (by decide) (by first | exact Or.inl rfl | exact Or.inl (xw_cat_rf _) | exact Or.inr (by decide)) ?_ | refine xw_lk_s2 (by decide) (by decide) (by first | exact Or.inl rfl | exact Or.inl (xw_cat_rf _) | exact Or.inr (by decide)) ?_)) ?_
    refine rn_push (lkX3_card_125 Y) ?_
    by_cases ht2 : t = 2
    · rw [if_pos ht2, ho2] at h
      try dsimp only at h
      refine rn_ifc (lkX3_card_126 Y) (fun q => absurd q (fun z => z ht2)) (fun _ => ?_)
      first | refine rn_ald (lkX3_card_129 Y) (by repeat (first | assumption | exact xw_lk_e _ _ _ | exact xw_lk_e2 _ _ _ | refine xw_lk_s (by decide) (by first | exact Or.inl rfl | exact Or.inl (xw_cat_rf _) | exact Or.inr (by decide)) ?_ | refine xw_lk_s2 (by decide) (by decide) (by first | exact Or.inl rfl | exact Or.inl (xw_cat_rf _) | exact Or.inr (by decide)) ?_)) ?_ | refine rn_aldO (lkX3_card_129 Y) (by repeat (first | assumption | exact xw_lk_e _ _ _ | exact xw_lk_e2 _ _ _ | refine xw_lk_s (by decide) (by first | exact Or.inl rfl | exact Or.inl (xw_cat_rf _) | exact Or.inr (by decide)) ?_ | refine xw_lk_s2 (by decide) (by decide) (by first | exact Or.inl rfl | exact Or.inl (xw_cat_rf _) | exact Or.inr (by decide)) ?_)) ?_ | refine rn_aldN (lkX3_card_129 Y) (by repeat (first | assumption | exact xw_lk_e _ _ _ | exact xw_lk_e2 _ _ _ | refine xw_lk_s (by decide) (by first | exact Or.inl rfl | exact Or.inl (xw_cat_rf _) | exact Or.inr (by decide)) ?_ | refine xw_lk_s2 (by decide) (by decide) (by first | exact Or.inl rfl | exact Or.inl (xw_cat_rf _) | exact Or.inr (by decide)) ?_)) ?_
      first | refine rn_ald (lkX3_card_130 Y) (by repeat (first | assumption | exact xw_lk_e _ _ _ | exact xw_lk_e2 _ _ _ | refine xw_lk_s (by decide) (by first | exact Or.inl rfl | exact Or.inl (xw_cat_rf _) | exact Or.inr (by decide)) ?_ | refine xw_lk_s2 (by decide) (by decide) (by first | exact Or.inl rfl | exact Or.inl (xw_cat_rf _) | exact Or.inr (by decide)) ?_)) ?_ | refine rn_aldO (lkX3_card_130 Y) (by repeat (first | assumption | exact xw_lk_e _ _ _ | exact xw_lk_e2 _ _ _ | refine xw_lk_s (by decide) (by first | exact Or.inl rfl | exact Or.inl (xw_cat_rf _) | exact Or.inr (by decide)) ?_ | refine xw_lk_s2 (by decide) (by decide) (by first | exact Or.inl rfl | exact Or.inl (xw_cat_rf _) | exact Or.inr (by decide)) ?_)) ?_ | refine rn_aldN (lkX3_card_130 Y) (by repeat (first | assumption | exact xw_lk_e _ _ _ | exact xw_lk_e2 _ _ _ | refine xw_lk_s (by decide) (by first | exact Or.inl rfl | exact Or.inl (xw_cat_rf _) | exact Or.inr (by decide)) ?_ | refine xw_lk_s2 (by decide) (by decide) (by first | exact Or.inl rfl | exact Or.inl (xw_cat_rf _) | exact Or.inr (by decide)) ?_)) ?_
      first | refine rn_ald (lkX3_card_132 Y) (by repeat (first | assumption | exact xw_lk_e _ _ _ | exact xw_lk_e2 _ _ _ | refine xw_lk_s (by decide) (by first | exact Or.inl rfl | exact Or.inl (xw_cat_rf _) | exact Or.inr (by decide)) ?_ | refine xw_lk_s2 (by decide) (by decide) (by first | exact Or.inl rfl | exact Or.inl (xw_cat_rf _) | exact Or.inr (by decide)) ?_)) ?_ | refine rn_aldO (lkX3_card_132 Y) (by repeat (first | assumption | exact xw_lk_e _ _ _ | exact xw_lk_e2 _ _ _ | refine xw_lk_s (by decide) (by first | exact Or.inl rfl | exact Or.inl (xw_cat_rf _) | exact Or.inr (by decide)) ?_ | refine xw_lk_s2 (by decide) (by decide) (by first | exact Or.inl rfl | exact Or.inl (xw_cat_rf _) | exact Or.inr (by decide)) ?_)) ?_ | refine rn_aldN (lkX3_card_132 Y) (by repeat (first | assumption | exact xw_lk_e _ _ _ | exact xw_lk_e2 _ _ _ | refine xw_lk_s (by decide) (by first | exact Or.inl rfl | exact Or.inl (xw_cat_rf _) | exact Or.inr (by decide)) ?_ | refine xw_lk_s2 (by decide) (by decide) (by first | exact Or.inl rfl | exact Or.inl (xw_cat_rf _) | exact Or.inr (by decide)) ?_)) ?_
      refine rp_getf hR (lkX3_card_134 Y) (by first | assumption | exact xq_v0 (by decide)) rfl (u := .ref (ad 9 k)) (by rw [ho2]; rfl) ?_
      first | refine rn_ald (lkX3_card_137 Y) (by repeat (first | assumption | exact xw_lk_e _ _ _ | exact xw_lk_e2 _ _ _ | refine xw_lk_s (by decide) (by first | exact Or.inl rfl | exact Or.inl (xw_cat_rf _) | exact Or.inr (by decide)) ?_ | refine xw_lk_s2 (by decide) (by decide) (by first | exact Or.inl rfl | exact Or.inl (xw_cat_rf _) | exact Or.inr (by decide)) ?_)) ?_ | refine rn_aldO (lkX3_card_137 Y) (by repeat (first | assumption | exact xw_lk_e _ _ _ | exact xw_lk_e2 _ _ _ | refine xw_lk_s (by decide) (by first | exact Or.inl rfl | exact Or.inl (xw_cat_rf _) | exact Or.inr (by decide)) ?_ | refine xw_lk_s2 (by decide) (by decide) (by first | exact Or.inl rfl | exact Or.inl (xw_cat_rf _) | exact Or.inr (by decide)) ?_)) ?_ | refine rn_aldN (lkX3_card_137 Y) (by repeat (first | assumption | exact xw_lk_e _ _ _ | exact xw_lk_e2 _ _ _ | refine xw_lk_s (by decide) (by first | exact Or.inl rfl | exact Or.inl (xw_cat_rf _) | exact Or.inr (by decide)) ?_ | refine xw_lk_s2 (by decide) (by decide) (by first | exact Or.inl rfl | exact Or.inl (xw_cat_rf _) | exact Or.inr (by decide)) ?_)) ?_
      refine rp_getf hR (lkX3_card_139 Y) (by first | assumption | exact xq_v0 (by decide)) rfl rfl ?_
      refine rp_callV hR (lkX3_card_142 Y) rfl (by first | assumption | exact xq_v0 (by decide)) rfl (Nat.le_of_ble_eq_true rfl) (Nat.le_of_ble_eq_true rfl) (Nat.le_of_ble_eq_true rfl) ?_
      refine sc_putOut hR hb2 hk2 (fun j hj => hR.2.2.1.2.2.1 b j hb2 hj) (fun w hR => ?_)
      refine rn_ild (lkX3_card_145 Y) (by repeat (first | assumption | exact xw_lk_e _ _ _ | exact xw_lk_e2 _ _ _ | refine xw_lk_s (by decide) (by first | exact Or.inl rfl | exact Or.inl (xw_cat_rf _) | exact Or.inr (by decide)) ?_ | refine xw_lk_s2 (by decide) (by decide) (by first | exact Or.inl rfl | exact Or.inl (xw_cat_rf _) | exact Or.inr (by decide)) ?_)) ?_
      refine rn_iret (lkX3_card_147 Y) ?_
      exact h _ hR
    · rw [if_neg ht2] at h
      refine rn_ifc (lkX3_card_126 Y) (fun _ => ?_) (fun q => absurd ht2 q)
      refine rn_ild (lkX3_card_145 Y) (by repeat (first | assumption | exact xw_lk_e _ _ _ | exact xw_lk_e2 _ _ _ | refine xw_lk_s (by decide) (by first | exact Or.inl rfl | exact Or.inl (xw_cat_rf _) | exact Or.inr (by decide)) ?_ | refine xw_lk_s2 (by decide) (by decide) (by first | exact Or.inl rfl | exact Or.inl (xw_cat_rf _) | exact Or.inr (by decide)) ?_)) ?_
      refine rn_iret (lkX3_card_147 Y) ?_
      exact h _ hR

set_option maxRecDepth 100000 in
set_option maxHeartbeats 4000000 in
theorem sc_card12 {k : Nat} {kind : Int32} {j b : Nat} (hR : xq_rp Y ad s w) (hj : j < 3) (hl : xq_r s 300 j = some b) (hk : k < s.1) (ho : xq_r s 1200 b = some k) (hkind : kind = 0 ∨ kind = 1 ∨ kind = 2) (h : ∀ w', xq_rp Y ad (mo_card s b 1200 1100 kind) w' → post (some (.int (mo_kind s b 1202 kind))) w') : ptX3_card Y [.ref (ad 0 0), .int (nI j), .int 1, .int kind] w post := by
  have hb : b < s.2.1 := hR.2.2.1.2.2.2.2.1 j b hl
  have hv10 : xq_vl ad s 10 b := xq_v10 hb
  have hv11 : xq_vl ad s 11 b := xq_v11 hb
  have hv12 : xq_vl ad s 12 b := xq_v12 hb
  refine ⟨(by first | exact Nat.le_of_ble_eq_true rfl | simp [lg_sl, xw_cat_rf, xw_cat_i, xw_cat_r, xw_cat_n, xw_cat_l]), ?_⟩
  refine rn_ild (lkX3_card_0 Y) rfl ?_
  refine rn_callS (lkX3_card_1 Y) (Nat.le_of_ble_eq_true rfl) rfl (Nat.le_of_ble_eq_true rfl) (Nat.le_of_ble_eq_true rfl) (Nat.le_of_ble_eq_true rfl) ?_
  refine sc_isPiste1 hj ?_
  refine rn_ifz (lkX3_card_4 Y) (fun q => absurd q (by decide)) (fun _ => ?_)
  refine rn_ild (lkX3_card_7 Y) rfl ?_
  refine rn_push (lkX3_card_8 Y) ?_
  refine rn_push (lkX3_card_9 Y) ?_
  refine rn_callS (lkX3_card_10 Y) (Nat.le_of_ble_eq_true rfl) rfl (Nat.le_of_ble_eq_true rfl) (Nat.le_of_ble_eq_true rfl) (Nat.le_of_ble_eq_true rfl) ?_
  refine sc_in1 (by decide) ?_
  refine rn_ifz (lkX3_card_13 Y) (fun q => absurd q (by decide)) (fun _ => ?_)
  refine rn_ild (lkX3_card_16 Y) rfl ?_
  refine rn_push (lkX3_card_17 Y) ?_
  refine rn_push (lkX3_card_18 Y) ?_
  refine rn_callS (lkX3_card_19 Y) (Nat.le_of_ble_eq_true rfl) rfl (Nat.le_of_ble_eq_true rfl) (Nat.le_of_ble_eq_true rfl) (Nat.le_of_ble_eq_true rfl) ?_
  refine sc_in1 (by rcases hkind with z | z | z <;> rw [z] <;> decide) ?_
  refine rn_ifz (lkX3_card_22 Y) (fun _ => ?_) (fun q => absurd (by decide) q)
  first | refine rn_ald (lkX3_card_35 Y) rfl ?_ | refine rn_aldO (lkX3_card_35 Y) rfl ?_ | refine rn_aldN (lkX3_card_35 Y) rfl ?_
  refine rn_ild (lkX3_card_36 Y) rfl ?_
  refine rp_callV hR (lkX3_card_37 Y) rfl (by first | assumption | exact xq_v0 (by decide)) rfl (Nat.le_of_ble_eq_true rfl) (Nat.le_of_ble_eq_true rfl) (Nat.le_of_ble_eq_true rfl) ?_
  refine sc_liveOn hR hj hl ?_
  first | refine rn_ast (lkX3_card_40 Y) rfl ?_ | refine rn_astO (lkX3_card_40 Y) rfl ?_ | refine rn_astN (lkX3_card_40 Y) rfl ?_
  first | refine rn_ald (lkX3_card_42 Y) rfl ?_ | refine rn_aldO (lkX3_card_42 Y) rfl ?_ | refine rn_aldN (lkX3_card_42 Y) rfl ?_
  refine rn_ild (lkX3_card_44 Y) rfl ?_
  refine rp_callV hR (lkX3_card_45 Y) rfl (by first | assumption | exact xq_v0 (by decide)) rfl (Nat.le_of_ble_eq_true rfl) (Nat.le_of_ble_eq_true rfl) (Nat.le_of_ble_eq_true rfl) ?_
  refine sc_sideOf hR hb ?_
  rw [if_neg (by decide)]
  first | refine rn_ast (lkX3_card_48 Y) rfl ?_ | refine rn_astO (lkX3_card_48 Y) rfl ?_ | refine rn_astN (lkX3_card_48 Y) rfl ?_
  first | refine rn_ald (lkX3_card_50 Y) rfl ?_ | refine rn_aldO (lkX3_card_50 Y) rfl ?_ | refine rn_aldN (lkX3_card_50 Y) rfl ?_
  refine rn_push (lkX3_card_52 Y) ?_
  refine rn_ild (lkX3_card_53 Y) rfl ?_
  refine rn_i2 (lkX3_card_54 Y) ?_
  refine rp_callV hR (lkX3_card_55 Y) rfl (by first | assumption | exact xq_v0 (by decide)) rfl (Nat.le_of_ble_eq_true rfl) (Nat.le_of_ble_eq_true rfl) (Nat.le_of_ble_eq_true rfl) ?_
  refine sc_sideOf hR hb ?_
  rw [if_pos (by decide)]
  first | refine rn_ast (lkX3_card_58 Y) rfl ?_ | refine rn_astO (lkX3_card_58 Y) rfl ?_ | refine rn_astN (lkX3_card_58 Y) rfl ?_
  rw [mo_card_eq] at h
  unfold mo_kind at h
  by_cases hkd : kind = 0
  · rw [if_pos hkd] at h
    refine rn_ild (lkX3_card_60 Y) rfl ?_
    refine rn_ifz (lkX3_card_61 Y) (fun q => absurd q (fun z => z hkd)) (fun _ => ?_)
    first | refine rn_ald (lkX3_card_64 Y) rfl ?_ | refine rn_aldO (lkX3_card_64 Y) rfl ?_ | refine rn_aldN (lkX3_card_64 Y) rfl ?_
    refine rp_getf hR (lkX3_card_66 Y) (by first | assumption | exact xq_v0 (by decide)) rfl rfl ?_
    by_cases hks : xq_i s 1202 b ≤ 0
    · rw [if_pos hks] at h
      refine rn_ifz (lkX3_card_69 Y) (fun _ => ?_) (fun q => absurd hks q)
      subst hkd
      refine rn_ild (lkX3_card_76 Y) rfl ?_
      refine rn_ist (lkX3_card_77 Y) rfl ?_
      exact lp_card12 hR hb hk ho (fun w' hw' => ⟨h w' hw', Nat.le_refl _, Nat.le_refl _⟩) _ rfl rfl rfl rfl rfl
    · rw [if_neg hks] at h
      refine rn_ifz (lkX3_card_69 Y) (fun q => absurd q hks) (fun _ => ?_)
      refine rn_push (lkX3_card_72 Y) ?_
      refine rn_goto (lkX3_card_73 Y) ?_
      refine rn_ist (lkX3_card_77 Y) rfl ?_
      exact lp_card12 hR hb hk ho (fun w' hw' => ⟨h w' hw', Nat.le_refl _, Nat.le_refl _⟩) _ rfl rfl rfl rfl rfl
  · rw [if_neg hkd] at h
    refine rn_ild (lkX3_card_60 Y) rfl ?_
    refine rn_ifz (lkX3_card_61 Y) (fun _ => ?_) (fun q => absurd hkd q)
    refine rn_ild (lkX3_card_76 Y) rfl ?_
    refine rn_ist (lkX3_card_77 Y) rfl ?_
    exact lp_card12 hR hb hk ho (fun w' hw' => ⟨h w' hw', Nat.le_refl _, Nat.le_refl _⟩) _ rfl rfl rfl rfl rfl

theorem mo_goOn_1 : ∀ (n : Nat) (s : xq_S) (b : Nat) (x : Int32), (mo_goOn n s b x).1 = s.1
  | 0, _, _, _ => rfl
  | n + 1, s, b, x => by
    rw [mo_goOn]
    split
    · rfl
    · split
      · rfl
      · dsimp only
        rw [mo_goOn_1 n]
        rfl
theorem mo_goOn_2 : ∀ (n : Nat) (s : xq_S) (b : Nat) (x : Int32), (mo_goOn n s b x).2.1 = s.2.1
  | 0, _, _, _ => rfl
  | n + 1, s, b, x => by
    rw [mo_goOn]
    split
    · rfl
    · split
      · rfl
      · dsimp only
        rw [mo_goOn_2 n]
        rfl
theorem mo_lose_1 (s : xq_S) (b : Nat) (l : Option Nat) : (mo_lose s b l).1 = s.1 := by cases l <;> rfl
theorem mo_lose_2 (s : xq_S) (b : Nat) (l : Option Nat) : (mo_lose s b l).2.1 = s.2.1 := by cases l <;> rfl
theorem mo_goOnT_1 (s : xq_S) (b : Nat) : (mo_goOnT s b).1 = s.1 := by
  unfold mo_goOnT
  split
  · rfl
  · split <;> rfl
theorem mo_goOnT_2 (s : xq_S) (b : Nat) : (mo_goOnT s b).2.1 = s.2.1 := by
  unfold mo_goOnT
  split
  · rfl
  · split <;> rfl
theorem mo_decide_1 (s : xq_S) (b : Nat) (o : Option Nat) : (mo_decide s b o).1 = s.1 := by
  unfold mo_decide
  dsimp only
  split
  · rw [mo_bcount_1]
    rfl
  · rw [mo_goOnT_1, mo_lose_1]
    rfl
theorem mo_decide_2 (s : xq_S) (b : Nat) (o : Option Nat) : (mo_decide s b o).2.1 = s.2.1 := by
  unfold mo_decide
  dsimp only
  split
  · rw [mo_bcount_2]
    rfl
  · rw [mo_goOnT_2, mo_lose_2]
    rfl
theorem mo_finish_1 (s : xq_S) (b : Nat) (o : Option Nat) (t : Int32) : (mo_finish s b o t).1 = s.1 := by
  unfold mo_finish
  rw [mo_decide_1, mo_leave_1]
theorem mo_finish_2 (s : xq_S) (b : Nat) (o : Option Nat) (t : Int32) : (mo_finish s b o t).2.1 = s.2.1 := by
  unfold mo_finish
  rw [mo_decide_2, mo_leave_2]
theorem mo_overAfter_1 (s : xq_S) (b : Nat) (x : Int32) : (mo_overAfter s b x).1 = s.1 := by
  unfold mo_overAfter
  split
  · rw [mo_finish_1]
  · rw [mo_goOn_1]
theorem mo_overAfter_2 (s : xq_S) (b : Nat) (x : Int32) : (mo_overAfter s b x).2.1 = s.2.1 := by
  unfold mo_overAfter
  split
  · rw [mo_finish_2]
  · rw [mo_goOn_2]
theorem mo_overHit_1 (s : xq_S) (b : Nat) : (mo_overHit s b).1 = s.1 := by
  unfold mo_overHit
  split
  · rfl
  · rw [mo_finish_1]
theorem mo_overHit_2 (s : xq_S) (b : Nat) : (mo_overHit s b).2.1 = s.2.1 := by
  unfold mo_overHit
  split
  · rfl
  · rw [mo_finish_2]
theorem mo_passes_1 (s : xq_S) (x : Int32) : ∀ n, (mo_passes s x n).1.1 = s.1
  | 0 => rfl
  | n + 1 => by
    rw [mo_passes]
    split
    · exact mo_passes_1 s x n
    · dsimp only
      rw [mo_overAfter_1, mo_passes_1 s x n]
theorem mo_passes_2 (s : xq_S) (x : Int32) : ∀ n, (mo_passes s x n).1.2.1 = s.2.1
  | 0 => rfl
  | n + 1 => by
    rw [mo_passes]
    split
    · exact mo_passes_2 s x n
    · dsimp only
      rw [mo_overAfter_2, mo_passes_2 s x n]

set_option maxRecDepth 100000 in
set_option maxHeartbeats 4000000 in
theorem lp_pass {x : Int32} (H : ∀ i, i < 3 → ∀ b, xq_r (mo_passes s x i).1 300 i = some b → ∃ p, 1 ≤ p ∧ p ≤ 90 ∧ xq_i (mo_passes s x i).1 1007 b = nI p) {Rt : xw_R} (h : ∀ w', xq_rp Y ad (mo_pass s x) w' → Rt (some (.int (nI (mo_passes s x 3).2))) w' 0 0) : ∀ (j i : Nat), i + j = 3 → ∀ (w : xw_W) (lv : xw_L), xq_rp Y ad ((mo_passes s x i).1) w → xw_lk lv 0 = some (.ref (ad 0 0)) → xw_lk lv 1 = some (.int x) → xw_lk lv 2 = some (.int (nI (mo_passes s x i).2)) → xw_lk lv 3 = some (.int (nI i)) → xw_Run (tbX3_pass Y) Rt 25 lv [] w 0 0 := by
  intro j
  induction j with
  | zero =>
    intro i hi w lv hR hl0 hl1 hl2 hl3
    have hv0 : xq_vl ad ((mo_passes s x i).1) 0 0 := xq_v0 (by decide)
    refine rn_ild (lkX3_pass_25 Y) (by repeat (first | assumption | exact xw_lk_e _ _ _ | exact xw_lk_e2 _ _ _ | refine xw_lk_s (by decide) (by first | exact Or.inl rfl | exact Or.inl (xw_cat_rf _) | exact Or.inr (by decide)) ?_ | refine xw_lk_s2 (by decide) (by decide) (by first | exact Or.inl rfl | exact Or.inl (xw_cat_rf _) | exact Or.inr (by decide)) ?_)) ?_
    refine rn_push (lkX3_pass_26 Y) ?_
    refine rn_ifc (lkX3_pass_27 Y) (fun _ => ?_) (fun q => absurd (show (3 : Int32) ≤ nI i by rw [show i = 3 by omega]; decide) q)
    have e3 : i = 3 := by omega
    subst e3
    first | refine rn_ald (lkX3_pass_62 Y) (by repeat (first | assumption | exact xw_lk_e _ _ _ | exact xw_lk_e2 _ _ _ | refine xw_lk_s (by decide) (by first | exact Or.inl rfl | exact Or.inl (xw_cat_rf _) | exact Or.inr (by decide)) ?_ | refine xw_lk_s2 (by decide) (by decide) (by first | exact Or.inl rfl | exact Or.inl (xw_cat_rf _) | exact Or.inr (by decide)) ?_)) ?_ | refine rn_aldO (lkX3_pass_62 Y) (by repeat (first | assumption | exact xw_lk_e _ _ _ | exact xw_lk_e2 _ _ _ | refine xw_lk_s (by decide) (by first | exact Or.inl rfl | exact Or.inl (xw_cat_rf _) | exact Or.inr (by decide)) ?_ | refine xw_lk_s2 (by decide) (by decide) (by first | exact Or.inl rfl | exact Or.inl (xw_cat_rf _) | exact Or.inr (by decide)) ?_)) ?_ | refine rn_aldN (lkX3_pass_62 Y) (by repeat (first | assumption | exact xw_lk_e _ _ _ | exact xw_lk_e2 _ _ _ | refine xw_lk_s (by decide) (by first | exact Or.inl rfl | exact Or.inl (xw_cat_rf _) | exact Or.inr (by decide)) ?_ | refine xw_lk_s2 (by decide) (by decide) (by first | exact Or.inl rfl | exact Or.inl (xw_cat_rf _) | exact Or.inr (by decide)) ?_)) ?_
    refine rn_dup (lkX3_pass_63 Y) (by first | rfl | exact xw_cat_rf _) ?_
    refine rp_getf hR (lkX3_pass_64 Y) (by first | assumption | exact xq_v0 (by decide)) rfl rfl ?_
    refine rn_ild (lkX3_pass_67 Y) (by repeat (first | assumption | exact xw_lk_e _ _ _ | exact xw_lk_e2 _ _ _ | refine xw_lk_s (by decide) (by first | exact Or.inl rfl | exact Or.inl (xw_cat_rf _) | exact Or.inr (by decide)) ?_ | refine xw_lk_s2 (by decide) (by decide) (by first | exact Or.inl rfl | exact Or.inl (xw_cat_rf _) | exact Or.inr (by decide)) ?_)) ?_
    refine rn_i2 (lkX3_pass_68 Y) ?_
    refine rp_puti (c := 7) hR (lkX3_pass_69 Y) (by first | assumption | exact xq_v0 (by decide)) rfl (Nat.le_of_ble_eq_true rfl) (xw_fit_i _) rfl (fun q => absurd q (by decide)) (by simp [xq_en, xq_i_i, xq_r_i]) (fun w hR => ?_)
    refine rn_ild (lkX3_pass_72 Y) (by repeat (first | assumption | exact xw_lk_e _ _ _ | exact xw_lk_e2 _ _ _ | refine xw_lk_s (by decide) (by first | exact Or.inl rfl | exact Or.inl (xw_cat_rf _) | exact Or.inr (by decide)) ?_ | refine xw_lk_s2 (by decide) (by decide) (by first | exact Or.inl rfl | exact Or.inl (xw_cat_rf _) | exact Or.inr (by decide)) ?_)) ?_
    refine rn_iret (lkX3_pass_73 Y) ?_
    exact h _ hR
  | succ j ih =>
    intro i hi w lv hR hl0 hl1 hl2 hl3
    have hv0 : xq_vl ad ((mo_passes s x i).1) 0 0 := xq_v0 (by decide)
    have hki : i < 3 := by omega
    refine rn_ild (lkX3_pass_25 Y) (by repeat (first | assumption | exact xw_lk_e _ _ _ | exact xw_lk_e2 _ _ _ | refine xw_lk_s (by decide) (by first | exact Or.inl rfl | exact Or.inl (xw_cat_rf _) | exact Or.inr (by decide)) ?_ | refine xw_lk_s2 (by decide) (by decide) (by first | exact Or.inl rfl | exact Or.inl (xw_cat_rf _) | exact Or.inr (by decide)) ?_)) ?_
    refine rn_push (lkX3_pass_26 Y) ?_
    refine rn_ifc (lkX3_pass_27 Y) (fun q => absurd q (show ¬ (3 : Int32) ≤ nI i from nI_ge (b := 3) hki (by omega))) (fun _ => ?_)
    first | refine rn_ald (lkX3_pass_30 Y) (by repeat (first | assumption | exact xw_lk_e _ _ _ | exact xw_lk_e2 _ _ _ | refine xw_lk_s (by decide) (by first | exact Or.inl rfl | exact Or.inl (xw_cat_rf _) | exact Or.inr (by decide)) ?_ | refine xw_lk_s2 (by decide) (by decide) (by first | exact Or.inl rfl | exact Or.inl (xw_cat_rf _) | exact Or.inr (by decide)) ?_)) ?_ | refine rn_aldO (lkX3_pass_30 Y) (by repeat (first | assumption | exact xw_lk_e _ _ _ | exact xw_lk_e2 _ _ _ | refine xw_lk_s (by decide) (by first | exact Or.inl rfl | exact Or.inl (xw_cat_rf _) | exact Or.inr (by decide)) ?_ | refine xw_lk_s2 (by decide) (by decide) (by first | exact Or.inl rfl | exact Or.inl (xw_cat_rf _) | exact Or.inr (by decide)) ?_)) ?_ | refine rn_aldN (lkX3_pass_30 Y) (by repeat (first | assumption | exact xw_lk_e _ _ _ | exact xw_lk_e2 _ _ _ | refine xw_lk_s (by decide) (by first | exact Or.inl rfl | exact Or.inl (xw_cat_rf _) | exact Or.inr (by decide)) ?_ | refine xw_lk_s2 (by decide) (by decide) (by first | exact Or.inl rfl | exact Or.inl (xw_cat_rf _) | exact Or.inr (by decide)) ?_)) ?_
    refine rp_getf hR (lkX3_pass_31 Y) (by first | assumption | exact xq_v0 (by decide)) rfl rfl ?_
    refine rn_ild (lkX3_pass_34 Y) (by repeat (first | assumption | exact xw_lk_e _ _ _ | exact xw_lk_e2 _ _ _ | refine xw_lk_s (by decide) (by first | exact Or.inl rfl | exact Or.inl (xw_cat_rf _) | exact Or.inr (by decide)) ?_ | refine xw_lk_s2 (by decide) (by decide) (by first | exact Or.inl rfl | exact Or.inl (xw_cat_rf _) | exact Or.inr (by decide)) ?_)) ?_
    refine rn_aald (lkX3_pass_35 Y) (hR.1 3 0 (xq_v0 (by decide))).1 (hR.1 3 0 (xq_v0 (by decide))).2 (vp_in_nI hki (by omega)) ?_
    rw [nI_clamp (by omega)]
    rcases hL : xq_r (mo_passes s x i).1 300 i with _ | b
    · rw [xq_rfN]
      first | refine rn_ast (lkX3_pass_36 Y) rfl ?_ | refine rn_astO (lkX3_pass_36 Y) rfl ?_ | refine rn_astN (lkX3_pass_36 Y) rfl ?_
      first | refine rn_ald (lkX3_pass_38 Y) (by repeat (first | assumption | exact xw_lk_e _ _ _ | exact xw_lk_e2 _ _ _ | refine xw_lk_s (by decide) (by first | exact Or.inl rfl | exact Or.inl (xw_cat_rf _) | exact Or.inr (by decide)) ?_ | refine xw_lk_s2 (by decide) (by decide) (by first | exact Or.inl rfl | exact Or.inl (xw_cat_rf _) | exact Or.inr (by decide)) ?_)) ?_ | refine rn_aldO (lkX3_pass_38 Y) (by repeat (first | assumption | exact xw_lk_e _ _ _ | exact xw_lk_e2 _ _ _ | refine xw_lk_s (by decide) (by first | exact Or.inl rfl | exact Or.inl (xw_cat_rf _) | exact Or.inr (by decide)) ?_ | refine xw_lk_s2 (by decide) (by decide) (by first | exact Or.inl rfl | exact Or.inl (xw_cat_rf _) | exact Or.inr (by decide)) ?_)) ?_ | refine rn_aldN (lkX3_pass_38 Y) (by repeat (first | assumption | exact xw_lk_e _ _ _ | exact xw_lk_e2 _ _ _ | refine xw_lk_s (by decide) (by first | exact Or.inl rfl | exact Or.inl (xw_cat_rf _) | exact Or.inr (by decide)) ?_ | refine xw_lk_s2 (by decide) (by decide) (by first | exact Or.inl rfl | exact Or.inl (xw_cat_rf _) | exact Or.inr (by decide)) ?_)) ?_
      refine rn_ifnN (lkX3_pass_40 Y) ?_
      refine rn_inc (lkX3_pass_56 Y) (by repeat (first | assumption | exact xw_lk_e _ _ _ | exact xw_lk_e2 _ _ _ | refine xw_lk_s (by decide) (by first | exact Or.inl rfl | exact Or.inl (xw_cat_rf _) | exact Or.inr (by decide)) ?_ | refine xw_lk_s2 (by decide) (by decide) (by first | exact Or.inl rfl | exact Or.inl (xw_cat_rf _) | exact Or.inr (by decide)) ?_)) rfl ?_
      refine rn_goto (lkX3_pass_59 Y) ?_
      have e : mo_passes s x (i + 1) = mo_passes s x i := by rw [mo_passes, hL]
      exact ih (i + 1) (by omega) _ _ (by rw [e]; exact hR) (by repeat (first | assumption | exact xw_lk_e _ _ _ | exact xw_lk_e2 _ _ _ | refine xw_lk_s (by decide) (by first | exact Or.inl rfl | exact Or.inl (xw_cat_rf _) | exact Or.inr (by decide)) ?_ | refine xw_lk_s2 (by decide) (by decide) (by first | exact Or.inl rfl | exact Or.inl (xw_cat_rf _) | exact Or.inr (by decide)) ?_)) (by repeat (first | assumption | exact xw_lk_e _ _ _ | exact xw_lk_e2 _ _ _ | refine xw_lk_s (by decide) (by first | exact Or.inl rfl | exact Or.inl (xw_cat_rf _) | exact Or.inr (by decide)) ?_ | refine xw_lk_s2 (by decide) (by decide) (by first | exact Or.inl rfl | exact Or.inl (xw_cat_rf _) | exact Or.inr (by decide)) ?_)) (by rw [e]; repeat (first | assumption | exact xw_lk_e _ _ _ | exact xw_lk_e2 _ _ _ | refine xw_lk_s (by decide) (by first | exact Or.inl rfl | exact Or.inl (xw_cat_rf _) | exact Or.inr (by decide)) ?_ | refine xw_lk_s2 (by decide) (by decide) (by first | exact Or.inl rfl | exact Or.inl (xw_cat_rf _) | exact Or.inr (by decide)) ?_)) (by rw [← nI_1]; repeat (first | assumption | exact xw_lk_e _ _ _ | exact xw_lk_e2 _ _ _ | refine xw_lk_s (by decide) (by first | exact Or.inl rfl | exact Or.inl (xw_cat_rf _) | exact Or.inr (by decide)) ?_ | refine xw_lk_s2 (by decide) (by decide) (by first | exact Or.inl rfl | exact Or.inl (xw_cat_rf _) | exact Or.inr (by decide)) ?_))
    · rw [xq_rfS]
      have hb : b < (mo_passes s x i).1.2.1 := hR.2.2.1.2.2.2.2.1 i b hL
      obtain ⟨p, hp1, hp2, hp3⟩ := H i hki b hL
      first | refine rn_ast (lkX3_pass_36 Y) rfl ?_ | refine rn_astO (lkX3_pass_36 Y) rfl ?_ | refine rn_astN (lkX3_pass_36 Y) rfl ?_
      first | refine rn_ald (lkX3_pass_38 Y) (by repeat (first | assumption | exact xw_lk_e _ _ _ | exact xw_lk_e2 _ _ _ | refine xw_lk_s (by decide) (by first | exact Or.inl rfl | exact Or.inl (xw_cat_rf _) | exact Or.inr (by decide)) ?_ | refine xw_lk_s2 (by decide) (by decide) (by first | exact Or.inl rfl | exact Or.inl (xw_cat_rf _) | exact Or.inr (by decide)) ?_)) ?_ | refine rn_aldO (lkX3_pass_38 Y) (by repeat (first | assumption | exact xw_lk_e _ _ _ | exact xw_lk_e2 _ _ _ | refine xw_lk_s (by decide) (by first | exact Or.inl rfl | exact Or.inl (xw_cat_rf _) | exact Or.inr (by decide)) ?_ | refine xw_lk_s2 (by decide) (by decide) (by first | exact Or.inl rfl | exact Or.inl (xw_cat_rf _) | exact Or.inr (by decide)) ?_)) ?_ | refine rn_aldN (lkX3_pass_38 Y) (by repeat (first | assumption | exact xw_lk_e _ _ _ | exact xw_lk_e2 _ _ _ | refine xw_lk_s (by decide) (by first | exact Or.inl rfl | exact Or.inl (xw_cat_rf _) | exact Or.inr (by decide)) ?_ | refine xw_lk_s2 (by decide) (by decide) (by first | exact Or.inl rfl | exact Or.inl (xw_cat_rf _) | exact Or.inr (by decide)) ?_)) ?_
      refine rn_ifnR (lkX3_pass_40 Y) ?_
      first | refine rn_ald (lkX3_pass_43 Y) (by repeat (first | assumption | exact xw_lk_e _ _ _ | exact xw_lk_e2 _ _ _ | refine xw_lk_s (by decide) (by first | exact Or.inl rfl | exact Or.inl (xw_cat_rf _) | exact Or.inr (by decide)) ?_ | refine xw_lk_s2 (by decide) (by decide) (by first | exact Or.inl rfl | exact Or.inl (xw_cat_rf _) | exact Or.inr (by decide)) ?_)) ?_ | refine rn_aldO (lkX3_pass_43 Y) (by repeat (first | assumption | exact xw_lk_e _ _ _ | exact xw_lk_e2 _ _ _ | refine xw_lk_s (by decide) (by first | exact Or.inl rfl | exact Or.inl (xw_cat_rf _) | exact Or.inr (by decide)) ?_ | refine xw_lk_s2 (by decide) (by decide) (by first | exact Or.inl rfl | exact Or.inl (xw_cat_rf _) | exact Or.inr (by decide)) ?_)) ?_ | refine rn_aldN (lkX3_pass_43 Y) (by repeat (first | assumption | exact xw_lk_e _ _ _ | exact xw_lk_e2 _ _ _ | refine xw_lk_s (by decide) (by first | exact Or.inl rfl | exact Or.inl (xw_cat_rf _) | exact Or.inr (by decide)) ?_ | refine xw_lk_s2 (by decide) (by decide) (by first | exact Or.inl rfl | exact Or.inl (xw_cat_rf _) | exact Or.inr (by decide)) ?_)) ?_
      first | refine rn_ald (lkX3_pass_44 Y) (by repeat (first | assumption | exact xw_lk_e _ _ _ | exact xw_lk_e2 _ _ _ | refine xw_lk_s (by decide) (by first | exact Or.inl rfl | exact Or.inl (xw_cat_rf _) | exact Or.inr (by decide)) ?_ | refine xw_lk_s2 (by decide) (by decide) (by first | exact Or.inl rfl | exact Or.inl (xw_cat_rf _) | exact Or.inr (by decide)) ?_)) ?_ | refine rn_aldO (lkX3_pass_44 Y) (by repeat (first | assumption | exact xw_lk_e _ _ _ | exact xw_lk_e2 _ _ _ | refine xw_lk_s (by decide) (by first | exact Or.inl rfl | exact Or.inl (xw_cat_rf _) | exact Or.inr (by decide)) ?_ | refine xw_lk_s2 (by decide) (by decide) (by first | exact Or.inl rfl | exact Or.inl (xw_cat_rf _) | exact Or.inr (by decide)) ?_)) ?_ | refine rn_aldN (lkX3_pass_44 Y) (by repeat (first | assumption | exact xw_lk_e _ _ _ | exact xw_lk_e2 _ _ _ | refine xw_lk_s (by decide) (by first | exact Or.inl rfl | exact Or.inl (xw_cat_rf _) | exact Or.inr (by decide)) ?_ | refine xw_lk_s2 (by decide) (by decide) (by first | exact Or.inl rfl | exact Or.inl (xw_cat_rf _) | exact Or.inr (by decide)) ?_)) ?_
      refine rn_ild (lkX3_pass_46 Y) (by repeat (first | assumption | exact xw_lk_e _ _ _ | exact xw_lk_e2 _ _ _ | refine xw_lk_s (by decide) (by first | exact Or.inl rfl | exact Or.inl (xw_cat_rf _) | exact Or.inr (by decide)) ?_ | refine xw_lk_s2 (by decide) (by decide) (by first | exact Or.inl rfl | exact Or.inl (xw_cat_rf _) | exact Or.inr (by decide)) ?_)) ?_
      refine rp_callV hR (lkX3_pass_47 Y) rfl (by first | assumption | exact xq_v0 (by decide)) rfl (Nat.le_of_ble_eq_true rfl) (Nat.le_of_ble_eq_true rfl) (Nat.le_of_ble_eq_true rfl) ?_
      refine sc_overAfter hR hb hp3 hp1 hp2 (fun w hR => ?_)
      by_cases hu : mo_until (mo_passes s x i).1 b ≤ x
      · rw [if_pos hu]
        refine rn_ifz (lkX3_pass_50 Y) (fun q => absurd q (by decide)) (fun _ => ?_)
        refine rn_inc (lkX3_pass_53 Y) (by repeat (first | assumption | exact xw_lk_e _ _ _ | exact xw_lk_e2 _ _ _ | refine xw_lk_s (by decide) (by first | exact Or.inl rfl | exact Or.inl (xw_cat_rf _) | exact Or.inr (by decide)) ?_ | refine xw_lk_s2 (by decide) (by decide) (by first | exact Or.inl rfl | exact Or.inl (xw_cat_rf _) | exact Or.inr (by decide)) ?_)) rfl ?_
        refine rn_inc (lkX3_pass_56 Y) (by repeat (first | assumption | exact xw_lk_e _ _ _ | exact xw_lk_e2 _ _ _ | refine xw_lk_s (by decide) (by first | exact Or.inl rfl | exact Or.inl (xw_cat_rf _) | exact Or.inr (by decide)) ?_ | refine xw_lk_s2 (by decide) (by decide) (by first | exact Or.inl rfl | exact Or.inl (xw_cat_rf _) | exact Or.inr (by decide)) ?_)) rfl ?_
        refine rn_goto (lkX3_pass_59 Y) ?_
        have e : mo_passes s x (i + 1) = (mo_overAfter (mo_passes s x i).1 b x, (mo_passes s x i).2 + 1) := by rw [mo_passes, hL]; dsimp only; rw [if_pos hu]
        exact ih (i + 1) (by omega) _ _ (by rw [e]; exact hR) (by repeat (first | assumption | exact xw_lk_e _ _ _ | exact xw_lk_e2 _ _ _ | refine xw_lk_s (by decide) (by first | exact Or.inl rfl | exact Or.inl (xw_cat_rf _) | exact Or.inr (by decide)) ?_ | refine xw_lk_s2 (by decide) (by decide) (by first | exact Or.inl rfl | exact Or.inl (xw_cat_rf _) | exact Or.inr (by decide)) ?_)) (by repeat (first | assumption | exact xw_lk_e _ _ _ | exact xw_lk_e2 _ _ _ | refine xw_lk_s (by decide) (by first | exact Or.inl rfl | exact Or.inl (xw_cat_rf _) | exact Or.inr (by decide)) ?_ | refine xw_lk_s2 (by decide) (by decide) (by first | exact Or.inl rfl | exact Or.inl (xw_cat_rf _) | exact Or.inr (by decide)) ?_)) (by rw [e, ← nI_1]; repeat (first | assumption | exact xw_lk_e _ _ _ | exact xw_lk_e2 _ _ _ | refine xw_lk_s (by decide) (by first | exact Or.inl rfl | exact Or.inl (xw_cat_rf _) | exact Or.inr (by decide)) ?_ | refine xw_lk_s2 (by decide) (by decide) (by first | exact Or.inl rfl | exact Or.inl (xw_cat_rf _) | exact Or.inr (by decide)) ?_)) (by rw [← nI_1]; repeat (first | assumption | exact xw_lk_e _ _ _ | exact xw_lk_e2 _ _ _ | refine xw_lk_s (by decide) (by first | exact Or.inl rfl | exact Or.inl (xw_cat_rf _) | exact Or.inr (by decide)) ?_ | refine xw_lk_s2 (by decide) (by decide) (by first | exact Or.inl rfl | exact Or.inl (xw_cat_rf _) | exact Or.inr (by decide)) ?_))
      · rw [if_neg hu]
        refine rn_ifz (lkX3_pass_50 Y) (fun _ => ?_) (fun q => absurd (by decide) q)
        refine rn_inc (lkX3_pass_56 Y) (by repeat (first | assumption | exact xw_lk_e _ _ _ | exact xw_lk_e2 _ _ _ | refine xw_lk_s (by decide) (by first | exact Or.inl rfl | exact Or.inl (xw_cat_rf _) | exact Or.inr (by decide)) ?_ | refine xw_lk_s2 (by decide) (by decide) (by first | exact Or.inl rfl | exact Or.inl (xw_cat_rf _) | exact Or.inr (by decide)) ?_)) rfl ?_
        refine rn_goto (lkX3_pass_59 Y) ?_
        have e : mo_passes s x (i + 1) = (mo_overAfter (mo_passes s x i).1 b x, (mo_passes s x i).2) := by rw [mo_passes, hL]; dsimp only; rw [if_neg hu, Nat.add_zero]
        exact ih (i + 1) (by omega) _ _ (by rw [e]; exact hR) (by repeat (first | assumption | exact xw_lk_e _ _ _ | exact xw_lk_e2 _ _ _ | refine xw_lk_s (by decide) (by first | exact Or.inl rfl | exact Or.inl (xw_cat_rf _) | exact Or.inr (by decide)) ?_ | refine xw_lk_s2 (by decide) (by decide) (by first | exact Or.inl rfl | exact Or.inl (xw_cat_rf _) | exact Or.inr (by decide)) ?_)) (by repeat (first | assumption | exact xw_lk_e _ _ _ | exact xw_lk_e2 _ _ _ | refine xw_lk_s (by decide) (by first | exact Or.inl rfl | exact Or.inl (xw_cat_rf _) | exact Or.inr (by decide)) ?_ | refine xw_lk_s2 (by decide) (by decide) (by first | exact Or.inl rfl | exact Or.inl (xw_cat_rf _) | exact Or.inr (by decide)) ?_)) (by rw [e]; repeat (first | assumption | exact xw_lk_e _ _ _ | exact xw_lk_e2 _ _ _ | refine xw_lk_s (by decide) (by first | exact Or.inl rfl | exact Or.inl (xw_cat_rf _) | exact Or.inr (by decide)) ?_ | refine xw_lk_s2 (by decide) (by decide) (by first | exact Or.inl rfl | exact Or.inl (xw_cat_rf _) | exact Or.inr (by decide)) ?_)) (by rw [← nI_1]; repeat (first | assumption | exact xw_lk_e _ _ _ | exact xw_lk_e2 _ _ _ | refine xw_lk_s (by decide) (by first | exact Or.inl rfl | exact Or.inl (xw_cat_rf _) | exact Or.inr (by decide)) ?_ | refine xw_lk_s2 (by decide) (by decide) (by first | exact Or.inl rfl | exact Or.inl (xw_cat_rf _) | exact Or.inr (by decide)) ?_))

set_option maxRecDepth 100000 in
set_option maxHeartbeats 4000000 in
theorem sc_pass {x : Int32} (hR : xq_rp Y ad s w) (hx : ¬ (x < 1 ∨ 600 < x)) (H : ∀ i, i < 3 → ∀ b, xq_r (mo_passes s x i).1 300 i = some b → ∃ p, 1 ≤ p ∧ p ≤ 90 ∧ xq_i (mo_passes s x i).1 1007 b = nI p) (h : ∀ w', xq_rp Y ad (mo_pass s x) w' → post (some (.int (nI (mo_passes s x 3).2))) w') : ptX3_pass Y [.ref (ad 0 0), .int x] w post := by
  refine ⟨(by first | exact Nat.le_of_ble_eq_true rfl | simp [lg_sl, xw_cat_rf, xw_cat_i, xw_cat_r, xw_cat_n, xw_cat_l]), ?_⟩
  refine rn_ild (lkX3_pass_0 Y) rfl ?_
  refine rn_push (lkX3_pass_1 Y) ?_
  refine rn_push (lkX3_pass_2 Y) ?_
  refine rn_callS (lkX3_pass_5 Y) (Nat.le_of_ble_eq_true rfl) rfl (Nat.le_of_ble_eq_true rfl) (Nat.le_of_ble_eq_true rfl) (Nat.le_of_ble_eq_true rfl) ?_
  refine sc_in1 hx ?_
  refine rn_ifz (lkX3_pass_8 Y) (fun _ => ?_) (fun q => absurd (by decide) q)
  refine rn_push (lkX3_pass_21 Y) ?_
  refine rn_ist (lkX3_pass_22 Y) rfl ?_
  refine rn_push (lkX3_pass_23 Y) ?_
  refine rn_ist (lkX3_pass_24 Y) rfl ?_
  exact lp_pass H (fun w' hw' => ⟨h w' hw', Nat.le_refl _, Nat.le_refl _⟩) 3 0 rfl w _ hR rfl rfl rfl rfl

end XC9
