/-! THE TABLE IS DRAWN: addTableBouts, draw -/
section XCJ
variable {Y : xw_Y} {ad : Nat → Nat → Nat} {s : xq_S} {w w0 : xw_W} {post : Option Value → xw_W → Prop}
theorem mo_tb3_1 : ∀ (f : Nat) (s : xq_S) (r q : Nat), (mo_tb3 f s r q).1 = s.1
  | 0, _, _, _ => rfl
  | f + 1, s, r, q => by
    rw [mo_tb3]
    split
    · rfl
    · rw [mo_tb3_1 f, mo_tb2_1]
theorem mo_tb3_2 : ∀ (f : Nat) (s : xq_S) (r q : Nat), s.2.1 ≤ (mo_tb3 f s r q).2.1
  | 0, _, _, _ => Nat.le_refl _
  | f + 1, s, r, q => by
    rw [mo_tb3]
    split
    · exact Nat.le_refl _
    · have := mo_tb3_2 f (mo_tb2 s r q) (r + 1) (q / 2)
      rw [mo_tb2_2] at this
      omega
theorem fr_tb3 {c : Nat} (i : Nat) (h2 : ¬ c = 200) (h3 : c / 100 < 10) : ∀ (f : Nat) (s : xq_S) (r q : Nat), xq_i (mo_tb3 f s r q) c i = xq_i s c i
  | 0, _, _, _ => rfl
  | f + 1, s, r, q => by
    rw [mo_tb3]
    split
    · rfl
    · rw [fr_tb3 i h2 h3 f, fr_tb2 _ _ _ h2 h3]
def mo_tbs (s : xq_S) (T : Nat) : xq_S := mo_tb3 4 (mo_tb1 (xu_i s 9 0 (nI s.2.1)) (T / 2)) 1 (T / 4)
def mo_addTB (s : xq_S) (T : Nat) : xq_S := mo_dwo (mo_tbs s T) s.2.1 (T / 2)
theorem fr_tbs (s : xq_S) (T : Nat) {c : Nat} (i : Nat) (h : c < 912) (h2 : ¬ c = 200) (h3 : c / 100 < 10) (h9 : ¬ c = 9) : xq_i (mo_tbs s T) c i = xq_i s c i := by
  unfold mo_tbs
  rw [fr_tb3 _ h2 h3, fr_tb1 _ _ h h2 h3, xq_i_i, if_neg (fun z => h9 z.1)]
theorem mo_tbs_9 (s : xq_S) (T : Nat) : xq_i (mo_tbs s T) 9 0 = nI s.2.1 := by
  unfold mo_tbs
  rw [fr_tb3 _ (by decide) (by decide), fr_tb1 _ _ (by decide) (by decide) (by decide), xq_i_i, if_pos ⟨rfl, rfl⟩]
theorem mo_tbs_1 (s : xq_S) (T : Nat) : (mo_tbs s T).1 = s.1 := by
  unfold mo_tbs
  rw [mo_tb3_1, mo_tb1_1]
  rfl
theorem mo_tbs_2 (s : xq_S) (T : Nat) : s.2.1 + T / 2 ≤ (mo_tbs s T).2.1 := by
  unfold mo_tbs
  have := mo_tb3_2 4 (mo_tb1 (xu_i s 9 0 (nI s.2.1)) (T / 2)) 1 (T / 4)
  rw [mo_tb1_2] at this
  exact this

set_option maxRecDepth 100000 in
set_option maxHeartbeats 4000000 in
theorem sc_addTB {T : Nat} (hR : xq_rp Y ad s w) (h8 : xq_i s 8 0 = nI T) (hT : T ≤ 8) (hB : s.2.1 ≤ 100) (h : ∀ (ad' : Nat → Nat → Nat) (w' : xw_W), ad' 0 0 = ad 0 0 → xq_rp Y ad' (mo_addTB s T) w' → post none w') : ptX3_addTableBouts Y [.ref (ad 0 0)] w post := by
  refine ⟨(by first | exact Nat.le_of_ble_eq_true rfl | simp [lg_sl, xw_cat_rf, xw_cat_i, xw_cat_r, xw_cat_n, xw_cat_l]), ?_⟩
  first | refine rn_ald (lkX3_addTableBouts_0 Y) rfl ?_ | refine rn_aldO (lkX3_addTableBouts_0 Y) rfl ?_ | refine rn_aldN (lkX3_addTableBouts_0 Y) rfl ?_
  first | refine rn_ald (lkX3_addTableBouts_1 Y) rfl ?_ | refine rn_aldO (lkX3_addTableBouts_1 Y) rfl ?_ | refine rn_aldN (lkX3_addTableBouts_1 Y) rfl ?_
  refine rp_getf hR (lkX3_addTableBouts_2 Y) (by first | assumption | exact xq_v0 (by decide)) rfl rfl ?_
  refine rp_callV hR (lkX3_addTableBouts_5 Y) rfl (by first | assumption | exact xq_v0 (by decide)) rfl (Nat.le_of_ble_eq_true rfl) (by first | omega | exact Nat.le_of_ble_eq_true rfl) (by first | omega | exact Nat.le_of_ble_eq_true rfl) ?_
  refine sl_sizeB hR ?_
  refine rp_puti (c := 9) hR (lkX3_addTableBouts_8 Y) (by first | assumption | exact xq_v0 (by decide)) rfl (Nat.le_of_ble_eq_true rfl) (xw_fit_i _) rfl (fun q => absurd q (by decide)) (by simp [xq_en, xq_i_i, xq_r_i]) (fun w hR => ?_)
  refine rn_push (lkX3_addTableBouts_11 Y) ?_
  refine rn_ist (lkX3_addTableBouts_12 Y) rfl ?_
  have h82 : xq_i (xu_i s 9 0 (nI s.2.1)) 8 0 = nI T := by rw [xq_i_i, if_neg (by decide)]; exact h8
  refine lp_tb1 (a := ad 0 0) (s := xu_i s 9 0 (nI s.2.1)) h82 hT (show s.2.1 ≤ 120 by omega) (fun ad2 w2 lv2 e2 hR2 hl2 => ?_) (T / 2) 0 (Nat.zero_add _) ad w _ rfl hR (by first | rfl | repeat (first | assumption | exact xw_lk_e _ _ _ | exact xw_lk_e2 _ _ _ | refine xw_lk_s (by decide) (by first | exact Or.inl rfl | exact Or.inl (xw_cat_rf _) | exact Or.inr (by decide)) ?_ | refine xw_lk_s2 (by decide) (by decide) (by first | exact Or.inl rfl | exact Or.inl (xw_cat_rf _) | exact Or.inr (by decide)) ?_)) (by first | rfl | repeat (first | assumption | exact xw_lk_e _ _ _ | exact xw_lk_e2 _ _ _ | refine xw_lk_s (by decide) (by first | exact Or.inl rfl | exact Or.inl (xw_cat_rf _) | exact Or.inr (by decide)) ?_ | refine xw_lk_s2 (by decide) (by decide) (by first | exact Or.inl rfl | exact Or.inl (xw_cat_rf _) | exact Or.inr (by decide)) ?_))
  have hv2 : xq_vl ad2 (mo_tb1 (xu_i s 9 0 (nI s.2.1)) (T / 2)) 0 0 := xq_v0 (by decide)
  have h83 : xq_i (mo_tb1 (xu_i s 9 0 (nI s.2.1)) (T / 2)) 8 0 = nI T := (fr_tb1 _ 0 (by decide) (by decide) (by decide) _).trans h82
  have hs2 : (mo_tb1 (xu_i s 9 0 (nI s.2.1)) (T / 2)).2.1 = s.2.1 + T / 2 := mo_tb1_2 _ _
  rw [← e2] at hl2
  refine rn_push (lkX3_addTableBouts_72 Y) ?_
  refine rn_ist (lkX3_addTableBouts_73 Y) rfl ?_
  refine rn_ald (lkX3_addTableBouts_74 Y) (by repeat (first | assumption | exact xw_lk_e _ _ _ | exact xw_lk_e2 _ _ _ | refine xw_lk_s (by decide) (by first | exact Or.inl rfl | exact Or.inl (xw_cat_rf _) | exact Or.inr (by decide)) ?_ | refine xw_lk_s2 (by decide) (by decide) (by first | exact Or.inl rfl | exact Or.inl (xw_cat_rf _) | exact Or.inr (by decide)) ?_)) ?_
  refine rp_getf hR2 (lkX3_addTableBouts_75 Y) hv2 rfl rfl ?_
  refine rn_push (lkX3_addTableBouts_78 Y) ?_
  refine rn_i2z (lkX3_addTableBouts_79 Y) (by decide) ?_
  refine rn_ist (lkX3_addTableBouts_80 Y) rfl ?_
  have e4 : xq_i (mo_tb1 (xu_i s 9 0 (nI s.2.1)) (T / 2)) 8 0 / 4 = nI (T / 4) := by rw [h83]; exact pk_div (by omega) (by decide) (by decide)
  refine lp_tb3 (a := ad2 0 0) 4 1 (T / 4) _ _ _ ad2 w2 _ (by decide) (show T / 4 < 16 by omega) (by omega) (by omega) (by omega) (by omega) rfl hR2 (by repeat (first | assumption | exact xw_lk_e _ _ _ | exact xw_lk_e2 _ _ _ | refine xw_lk_s (by decide) (by first | exact Or.inl rfl | exact Or.inl (xw_cat_rf _) | exact Or.inr (by decide)) ?_ | refine xw_lk_s2 (by decide) (by decide) (by first | exact Or.inl rfl | exact Or.inl (xw_cat_rf _) | exact Or.inr (by decide)) ?_)) (by repeat (first | assumption | exact xw_lk_e _ _ _ | exact xw_lk_e2 _ _ _ | refine xw_lk_s (by decide) (by first | exact Or.inl rfl | exact Or.inl (xw_cat_rf _) | exact Or.inr (by decide)) ?_ | refine xw_lk_s2 (by decide) (by decide) (by first | exact Or.inl rfl | exact Or.inl (xw_cat_rf _) | exact Or.inr (by decide)) ?_)) (by rw [← e4]; exact xw_lk_e _ _ _) (fun k n ad3 w3 lv3 hk hn e3 hR3 hl3 => ?_)
  have hR4 : xq_rp Y ad3 (mo_tbs s T) w3 := hR3
  rw [← e3] at hl3
  refine rn_ald (lkX3_addTableBouts_133 Y) hl3 ?_
  have hv3 : xq_vl ad3 (mo_tbs s T) 0 0 := xq_v0 (by decide)
  refine rp_callV hR4 (lkX3_addTableBouts_134 Y) rfl hv3 rfl (Nat.le_of_ble_eq_true rfl) (by omega) (by omega) ?_
  refine sc_dwo hR4 (mo_tbs_9 s T) ((fr_tbs s T 0 (by decide) (by decide) (by decide) (by decide)).trans h8) (by omega) (mo_tbs_2 s T) (fun w4 hR5 => ?_)
  refine rn_vret (lkX3_addTableBouts_137 Y) ?_
  exact ⟨h ad3 w4 (e3.trans e2) hR5, by omega, by omega⟩

def mo_T (L : Nat) : Nat := if L ≤ 2 then 2 else if L ≤ 4 then 4 else 8
theorem mo_out_T (s : xq_S) {L : Nat} (h2 : 2 ≤ L) (h8 : L ≤ 8) : (mo_out 4 s 1 L).2 = mo_T L := by
  rcases (show L = 2 ∨ L = 3 ∨ L = 4 ∨ L = 5 ∨ L = 6 ∨ L = 7 ∨ L = 8 by omega) with rfl | rfl | rfl | rfl | rfl | rfl | rfl <;> rfl
theorem mo_T_8 (L : Nat) : mo_T L ≤ 8 := by
  unfold mo_T
  split
  · decide
  · split <;> decide
theorem mo_out_2 : ∀ (f : Nat) (s : xq_S) (z n : Nat), (mo_out f s z n).1.2.1 = s.2.1 ∧ (mo_out f s z n).1.1 = s.1
  | 0, s, z, n => ⟨rfl, rfl⟩
  | f + 1, s, z, n => by
    rw [mo_out]
    split
    · exact ⟨rfl, rfl⟩
    · have := mo_out_2 f (mo_ln s z z) (2 * z) n
      rw [mo_ln_2, mo_ln_1] at this
      exact this
def mo_drawn (s : xq_S) (L : Nat) : xq_S := mo_setLines (mo_seed s L) L
theorem mo_drawn_1 (s : xq_S) (L : Nat) : (mo_drawn s L).1 = s.1 := by
  have := (mo_out_2 4 (xu_i (mo_seed s L) 600 0 0) 1 L).2
  exact this.trans (mo_seed_1 s L)
theorem mo_drawn_2 (s : xq_S) (L : Nat) : (mo_drawn s L).2.1 = s.2.1 := by
  have := (mo_out_2 4 (xu_i (mo_seed s L) 600 0 0) 1 L).1
  exact this.trans (mo_seed_2 s L)
theorem mo_drawn_8 (s : xq_S) {L : Nat} (h2 : 2 ≤ L) (h8 : L ≤ 8) : xq_i (mo_drawn s L) 8 0 = nI (mo_T L) := by
  unfold mo_drawn mo_setLines
  rw [xq_i_i, if_pos ⟨rfl, rfl⟩, mo_out_T _ h2 h8]
def mo_draw (s : xq_S) (L : Nat) : xq_S := mo_addTB (mo_drawn s L) (mo_T L)

set_option maxRecDepth 100000 in
set_option maxHeartbeats 4000000 in
theorem sc_draw {L : Nat} (hR : xq_rp Y ad s w) (h6 : ¬ xq_i s 6 0 = 0) (h8 : xq_i s 8 0 = 0) (hw : xq_ct (fun b => decide (xq_i s 1004 b = 0)) s.2.1 = 0) (hl : xq_ct (fun b => decide (xq_i s 1004 b = 1)) s.2.1 = 0) (hL : s.1 = xq_ct (fun k => decide (¬ xq_i s 905 k = 0)) s.1 + L) (hL2 : 2 ≤ L) (hL8 : L ≤ 8) (hB : s.2.1 ≤ 100) (h : ∀ (ad' : Nat → Nat → Nat) (w' : xw_W), ad' 0 0 = ad 0 0 → xq_rp Y ad' (mo_draw s L) w' → post (some (.int (nI L))) w') : ptX3_draw Y [.ref (ad 0 0), .int 0] w post := by
  refine ⟨(by first | exact Nat.le_of_ble_eq_true rfl | simp [lg_sl, xw_cat_rf, xw_cat_i, xw_cat_r, xw_cat_n, xw_cat_l]), ?_⟩
  refine rn_ild (lkX3_draw_0 Y) rfl ?_
  refine rn_push (lkX3_draw_1 Y) ?_
  refine rn_push (lkX3_draw_2 Y) ?_
  refine rn_callS (lkX3_draw_4 Y) (by first | omega | exact Nat.le_of_ble_eq_true rfl) rfl (Nat.le_of_ble_eq_true rfl) (by first | omega | exact Nat.le_of_ble_eq_true rfl) (by first | omega | exact Nat.le_of_ble_eq_true rfl) ?_
  refine sc_in1 (by decide) ?_
  refine rn_ifz (lkX3_draw_7 Y) (fun _ => ?_) (fun q => absurd (by decide) q)
  first | refine rn_ald (lkX3_draw_21 Y) rfl ?_ | refine rn_aldO (lkX3_draw_21 Y) rfl ?_ | refine rn_aldN (lkX3_draw_21 Y) rfl ?_
  refine rp_getf hR (lkX3_draw_22 Y) (by first | assumption | exact xq_v0 (by decide)) rfl rfl ?_
  refine rn_ifz (lkX3_draw_25 Y) (fun q => absurd q h6) (fun _ => ?_)
  first | refine rn_ald (lkX3_draw_28 Y) rfl ?_ | refine rn_aldO (lkX3_draw_28 Y) rfl ?_ | refine rn_aldN (lkX3_draw_28 Y) rfl ?_
  refine rp_getf hR (lkX3_draw_29 Y) (by first | assumption | exact xq_v0 (by decide)) rfl rfl ?_
  refine rn_ifz (lkX3_draw_32 Y) (fun q => absurd q (show ¬ 0 < xq_i s 8 0 by rw [h8]; decide)) (fun _ => ?_)
  first | refine rn_ald (lkX3_draw_35 Y) rfl ?_ | refine rn_aldO (lkX3_draw_35 Y) rfl ?_ | refine rn_aldN (lkX3_draw_35 Y) rfl ?_
  refine rn_push (lkX3_draw_36 Y) ?_
  refine rp_callV hR (lkX3_draw_37 Y) rfl (by first | assumption | exact xq_v0 (by decide)) rfl (Nat.le_of_ble_eq_true rfl) (by first | omega | exact Nat.le_of_ble_eq_true rfl) (by first | omega | exact Nat.le_of_ble_eq_true rfl) ?_
  refine sc_boutsIn hR ?_
  rw [hw]
  refine rn_ifz (lkX3_draw_40 Y) (fun q => absurd q (by decide)) (fun _ => ?_)
  first | refine rn_ald (lkX3_draw_43 Y) rfl ?_ | refine rn_aldO (lkX3_draw_43 Y) rfl ?_ | refine rn_aldN (lkX3_draw_43 Y) rfl ?_
  refine rn_push (lkX3_draw_44 Y) ?_
  refine rp_callV hR (lkX3_draw_45 Y) rfl (by first | assumption | exact xq_v0 (by decide)) rfl (Nat.le_of_ble_eq_true rfl) (by first | omega | exact Nat.le_of_ble_eq_true rfl) (by first | omega | exact Nat.le_of_ble_eq_true rfl) ?_
  refine sc_boutsIn hR ?_
  rw [hl]
  refine rn_ifz (lkX3_draw_48 Y) (fun _ => ?_) (fun q => absurd (by decide) q)
  first | refine rn_ald (lkX3_draw_62 Y) rfl ?_ | refine rn_aldO (lkX3_draw_62 Y) rfl ?_ | refine rn_aldN (lkX3_draw_62 Y) rfl ?_
  refine rp_getf hR (lkX3_draw_63 Y) (by first | assumption | exact xq_v0 (by decide)) rfl rfl ?_
  refine rp_callV hR (lkX3_draw_66 Y) rfl (by first | assumption | exact xq_v0 (by decide)) rfl (Nat.le_of_ble_eq_true rfl) (by first | omega | exact Nat.le_of_ble_eq_true rfl) (by first | omega | exact Nat.le_of_ble_eq_true rfl) ?_
  refine sl_sizeF hR ?_
  first | refine rn_ald (lkX3_draw_69 Y) rfl ?_ | refine rn_aldO (lkX3_draw_69 Y) rfl ?_ | refine rn_aldN (lkX3_draw_69 Y) rfl ?_
  refine rp_callV hR (lkX3_draw_70 Y) rfl (by first | assumption | exact xq_v0 (by decide)) rfl (Nat.le_of_ble_eq_true rfl) (by first | omega | exact Nat.le_of_ble_eq_true rfl) (by first | omega | exact Nat.le_of_ble_eq_true rfl) ?_
  refine sc_fencersOut hR ?_
  refine rn_i2 (lkX3_draw_73 Y) ?_
  have e1 : nI s.1 - nI (xq_ct (fun k => decide (¬ xq_i s 905 k = 0)) s.1) = nI L := by rw [pk_sub (by omega)]; exact congrArg nI (by omega)
  rw [e1]
  refine rn_ist (lkX3_draw_74 Y) rfl ?_
  refine rn_ild (lkX3_draw_75 Y) rfl ?_
  refine rn_ild (lkX3_draw_76 Y) rfl ?_
  refine rn_ild (lkX3_draw_77 Y) rfl ?_
  refine rn_i2 (lkX3_draw_78 Y) ?_
  refine rn_push (lkX3_draw_79 Y) ?_
  refine rn_i2z (lkX3_draw_81 Y) (by decide) ?_
  refine rn_i2 (lkX3_draw_82 Y) ?_
  have e2 : nI L - nI L * 0 / 100 = nI L := by rw [← nI_0, pk_mul, Nat.mul_zero, nI_0, show (0 : Int32) / 100 = 0 by decide, ← nI_0, pk_sub (Nat.zero_le _), Nat.sub_zero]
  rw [e2]
  refine rn_ist (lkX3_draw_83 Y) rfl ?_
  refine rn_ild (lkX3_draw_84 Y) rfl ?_
  refine rn_push (lkX3_draw_85 Y) ?_
  refine rn_ifc (lkX3_draw_86 Y) (fun _ => ?_) (fun q => absurd (show nI 2 ≤ nI L from nI_le hL2 (by omega)) q)
  first | refine rn_ald (lkX3_draw_100 Y) rfl ?_ | refine rn_aldO (lkX3_draw_100 Y) rfl ?_ | refine rn_aldN (lkX3_draw_100 Y) rfl ?_
  refine rn_ild (lkX3_draw_101 Y) rfl ?_
  refine rp_callV hR (lkX3_draw_102 Y) rfl (by first | assumption | exact xq_v0 (by decide)) rfl (Nat.le_of_ble_eq_true rfl) (by first | omega | exact Nat.le_of_ble_eq_true rfl) (by first | omega | exact Nat.le_of_ble_eq_true rfl) ?_
  refine sc_seed hR (by omega) (fun w hR => ?_)
  have hv0 : xq_vl ad (mo_seed s L) 0 0 := xq_v0 (by decide)
  first | refine rn_ald (lkX3_draw_105 Y) rfl ?_ | refine rn_aldO (lkX3_draw_105 Y) rfl ?_ | refine rn_aldN (lkX3_draw_105 Y) rfl ?_
  refine rn_ild (lkX3_draw_106 Y) rfl ?_
  refine rp_callV hR (lkX3_draw_107 Y) rfl (by first | assumption | exact xq_v0 (by decide)) rfl (Nat.le_of_ble_eq_true rfl) (by first | omega | exact Nat.le_of_ble_eq_true rfl) (by first | omega | exact Nat.le_of_ble_eq_true rfl) ?_
  refine sc_setLines hR (by omega) (fun w hR => ?_)
  have hR : xq_rp Y ad (mo_drawn s L) w := hR
  have hv0 : xq_vl ad (mo_drawn s L) 0 0 := xq_v0 (by decide)
  first | refine rn_ald (lkX3_draw_110 Y) rfl ?_ | refine rn_aldO (lkX3_draw_110 Y) rfl ?_ | refine rn_aldN (lkX3_draw_110 Y) rfl ?_
  refine rp_callV hR (lkX3_draw_111 Y) rfl (by first | assumption | exact xq_v0 (by decide)) rfl (Nat.le_of_ble_eq_true rfl) (by first | omega | exact Nat.le_of_ble_eq_true rfl) (by first | omega | exact Nat.le_of_ble_eq_true rfl) ?_
  refine sc_addTB hR (mo_drawn_8 s hL2 hL8) (mo_T_8 L) (by rw [mo_drawn_2]; exact hB) (fun ad' w' e0 hR' => ?_)
  refine rn_ild (lkX3_draw_114 Y) rfl ?_
  refine rn_iret (lkX3_draw_115 Y) ?_
  exact ⟨h ad' w' e0 hR', Nat.le_of_ble_eq_true rfl, Nat.le_of_ble_eq_true rfl⟩

end XCJ
