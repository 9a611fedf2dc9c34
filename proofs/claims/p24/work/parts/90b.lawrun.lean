/-! THE LAW: its loop, its end -/
section XLE
variable {Y : xw_Y} {ad : Nat → Nat → Nat} {s : xq_S} {w w0 : xw_W} {post : Option Value → xw_W → Prop}

theorem fr5_decide (s : xq_S) (b : Nat) (o : Option Nat) (i : Nat) : xq_i (mo_decide s b o) 905 i = xq_i s 905 i := by
  unfold mo_decide
  simp only
  split
  · rw [fr_bcount _ _ _ _ _ _ i (by decide), xq_i_r, xq_i_i, if_neg (by omega)]
  · rw [fr_goOnT, fr_lose _ _ _ i (by decide), xq_i_r, xq_i_i, if_neg (by omega)]
theorem fr5_dwo (s : xq_S) (F i : Nat) : ∀ n, xq_i (mo_dwo s F n) 905 i = xq_i s 905 i
  | 0 => rfl
  | n + 1 => by
    rw [mo_dwo]
    split
    · rw [fr5_decide, fr5_dwo s F i n]
    · exact fr5_dwo s F i n
theorem pf_outs (s : xq_S) (L : Nat) (h : (mo_draw s L).1 = s.1) : mo_outs (mo_draw s L) = mo_outs s := by
  unfold mo_outs
  rw [h]
  refine pu_ct_eq (fun k _ => ?_)
  have e : xq_i (mo_draw s L) 905 k = xq_i s 905 k := by
    unfold mo_draw mo_addTB
    rw [fr5_dwo, fr_tbs _ _ _ (by decide) (by decide) (by decide) (by decide), pl_drawnI s 905 k (by decide) (by decide)]
  rw [e]
/-- the table is drawn -/
theorem pf_draw {np L : Nat} (h : pi_V np 0 s) (wf : xq_wf s) (hz : ∀ j, xq_r s 500 j = none) (h0 : mo_bin s 0 = 0) (h1 : mo_bin s 1 = 0) (hL : s.1 = mo_outs s + L) (h2 : 2 ≤ L) : ∃ (S : xq_S) (T : Nat), (∀ _ : Unit, mo_draw s L = S) ∧ 0 < T ∧ pi_V np T S ∧ S.1 = s.1 ∧ mo_outs S = mo_outs s := by
  obtain ⟨v1, v2, v3⟩ := pi_draw h wf hz (fun b hb => by
    have hn := h.1.2.2.1
    have e0 := pu_ct_0 h0 b (by omega)
    have e1 := pu_ct_0 h1 b (by omega)
    rw [decide_eq_false_iff_not] at e0 e1
    rcases (h.2.1 b (by omega)).2.1 with q | q | q | q
    · exact absurd q.1 e0
    · exact absurd q.1 e1
    · exact Or.inl q.1
    · exact Or.inr q.1) hL h2
  exact ⟨_, _, fun _ => rfl, by rcases mo_T_3 L with q | q | q <;> omega, v1, v2, pf_outs s L v2⟩

set_option maxRecDepth 100000 in
set_option maxHeartbeats 8000000 in
theorem lw_E {Rt : xw_R} {np M a T k n : Nat} {lv : xw_L} (h1 : ∀ (w : xw_W) (k n : Nat), k ≤ 608221 → n ≤ 7276804 → Rt (some (.int 1)) w k n) (hV : pi_V np T s) (hM : s.1 = M) (ea : ad 0 0 = a) (hR : xq_rp Y ad s w) (hl1 : xw_lk lv 1 = some (.ref a)) (hl3 : xw_lk lv 3 = some (.int (nI M))) (hl4 : xw_lk lv 4 = some (.int (nI np))) (hk : k ≤ 20000) (hn : n ≤ 1000000) : xw_Run (tbL_law Y) Rt 615 lv [] w k n := by
  subst hM
  subst ea
  have hnb := xq_nb hR
  have hT16 : T ≤ 16 := by have := hV.1.2.1; omega
  have h8 := hV.1.2.2.2.2.1
  have hnp := hV.1.2.2.1
  have hnp98 := hV.1.2.2.2.1
  have hv0 : xq_vl ad s 0 0 := xq_v0 (by decide)
  first | refine rn_ald (lkL_law_615 Y) (by repeat (first | assumption | exact xw_lk_e _ _ _ | exact xw_lk_e2 _ _ _ | refine xw_lk_s (by decide) (by first | exact Or.inl rfl | exact Or.inl (xw_cat_rf _) | exact Or.inr (by decide)) ?_ | refine xw_lk_s2 (by decide) (by decide) (by first | exact Or.inl rfl | exact Or.inl (xw_cat_rf _) | exact Or.inr (by decide)) ?_)) ?_ | refine rn_aldO (lkL_law_615 Y) (by repeat (first | assumption | exact xw_lk_e _ _ _ | exact xw_lk_e2 _ _ _ | refine xw_lk_s (by decide) (by first | exact Or.inl rfl | exact Or.inl (xw_cat_rf _) | exact Or.inr (by decide)) ?_ | refine xw_lk_s2 (by decide) (by decide) (by first | exact Or.inl rfl | exact Or.inl (xw_cat_rf _) | exact Or.inr (by decide)) ?_)) ?_ | refine rn_aldN (lkL_law_615 Y) (by repeat (first | assumption | exact xw_lk_e _ _ _ | exact xw_lk_e2 _ _ _ | refine xw_lk_s (by decide) (by first | exact Or.inl rfl | exact Or.inl (xw_cat_rf _) | exact Or.inr (by decide)) ?_ | refine xw_lk_s2 (by decide) (by decide) (by first | exact Or.inl rfl | exact Or.inl (xw_cat_rf _) | exact Or.inr (by decide)) ?_)) ?_
  refine rp_callV hR (lkL_law_616 Y) rfl (by first | assumption | exact xq_v0 (by decide)) rfl (Nat.le_of_ble_eq_true rfl) (by first | omega | exact Nat.le_of_ble_eq_true rfl) (by first | omega | exact Nat.le_of_ble_eq_true rfl) ?_
  refine sc_digest hR h8 hT16 ?_
  obtain ⟨dg, hdg⟩ : ∃ dg, mo_digest s T = dg := ⟨_, rfl⟩
  rw [hdg]
  have hdg := fun (_ : Unit) => hdg
  refine rn_lst (lkL_law_619 Y) rfl ?_
  first | refine rn_ald (lkL_law_621 Y) (by repeat (first | assumption | exact xw_lk_e _ _ _ | exact xw_lk_e2 _ _ _ | refine xw_lk_s (by decide) (by first | exact Or.inl rfl | exact Or.inl (xw_cat_rf _) | exact Or.inr (by decide)) ?_ | refine xw_lk_s2 (by decide) (by decide) (by first | exact Or.inl rfl | exact Or.inl (xw_cat_rf _) | exact Or.inr (by decide)) ?_)) ?_ | refine rn_aldO (lkL_law_621 Y) (by repeat (first | assumption | exact xw_lk_e _ _ _ | exact xw_lk_e2 _ _ _ | refine xw_lk_s (by decide) (by first | exact Or.inl rfl | exact Or.inl (xw_cat_rf _) | exact Or.inr (by decide)) ?_ | refine xw_lk_s2 (by decide) (by decide) (by first | exact Or.inl rfl | exact Or.inl (xw_cat_rf _) | exact Or.inr (by decide)) ?_)) ?_ | refine rn_aldN (lkL_law_621 Y) (by repeat (first | assumption | exact xw_lk_e _ _ _ | exact xw_lk_e2 _ _ _ | refine xw_lk_s (by decide) (by first | exact Or.inl rfl | exact Or.inl (xw_cat_rf _) | exact Or.inr (by decide)) ?_ | refine xw_lk_s2 (by decide) (by decide) (by first | exact Or.inl rfl | exact Or.inl (xw_cat_rf _) | exact Or.inr (by decide)) ?_)) ?_
  refine rn_ild (lkL_law_622 Y) (by repeat (first | assumption | exact xw_lk_e _ _ _ | exact xw_lk_e2 _ _ _ | refine xw_lk_s (by decide) (by first | exact Or.inl rfl | exact Or.inl (xw_cat_rf _) | exact Or.inr (by decide)) ?_ | refine xw_lk_s2 (by decide) (by decide) (by first | exact Or.inl rfl | exact Or.inl (xw_cat_rf _) | exact Or.inr (by decide)) ?_)) ?_
  refine rn_ild (lkL_law_623 Y) (by repeat (first | assumption | exact xw_lk_e _ _ _ | exact xw_lk_e2 _ _ _ | refine xw_lk_s (by decide) (by first | exact Or.inl rfl | exact Or.inl (xw_cat_rf _) | exact Or.inr (by decide)) ?_ | refine xw_lk_s2 (by decide) (by decide) (by first | exact Or.inl rfl | exact Or.inl (xw_cat_rf _) | exact Or.inr (by decide)) ?_)) ?_
  refine rn_callS (lkL_law_625 Y) (by first | omega | exact Nat.le_of_ble_eq_true rfl) rfl (Nat.le_of_ble_eq_true rfl) (by first | omega | exact Nat.le_of_ble_eq_true rfl) (by first | omega | exact Nat.le_of_ble_eq_true rfl) ?_
  refine sc_isFair (T := T) hV hR (fun w hR => ?_)
  refine rn_ifz (lkL_law_628 Y) (fun q => absurd q (by decide)) (fun _ => ?_)
  first | refine rn_ald (lkL_law_631 Y) (by repeat (first | assumption | exact xw_lk_e _ _ _ | exact xw_lk_e2 _ _ _ | refine xw_lk_s (by decide) (by first | exact Or.inl rfl | exact Or.inl (xw_cat_rf _) | exact Or.inr (by decide)) ?_ | refine xw_lk_s2 (by decide) (by decide) (by first | exact Or.inl rfl | exact Or.inl (xw_cat_rf _) | exact Or.inr (by decide)) ?_)) ?_ | refine rn_aldO (lkL_law_631 Y) (by repeat (first | assumption | exact xw_lk_e _ _ _ | exact xw_lk_e2 _ _ _ | refine xw_lk_s (by decide) (by first | exact Or.inl rfl | exact Or.inl (xw_cat_rf _) | exact Or.inr (by decide)) ?_ | refine xw_lk_s2 (by decide) (by decide) (by first | exact Or.inl rfl | exact Or.inl (xw_cat_rf _) | exact Or.inr (by decide)) ?_)) ?_ | refine rn_aldN (lkL_law_631 Y) (by repeat (first | assumption | exact xw_lk_e _ _ _ | exact xw_lk_e2 _ _ _ | refine xw_lk_s (by decide) (by first | exact Or.inl rfl | exact Or.inl (xw_cat_rf _) | exact Or.inr (by decide)) ?_ | refine xw_lk_s2 (by decide) (by decide) (by first | exact Or.inl rfl | exact Or.inl (xw_cat_rf _) | exact Or.inr (by decide)) ?_)) ?_
  refine rp_callV hR (lkL_law_632 Y) rfl (by first | assumption | exact xq_v0 (by decide)) rfl (Nat.le_of_ble_eq_true rfl) (by first | omega | exact Nat.le_of_ble_eq_true rfl) (by first | omega | exact Nat.le_of_ble_eq_true rfl) ?_
  refine sc_digest hR h8 hT16 ?_
  rw [hdg ()]
  refine rn_lld (lkL_law_635 Y) (by repeat (first | assumption | exact xw_lk_e _ _ _ | exact xw_lk_e2 _ _ _ | refine xw_lk_s (by decide) (by first | exact Or.inl rfl | exact Or.inl (xw_cat_rf _) | exact Or.inr (by decide)) ?_ | refine xw_lk_s2 (by decide) (by decide) (by first | exact Or.inl rfl | exact Or.inl (xw_cat_rf _) | exact Or.inr (by decide)) ?_)) ?_
  refine rn_lcmp (lkL_law_637 Y) (fun q => absurd q Int64.lt_irrefl) (fun _ => ?_) (fun q => absurd q Int64.lt_irrefl)
  refine rn_ifz (lkL_law_638 Y) (fun q => absurd q (fun z => z rfl)) (fun _ => ?_)
  first | refine rn_ald (lkL_law_641 Y) (by repeat (first | assumption | exact xw_lk_e _ _ _ | exact xw_lk_e2 _ _ _ | refine xw_lk_s (by decide) (by first | exact Or.inl rfl | exact Or.inl (xw_cat_rf _) | exact Or.inr (by decide)) ?_ | refine xw_lk_s2 (by decide) (by decide) (by first | exact Or.inl rfl | exact Or.inl (xw_cat_rf _) | exact Or.inr (by decide)) ?_)) ?_ | refine rn_aldO (lkL_law_641 Y) (by repeat (first | assumption | exact xw_lk_e _ _ _ | exact xw_lk_e2 _ _ _ | refine xw_lk_s (by decide) (by first | exact Or.inl rfl | exact Or.inl (xw_cat_rf _) | exact Or.inr (by decide)) ?_ | refine xw_lk_s2 (by decide) (by decide) (by first | exact Or.inl rfl | exact Or.inl (xw_cat_rf _) | exact Or.inr (by decide)) ?_)) ?_ | refine rn_aldN (lkL_law_641 Y) (by repeat (first | assumption | exact xw_lk_e _ _ _ | exact xw_lk_e2 _ _ _ | refine xw_lk_s (by decide) (by first | exact Or.inl rfl | exact Or.inl (xw_cat_rf _) | exact Or.inr (by decide)) ?_ | refine xw_lk_s2 (by decide) (by decide) (by first | exact Or.inl rfl | exact Or.inl (xw_cat_rf _) | exact Or.inr (by decide)) ?_)) ?_
  refine rn_push (lkL_law_642 Y) ?_
  refine rp_callV hR (lkL_law_643 Y) rfl (by first | assumption | exact xq_v0 (by decide)) rfl (Nat.le_of_ble_eq_true rfl) (by first | omega | exact Nat.le_of_ble_eq_true rfl) (by first | omega | exact Nat.le_of_ble_eq_true rfl) ?_
  refine sc_many (m := 2) hR (by decide) ?_
  rw [show mo_many s 2 = nI s.2.1 from rfl]
  refine rn_ild (lkL_law_646 Y) (by repeat (first | assumption | exact xw_lk_e _ _ _ | exact xw_lk_e2 _ _ _ | refine xw_lk_s (by decide) (by first | exact Or.inl rfl | exact Or.inl (xw_cat_rf _) | exact Or.inr (by decide)) ?_ | refine xw_lk_s2 (by decide) (by decide) (by first | exact Or.inl rfl | exact Or.inl (xw_cat_rf _) | exact Or.inr (by decide)) ?_)) ?_
  refine rn_ifc (lkL_law_648 Y) (fun q => absurd q (nI_nlt (by omega) (by omega))) (fun _ => ?_)
  refine rn_push (lkL_law_651 Y) ?_
  refine rn_goto (lkL_law_652 Y) ?_
  refine rn_zret (lkL_law_656 Y) (by first | exact Or.inl rfl | exact Or.inr rfl | assumption) ?_
  exact h1 _ _ _ (by omega) (by omega)

set_option maxRecDepth 100000 in
set_option maxHeartbeats 8000000 in
theorem lw_A {Rt : xw_R} {np M a : Nat} (h1 : ∀ (w : xw_W) (k n : Nat), k ≤ 608221 → n ≤ 7276804 → Rt (some (.int 1)) w k n) (hY : Y.1.2.2.1 ≤ 260) : ∀ (j i : Nat), i + j = 160 → ∀ (T : Nat) (s : xq_S) (ad : Nat → Nat → Nat) (w : xw_W) (lv : xw_L) (k n : Nat), pi_V np T s → (T = 0 → ∀ j, xq_r s 500 j = none) → s.1 = M → ad 0 0 = a → xq_rp Y ad s w → xw_lk lv 0 = some (.ref Y.1.2.1) → xw_lk lv 1 = some (.ref a) → xw_lk lv 3 = some (.int (nI M)) → xw_lk lv 4 = some (.int (nI np)) → xw_lk lv 5 = some (.int (nI i)) → k ≤ 1000 + 61 * i → n ≤ 40000 + 3308 * i → xw_Run (tbL_law Y) Rt 93 lv [] w k n := by
  intro j
  induction j with
  | zero =>
    intro i hi T s ad w lv k n hV hz hM ea hR hl0 hl1 hl3 hl4 hl5 hk hn
    refine rn_ild (lkL_law_93 Y) (by repeat (first | assumption | exact xw_lk_e _ _ _ | exact xw_lk_e2 _ _ _ | refine xw_lk_s (by decide) (by first | exact Or.inl rfl | exact Or.inl (xw_cat_rf _) | exact Or.inr (by decide)) ?_ | refine xw_lk_s2 (by decide) (by decide) (by first | exact Or.inl rfl | exact Or.inl (xw_cat_rf _) | exact Or.inr (by decide)) ?_)) ?_
    refine rn_push (lkL_law_95 Y) ?_
    refine rn_ifc (lkL_law_98 Y) (fun _ => ?_) (fun q => absurd (show nI 160 ≤ nI i from nI_le (by omega) (by omega)) q)
    exact lw_E h1 hV hM ea hR hl1 hl3 hl4 (by omega) (by omega)
  | succ j ih =>
    intro i hi T s ad w lv k n hV hz hM ea hR hl0 hl1 hl3 hl4 hl5 hk hn
    have hi16 : i < 160 := by omega
    have NX : lw_NX Y Rt np M a i := by
      intro T s ad w lv k n hV hz hM ea hR hl0 hl1 hl3 hl4 hl5 hk hn
      refine rn_inc (lkL_law_609 Y) hl5 rfl ?_
      refine rn_goto (lkL_law_612 Y) ?_
      exact ih (i + 1) (by omega) T s ad w _ k n hV hz hM ea hR (by repeat (first | assumption | exact xw_lk_e _ _ _ | exact xw_lk_e2 _ _ _ | refine xw_lk_s (by decide) (by first | exact Or.inl rfl | exact Or.inl (xw_cat_rf _) | exact Or.inr (by decide)) ?_ | refine xw_lk_s2 (by decide) (by decide) (by first | exact Or.inl rfl | exact Or.inl (xw_cat_rf _) | exact Or.inr (by decide)) ?_)) (by repeat (first | assumption | exact xw_lk_e _ _ _ | exact xw_lk_e2 _ _ _ | refine xw_lk_s (by decide) (by first | exact Or.inl rfl | exact Or.inl (xw_cat_rf _) | exact Or.inr (by decide)) ?_ | refine xw_lk_s2 (by decide) (by decide) (by first | exact Or.inl rfl | exact Or.inl (xw_cat_rf _) | exact Or.inr (by decide)) ?_)) (by repeat (first | assumption | exact xw_lk_e _ _ _ | exact xw_lk_e2 _ _ _ | refine xw_lk_s (by decide) (by first | exact Or.inl rfl | exact Or.inl (xw_cat_rf _) | exact Or.inr (by decide)) ?_ | refine xw_lk_s2 (by decide) (by decide) (by first | exact Or.inl rfl | exact Or.inl (xw_cat_rf _) | exact Or.inr (by decide)) ?_)) (by repeat (first | assumption | exact xw_lk_e _ _ _ | exact xw_lk_e2 _ _ _ | refine xw_lk_s (by decide) (by first | exact Or.inl rfl | exact Or.inl (xw_cat_rf _) | exact Or.inr (by decide)) ?_ | refine xw_lk_s2 (by decide) (by decide) (by first | exact Or.inl rfl | exact Or.inl (xw_cat_rf _) | exact Or.inr (by decide)) ?_)) (by rw [← nI_1]; repeat (first | assumption | exact xw_lk_e _ _ _ | exact xw_lk_e2 _ _ _ | refine xw_lk_s (by decide) (by first | exact Or.inl rfl | exact Or.inl (xw_cat_rf _) | exact Or.inr (by decide)) ?_ | refine xw_lk_s2 (by decide) (by decide) (by first | exact Or.inl rfl | exact Or.inl (xw_cat_rf _) | exact Or.inr (by decide)) ?_)) (by omega) (by omega)
    have N5 : lw_N5 Y Rt np M a i := lw_C hi16 NX
    subst hM
    subst ea
    have hnb := xq_nb hR
    have hn8 := hV.1.1
    have hnpe := hV.1.2.2.1
    have hnp98 := hV.1.2.2.2.1
    have h8T := hV.1.2.2.2.2.1
    have hTv := hV.1.2.1
    have hv0 : xq_vl ad s 0 0 := xq_v0 (by decide)
    have ei : nI i - nI i / 16 * 16 = nI (i % 16) := pk_rem (by omega) (by decide) (by decide)
    refine rn_ild (lkL_law_93 Y) (by repeat (first | assumption | exact xw_lk_e _ _ _ | exact xw_lk_e2 _ _ _ | refine xw_lk_s (by decide) (by first | exact Or.inl rfl | exact Or.inl (xw_cat_rf _) | exact Or.inr (by decide)) ?_ | refine xw_lk_s2 (by decide) (by decide) (by first | exact Or.inl rfl | exact Or.inl (xw_cat_rf _) | exact Or.inr (by decide)) ?_)) ?_
    refine rn_push (lkL_law_95 Y) ?_
    refine rn_ifc (lkL_law_98 Y) (fun q => absurd q (show ¬ nI 160 ≤ nI i from nI_ge (by omega) (by omega))) (fun _ => ?_)
    first | refine rn_ald (lkL_law_101 Y) (by repeat (first | assumption | exact xw_lk_e _ _ _ | exact xw_lk_e2 _ _ _ | refine xw_lk_s (by decide) (by first | exact Or.inl rfl | exact Or.inl (xw_cat_rf _) | exact Or.inr (by decide)) ?_ | refine xw_lk_s2 (by decide) (by decide) (by first | exact Or.inl rfl | exact Or.inl (xw_cat_rf _) | exact Or.inr (by decide)) ?_)) ?_ | refine rn_aldO (lkL_law_101 Y) (by repeat (first | assumption | exact xw_lk_e _ _ _ | exact xw_lk_e2 _ _ _ | refine xw_lk_s (by decide) (by first | exact Or.inl rfl | exact Or.inl (xw_cat_rf _) | exact Or.inr (by decide)) ?_ | refine xw_lk_s2 (by decide) (by decide) (by first | exact Or.inl rfl | exact Or.inl (xw_cat_rf _) | exact Or.inr (by decide)) ?_)) ?_ | refine rn_aldN (lkL_law_101 Y) (by repeat (first | assumption | exact xw_lk_e _ _ _ | exact xw_lk_e2 _ _ _ | refine xw_lk_s (by decide) (by first | exact Or.inl rfl | exact Or.inl (xw_cat_rf _) | exact Or.inr (by decide)) ?_ | refine xw_lk_s2 (by decide) (by decide) (by first | exact Or.inl rfl | exact Or.inl (xw_cat_rf _) | exact Or.inr (by decide)) ?_)) ?_
    refine rn_ild (lkL_law_102 Y) (by repeat (first | assumption | exact xw_lk_e _ _ _ | exact xw_lk_e2 _ _ _ | refine xw_lk_s (by decide) (by first | exact Or.inl rfl | exact Or.inl (xw_cat_rf _) | exact Or.inr (by decide)) ?_ | refine xw_lk_s2 (by decide) (by decide) (by first | exact Or.inl rfl | exact Or.inl (xw_cat_rf _) | exact Or.inr (by decide)) ?_)) ?_
    refine rn_push (lkL_law_104 Y) ?_
    refine rn_i2z (lkL_law_106 Y) (by decide) ?_
    refine rn_callS (lkL_law_107 Y) (by first | omega | exact Nat.le_of_ble_eq_true rfl) rfl (Nat.le_of_ble_eq_true rfl) (by first | omega | exact Nat.le_of_ble_eq_true rfl) (by first | omega | exact Nat.le_of_ble_eq_true rfl) ?_
    rw [ei]
    refine sc_cell (i := i % 16) (by omega) hY (fun cx => ?_)
    refine rn_ild (lkL_law_110 Y) (by repeat (first | assumption | exact xw_lk_e _ _ _ | exact xw_lk_e2 _ _ _ | refine xw_lk_s (by decide) (by first | exact Or.inl rfl | exact Or.inl (xw_cat_rf _) | exact Or.inr (by decide)) ?_ | refine xw_lk_s2 (by decide) (by decide) (by first | exact Or.inl rfl | exact Or.inl (xw_cat_rf _) | exact Or.inr (by decide)) ?_)) ?_
    refine rn_push (lkL_law_112 Y) ?_
    refine rn_i2z (lkL_law_114 Y) (by decide) ?_
    refine rn_i2 (lkL_law_115 Y) ?_
    refine rn_push (lkL_law_116 Y) ?_
    refine rn_ild (lkL_law_118 Y) (by repeat (first | assumption | exact xw_lk_e _ _ _ | exact xw_lk_e2 _ _ _ | refine xw_lk_s (by decide) (by first | exact Or.inl rfl | exact Or.inl (xw_cat_rf _) | exact Or.inr (by decide)) ?_ | refine xw_lk_s2 (by decide) (by decide) (by first | exact Or.inl rfl | exact Or.inl (xw_cat_rf _) | exact Or.inr (by decide)) ?_)) ?_
    refine rn_i2 (lkL_law_120 Y) ?_
    refine rn_i2 (lkL_law_121 Y) ?_
    refine rn_ist (lkL_law_122 Y) rfl ?_
    first | refine rn_ald (lkL_law_124 Y) (by repeat (first | assumption | exact xw_lk_e _ _ _ | exact xw_lk_e2 _ _ _ | refine xw_lk_s (by decide) (by first | exact Or.inl rfl | exact Or.inl (xw_cat_rf _) | exact Or.inr (by decide)) ?_ | refine xw_lk_s2 (by decide) (by decide) (by first | exact Or.inl rfl | exact Or.inl (xw_cat_rf _) | exact Or.inr (by decide)) ?_)) ?_ | refine rn_aldO (lkL_law_124 Y) (by repeat (first | assumption | exact xw_lk_e _ _ _ | exact xw_lk_e2 _ _ _ | refine xw_lk_s (by decide) (by first | exact Or.inl rfl | exact Or.inl (xw_cat_rf _) | exact Or.inr (by decide)) ?_ | refine xw_lk_s2 (by decide) (by decide) (by first | exact Or.inl rfl | exact Or.inl (xw_cat_rf _) | exact Or.inr (by decide)) ?_)) ?_ | refine rn_aldN (lkL_law_124 Y) (by repeat (first | assumption | exact xw_lk_e _ _ _ | exact xw_lk_e2 _ _ _ | refine xw_lk_s (by decide) (by first | exact Or.inl rfl | exact Or.inl (xw_cat_rf _) | exact Or.inr (by decide)) ?_ | refine xw_lk_s2 (by decide) (by decide) (by first | exact Or.inl rfl | exact Or.inl (xw_cat_rf _) | exact Or.inr (by decide)) ?_)) ?_
    refine rn_push (lkL_law_125 Y) ?_
    refine rp_callV hR (lkL_law_126 Y) rfl (by first | assumption | exact xq_v0 (by decide)) rfl (Nat.le_of_ble_eq_true rfl) (by first | omega | exact Nat.le_of_ble_eq_true rfl) (by first | omega | exact Nat.le_of_ble_eq_true rfl) ?_
    refine sc_many (m := 3) hR (by decide) ?_
    rw [show mo_many s 3 = nI (mo_bin s 0) from rfl]
    first | refine rn_ald (lkL_law_129 Y) (by repeat (first | assumption | exact xw_lk_e _ _ _ | exact xw_lk_e2 _ _ _ | refine xw_lk_s (by decide) (by first | exact Or.inl rfl | exact Or.inl (xw_cat_rf _) | exact Or.inr (by decide)) ?_ | refine xw_lk_s2 (by decide) (by decide) (by first | exact Or.inl rfl | exact Or.inl (xw_cat_rf _) | exact Or.inr (by decide)) ?_)) ?_ | refine rn_aldO (lkL_law_129 Y) (by repeat (first | assumption | exact xw_lk_e _ _ _ | exact xw_lk_e2 _ _ _ | refine xw_lk_s (by decide) (by first | exact Or.inl rfl | exact Or.inl (xw_cat_rf _) | exact Or.inr (by decide)) ?_ | refine xw_lk_s2 (by decide) (by decide) (by first | exact Or.inl rfl | exact Or.inl (xw_cat_rf _) | exact Or.inr (by decide)) ?_)) ?_ | refine rn_aldN (lkL_law_129 Y) (by repeat (first | assumption | exact xw_lk_e _ _ _ | exact xw_lk_e2 _ _ _ | refine xw_lk_s (by decide) (by first | exact Or.inl rfl | exact Or.inl (xw_cat_rf _) | exact Or.inr (by decide)) ?_ | refine xw_lk_s2 (by decide) (by decide) (by first | exact Or.inl rfl | exact Or.inl (xw_cat_rf _) | exact Or.inr (by decide)) ?_)) ?_
    refine rn_push (lkL_law_130 Y) ?_
    refine rp_callV hR (lkL_law_131 Y) rfl (by first | assumption | exact xq_v0 (by decide)) rfl (Nat.le_of_ble_eq_true rfl) (by first | omega | exact Nat.le_of_ble_eq_true rfl) (by first | omega | exact Nat.le_of_ble_eq_true rfl) ?_
    refine sc_many (m := 4) hR (by decide) ?_
    rw [show mo_many s 4 = nI (mo_bin s 1) from rfl]
    have hb0 : mo_bin s 0 ≤ s.2.1 := xq_ct_le _ _
    have hb1 : mo_bin s 1 ≤ s.2.1 := xq_ct_le _ _
    refine rn_i2 (lkL_law_134 Y) ?_
    rw [show nI (mo_bin s 0) + nI (mo_bin s 1) = nI (mo_bin s 0 + mo_bin s 1) from nI_add _ _]
    by_cases hq : mo_bin s 0 + mo_bin s 1 = 0
    · rw [hq]
      refine rn_ifz (lkL_law_135 Y) (fun q => absurd q (by decide)) (fun _ => ?_)
      first | refine rn_ald (lkL_law_138 Y) (by repeat (first | assumption | exact xw_lk_e _ _ _ | exact xw_lk_e2 _ _ _ | refine xw_lk_s (by decide) (by first | exact Or.inl rfl | exact Or.inl (xw_cat_rf _) | exact Or.inr (by decide)) ?_ | refine xw_lk_s2 (by decide) (by decide) (by first | exact Or.inl rfl | exact Or.inl (xw_cat_rf _) | exact Or.inr (by decide)) ?_)) ?_ | refine rn_aldO (lkL_law_138 Y) (by repeat (first | assumption | exact xw_lk_e _ _ _ | exact xw_lk_e2 _ _ _ | refine xw_lk_s (by decide) (by first | exact Or.inl rfl | exact Or.inl (xw_cat_rf _) | exact Or.inr (by decide)) ?_ | refine xw_lk_s2 (by decide) (by decide) (by first | exact Or.inl rfl | exact Or.inl (xw_cat_rf _) | exact Or.inr (by decide)) ?_)) ?_ | refine rn_aldN (lkL_law_138 Y) (by repeat (first | assumption | exact xw_lk_e _ _ _ | exact xw_lk_e2 _ _ _ | refine xw_lk_s (by decide) (by first | exact Or.inl rfl | exact Or.inl (xw_cat_rf _) | exact Or.inr (by decide)) ?_ | refine xw_lk_s2 (by decide) (by decide) (by first | exact Or.inl rfl | exact Or.inl (xw_cat_rf _) | exact Or.inr (by decide)) ?_)) ?_
      refine rn_push (lkL_law_139 Y) ?_
      refine rp_callV hR (lkL_law_141 Y) rfl (by first | assumption | exact xq_v0 (by decide)) rfl (Nat.le_of_ble_eq_true rfl) (by first | omega | exact Nat.le_of_ble_eq_true rfl) (by first | omega | exact Nat.le_of_ble_eq_true rfl) ?_
      refine sc_many (m := 9) hR (by decide) ?_
      rw [show mo_many s 9 = nI T from h8T]
      by_cases hT0 : T = 0
      · subst hT0
        have ho : mo_outs s ≤ s.1 := xq_ct_le _ _
        refine rn_ifz (lkL_law_144 Y) (fun q => absurd q (by decide)) (fun _ => ?_)
        refine rn_ild (lkL_law_147 Y) (by repeat (first | assumption | exact xw_lk_e _ _ _ | exact xw_lk_e2 _ _ _ | refine xw_lk_s (by decide) (by first | exact Or.inl rfl | exact Or.inl (xw_cat_rf _) | exact Or.inr (by decide)) ?_ | refine xw_lk_s2 (by decide) (by decide) (by first | exact Or.inl rfl | exact Or.inl (xw_cat_rf _) | exact Or.inr (by decide)) ?_)) ?_
        first | refine rn_ald (lkL_law_148 Y) (by repeat (first | assumption | exact xw_lk_e _ _ _ | exact xw_lk_e2 _ _ _ | refine xw_lk_s (by decide) (by first | exact Or.inl rfl | exact Or.inl (xw_cat_rf _) | exact Or.inr (by decide)) ?_ | refine xw_lk_s2 (by decide) (by decide) (by first | exact Or.inl rfl | exact Or.inl (xw_cat_rf _) | exact Or.inr (by decide)) ?_)) ?_ | refine rn_aldO (lkL_law_148 Y) (by repeat (first | assumption | exact xw_lk_e _ _ _ | exact xw_lk_e2 _ _ _ | refine xw_lk_s (by decide) (by first | exact Or.inl rfl | exact Or.inl (xw_cat_rf _) | exact Or.inr (by decide)) ?_ | refine xw_lk_s2 (by decide) (by decide) (by first | exact Or.inl rfl | exact Or.inl (xw_cat_rf _) | exact Or.inr (by decide)) ?_)) ?_ | refine rn_aldN (lkL_law_148 Y) (by repeat (first | assumption | exact xw_lk_e _ _ _ | exact xw_lk_e2 _ _ _ | refine xw_lk_s (by decide) (by first | exact Or.inl rfl | exact Or.inl (xw_cat_rf _) | exact Or.inr (by decide)) ?_ | refine xw_lk_s2 (by decide) (by decide) (by first | exact Or.inl rfl | exact Or.inl (xw_cat_rf _) | exact Or.inr (by decide)) ?_)) ?_
        refine rn_push (lkL_law_149 Y) ?_
        refine rp_callV hR (lkL_law_151 Y) rfl (by first | assumption | exact xq_v0 (by decide)) rfl (Nat.le_of_ble_eq_true rfl) (by first | omega | exact Nat.le_of_ble_eq_true rfl) (by first | omega | exact Nat.le_of_ble_eq_true rfl) ?_
        refine sc_many (m := 8) hR (by decide) ?_
        rw [show mo_many s 8 = nI (mo_outs s) from rfl]
        refine rn_i2 (lkL_law_154 Y) ?_
        rw [pk_sub ho]
        refine rn_push (lkL_law_155 Y) ?_
        by_cases hL : 2 ≤ s.1 - mo_outs s
        · obtain ⟨S, T2, e1, hT2, v1, v2, v3⟩ := pf_draw hV hR.2.2.1 (hz rfl) (by omega) (by omega) (show s.1 = mo_outs s + (s.1 - mo_outs s) by omega) hL
          refine rn_ifc (lkL_law_156 Y) (fun _ => ?_) (fun q => absurd (show nI 2 ≤ nI (s.1 - mo_outs s) from nI_le hL (by omega)) q)
          first | refine rn_ald (lkL_law_167 Y) (by repeat (first | assumption | exact xw_lk_e _ _ _ | exact xw_lk_e2 _ _ _ | refine xw_lk_s (by decide) (by first | exact Or.inl rfl | exact Or.inl (xw_cat_rf _) | exact Or.inr (by decide)) ?_ | refine xw_lk_s2 (by decide) (by decide) (by first | exact Or.inl rfl | exact Or.inl (xw_cat_rf _) | exact Or.inr (by decide)) ?_)) ?_ | refine rn_aldO (lkL_law_167 Y) (by repeat (first | assumption | exact xw_lk_e _ _ _ | exact xw_lk_e2 _ _ _ | refine xw_lk_s (by decide) (by first | exact Or.inl rfl | exact Or.inl (xw_cat_rf _) | exact Or.inr (by decide)) ?_ | refine xw_lk_s2 (by decide) (by decide) (by first | exact Or.inl rfl | exact Or.inl (xw_cat_rf _) | exact Or.inr (by decide)) ?_)) ?_ | refine rn_aldN (lkL_law_167 Y) (by repeat (first | assumption | exact xw_lk_e _ _ _ | exact xw_lk_e2 _ _ _ | refine xw_lk_s (by decide) (by first | exact Or.inl rfl | exact Or.inl (xw_cat_rf _) | exact Or.inr (by decide)) ?_ | refine xw_lk_s2 (by decide) (by decide) (by first | exact Or.inl rfl | exact Or.inl (xw_cat_rf _) | exact Or.inr (by decide)) ?_)) ?_
          refine rn_push (lkL_law_168 Y) ?_
          refine rp_callV hR (lkL_law_169 Y) rfl (by first | assumption | exact xq_v0 (by decide)) rfl (Nat.le_of_ble_eq_true rfl) (by first | omega | exact Nat.le_of_ble_eq_true rfl) (by first | omega | exact Nat.le_of_ble_eq_true rfl) ?_
          refine sc_draw (L := s.1 - mo_outs s) hR hV.1.2.2.2.2.2.2.1 h8T (show mo_bin s 0 = 0 by omega) (show mo_bin s 1 = 0 by omega) (show s.1 = mo_outs s + (s.1 - mo_outs s) by omega) hL (by omega) (by omega) (fun ad2 w hR2 hR => ?_)
          rw [e1 ()] at hR
          rw [← hR2] at N5 NX hl1
          have hv0 : xq_vl ad2 S 0 0 := xq_v0 (by decide)
          refine rn_ild (lkL_law_172 Y) (by repeat (first | assumption | exact xw_lk_e _ _ _ | exact xw_lk_e2 _ _ _ | refine xw_lk_s (by decide) (by first | exact Or.inl rfl | exact Or.inl (xw_cat_rf _) | exact Or.inr (by decide)) ?_ | refine xw_lk_s2 (by decide) (by decide) (by first | exact Or.inl rfl | exact Or.inl (xw_cat_rf _) | exact Or.inr (by decide)) ?_)) ?_
          first | refine rn_ald (lkL_law_173 Y) (by repeat (first | assumption | exact xw_lk_e _ _ _ | exact xw_lk_e2 _ _ _ | refine xw_lk_s (by decide) (by first | exact Or.inl rfl | exact Or.inl (xw_cat_rf _) | exact Or.inr (by decide)) ?_ | refine xw_lk_s2 (by decide) (by decide) (by first | exact Or.inl rfl | exact Or.inl (xw_cat_rf _) | exact Or.inr (by decide)) ?_)) ?_ | refine rn_aldO (lkL_law_173 Y) (by repeat (first | assumption | exact xw_lk_e _ _ _ | exact xw_lk_e2 _ _ _ | refine xw_lk_s (by decide) (by first | exact Or.inl rfl | exact Or.inl (xw_cat_rf _) | exact Or.inr (by decide)) ?_ | refine xw_lk_s2 (by decide) (by decide) (by first | exact Or.inl rfl | exact Or.inl (xw_cat_rf _) | exact Or.inr (by decide)) ?_)) ?_ | refine rn_aldN (lkL_law_173 Y) (by repeat (first | assumption | exact xw_lk_e _ _ _ | exact xw_lk_e2 _ _ _ | refine xw_lk_s (by decide) (by first | exact Or.inl rfl | exact Or.inl (xw_cat_rf _) | exact Or.inr (by decide)) ?_ | refine xw_lk_s2 (by decide) (by decide) (by first | exact Or.inl rfl | exact Or.inl (xw_cat_rf _) | exact Or.inr (by decide)) ?_)) ?_
          refine rn_push (lkL_law_174 Y) ?_
          refine rp_callV hR (lkL_law_176 Y) rfl (by first | assumption | exact xq_v0 (by decide)) rfl (Nat.le_of_ble_eq_true rfl) (by first | omega | exact Nat.le_of_ble_eq_true rfl) (by first | omega | exact Nat.le_of_ble_eq_true rfl) ?_
          refine sc_many (m := 8) hR (by decide) ?_
          rw [show mo_many S 8 = nI (mo_outs s) from congrArg nI v3]
          refine rn_i2 (lkL_law_179 Y) ?_
          rw [pk_sub ho]
          refine rn_ifc (lkL_law_180 Y) (fun _ => ?_) (fun q => absurd rfl q)
          exact lw_D hi16 NX N5 v1 (fun q => by omega) v2 rfl hR (by repeat (first | assumption | exact xw_lk_e _ _ _ | exact xw_lk_e2 _ _ _ | refine xw_lk_s (by decide) (by first | exact Or.inl rfl | exact Or.inl (xw_cat_rf _) | exact Or.inr (by decide)) ?_ | refine xw_lk_s2 (by decide) (by decide) (by first | exact Or.inl rfl | exact Or.inl (xw_cat_rf _) | exact Or.inr (by decide)) ?_)) (by repeat (first | assumption | exact xw_lk_e _ _ _ | exact xw_lk_e2 _ _ _ | refine xw_lk_s (by decide) (by first | exact Or.inl rfl | exact Or.inl (xw_cat_rf _) | exact Or.inr (by decide)) ?_ | refine xw_lk_s2 (by decide) (by decide) (by first | exact Or.inl rfl | exact Or.inl (xw_cat_rf _) | exact Or.inr (by decide)) ?_)) (by repeat (first | assumption | exact xw_lk_e _ _ _ | exact xw_lk_e2 _ _ _ | refine xw_lk_s (by decide) (by first | exact Or.inl rfl | exact Or.inl (xw_cat_rf _) | exact Or.inr (by decide)) ?_ | refine xw_lk_s2 (by decide) (by decide) (by first | exact Or.inl rfl | exact Or.inl (xw_cat_rf _) | exact Or.inr (by decide)) ?_)) (by repeat (first | assumption | exact xw_lk_e _ _ _ | exact xw_lk_e2 _ _ _ | refine xw_lk_s (by decide) (by first | exact Or.inl rfl | exact Or.inl (xw_cat_rf _) | exact Or.inr (by decide)) ?_ | refine xw_lk_s2 (by decide) (by decide) (by first | exact Or.inl rfl | exact Or.inl (xw_cat_rf _) | exact Or.inr (by decide)) ?_)) (by repeat (first | assumption | exact xw_lk_e _ _ _ | exact xw_lk_e2 _ _ _ | refine xw_lk_s (by decide) (by first | exact Or.inl rfl | exact Or.inl (xw_cat_rf _) | exact Or.inr (by decide)) ?_ | refine xw_lk_s2 (by decide) (by decide) (by first | exact Or.inl rfl | exact Or.inl (xw_cat_rf _) | exact Or.inr (by decide)) ?_)) (by omega) (by omega) (by repeat (first | assumption | exact xw_lk_e _ _ _ | exact xw_lk_e2 _ _ _ | refine xw_lk_s (by decide) (by first | exact Or.inl rfl | exact Or.inl (xw_cat_rf _) | exact Or.inr (by decide)) ?_ | refine xw_lk_s2 (by decide) (by decide) (by first | exact Or.inl rfl | exact Or.inl (xw_cat_rf _) | exact Or.inr (by decide)) ?_))
        · skip
          refine rn_ifc (lkL_law_156 Y) (fun q => absurd q (show ¬ nI 2 ≤ nI (s.1 - mo_outs s) from nI_ge (by omega) (by omega))) (fun _ => ?_)
          first | refine rn_ald (lkL_law_159 Y) (by repeat (first | assumption | exact xw_lk_e _ _ _ | exact xw_lk_e2 _ _ _ | refine xw_lk_s (by decide) (by first | exact Or.inl rfl | exact Or.inl (xw_cat_rf _) | exact Or.inr (by decide)) ?_ | refine xw_lk_s2 (by decide) (by decide) (by first | exact Or.inl rfl | exact Or.inl (xw_cat_rf _) | exact Or.inr (by decide)) ?_)) ?_ | refine rn_aldO (lkL_law_159 Y) (by repeat (first | assumption | exact xw_lk_e _ _ _ | exact xw_lk_e2 _ _ _ | refine xw_lk_s (by decide) (by first | exact Or.inl rfl | exact Or.inl (xw_cat_rf _) | exact Or.inr (by decide)) ?_ | refine xw_lk_s2 (by decide) (by decide) (by first | exact Or.inl rfl | exact Or.inl (xw_cat_rf _) | exact Or.inr (by decide)) ?_)) ?_ | refine rn_aldN (lkL_law_159 Y) (by repeat (first | assumption | exact xw_lk_e _ _ _ | exact xw_lk_e2 _ _ _ | refine xw_lk_s (by decide) (by first | exact Or.inl rfl | exact Or.inl (xw_cat_rf _) | exact Or.inr (by decide)) ?_ | refine xw_lk_s2 (by decide) (by decide) (by first | exact Or.inl rfl | exact Or.inl (xw_cat_rf _) | exact Or.inr (by decide)) ?_)) ?_
          refine rn_ild (lkL_law_160 Y) (by repeat (first | assumption | exact xw_lk_e _ _ _ | exact xw_lk_e2 _ _ _ | refine xw_lk_s (by decide) (by first | exact Or.inl rfl | exact Or.inl (xw_cat_rf _) | exact Or.inr (by decide)) ?_ | refine xw_lk_s2 (by decide) (by decide) (by first | exact Or.inl rfl | exact Or.inl (xw_cat_rf _) | exact Or.inr (by decide)) ?_)) ?_
          refine rn_ild (lkL_law_161 Y) (by repeat (first | assumption | exact xw_lk_e _ _ _ | exact xw_lk_e2 _ _ _ | refine xw_lk_s (by decide) (by first | exact Or.inl rfl | exact Or.inl (xw_cat_rf _) | exact Or.inr (by decide)) ?_ | refine xw_lk_s2 (by decide) (by decide) (by first | exact Or.inl rfl | exact Or.inl (xw_cat_rf _) | exact Or.inr (by decide)) ?_)) ?_
          refine rn_callS (lkL_law_163 Y) (by first | omega | exact Nat.le_of_ble_eq_true rfl) rfl (Nat.le_of_ble_eq_true rfl) (by first | omega | exact Nat.le_of_ble_eq_true rfl) (by first | omega | exact Nat.le_of_ble_eq_true rfl) ?_
          refine sc_isFair (T := 0) hV hR (fun w hR => ?_)
          refine rn_zret (lkL_law_166 Y) (by first | exact Or.inl rfl | exact Or.inr rfl | assumption) ?_
          exact h1 _ _ _ (by omega) (by omega)
      · skip
        refine rn_ifz (lkL_law_144 Y) (fun _ => ?_) (fun q => absurd (show ¬ nI T = nI 0 from fun q => hT0 ((nI_eq (by omega) (by omega)).mp q)) q)
        exact lw_D hi16 NX N5 hV hz rfl rfl hR (by repeat (first | assumption | exact xw_lk_e _ _ _ | exact xw_lk_e2 _ _ _ | refine xw_lk_s (by decide) (by first | exact Or.inl rfl | exact Or.inl (xw_cat_rf _) | exact Or.inr (by decide)) ?_ | refine xw_lk_s2 (by decide) (by decide) (by first | exact Or.inl rfl | exact Or.inl (xw_cat_rf _) | exact Or.inr (by decide)) ?_)) (by repeat (first | assumption | exact xw_lk_e _ _ _ | exact xw_lk_e2 _ _ _ | refine xw_lk_s (by decide) (by first | exact Or.inl rfl | exact Or.inl (xw_cat_rf _) | exact Or.inr (by decide)) ?_ | refine xw_lk_s2 (by decide) (by decide) (by first | exact Or.inl rfl | exact Or.inl (xw_cat_rf _) | exact Or.inr (by decide)) ?_)) (by repeat (first | assumption | exact xw_lk_e _ _ _ | exact xw_lk_e2 _ _ _ | refine xw_lk_s (by decide) (by first | exact Or.inl rfl | exact Or.inl (xw_cat_rf _) | exact Or.inr (by decide)) ?_ | refine xw_lk_s2 (by decide) (by decide) (by first | exact Or.inl rfl | exact Or.inl (xw_cat_rf _) | exact Or.inr (by decide)) ?_)) (by repeat (first | assumption | exact xw_lk_e _ _ _ | exact xw_lk_e2 _ _ _ | refine xw_lk_s (by decide) (by first | exact Or.inl rfl | exact Or.inl (xw_cat_rf _) | exact Or.inr (by decide)) ?_ | refine xw_lk_s2 (by decide) (by decide) (by first | exact Or.inl rfl | exact Or.inl (xw_cat_rf _) | exact Or.inr (by decide)) ?_)) (by repeat (first | assumption | exact xw_lk_e _ _ _ | exact xw_lk_e2 _ _ _ | refine xw_lk_s (by decide) (by first | exact Or.inl rfl | exact Or.inl (xw_cat_rf _) | exact Or.inr (by decide)) ?_ | refine xw_lk_s2 (by decide) (by decide) (by first | exact Or.inl rfl | exact Or.inl (xw_cat_rf _) | exact Or.inr (by decide)) ?_)) (by omega) (by omega) (by repeat (first | assumption | exact xw_lk_e _ _ _ | exact xw_lk_e2 _ _ _ | refine xw_lk_s (by decide) (by first | exact Or.inl rfl | exact Or.inl (xw_cat_rf _) | exact Or.inr (by decide)) ?_ | refine xw_lk_s2 (by decide) (by decide) (by first | exact Or.inl rfl | exact Or.inl (xw_cat_rf _) | exact Or.inr (by decide)) ?_))
    · skip
      refine rn_ifz (lkL_law_135 Y) (fun _ => ?_) (fun q => absurd (show ¬ nI _ = nI 0 from fun q => hq ((nI_eq (by omega) (by omega)).mp q)) q)
      exact lw_D hi16 NX N5 hV hz rfl rfl hR (by repeat (first | assumption | exact xw_lk_e _ _ _ | exact xw_lk_e2 _ _ _ | refine xw_lk_s (by decide) (by first | exact Or.inl rfl | exact Or.inl (xw_cat_rf _) | exact Or.inr (by decide)) ?_ | refine xw_lk_s2 (by decide) (by decide) (by first | exact Or.inl rfl | exact Or.inl (xw_cat_rf _) | exact Or.inr (by decide)) ?_)) (by repeat (first | assumption | exact xw_lk_e _ _ _ | exact xw_lk_e2 _ _ _ | refine xw_lk_s (by decide) (by first | exact Or.inl rfl | exact Or.inl (xw_cat_rf _) | exact Or.inr (by decide)) ?_ | refine xw_lk_s2 (by decide) (by decide) (by first | exact Or.inl rfl | exact Or.inl (xw_cat_rf _) | exact Or.inr (by decide)) ?_)) (by repeat (first | assumption | exact xw_lk_e _ _ _ | exact xw_lk_e2 _ _ _ | refine xw_lk_s (by decide) (by first | exact Or.inl rfl | exact Or.inl (xw_cat_rf _) | exact Or.inr (by decide)) ?_ | refine xw_lk_s2 (by decide) (by decide) (by first | exact Or.inl rfl | exact Or.inl (xw_cat_rf _) | exact Or.inr (by decide)) ?_)) (by repeat (first | assumption | exact xw_lk_e _ _ _ | exact xw_lk_e2 _ _ _ | refine xw_lk_s (by decide) (by first | exact Or.inl rfl | exact Or.inl (xw_cat_rf _) | exact Or.inr (by decide)) ?_ | refine xw_lk_s2 (by decide) (by decide) (by first | exact Or.inl rfl | exact Or.inl (xw_cat_rf _) | exact Or.inr (by decide)) ?_)) (by repeat (first | assumption | exact xw_lk_e _ _ _ | exact xw_lk_e2 _ _ _ | refine xw_lk_s (by decide) (by first | exact Or.inl rfl | exact Or.inl (xw_cat_rf _) | exact Or.inr (by decide)) ?_ | refine xw_lk_s2 (by decide) (by decide) (by first | exact Or.inl rfl | exact Or.inl (xw_cat_rf _) | exact Or.inr (by decide)) ?_)) (by omega) (by omega) (by repeat (first | assumption | exact xw_lk_e _ _ _ | exact xw_lk_e2 _ _ _ | refine xw_lk_s (by decide) (by first | exact Or.inl rfl | exact Or.inl (xw_cat_rf _) | exact Or.inr (by decide)) ?_ | refine xw_lk_s2 (by decide) (by decide) (by first | exact Or.inl rfl | exact Or.inl (xw_cat_rf _) | exact Or.inr (by decide)) ?_))

end XLE
