/-! THE OBJECT, on: what it tells -/
section XM5
def mo_num (s : xq_S) (o : Option Nat) : Int32 := match o with
  | none => -1
  | some k => xq_i s 900 k
def mo_numB (s : xq_S) (o : Option Nat) : Int32 := match o with
  | none => -1
  | some b => xq_i s 1000 b
def mo_rank (s : xq_S) (k : Nat) : Nat := xq_ct (fun j => decide (mo_ahead s j k = 1)) s.1
def mo_plc (s : xq_S) (k : Nat) : Nat := xq_ct (fun j => decide (mo_placed s j k = 1)) s.1
def mo_bin (s : xq_S) (x : Int32) : Nat := xq_ct (fun b => decide (xq_i s 1004 b = x)) s.2.1
def mo_outs (s : xq_S) : Nat := xq_ct (fun k => decide (¬ xq_i s 905 k = 0)) s.1
def mo_why (s : xq_S) (b : Nat) : Int32 :=
  if xq_i s 1004 b = 0 then
    if mo_known s b = 0 then 2
    else if mo_inLive s 1100 b = 0 then
      if mo_inLive s 1200 b = 0 then (if mo_rested s b ≤ xq_i s 7 0 then 0 else 4) else 3
    else 3
  else 1
def mo_last (s : xq_S) : Option Nat := if xq_i s 8 0 = 0 then none else if 0 ≤ nI s.2.1 - 1 then xq_r s 1005 (s.2.1 - 1) else none
def mo_many (s : xq_S) (m : Nat) : Int32 := match m with
  | 0 => nI s.1
  | 1 => xq_i s 6 0
  | 2 => nI s.2.1
  | 3 => nI (mo_bin s 0)
  | 4 => nI (mo_bin s 1)
  | 5 => nI (mo_bin s 2)
  | 6 => nI (mo_bin s 3)
  | 7 => xq_i s 7 0
  | 8 => nI (mo_outs s)
  | 9 => xq_i s 8 0
  | _ => mo_num s (mo_last s)
def mo_of (s : xq_S) (k m : Nat) : Int32 := match m with
  | 0 => xq_i s 901 k
  | 1 => xq_i s 902 k
  | 2 => xq_i s 903 k
  | 3 => xq_i s 904 k
  | 4 => if xq_i s 905 k = 0 then 0 else 1
  | 5 => mo_numB s (xq_r s 906 k)
  | _ => xq_i s 907 k
def mo_order (s : xq_S) (k m : Nat) : Int32 := match m with
  | 0 => xq_i s 908 k
  | 1 => xq_i s 909 k
  | 2 => xq_i s 910 k
  | 3 => xq_i s 911 k
  | _ => nI (mo_rank s k)
def mo_ofBout (s : xq_S) (b m : Nat) : Int32 := match m with
  | 0 => xq_i s 1004 b
  | 1 => mo_num s (xq_r s 1100 b)
  | 2 => mo_num s (xq_r s 1200 b)
  | 3 => xq_i s 1101 b
  | 4 => xq_i s 1201 b
  | 5 => mo_num s (xq_r s 1005 b)
  | 6 => xq_i s 1006 b
  | 7 => xq_i s 1008 b
  | 8 => xq_i s 1007 b
  | 9 => if mo_extra s b = 0 then -1 else mo_num s (mo_prioF s b)
  | 10 => xq_i s 1102 b
  | _ => xq_i s 1202 b
/-- the first one below n that has it -/
def xq_fd (p : Nat → Bool) : Nat → Option Nat
  | 0 => none
  | n + 1 => match xq_fd p n with
    | some k => some k
    | none => if p n then some n else none
theorem xq_fd_lt {p : Nat → Bool} {n k : Nat} (h : xq_fd p n = some k) : k < n ∧ p k = true := by
  induction n with
  | zero => cases h
  | succ n ih =>
    rw [xq_fd] at h
    split at h
    · next j hj =>
      cases h
      have := ih hj
      exact ⟨by omega, this.2⟩
    · next hj =>
      split at h
      · next hp =>
        cases h
        exact ⟨by omega, hp⟩
      · cases h
theorem xq_fd_add {p : Nat → Bool} {n k : Nat} (h : xq_fd p n = some k) (j : Nat) : xq_fd p (n + j) = some k := by
  induction j with
  | zero => exact h
  | succ j ih => rw [Nat.add_succ, xq_fd, ih]
theorem xq_fd_hit {p : Nat → Bool} {i n : Nat} (h : xq_fd p i = none) (hp : p i = true) (hi : i < n) : xq_fd p n = some i := by
  have h1 : xq_fd p (i + 1) = some i := by rw [xq_fd, h]; exact if_pos hp
  have := xq_fd_add h1 (n - (i + 1))
  rw [show i + 1 + (n - (i + 1)) = n by omega] at this
  exact this
theorem xq_fd_no {p : Nat → Bool} {i : Nat} (h : xq_fd p i = none) (hp : ¬ p i = true) : xq_fd p (i + 1) = none := by
  rw [xq_fd, h]
  exact if_neg hp
def mo_inOrder (s : xq_S) (a : Int32) : Option Nat := xq_fd (fun k => decide (nI (mo_rank s k) = a)) s.1
/-- next: the best so far, and when it has rested -/
def mo_nx (s : xq_S) : Nat → Int32 × Int32
  | 0 => (-1, 0)
  | i + 1 => if ((mo_nx s i).1 = -1 ∨ mo_rested s i < (mo_nx s i).2) ∧ mo_why s i = 0 then (nI i, mo_rested s i) else mo_nx s i
theorem rn_swN {tb : List (Nat × xw_T)} {Rt : xw_R} {pc : Nat} {lv : xw_L} {r : List Value} {w : xw_W} {k n : Nat} {hi : Int} {ts : List Nat} {d m t : Nat} (h : xw_lk tb pc = some (tr_sw 0 hi ts d)) (ht : ts[m]? = some t) (hm : m < 2 ^ 31) (hh : (m : Int) ≤ hi) (hk : xw_Run tb Rt t lv r w k n) : xw_Run tb Rt pc lv (.int (nI m) :: r) w k n := by
  refine rn_sw h (fun q => absurd q ?_) (fun j t' hj ht' => ?_)
  · rw [nI_toInt hm]
    omega
  · rw [nI_toInt hm] at hj
    have : j = m := by omega
    rw [this, ht] at ht'
    cases ht'
    exact hk
theorem xn_in {k n : Nat} (hk : k < n) (hn : n ≤ 1000) : ¬ (nI k < 0 ∨ nI n - 1 < nI k) := by
  obtain ⟨m, rfl⟩ : ∃ m, n = m + 1 := ⟨n - 1, by omega⟩
  rw [nI_pred]
  rintro (q | q)
  · exact nI_pos (by omega) q
  · exact nI_nlt (by omega) (by omega) q
end XM5
section XC5
variable {Y : xw_Y} {ad : Nat → Nat → Nat} {s : xq_S} {w : xw_W} {post : Option Value → xw_W → Prop}
theorem sc_in1 {x a b : Int32} (hi : ¬ (x < a ∨ b < x)) (h : post (some (.int 1)) w) : ptX3_isIn Y [.int x, .int a, .int b] w post := by
  refine sc_isIn ?_
  rw [if_neg hi]
  exact h

set_option maxRecDepth 100000 in
set_option maxHeartbeats 4000000 in
theorem sc_num {o : Option Nat} (hR : xq_rp Y ad s w) (ho : ∀ k, o = some k → k < s.1) (h : post (some (.int (mo_num s o))) w) : ptX3_numberOf Y [va_rf (o.map (ad 9))] w post := by
  refine ⟨(by first | exact Nat.le_of_ble_eq_true rfl | simp [lg_sl, xw_cat_rf, xw_cat_i, xw_cat_r, xw_cat_n, xw_cat_l]), ?_⟩
  rw [show lv_args 0 [va_rf (o.map (ad 9))] = [(0, va_rf (o.map (ad 9)))] from by simp [lv_args, xw_cat_rf, xw_cat_i, xw_cat_r, xw_cat_n, xw_cat_l]]
  rcases o with _ | k
  · skip
    first | refine rn_ald (lkX3_numberOf_0 Y) rfl ?_ | refine rn_aldO (lkX3_numberOf_0 Y) rfl ?_ | refine rn_aldN (lkX3_numberOf_0 Y) rfl ?_
    refine rn_ifnN (lkX3_numberOf_1 Y) ?_
    refine rn_push (lkX3_numberOf_4 Y) ?_
    refine rn_goto (lkX3_numberOf_5 Y) ?_
    refine rn_iret (lkX3_numberOf_12 Y) ?_
    exact ⟨h, Nat.le_refl _, Nat.le_refl _⟩
  · have hv9 : xq_vl ad s 9 k := xq_v9 (ho k rfl)
    first | refine rn_ald (lkX3_numberOf_0 Y) rfl ?_ | refine rn_aldO (lkX3_numberOf_0 Y) rfl ?_ | refine rn_aldN (lkX3_numberOf_0 Y) rfl ?_
    refine rn_ifnR (lkX3_numberOf_1 Y) ?_
    first | refine rn_ald (lkX3_numberOf_8 Y) rfl ?_ | refine rn_aldO (lkX3_numberOf_8 Y) rfl ?_ | refine rn_aldN (lkX3_numberOf_8 Y) rfl ?_
    refine rp_getf hR (lkX3_numberOf_9 Y) (by first | assumption | exact xq_v0 (by decide)) rfl rfl ?_
    refine rn_iret (lkX3_numberOf_12 Y) ?_
    exact ⟨h, Nat.le_refl _, Nat.le_refl _⟩

set_option maxRecDepth 100000 in
set_option maxHeartbeats 4000000 in
theorem sc_fencerAt {k : Nat} (hR : xq_rp Y ad s w) (hk : k < s.1) (h : post (some (.ref (ad 9 k))) w) : ptX3_fencerAt Y [.ref (ad 0 0), .int (nI k)] w post := by
  refine ⟨(by first | exact Nat.le_of_ble_eq_true rfl | simp [lg_sl, xw_cat_rf, xw_cat_i, xw_cat_r, xw_cat_n, xw_cat_l]), ?_⟩
  refine rn_ild (lkX3_fencerAt_0 Y) rfl ?_
  refine rn_push (lkX3_fencerAt_1 Y) ?_
  first | refine rn_ald (lkX3_fencerAt_2 Y) rfl ?_ | refine rn_aldO (lkX3_fencerAt_2 Y) rfl ?_ | refine rn_aldN (lkX3_fencerAt_2 Y) rfl ?_
  refine rp_getf hR (lkX3_fencerAt_3 Y) (by first | assumption | exact xq_v0 (by decide)) rfl rfl ?_
  refine rp_callV hR (lkX3_fencerAt_6 Y) rfl (by first | assumption | exact xq_v0 (by decide)) rfl (Nat.le_of_ble_eq_true rfl) (Nat.le_of_ble_eq_true rfl) (Nat.le_of_ble_eq_true rfl) ?_
  refine sl_sizeF hR ?_
  refine rn_push (lkX3_fencerAt_9 Y) ?_
  refine rn_i2 (lkX3_fencerAt_10 Y) ?_
  refine rn_callS (lkX3_fencerAt_11 Y) (Nat.le_of_ble_eq_true rfl) rfl (Nat.le_of_ble_eq_true rfl) (Nat.le_of_ble_eq_true rfl) (Nat.le_of_ble_eq_true rfl) ?_
  refine sc_in1 (xn_in hk (by have := xq_nf hR; omega)) ?_
  refine rn_ifz (lkX3_fencerAt_14 Y) (fun _ => ?_) (fun q => absurd (by decide) q)
  first | refine rn_ald (lkX3_fencerAt_28 Y) rfl ?_ | refine rn_aldO (lkX3_fencerAt_28 Y) rfl ?_ | refine rn_aldN (lkX3_fencerAt_28 Y) rfl ?_
  refine rp_getf hR (lkX3_fencerAt_29 Y) (by first | assumption | exact xq_v0 (by decide)) rfl rfl ?_
  refine rn_ild (lkX3_fencerAt_32 Y) rfl ?_
  refine rp_callV hR (lkX3_fencerAt_33 Y) rfl (by first | assumption | exact xq_v0 (by decide)) rfl (Nat.le_of_ble_eq_true rfl) (Nat.le_of_ble_eq_true rfl) (Nat.le_of_ble_eq_true rfl) ?_
  refine sl_getF hR hk rfl ?_
  have hv9 : xq_vl ad s 9 k := xq_v9 hk
  refine rp_cast hR (lkX3_fencerAt_36 Y) (by first | assumption | exact xq_v0 (by decide)) rfl ?_
  refine rn_aret (lkX3_fencerAt_39 Y) (by first | exact xw_isR_ref _ | exact xw_isR_null | exact xw_isR_rf _) ?_
  exact ⟨h, Nat.le_refl _, Nat.le_refl _⟩

set_option maxRecDepth 100000 in
set_option maxHeartbeats 4000000 in
theorem sc_boutAt {b : Nat} (hR : xq_rp Y ad s w) (hb : b < s.2.1) (h : post (some (.ref (ad 10 b))) w) : ptX3_boutAt Y [.ref (ad 0 0), .int (nI b)] w post := by
  refine ⟨(by first | exact Nat.le_of_ble_eq_true rfl | simp [lg_sl, xw_cat_rf, xw_cat_i, xw_cat_r, xw_cat_n, xw_cat_l]), ?_⟩
  refine rn_ild (lkX3_boutAt_0 Y) rfl ?_
  refine rn_push (lkX3_boutAt_1 Y) ?_
  first | refine rn_ald (lkX3_boutAt_2 Y) rfl ?_ | refine rn_aldO (lkX3_boutAt_2 Y) rfl ?_ | refine rn_aldN (lkX3_boutAt_2 Y) rfl ?_
  refine rp_getf hR (lkX3_boutAt_3 Y) (by first | assumption | exact xq_v0 (by decide)) rfl rfl ?_
  refine rp_callV hR (lkX3_boutAt_6 Y) rfl (by first | assumption | exact xq_v0 (by decide)) rfl (Nat.le_of_ble_eq_true rfl) (Nat.le_of_ble_eq_true rfl) (Nat.le_of_ble_eq_true rfl) ?_
  refine sl_sizeB hR ?_
  refine rn_push (lkX3_boutAt_9 Y) ?_
  refine rn_i2 (lkX3_boutAt_10 Y) ?_
  refine rn_callS (lkX3_boutAt_11 Y) (Nat.le_of_ble_eq_true rfl) rfl (Nat.le_of_ble_eq_true rfl) (Nat.le_of_ble_eq_true rfl) (Nat.le_of_ble_eq_true rfl) ?_
  refine sc_in1 (xn_in hb (by have := xq_nb hR; omega)) ?_
  refine rn_ifz (lkX3_boutAt_14 Y) (fun _ => ?_) (fun q => absurd (by decide) q)
  first | refine rn_ald (lkX3_boutAt_28 Y) rfl ?_ | refine rn_aldO (lkX3_boutAt_28 Y) rfl ?_ | refine rn_aldN (lkX3_boutAt_28 Y) rfl ?_
  refine rp_getf hR (lkX3_boutAt_29 Y) (by first | assumption | exact xq_v0 (by decide)) rfl rfl ?_
  refine rn_ild (lkX3_boutAt_32 Y) rfl ?_
  refine rp_callV hR (lkX3_boutAt_33 Y) rfl (by first | assumption | exact xq_v0 (by decide)) rfl (Nat.le_of_ble_eq_true rfl) (Nat.le_of_ble_eq_true rfl) (Nat.le_of_ble_eq_true rfl) ?_
  refine sl_getB hR hb rfl ?_
  have hv10 : xq_vl ad s 10 b := xq_v10 hb
  refine rp_cast hR (lkX3_boutAt_36 Y) (by first | assumption | exact xq_v0 (by decide)) rfl ?_
  refine rn_aret (lkX3_boutAt_39 Y) (by first | exact xw_isR_ref _ | exact xw_isR_null | exact xw_isR_rf _) ?_
  exact ⟨h, Nat.le_refl _, Nat.le_refl _⟩

set_option maxRecDepth 100000 in
set_option maxHeartbeats 4000000 in
theorem sc_why {b : Nat} (hR : xq_rp Y ad s w) (hb : b < s.2.1) (h : post (some (.int (mo_why s b))) w) : ptX3_whyNotReady Y [.ref (ad 0 0), .ref (ad 10 b)] w post := by
  have hv10 : xq_vl ad s 10 b := xq_v10 hb
  have hv11 : xq_vl ad s 11 b := xq_v11 hb
  have hv12 : xq_vl ad s 12 b := xq_v12 hb
  refine ⟨(by first | exact Nat.le_of_ble_eq_true rfl | simp [lg_sl, xw_cat_rf, xw_cat_i, xw_cat_r, xw_cat_n, xw_cat_l]), ?_⟩
  first | refine rn_ald (lkX3_whyNotReady_0 Y) rfl ?_ | refine rn_aldO (lkX3_whyNotReady_0 Y) rfl ?_ | refine rn_aldN (lkX3_whyNotReady_0 Y) rfl ?_
  refine rp_getf hR (lkX3_whyNotReady_1 Y) (by first | assumption | exact xq_v0 (by decide)) rfl rfl ?_
  refine rn_ifz (lkX3_whyNotReady_4 Y) (fun c_4 => ?_) (fun c_4 => ?_)
  · try dsimp only at c_4
    first | refine rn_ald (lkX3_whyNotReady_9 Y) rfl ?_ | refine rn_aldO (lkX3_whyNotReady_9 Y) rfl ?_ | refine rn_aldN (lkX3_whyNotReady_9 Y) rfl ?_
    refine rp_callV hR (lkX3_whyNotReady_10 Y) rfl (by first | assumption | exact xq_v0 (by decide)) rfl (Nat.le_of_ble_eq_true rfl) (Nat.le_of_ble_eq_true rfl) (Nat.le_of_ble_eq_true rfl) ?_
    refine sc_known hR hb ?_
    refine rn_ifz (lkX3_whyNotReady_13 Y) (fun c_13 => ?_) (fun c_13 => ?_)
    · try dsimp only at c_13
      first | refine rn_ald (lkX3_whyNotReady_18 Y) rfl ?_ | refine rn_aldO (lkX3_whyNotReady_18 Y) rfl ?_ | refine rn_aldN (lkX3_whyNotReady_18 Y) rfl ?_
      refine rp_getf hR (lkX3_whyNotReady_19 Y) (by first | assumption | exact xq_v0 (by decide)) rfl rfl ?_
      refine rp_callV hR (lkX3_whyNotReady_22 Y) rfl (by first | assumption | exact xq_v0 (by decide)) rfl (Nat.le_of_ble_eq_true rfl) (Nat.le_of_ble_eq_true rfl) (Nat.le_of_ble_eq_true rfl) ?_
      refine sc_inLive11 hR hb ?_
      refine rn_ifz (lkX3_whyNotReady_25 Y) (fun c_25 => ?_) (fun c_25 => ?_)
      · try dsimp only at c_25
        refine rn_push (lkX3_whyNotReady_38 Y) ?_
        refine rn_iret (lkX3_whyNotReady_39 Y) ?_
        unfold mo_why at h
        first | rw [if_pos c_4] at h | rw [if_neg c_4] at h | rw [if_pos (Classical.not_not.mp c_4)] at h
        first | rw [if_pos c_13] at h | rw [if_neg c_13] at h | rw [if_pos (Classical.not_not.mp c_13)] at h
        first | rw [if_pos c_25] at h | rw [if_neg c_25] at h | rw [if_pos (Classical.not_not.mp c_25)] at h
        first | exact ⟨h, Nat.le_refl _, Nat.le_refl _⟩ | skip
      · try dsimp only at c_25
        first | refine rn_ald (lkX3_whyNotReady_28 Y) rfl ?_ | refine rn_aldO (lkX3_whyNotReady_28 Y) rfl ?_ | refine rn_aldN (lkX3_whyNotReady_28 Y) rfl ?_
        refine rp_getf hR (lkX3_whyNotReady_29 Y) (by first | assumption | exact xq_v0 (by decide)) rfl rfl ?_
        refine rp_callV hR (lkX3_whyNotReady_32 Y) rfl (by first | assumption | exact xq_v0 (by decide)) rfl (Nat.le_of_ble_eq_true rfl) (Nat.le_of_ble_eq_true rfl) (Nat.le_of_ble_eq_true rfl) ?_
        refine sc_inLive12 hR hb ?_
        refine rn_ifz (lkX3_whyNotReady_35 Y) (fun c_35 => ?_) (fun c_35 => ?_)
        · try dsimp only at c_35
          first | refine rn_ald (lkX3_whyNotReady_40 Y) rfl ?_ | refine rn_aldO (lkX3_whyNotReady_40 Y) rfl ?_ | refine rn_aldN (lkX3_whyNotReady_40 Y) rfl ?_
          refine rp_getf hR (lkX3_whyNotReady_41 Y) (by first | assumption | exact xq_v0 (by decide)) rfl rfl ?_
          first | refine rn_ald (lkX3_whyNotReady_44 Y) rfl ?_ | refine rn_aldO (lkX3_whyNotReady_44 Y) rfl ?_ | refine rn_aldN (lkX3_whyNotReady_44 Y) rfl ?_
          refine rp_callV hR (lkX3_whyNotReady_45 Y) rfl (by first | assumption | exact xq_v0 (by decide)) rfl (Nat.le_of_ble_eq_true rfl) (Nat.le_of_ble_eq_true rfl) (Nat.le_of_ble_eq_true rfl) ?_
          refine sc_rested hR hb ?_
          refine rn_ifc (lkX3_whyNotReady_48 Y) (fun c_48 => ?_) (fun c_48 => ?_)
          · try dsimp only at c_48
            refine rn_push (lkX3_whyNotReady_55 Y) ?_
            refine rn_iret (lkX3_whyNotReady_56 Y) ?_
            unfold mo_why at h
            first | rw [if_pos c_4] at h | rw [if_neg c_4] at h | rw [if_pos (Classical.not_not.mp c_4)] at h
            first | rw [if_pos c_13] at h | rw [if_neg c_13] at h | rw [if_pos (Classical.not_not.mp c_13)] at h
            first | rw [if_pos c_25] at h | rw [if_neg c_25] at h | rw [if_pos (Classical.not_not.mp c_25)] at h
            first | rw [if_pos c_35] at h | rw [if_neg c_35] at h | rw [if_pos (Classical.not_not.mp c_35)] at h
            first | rw [if_pos c_48] at h | rw [if_neg c_48] at h | rw [if_pos (Classical.not_not.mp c_48)] at h
            exact ⟨h, Nat.le_refl _, Nat.le_refl _⟩
          · try dsimp only at c_48
            refine rn_push (lkX3_whyNotReady_51 Y) ?_
            refine rn_goto (lkX3_whyNotReady_52 Y) ?_
            refine rn_iret (lkX3_whyNotReady_56 Y) ?_
            unfold mo_why at h
            first | rw [if_pos c_4] at h | rw [if_neg c_4] at h | rw [if_pos (Classical.not_not.mp c_4)] at h
            first | rw [if_pos c_13] at h | rw [if_neg c_13] at h | rw [if_pos (Classical.not_not.mp c_13)] at h
            first | rw [if_pos c_25] at h | rw [if_neg c_25] at h | rw [if_pos (Classical.not_not.mp c_25)] at h
            first | rw [if_pos c_35] at h | rw [if_neg c_35] at h | rw [if_pos (Classical.not_not.mp c_35)] at h
            first | rw [if_pos c_48] at h | rw [if_neg c_48] at h | rw [if_pos (Classical.not_not.mp c_48)] at h
            exact ⟨h, Nat.le_refl _, Nat.le_refl _⟩
        · try dsimp only at c_35
          refine rn_push (lkX3_whyNotReady_38 Y) ?_
          refine rn_iret (lkX3_whyNotReady_39 Y) ?_
          unfold mo_why at h
          first | rw [if_pos c_4] at h | rw [if_neg c_4] at h | rw [if_pos (Classical.not_not.mp c_4)] at h
          first | rw [if_pos c_13] at h | rw [if_neg c_13] at h | rw [if_pos (Classical.not_not.mp c_13)] at h
          first | rw [if_pos c_25] at h | rw [if_neg c_25] at h | rw [if_pos (Classical.not_not.mp c_25)] at h
          first | rw [if_pos c_35] at h | rw [if_neg c_35] at h | rw [if_pos (Classical.not_not.mp c_35)] at h
          first | exact ⟨h, Nat.le_refl _, Nat.le_refl _⟩ | skip
    · try dsimp only at c_13
      refine rn_push (lkX3_whyNotReady_16 Y) ?_
      refine rn_iret (lkX3_whyNotReady_17 Y) ?_
      unfold mo_why at h
      first | rw [if_pos c_4] at h | rw [if_neg c_4] at h | rw [if_pos (Classical.not_not.mp c_4)] at h
      first | rw [if_pos c_13] at h | rw [if_neg c_13] at h | rw [if_pos (Classical.not_not.mp c_13)] at h
      exact ⟨h, Nat.le_refl _, Nat.le_refl _⟩
  · try dsimp only at c_4
    refine rn_push (lkX3_whyNotReady_7 Y) ?_
    refine rn_iret (lkX3_whyNotReady_8 Y) ?_
    unfold mo_why at h
    first | rw [if_pos c_4] at h | rw [if_neg c_4] at h | rw [if_pos (Classical.not_not.mp c_4)] at h
    exact ⟨h, Nat.le_refl _, Nat.le_refl _⟩

set_option maxRecDepth 100000 in
set_option maxHeartbeats 4000000 in
theorem sc_reason {b : Nat} (hR : xq_rp Y ad s w) (hb : b < s.2.1) (h : post (some (.int (mo_why s b))) w) : ptX3_reason Y [.ref (ad 0 0), .int (nI b)] w post := by
  have hv10 : xq_vl ad s 10 b := xq_v10 hb
  have hv11 : xq_vl ad s 11 b := xq_v11 hb
  have hv12 : xq_vl ad s 12 b := xq_v12 hb
  refine ⟨(by first | exact Nat.le_of_ble_eq_true rfl | simp [lg_sl, xw_cat_rf, xw_cat_i, xw_cat_r, xw_cat_n, xw_cat_l]), ?_⟩
  first | refine rn_ald (lkX3_reason_0 Y) rfl ?_ | refine rn_aldO (lkX3_reason_0 Y) rfl ?_ | refine rn_aldN (lkX3_reason_0 Y) rfl ?_
  first | refine rn_ald (lkX3_reason_1 Y) rfl ?_ | refine rn_aldO (lkX3_reason_1 Y) rfl ?_ | refine rn_aldN (lkX3_reason_1 Y) rfl ?_
  refine rn_ild (lkX3_reason_2 Y) rfl ?_
  refine rp_callV hR (lkX3_reason_3 Y) rfl (by first | assumption | exact xq_v0 (by decide)) rfl (Nat.le_of_ble_eq_true rfl) (Nat.le_of_ble_eq_true rfl) (Nat.le_of_ble_eq_true rfl) ?_
  refine sc_boutAt hR hb ?_
  refine rp_callV hR (lkX3_reason_6 Y) rfl (by first | assumption | exact xq_v0 (by decide)) rfl (Nat.le_of_ble_eq_true rfl) (Nat.le_of_ble_eq_true rfl) (Nat.le_of_ble_eq_true rfl) ?_
  refine sc_why hR hb ?_
  refine rn_iret (lkX3_reason_9 Y) ?_
  exact ⟨h, Nat.le_refl _, Nat.le_refl _⟩

set_option maxRecDepth 100000 in
set_option maxHeartbeats 4000000 in
theorem sc_last (hR : xq_rp Y ad s w) (h : post (some (va_rf ((mo_last s).map (ad 9)))) w) : ptX3_winnerOfTable Y [.ref (ad 0 0)] w post := by
  refine ⟨(by first | exact Nat.le_of_ble_eq_true rfl | simp [lg_sl, xw_cat_rf, xw_cat_i, xw_cat_r, xw_cat_n, xw_cat_l]), ?_⟩
  first | refine rn_ald (lkX3_winnerOfTable_0 Y) rfl ?_ | refine rn_aldO (lkX3_winnerOfTable_0 Y) rfl ?_ | refine rn_aldN (lkX3_winnerOfTable_0 Y) rfl ?_
  refine rp_getf hR (lkX3_winnerOfTable_1 Y) (by first | assumption | exact xq_v0 (by decide)) rfl rfl ?_
  refine rp_callV hR (lkX3_winnerOfTable_4 Y) rfl (by first | assumption | exact xq_v0 (by decide)) rfl (Nat.le_of_ble_eq_true rfl) (Nat.le_of_ble_eq_true rfl) (Nat.le_of_ble_eq_true rfl) ?_
  refine sl_sizeB hR ?_
  refine rn_push (lkX3_winnerOfTable_7 Y) ?_
  refine rn_i2 (lkX3_winnerOfTable_8 Y) ?_
  refine rn_ist (lkX3_winnerOfTable_9 Y) rfl ?_
  first | refine rn_ald (lkX3_winnerOfTable_10 Y) rfl ?_ | refine rn_aldO (lkX3_winnerOfTable_10 Y) rfl ?_ | refine rn_aldN (lkX3_winnerOfTable_10 Y) rfl ?_
  refine rp_getf hR (lkX3_winnerOfTable_11 Y) (by first | assumption | exact xq_v0 (by decide)) rfl rfl ?_
  refine rn_ifz (lkX3_winnerOfTable_14 Y) (fun c_14 => ?_) (fun c_14 => ?_)
  · try dsimp only at c_14
    refine rn_push (lkX3_winnerOfTable_21 Y) ?_
    refine rn_goto (lkX3_winnerOfTable_22 Y) ?_
    refine rn_aret (lkX3_winnerOfTable_39 Y) (by first | exact xw_isR_ref _ | exact xw_isR_null | exact xw_isR_rf _) ?_
    try unfold mo_last at h
    first | (rw [if_pos c_14] at h; exact ⟨h, Nat.le_refl _, Nat.le_refl _⟩) | (rw [if_neg c_14, if_neg c_18] at h; exact ⟨h, Nat.le_refl _, Nat.le_refl _⟩) | exact ⟨h, Nat.le_refl _, Nat.le_refl _⟩
  · try dsimp only at c_14
    refine rn_ild (lkX3_winnerOfTable_17 Y) rfl ?_
    refine rn_ifz (lkX3_winnerOfTable_18 Y) (fun c_18 => ?_) (fun c_18 => ?_)
    · try dsimp only at c_18
      first | refine rn_ald (lkX3_winnerOfTable_25 Y) rfl ?_ | refine rn_aldO (lkX3_winnerOfTable_25 Y) rfl ?_ | refine rn_aldN (lkX3_winnerOfTable_25 Y) rfl ?_
      refine rp_getf hR (lkX3_winnerOfTable_26 Y) (by first | assumption | exact xq_v0 (by decide)) rfl rfl ?_
      refine rn_ild (lkX3_winnerOfTable_29 Y) rfl ?_
      refine rp_callV hR (lkX3_winnerOfTable_30 Y) rfl (by first | assumption | exact xq_v0 (by decide)) rfl (Nat.le_of_ble_eq_true rfl) (Nat.le_of_ble_eq_true rfl) (Nat.le_of_ble_eq_true rfl) ?_
      have hb : s.2.1 - 1 < s.2.1 := by
        rcases Nat.eq_zero_or_pos s.2.1 with z | z
        · rw [z] at c_18
          exact absurd c_18 (by decide)
        · omega
      refine sl_getB hR hb (by
        have e := nI_pred (s.2.1 - 1)
        rw [show s.2.1 - 1 + 1 = s.2.1 by omega] at e
        exact e) ?_
      have hv10 : xq_vl ad s 10 (s.2.1 - 1) := xq_v10 hb
      unfold mo_last at h
      rw [if_neg c_14, if_pos c_18] at h
      refine rp_cast hR (lkX3_winnerOfTable_33 Y) (by first | assumption | exact xq_v0 (by decide)) rfl ?_
      refine rp_getf hR (lkX3_winnerOfTable_36 Y) (by first | assumption | exact xq_v0 (by decide)) rfl rfl ?_
      refine rn_aret (lkX3_winnerOfTable_39 Y) (by first | exact xw_isR_ref _ | exact xw_isR_null | exact xw_isR_rf _) ?_
      try unfold mo_last at h
      first | (rw [if_pos c_14] at h; exact ⟨h, Nat.le_refl _, Nat.le_refl _⟩) | (rw [if_neg c_14, if_neg c_18] at h; exact ⟨h, Nat.le_refl _, Nat.le_refl _⟩) | exact ⟨h, Nat.le_refl _, Nat.le_refl _⟩
    · try dsimp only at c_18
      refine rn_push (lkX3_winnerOfTable_21 Y) ?_
      refine rn_goto (lkX3_winnerOfTable_22 Y) ?_
      refine rn_aret (lkX3_winnerOfTable_39 Y) (by first | exact xw_isR_ref _ | exact xw_isR_null | exact xw_isR_rf _) ?_
      try unfold mo_last at h
      first | (rw [if_pos c_14] at h; exact ⟨h, Nat.le_refl _, Nat.le_refl _⟩) | (rw [if_neg c_14, if_neg c_18] at h; exact ⟨h, Nat.le_refl _, Nat.le_refl _⟩) | exact ⟨h, Nat.le_refl _, Nat.le_refl _⟩

theorem mo_last_lt (h : xq_wf s) {k : Nat} (hk : mo_last s = some k) : k < s.1 := by
  unfold mo_last at hk
  split at hk
  · cases hk
  · split at hk
    · next c =>
      refine h.2.1 _ k ?_ hk
      rcases Nat.eq_zero_or_pos s.2.1 with z | z
      · rw [z] at c
        exact absurd c (by decide)
      · omega
    · cases hk

set_option maxRecDepth 100000 in
set_option maxHeartbeats 4000000 in
theorem sc_many {m : Nat}  (hR : xq_rp Y ad s w)  (hm : m < 11) (h : post (some (.int (mo_many s m))) w) : ptX3_many Y [.ref (ad 0 0), .int (nI m)] w post := by
  refine ⟨(by first | exact Nat.le_of_ble_eq_true rfl | simp [lg_sl, xw_cat_rf, xw_cat_i, xw_cat_r, xw_cat_n, xw_cat_l]), ?_⟩
  rcases (show m = 0 ∨ m = 1 ∨ m = 2 ∨ m = 3 ∨ m = 4 ∨ m = 5 ∨ m = 6 ∨ m = 7 ∨ m = 8 ∨ m = 9 ∨ m = 10 by omega) with rfl | rfl | rfl | rfl | rfl | rfl | rfl | rfl | rfl | rfl | rfl
  · skip
    refine rn_ild (lkX3_many_0 Y) rfl ?_
    refine rn_swN (lkX3_many_1 Y) (m := 0) (t := 60) rfl (by decide) (by decide) ?_
    first | refine rn_ald (lkX3_many_60 Y) rfl ?_ | refine rn_aldO (lkX3_many_60 Y) rfl ?_ | refine rn_aldN (lkX3_many_60 Y) rfl ?_
    refine rp_getf hR (lkX3_many_61 Y) (by first | assumption | exact xq_v0 (by decide)) rfl rfl ?_
    refine rp_callV hR (lkX3_many_64 Y) rfl (by first | assumption | exact xq_v0 (by decide)) rfl (Nat.le_of_ble_eq_true rfl) (Nat.le_of_ble_eq_true rfl) (Nat.le_of_ble_eq_true rfl) ?_
    refine sl_sizeF hR ?_
    refine rn_iret (lkX3_many_67 Y) ?_
    exact ⟨h, Nat.le_refl _, Nat.le_refl _⟩
  · skip
    refine rn_ild (lkX3_many_0 Y) rfl ?_
    refine rn_swN (lkX3_many_1 Y) (m := 1) (t := 68) rfl (by decide) (by decide) ?_
    first | refine rn_ald (lkX3_many_68 Y) rfl ?_ | refine rn_aldO (lkX3_many_68 Y) rfl ?_ | refine rn_aldN (lkX3_many_68 Y) rfl ?_
    refine rp_getf hR (lkX3_many_69 Y) (by first | assumption | exact xq_v0 (by decide)) rfl rfl ?_
    refine rn_iret (lkX3_many_72 Y) ?_
    exact ⟨h, Nat.le_refl _, Nat.le_refl _⟩
  · skip
    refine rn_ild (lkX3_many_0 Y) rfl ?_
    refine rn_swN (lkX3_many_1 Y) (m := 2) (t := 73) rfl (by decide) (by decide) ?_
    first | refine rn_ald (lkX3_many_73 Y) rfl ?_ | refine rn_aldO (lkX3_many_73 Y) rfl ?_ | refine rn_aldN (lkX3_many_73 Y) rfl ?_
    refine rp_getf hR (lkX3_many_74 Y) (by first | assumption | exact xq_v0 (by decide)) rfl rfl ?_
    refine rp_callV hR (lkX3_many_77 Y) rfl (by first | assumption | exact xq_v0 (by decide)) rfl (Nat.le_of_ble_eq_true rfl) (Nat.le_of_ble_eq_true rfl) (Nat.le_of_ble_eq_true rfl) ?_
    refine sl_sizeB hR ?_
    refine rn_iret (lkX3_many_80 Y) ?_
    exact ⟨h, Nat.le_refl _, Nat.le_refl _⟩
  · skip
    refine rn_ild (lkX3_many_0 Y) rfl ?_
    refine rn_swN (lkX3_many_1 Y) (m := 3) (t := 81) rfl (by decide) (by decide) ?_
    first | refine rn_ald (lkX3_many_81 Y) rfl ?_ | refine rn_aldO (lkX3_many_81 Y) rfl ?_ | refine rn_aldN (lkX3_many_81 Y) rfl ?_
    refine rn_push (lkX3_many_82 Y) ?_
    refine rp_callV hR (lkX3_many_83 Y) rfl (by first | assumption | exact xq_v0 (by decide)) rfl (Nat.le_of_ble_eq_true rfl) (Nat.le_of_ble_eq_true rfl) (Nat.le_of_ble_eq_true rfl) ?_
    refine sc_boutsIn hR ?_
    refine rn_iret (lkX3_many_86 Y) ?_
    exact ⟨h, Nat.le_refl _, Nat.le_refl _⟩
  · skip
    refine rn_ild (lkX3_many_0 Y) rfl ?_
    refine rn_swN (lkX3_many_1 Y) (m := 4) (t := 87) rfl (by decide) (by decide) ?_
    first | refine rn_ald (lkX3_many_87 Y) rfl ?_ | refine rn_aldO (lkX3_many_87 Y) rfl ?_ | refine rn_aldN (lkX3_many_87 Y) rfl ?_
    refine rn_push (lkX3_many_88 Y) ?_
    refine rp_callV hR (lkX3_many_89 Y) rfl (by first | assumption | exact xq_v0 (by decide)) rfl (Nat.le_of_ble_eq_true rfl) (Nat.le_of_ble_eq_true rfl) (Nat.le_of_ble_eq_true rfl) ?_
    refine sc_boutsIn hR ?_
    refine rn_iret (lkX3_many_92 Y) ?_
    exact ⟨h, Nat.le_refl _, Nat.le_refl _⟩
  · skip
    refine rn_ild (lkX3_many_0 Y) rfl ?_
    refine rn_swN (lkX3_many_1 Y) (m := 5) (t := 93) rfl (by decide) (by decide) ?_
    first | refine rn_ald (lkX3_many_93 Y) rfl ?_ | refine rn_aldO (lkX3_many_93 Y) rfl ?_ | refine rn_aldN (lkX3_many_93 Y) rfl ?_
    refine rn_push (lkX3_many_94 Y) ?_
    refine rp_callV hR (lkX3_many_95 Y) rfl (by first | assumption | exact xq_v0 (by decide)) rfl (Nat.le_of_ble_eq_true rfl) (Nat.le_of_ble_eq_true rfl) (Nat.le_of_ble_eq_true rfl) ?_
    refine sc_boutsIn hR ?_
    refine rn_iret (lkX3_many_98 Y) ?_
    exact ⟨h, Nat.le_refl _, Nat.le_refl _⟩
  · skip
    refine rn_ild (lkX3_many_0 Y) rfl ?_
    refine rn_swN (lkX3_many_1 Y) (m := 6) (t := 99) rfl (by decide) (by decide) ?_
    first | refine rn_ald (lkX3_many_99 Y) rfl ?_ | refine rn_aldO (lkX3_many_99 Y) rfl ?_ | refine rn_aldN (lkX3_many_99 Y) rfl ?_
    refine rn_push (lkX3_many_100 Y) ?_
    refine rp_callV hR (lkX3_many_101 Y) rfl (by first | assumption | exact xq_v0 (by decide)) rfl (Nat.le_of_ble_eq_true rfl) (Nat.le_of_ble_eq_true rfl) (Nat.le_of_ble_eq_true rfl) ?_
    refine sc_boutsIn hR ?_
    refine rn_iret (lkX3_many_104 Y) ?_
    exact ⟨h, Nat.le_refl _, Nat.le_refl _⟩
  · skip
    refine rn_ild (lkX3_many_0 Y) rfl ?_
    refine rn_swN (lkX3_many_1 Y) (m := 7) (t := 105) rfl (by decide) (by decide) ?_
    first | refine rn_ald (lkX3_many_105 Y) rfl ?_ | refine rn_aldO (lkX3_many_105 Y) rfl ?_ | refine rn_aldN (lkX3_many_105 Y) rfl ?_
    refine rp_getf hR (lkX3_many_106 Y) (by first | assumption | exact xq_v0 (by decide)) rfl rfl ?_
    refine rn_iret (lkX3_many_109 Y) ?_
    exact ⟨h, Nat.le_refl _, Nat.le_refl _⟩
  · skip
    refine rn_ild (lkX3_many_0 Y) rfl ?_
    refine rn_swN (lkX3_many_1 Y) (m := 8) (t := 110) rfl (by decide) (by decide) ?_
    first | refine rn_ald (lkX3_many_110 Y) rfl ?_ | refine rn_aldO (lkX3_many_110 Y) rfl ?_ | refine rn_aldN (lkX3_many_110 Y) rfl ?_
    refine rp_callV hR (lkX3_many_111 Y) rfl (by first | assumption | exact xq_v0 (by decide)) rfl (Nat.le_of_ble_eq_true rfl) (Nat.le_of_ble_eq_true rfl) (Nat.le_of_ble_eq_true rfl) ?_
    refine sc_fencersOut hR ?_
    refine rn_iret (lkX3_many_114 Y) ?_
    exact ⟨h, Nat.le_refl _, Nat.le_refl _⟩
  · skip
    refine rn_ild (lkX3_many_0 Y) rfl ?_
    refine rn_swN (lkX3_many_1 Y) (m := 9) (t := 115) rfl (by decide) (by decide) ?_
    first | refine rn_ald (lkX3_many_115 Y) rfl ?_ | refine rn_aldO (lkX3_many_115 Y) rfl ?_ | refine rn_aldN (lkX3_many_115 Y) rfl ?_
    refine rp_getf hR (lkX3_many_116 Y) (by first | assumption | exact xq_v0 (by decide)) rfl rfl ?_
    refine rn_iret (lkX3_many_119 Y) ?_
    exact ⟨h, Nat.le_refl _, Nat.le_refl _⟩
  · skip
    refine rn_ild (lkX3_many_0 Y) rfl ?_
    refine rn_swN (lkX3_many_1 Y) (m := 10) (t := 120) rfl (by decide) (by decide) ?_
    first | refine rn_ald (lkX3_many_120 Y) rfl ?_ | refine rn_aldO (lkX3_many_120 Y) rfl ?_ | refine rn_aldN (lkX3_many_120 Y) rfl ?_
    refine rp_callV hR (lkX3_many_121 Y) rfl (by first | assumption | exact xq_v0 (by decide)) rfl (Nat.le_of_ble_eq_true rfl) (Nat.le_of_ble_eq_true rfl) (Nat.le_of_ble_eq_true rfl) ?_
    refine sc_last hR ?_
    refine rn_callS (lkX3_many_124 Y) (Nat.le_of_ble_eq_true rfl) rfl (Nat.le_of_ble_eq_true rfl) (Nat.le_of_ble_eq_true rfl) (Nat.le_of_ble_eq_true rfl) ?_
    refine sc_num hR (fun k hk => mo_last_lt hR.2.2.1 hk) ?_
    refine rn_iret (lkX3_many_127 Y) ?_
    exact ⟨h, Nat.le_refl _, Nat.le_refl _⟩

set_option maxRecDepth 100000 in
set_option maxHeartbeats 4000000 in
theorem sc_of {m : Nat} {k : Nat} (hR : xq_rp Y ad s w) (hk : k < s.1) (hm : m < 7) (h : post (some (.int (mo_of s k m))) w) : ptX3_of Y [.ref (ad 0 0), .int (nI k), .int (nI m)] w post := by
  have hv9 : xq_vl ad s 9 k := xq_v9 hk
  refine ⟨(by first | exact Nat.le_of_ble_eq_true rfl | simp [lg_sl, xw_cat_rf, xw_cat_i, xw_cat_r, xw_cat_n, xw_cat_l]), ?_⟩
  rcases (show m = 0 ∨ m = 1 ∨ m = 2 ∨ m = 3 ∨ m = 4 ∨ m = 5 ∨ m = 6 by omega) with rfl | rfl | rfl | rfl | rfl | rfl | rfl
  · skip
    first | refine rn_ald (lkX3_of_0 Y) rfl ?_ | refine rn_aldO (lkX3_of_0 Y) rfl ?_ | refine rn_aldN (lkX3_of_0 Y) rfl ?_
    refine rn_ild (lkX3_of_1 Y) rfl ?_
    refine rp_callV hR (lkX3_of_2 Y) rfl (by first | assumption | exact xq_v0 (by decide)) rfl (Nat.le_of_ble_eq_true rfl) (Nat.le_of_ble_eq_true rfl) (Nat.le_of_ble_eq_true rfl) ?_
    refine sc_fencerAt hR hk ?_
    first | refine rn_ast (lkX3_of_5 Y) rfl ?_ | refine rn_astO (lkX3_of_5 Y) rfl ?_ | refine rn_astN (lkX3_of_5 Y) rfl ?_
    refine rn_ild (lkX3_of_6 Y) rfl ?_
    refine rn_swN (lkX3_of_7 Y) (m := 0) (t := 48) rfl (by decide) (by decide) ?_
    first | refine rn_ald (lkX3_of_48 Y) rfl ?_ | refine rn_aldO (lkX3_of_48 Y) rfl ?_ | refine rn_aldN (lkX3_of_48 Y) rfl ?_
    refine rp_getf hR (lkX3_of_49 Y) (by first | assumption | exact xq_v0 (by decide)) rfl rfl ?_
    refine rn_iret (lkX3_of_52 Y) ?_
    exact ⟨h, Nat.le_refl _, Nat.le_refl _⟩
  · skip
    first | refine rn_ald (lkX3_of_0 Y) rfl ?_ | refine rn_aldO (lkX3_of_0 Y) rfl ?_ | refine rn_aldN (lkX3_of_0 Y) rfl ?_
    refine rn_ild (lkX3_of_1 Y) rfl ?_
    refine rp_callV hR (lkX3_of_2 Y) rfl (by first | assumption | exact xq_v0 (by decide)) rfl (Nat.le_of_ble_eq_true rfl) (Nat.le_of_ble_eq_true rfl) (Nat.le_of_ble_eq_true rfl) ?_
    refine sc_fencerAt hR hk ?_
    first | refine rn_ast (lkX3_of_5 Y) rfl ?_ | refine rn_astO (lkX3_of_5 Y) rfl ?_ | refine rn_astN (lkX3_of_5 Y) rfl ?_
    refine rn_ild (lkX3_of_6 Y) rfl ?_
    refine rn_swN (lkX3_of_7 Y) (m := 1) (t := 53) rfl (by decide) (by decide) ?_
    first | refine rn_ald (lkX3_of_53 Y) rfl ?_ | refine rn_aldO (lkX3_of_53 Y) rfl ?_ | refine rn_aldN (lkX3_of_53 Y) rfl ?_
    refine rp_getf hR (lkX3_of_54 Y) (by first | assumption | exact xq_v0 (by decide)) rfl rfl ?_
    refine rn_iret (lkX3_of_57 Y) ?_
    exact ⟨h, Nat.le_refl _, Nat.le_refl _⟩
  · skip
    first | refine rn_ald (lkX3_of_0 Y) rfl ?_ | refine rn_aldO (lkX3_of_0 Y) rfl ?_ | refine rn_aldN (lkX3_of_0 Y) rfl ?_
    refine rn_ild (lkX3_of_1 Y) rfl ?_
    refine rp_callV hR (lkX3_of_2 Y) rfl (by first | assumption | exact xq_v0 (by decide)) rfl (Nat.le_of_ble_eq_true rfl) (Nat.le_of_ble_eq_true rfl) (Nat.le_of_ble_eq_true rfl) ?_
    refine sc_fencerAt hR hk ?_
    first | refine rn_ast (lkX3_of_5 Y) rfl ?_ | refine rn_astO (lkX3_of_5 Y) rfl ?_ | refine rn_astN (lkX3_of_5 Y) rfl ?_
    refine rn_ild (lkX3_of_6 Y) rfl ?_
    refine rn_swN (lkX3_of_7 Y) (m := 2) (t := 58) rfl (by decide) (by decide) ?_
    first | refine rn_ald (lkX3_of_58 Y) rfl ?_ | refine rn_aldO (lkX3_of_58 Y) rfl ?_ | refine rn_aldN (lkX3_of_58 Y) rfl ?_
    refine rp_getf hR (lkX3_of_59 Y) (by first | assumption | exact xq_v0 (by decide)) rfl rfl ?_
    refine rn_iret (lkX3_of_62 Y) ?_
    exact ⟨h, Nat.le_refl _, Nat.le_refl _⟩
  · skip
    first | refine rn_ald (lkX3_of_0 Y) rfl ?_ | refine rn_aldO (lkX3_of_0 Y) rfl ?_ | refine rn_aldN (lkX3_of_0 Y) rfl ?_
    refine rn_ild (lkX3_of_1 Y) rfl ?_
    refine rp_callV hR (lkX3_of_2 Y) rfl (by first | assumption | exact xq_v0 (by decide)) rfl (Nat.le_of_ble_eq_true rfl) (Nat.le_of_ble_eq_true rfl) (Nat.le_of_ble_eq_true rfl) ?_
    refine sc_fencerAt hR hk ?_
    first | refine rn_ast (lkX3_of_5 Y) rfl ?_ | refine rn_astO (lkX3_of_5 Y) rfl ?_ | refine rn_astN (lkX3_of_5 Y) rfl ?_
    refine rn_ild (lkX3_of_6 Y) rfl ?_
    refine rn_swN (lkX3_of_7 Y) (m := 3) (t := 63) rfl (by decide) (by decide) ?_
    first | refine rn_ald (lkX3_of_63 Y) rfl ?_ | refine rn_aldO (lkX3_of_63 Y) rfl ?_ | refine rn_aldN (lkX3_of_63 Y) rfl ?_
    refine rp_getf hR (lkX3_of_64 Y) (by first | assumption | exact xq_v0 (by decide)) rfl rfl ?_
    refine rn_iret (lkX3_of_67 Y) ?_
    exact ⟨h, Nat.le_refl _, Nat.le_refl _⟩
  · skip
    first | refine rn_ald (lkX3_of_0 Y) rfl ?_ | refine rn_aldO (lkX3_of_0 Y) rfl ?_ | refine rn_aldN (lkX3_of_0 Y) rfl ?_
    refine rn_ild (lkX3_of_1 Y) rfl ?_
    refine rp_callV hR (lkX3_of_2 Y) rfl (by first | assumption | exact xq_v0 (by decide)) rfl (Nat.le_of_ble_eq_true rfl) (Nat.le_of_ble_eq_true rfl) (Nat.le_of_ble_eq_true rfl) ?_
    refine sc_fencerAt hR hk ?_
    first | refine rn_ast (lkX3_of_5 Y) rfl ?_ | refine rn_astO (lkX3_of_5 Y) rfl ?_ | refine rn_astN (lkX3_of_5 Y) rfl ?_
    refine rn_ild (lkX3_of_6 Y) rfl ?_
    refine rn_swN (lkX3_of_7 Y) (m := 4) (t := 68) rfl (by decide) (by decide) ?_
    first | refine rn_ald (lkX3_of_68 Y) rfl ?_ | refine rn_aldO (lkX3_of_68 Y) rfl ?_ | refine rn_aldN (lkX3_of_68 Y) rfl ?_
    refine rp_getf hR (lkX3_of_69 Y) (by first | assumption | exact xq_v0 (by decide)) rfl rfl ?_
    refine rn_ifz (lkX3_of_72 Y) (fun c_72 => ?_) (fun c_72 => ?_)
    · try dsimp only at c_72
      refine rn_push (lkX3_of_79 Y) ?_
      refine rn_iret (lkX3_of_80 Y) ?_
      unfold mo_of at h
      try dsimp only at h
      first | (rw [if_pos c_72] at h; exact ⟨h, Nat.le_refl _, Nat.le_refl _⟩) | (rw [if_neg c_72] at h; exact ⟨h, Nat.le_refl _, Nat.le_refl _⟩)
    · try dsimp only at c_72
      refine rn_push (lkX3_of_75 Y) ?_
      refine rn_goto (lkX3_of_76 Y) ?_
      refine rn_iret (lkX3_of_80 Y) ?_
      unfold mo_of at h
      try dsimp only at h
      first | (rw [if_pos c_72] at h; exact ⟨h, Nat.le_refl _, Nat.le_refl _⟩) | (rw [if_neg c_72] at h; exact ⟨h, Nat.le_refl _, Nat.le_refl _⟩)
  · skip
    first | refine rn_ald (lkX3_of_0 Y) rfl ?_ | refine rn_aldO (lkX3_of_0 Y) rfl ?_ | refine rn_aldN (lkX3_of_0 Y) rfl ?_
    refine rn_ild (lkX3_of_1 Y) rfl ?_
    refine rp_callV hR (lkX3_of_2 Y) rfl (by first | assumption | exact xq_v0 (by decide)) rfl (Nat.le_of_ble_eq_true rfl) (Nat.le_of_ble_eq_true rfl) (Nat.le_of_ble_eq_true rfl) ?_
    refine sc_fencerAt hR hk ?_
    first | refine rn_ast (lkX3_of_5 Y) rfl ?_ | refine rn_astO (lkX3_of_5 Y) rfl ?_ | refine rn_astN (lkX3_of_5 Y) rfl ?_
    refine rn_ild (lkX3_of_6 Y) rfl ?_
    refine rn_swN (lkX3_of_7 Y) (m := 5) (t := 81) rfl (by decide) (by decide) ?_
    have h' := h
    unfold mo_of mo_numB at h
    try dsimp only at h
    rcases hA : xq_r s 906 k with _ | d
    · rw [hA] at h
      first | refine rn_ald (lkX3_of_81 Y) rfl ?_ | refine rn_aldO (lkX3_of_81 Y) rfl ?_ | refine rn_aldN (lkX3_of_81 Y) rfl ?_
      refine rp_getf hR (lkX3_of_82 Y) (by first | assumption | exact xq_v0 (by decide)) rfl (u := .null) (by rw [hA]; rfl) ?_
      refine rn_ifnN (lkX3_of_85 Y) ?_
      refine rn_push (lkX3_of_88 Y) ?_
      refine rn_goto (lkX3_of_89 Y) ?_
      refine rn_iret (lkX3_of_99 Y) ?_
      exact ⟨h, Nat.le_refl _, Nat.le_refl _⟩
    · rw [hA] at h
      have hd : d < s.2.1 := hR.2.2.1.1 k d hk hA
      have hv10 : xq_vl ad s 10 d := xq_v10 hd
      first | refine rn_ald (lkX3_of_81 Y) rfl ?_ | refine rn_aldO (lkX3_of_81 Y) rfl ?_ | refine rn_aldN (lkX3_of_81 Y) rfl ?_
      refine rp_getf hR (lkX3_of_82 Y) (by first | assumption | exact xq_v0 (by decide)) rfl (u := .ref (ad 10 d)) (by rw [hA]; rfl) ?_
      refine rn_ifnR (lkX3_of_85 Y) ?_
      first | refine rn_ald (lkX3_of_92 Y) rfl ?_ | refine rn_aldO (lkX3_of_92 Y) rfl ?_ | refine rn_aldN (lkX3_of_92 Y) rfl ?_
      refine rp_getf hR (lkX3_of_93 Y) (by first | assumption | exact xq_v0 (by decide)) rfl (u := .ref (ad 10 d)) (by rw [hA]; rfl) ?_
      refine rp_getf hR (lkX3_of_96 Y) (by first | assumption | exact xq_v0 (by decide)) rfl rfl ?_
      refine rn_iret (lkX3_of_99 Y) ?_
      exact ⟨h, Nat.le_refl _, Nat.le_refl _⟩
  · skip
    first | refine rn_ald (lkX3_of_0 Y) rfl ?_ | refine rn_aldO (lkX3_of_0 Y) rfl ?_ | refine rn_aldN (lkX3_of_0 Y) rfl ?_
    refine rn_ild (lkX3_of_1 Y) rfl ?_
    refine rp_callV hR (lkX3_of_2 Y) rfl (by first | assumption | exact xq_v0 (by decide)) rfl (Nat.le_of_ble_eq_true rfl) (Nat.le_of_ble_eq_true rfl) (Nat.le_of_ble_eq_true rfl) ?_
    refine sc_fencerAt hR hk ?_
    first | refine rn_ast (lkX3_of_5 Y) rfl ?_ | refine rn_astO (lkX3_of_5 Y) rfl ?_ | refine rn_astN (lkX3_of_5 Y) rfl ?_
    refine rn_ild (lkX3_of_6 Y) rfl ?_
    refine rn_swN (lkX3_of_7 Y) (m := 6) (t := 100) rfl (by decide) (by decide) ?_
    first | refine rn_ald (lkX3_of_100 Y) rfl ?_ | refine rn_aldO (lkX3_of_100 Y) rfl ?_ | refine rn_aldN (lkX3_of_100 Y) rfl ?_
    refine rp_getf hR (lkX3_of_101 Y) (by first | assumption | exact xq_v0 (by decide)) rfl rfl ?_
    refine rn_iret (lkX3_of_104 Y) ?_
    exact ⟨h, Nat.le_refl _, Nat.le_refl _⟩

set_option maxRecDepth 100000 in
set_option maxHeartbeats 4000000 in
theorem sc_order {m : Nat} {k : Nat} (hR : xq_rp Y ad s w) (hk : k < s.1) (hm : m < 5) (h : post (some (.int (mo_order s k m))) w) : ptX3_order Y [.ref (ad 0 0), .int (nI k), .int (nI m)] w post := by
  have hv9 : xq_vl ad s 9 k := xq_v9 hk
  refine ⟨(by first | exact Nat.le_of_ble_eq_true rfl | simp [lg_sl, xw_cat_rf, xw_cat_i, xw_cat_r, xw_cat_n, xw_cat_l]), ?_⟩
  rcases (show m = 0 ∨ m = 1 ∨ m = 2 ∨ m = 3 ∨ m = 4 by omega) with rfl | rfl | rfl | rfl | rfl
  · skip
    first | refine rn_ald (lkX3_order_0 Y) rfl ?_ | refine rn_aldO (lkX3_order_0 Y) rfl ?_ | refine rn_aldN (lkX3_order_0 Y) rfl ?_
    refine rn_ild (lkX3_order_1 Y) rfl ?_
    refine rp_callV hR (lkX3_order_2 Y) rfl (by first | assumption | exact xq_v0 (by decide)) rfl (Nat.le_of_ble_eq_true rfl) (Nat.le_of_ble_eq_true rfl) (Nat.le_of_ble_eq_true rfl) ?_
    refine sc_fencerAt hR hk ?_
    first | refine rn_ast (lkX3_order_5 Y) rfl ?_ | refine rn_astO (lkX3_order_5 Y) rfl ?_ | refine rn_astN (lkX3_order_5 Y) rfl ?_
    refine rn_ild (lkX3_order_6 Y) rfl ?_
    refine rn_swN (lkX3_order_7 Y) (m := 0) (t := 40) rfl (by decide) (by decide) ?_
    first | refine rn_ald (lkX3_order_40 Y) rfl ?_ | refine rn_aldO (lkX3_order_40 Y) rfl ?_ | refine rn_aldN (lkX3_order_40 Y) rfl ?_
    refine rp_getf hR (lkX3_order_41 Y) (by first | assumption | exact xq_v0 (by decide)) rfl rfl ?_
    refine rn_iret (lkX3_order_44 Y) ?_
    exact ⟨h, Nat.le_refl _, Nat.le_refl _⟩
  · skip
    first | refine rn_ald (lkX3_order_0 Y) rfl ?_ | refine rn_aldO (lkX3_order_0 Y) rfl ?_ | refine rn_aldN (lkX3_order_0 Y) rfl ?_
    refine rn_ild (lkX3_order_1 Y) rfl ?_
    refine rp_callV hR (lkX3_order_2 Y) rfl (by first | assumption | exact xq_v0 (by decide)) rfl (Nat.le_of_ble_eq_true rfl) (Nat.le_of_ble_eq_true rfl) (Nat.le_of_ble_eq_true rfl) ?_
    refine sc_fencerAt hR hk ?_
    first | refine rn_ast (lkX3_order_5 Y) rfl ?_ | refine rn_astO (lkX3_order_5 Y) rfl ?_ | refine rn_astN (lkX3_order_5 Y) rfl ?_
    refine rn_ild (lkX3_order_6 Y) rfl ?_
    refine rn_swN (lkX3_order_7 Y) (m := 1) (t := 45) rfl (by decide) (by decide) ?_
    first | refine rn_ald (lkX3_order_45 Y) rfl ?_ | refine rn_aldO (lkX3_order_45 Y) rfl ?_ | refine rn_aldN (lkX3_order_45 Y) rfl ?_
    refine rp_getf hR (lkX3_order_46 Y) (by first | assumption | exact xq_v0 (by decide)) rfl rfl ?_
    refine rn_iret (lkX3_order_49 Y) ?_
    exact ⟨h, Nat.le_refl _, Nat.le_refl _⟩
  · skip
    first | refine rn_ald (lkX3_order_0 Y) rfl ?_ | refine rn_aldO (lkX3_order_0 Y) rfl ?_ | refine rn_aldN (lkX3_order_0 Y) rfl ?_
    refine rn_ild (lkX3_order_1 Y) rfl ?_
    refine rp_callV hR (lkX3_order_2 Y) rfl (by first | assumption | exact xq_v0 (by decide)) rfl (Nat.le_of_ble_eq_true rfl) (Nat.le_of_ble_eq_true rfl) (Nat.le_of_ble_eq_true rfl) ?_
    refine sc_fencerAt hR hk ?_
    first | refine rn_ast (lkX3_order_5 Y) rfl ?_ | refine rn_astO (lkX3_order_5 Y) rfl ?_ | refine rn_astN (lkX3_order_5 Y) rfl ?_
    refine rn_ild (lkX3_order_6 Y) rfl ?_
    refine rn_swN (lkX3_order_7 Y) (m := 2) (t := 50) rfl (by decide) (by decide) ?_
    first | refine rn_ald (lkX3_order_50 Y) rfl ?_ | refine rn_aldO (lkX3_order_50 Y) rfl ?_ | refine rn_aldN (lkX3_order_50 Y) rfl ?_
    refine rp_getf hR (lkX3_order_51 Y) (by first | assumption | exact xq_v0 (by decide)) rfl rfl ?_
    refine rn_iret (lkX3_order_54 Y) ?_
    exact ⟨h, Nat.le_refl _, Nat.le_refl _⟩
  · skip
    first | refine rn_ald (lkX3_order_0 Y) rfl ?_ | refine rn_aldO (lkX3_order_0 Y) rfl ?_ | refine rn_aldN (lkX3_order_0 Y) rfl ?_
    refine rn_ild (lkX3_order_1 Y) rfl ?_
    refine rp_callV hR (lkX3_order_2 Y) rfl (by first | assumption | exact xq_v0 (by decide)) rfl (Nat.le_of_ble_eq_true rfl) (Nat.le_of_ble_eq_true rfl) (Nat.le_of_ble_eq_true rfl) ?_
    refine sc_fencerAt hR hk ?_
    first | refine rn_ast (lkX3_order_5 Y) rfl ?_ | refine rn_astO (lkX3_order_5 Y) rfl ?_ | refine rn_astN (lkX3_order_5 Y) rfl ?_
    refine rn_ild (lkX3_order_6 Y) rfl ?_
    refine rn_swN (lkX3_order_7 Y) (m := 3) (t := 55) rfl (by decide) (by decide) ?_
    first | refine rn_ald (lkX3_order_55 Y) rfl ?_ | refine rn_aldO (lkX3_order_55 Y) rfl ?_ | refine rn_aldN (lkX3_order_55 Y) rfl ?_
    refine rp_getf hR (lkX3_order_56 Y) (by first | assumption | exact xq_v0 (by decide)) rfl rfl ?_
    refine rn_iret (lkX3_order_59 Y) ?_
    exact ⟨h, Nat.le_refl _, Nat.le_refl _⟩
  · skip
    first | refine rn_ald (lkX3_order_0 Y) rfl ?_ | refine rn_aldO (lkX3_order_0 Y) rfl ?_ | refine rn_aldN (lkX3_order_0 Y) rfl ?_
    refine rn_ild (lkX3_order_1 Y) rfl ?_
    refine rp_callV hR (lkX3_order_2 Y) rfl (by first | assumption | exact xq_v0 (by decide)) rfl (Nat.le_of_ble_eq_true rfl) (Nat.le_of_ble_eq_true rfl) (Nat.le_of_ble_eq_true rfl) ?_
    refine sc_fencerAt hR hk ?_
    first | refine rn_ast (lkX3_order_5 Y) rfl ?_ | refine rn_astO (lkX3_order_5 Y) rfl ?_ | refine rn_astN (lkX3_order_5 Y) rfl ?_
    refine rn_ild (lkX3_order_6 Y) rfl ?_
    refine rn_swN (lkX3_order_7 Y) (m := 4) (t := 60) rfl (by decide) (by decide) ?_
    first | refine rn_ald (lkX3_order_60 Y) rfl ?_ | refine rn_aldO (lkX3_order_60 Y) rfl ?_ | refine rn_aldN (lkX3_order_60 Y) rfl ?_
    first | refine rn_ald (lkX3_order_61 Y) rfl ?_ | refine rn_aldO (lkX3_order_61 Y) rfl ?_ | refine rn_aldN (lkX3_order_61 Y) rfl ?_
    refine rp_callV hR (lkX3_order_62 Y) rfl (by first | assumption | exact xq_v0 (by decide)) rfl (Nat.le_of_ble_eq_true rfl) (Nat.le_of_ble_eq_true rfl) (Nat.le_of_ble_eq_true rfl) ?_
    refine sc_aheadIn hR hk ?_
    refine rn_iret (lkX3_order_65 Y) ?_
    exact ⟨h, Nat.le_refl _, Nat.le_refl _⟩

set_option maxRecDepth 100000 in
set_option maxHeartbeats 4000000 in
theorem sc_voidWith {k : Nat} (hR : xq_rp Y ad s w) (hk : k < s.1) (h : post (some (.int (xq_i s 908 k))) w) : ptX3_voidWith Y [.ref (ad 0 0), .int (nI k)] w post := by
  have hv9 : xq_vl ad s 9 k := xq_v9 hk
  refine ⟨(by first | exact Nat.le_of_ble_eq_true rfl | simp [lg_sl, xw_cat_rf, xw_cat_i, xw_cat_r, xw_cat_n, xw_cat_l]), ?_⟩
  first | refine rn_ald (lkX3_voidWith_0 Y) rfl ?_ | refine rn_aldO (lkX3_voidWith_0 Y) rfl ?_ | refine rn_aldN (lkX3_voidWith_0 Y) rfl ?_
  refine rn_ild (lkX3_voidWith_1 Y) rfl ?_
  refine rp_callV hR (lkX3_voidWith_2 Y) rfl (by first | assumption | exact xq_v0 (by decide)) rfl (Nat.le_of_ble_eq_true rfl) (Nat.le_of_ble_eq_true rfl) (Nat.le_of_ble_eq_true rfl) ?_
  refine sc_fencerAt hR hk ?_
  refine rp_getf hR (lkX3_voidWith_5 Y) (by first | assumption | exact xq_v0 (by decide)) rfl rfl ?_
  refine rn_iret (lkX3_voidWith_8 Y) ?_
  exact ⟨h, Nat.le_refl _, Nat.le_refl _⟩

theorem mo_prio_getf {b : Nat} (hb : b < s.2.1) : ∃ t, mo_prio s b = t ∧ xq_vl ad s t b ∧ ∃ x y, xq_en Y ad s t b = .inr (3, [va_rf ((mo_prioF s b).map (ad 9)), x, y]) := by
  unfold mo_prio mo_prioF
  split
  · exact ⟨11, rfl, xq_v11 hb, _, _, rfl⟩
  · exact ⟨12, rfl, xq_v12 hb, _, _, rfl⟩
theorem mo_prioF_lt {b k : Nat} (h : xq_wf s) (hb : b < s.2.1) (hk : mo_prioF s b = some k) : k < s.1 := by
  unfold mo_prioF at hk
  split at hk
  · exact h.2.2.1 b k hb hk
  · exact h.2.2.2.1 b k hb hk
theorem mo_win_lt {b k : Nat} (h : xq_wf s) (hb : b < s.2.1) (hk : mo_win s b = some k) : k < s.1 := by
  unfold mo_win at hk
  split at hk
  · exact mo_prioF_lt h hb hk
  · split at hk
    · exact h.2.2.2.1 b k hb hk
    · exact h.2.2.1 b k hb hk

set_option maxRecDepth 100000 in
set_option maxHeartbeats 4000000 in
theorem sc_ofBout {m : Nat} {b : Nat} (hR : xq_rp Y ad s w) (hb : b < s.2.1) (hm : m < 12) (h : post (some (.int (mo_ofBout s b m))) w) : ptX3_ofBout Y [.ref (ad 0 0), .int (nI b), .int (nI m)] w post := by
  have hv10 : xq_vl ad s 10 b := xq_v10 hb
  have hv11 : xq_vl ad s 11 b := xq_v11 hb
  have hv12 : xq_vl ad s 12 b := xq_v12 hb
  refine ⟨(by first | exact Nat.le_of_ble_eq_true rfl | simp [lg_sl, xw_cat_rf, xw_cat_i, xw_cat_r, xw_cat_n, xw_cat_l]), ?_⟩
  rcases (show m = 0 ∨ m = 1 ∨ m = 2 ∨ m = 3 ∨ m = 4 ∨ m = 5 ∨ m = 6 ∨ m = 7 ∨ m = 8 ∨ m = 9 ∨ m = 10 ∨ m = 11 by omega) with rfl | rfl | rfl | rfl | rfl | rfl | rfl | rfl | rfl | rfl | rfl | rfl
  · skip
    first | refine rn_ald (lkX3_ofBout_0 Y) rfl ?_ | refine rn_aldO (lkX3_ofBout_0 Y) rfl ?_ | refine rn_aldN (lkX3_ofBout_0 Y) rfl ?_
    refine rn_ild (lkX3_ofBout_1 Y) rfl ?_
    refine rp_callV hR (lkX3_ofBout_2 Y) rfl (by first | assumption | exact xq_v0 (by decide)) rfl (Nat.le_of_ble_eq_true rfl) (Nat.le_of_ble_eq_true rfl) (Nat.le_of_ble_eq_true rfl) ?_
    refine sc_boutAt hR hb ?_
    first | refine rn_ast (lkX3_ofBout_5 Y) rfl ?_ | refine rn_astO (lkX3_ofBout_5 Y) rfl ?_ | refine rn_astN (lkX3_ofBout_5 Y) rfl ?_
    refine rn_ild (lkX3_ofBout_6 Y) rfl ?_
    refine rn_swN (lkX3_ofBout_7 Y) (m := 0) (t := 68) rfl (by decide) (by decide) ?_
    first | refine rn_ald (lkX3_ofBout_68 Y) rfl ?_ | refine rn_aldO (lkX3_ofBout_68 Y) rfl ?_ | refine rn_aldN (lkX3_ofBout_68 Y) rfl ?_
    refine rp_getf hR (lkX3_ofBout_69 Y) (by first | assumption | exact xq_v0 (by decide)) rfl rfl ?_
    refine rn_iret (lkX3_ofBout_72 Y) ?_
    exact ⟨h, Nat.le_refl _, Nat.le_refl _⟩
  · skip
    first | refine rn_ald (lkX3_ofBout_0 Y) rfl ?_ | refine rn_aldO (lkX3_ofBout_0 Y) rfl ?_ | refine rn_aldN (lkX3_ofBout_0 Y) rfl ?_
    refine rn_ild (lkX3_ofBout_1 Y) rfl ?_
    refine rp_callV hR (lkX3_ofBout_2 Y) rfl (by first | assumption | exact xq_v0 (by decide)) rfl (Nat.le_of_ble_eq_true rfl) (Nat.le_of_ble_eq_true rfl) (Nat.le_of_ble_eq_true rfl) ?_
    refine sc_boutAt hR hb ?_
    first | refine rn_ast (lkX3_ofBout_5 Y) rfl ?_ | refine rn_astO (lkX3_ofBout_5 Y) rfl ?_ | refine rn_astN (lkX3_ofBout_5 Y) rfl ?_
    refine rn_ild (lkX3_ofBout_6 Y) rfl ?_
    refine rn_swN (lkX3_ofBout_7 Y) (m := 1) (t := 73) rfl (by decide) (by decide) ?_
    first | refine rn_ald (lkX3_ofBout_73 Y) rfl ?_ | refine rn_aldO (lkX3_ofBout_73 Y) rfl ?_ | refine rn_aldN (lkX3_ofBout_73 Y) rfl ?_
    refine rp_getf hR (lkX3_ofBout_74 Y) (by first | assumption | exact xq_v0 (by decide)) rfl rfl ?_
    refine rp_getf hR (lkX3_ofBout_77 Y) (by first | assumption | exact xq_v0 (by decide)) rfl rfl ?_
    refine rn_callS (lkX3_ofBout_80 Y) (Nat.le_of_ble_eq_true rfl) rfl (Nat.le_of_ble_eq_true rfl) (Nat.le_of_ble_eq_true rfl) (Nat.le_of_ble_eq_true rfl) ?_
    refine sc_num hR (fun k hk => hR.2.2.1.2.2.1 b k hb hk) ?_
    refine rn_iret (lkX3_ofBout_83 Y) ?_
    exact ⟨h, Nat.le_refl _, Nat.le_refl _⟩
  · skip
    first | refine rn_ald (lkX3_ofBout_0 Y) rfl ?_ | refine rn_aldO (lkX3_ofBout_0 Y) rfl ?_ | refine rn_aldN (lkX3_ofBout_0 Y) rfl ?_
    refine rn_ild (lkX3_ofBout_1 Y) rfl ?_
    refine rp_callV hR (lkX3_ofBout_2 Y) rfl (by first | assumption | exact xq_v0 (by decide)) rfl (Nat.le_of_ble_eq_true rfl) (Nat.le_of_ble_eq_true rfl) (Nat.le_of_ble_eq_true rfl) ?_
    refine sc_boutAt hR hb ?_
    first | refine rn_ast (lkX3_ofBout_5 Y) rfl ?_ | refine rn_astO (lkX3_ofBout_5 Y) rfl ?_ | refine rn_astN (lkX3_ofBout_5 Y) rfl ?_
    refine rn_ild (lkX3_ofBout_6 Y) rfl ?_
    refine rn_swN (lkX3_ofBout_7 Y) (m := 2) (t := 84) rfl (by decide) (by decide) ?_
    first | refine rn_ald (lkX3_ofBout_84 Y) rfl ?_ | refine rn_aldO (lkX3_ofBout_84 Y) rfl ?_ | refine rn_aldN (lkX3_ofBout_84 Y) rfl ?_
    refine rp_getf hR (lkX3_ofBout_85 Y) (by first | assumption | exact xq_v0 (by decide)) rfl rfl ?_
    refine rp_getf hR (lkX3_ofBout_88 Y) (by first | assumption | exact xq_v0 (by decide)) rfl rfl ?_
    refine rn_callS (lkX3_ofBout_91 Y) (Nat.le_of_ble_eq_true rfl) rfl (Nat.le_of_ble_eq_true rfl) (Nat.le_of_ble_eq_true rfl) (Nat.le_of_ble_eq_true rfl) ?_
    refine sc_num hR (fun k hk => hR.2.2.1.2.2.2.1 b k hb hk) ?_
    refine rn_iret (lkX3_ofBout_94 Y) ?_
    exact ⟨h, Nat.le_refl _, Nat.le_refl _⟩
  · skip
    first | refine rn_ald (lkX3_ofBout_0 Y) rfl ?_ | refine rn_aldO (lkX3_ofBout_0 Y) rfl ?_ | refine rn_aldN (lkX3_ofBout_0 Y) rfl ?_
    refine rn_ild (lkX3_ofBout_1 Y) rfl ?_
    refine rp_callV hR (lkX3_ofBout_2 Y) rfl (by first | assumption | exact xq_v0 (by decide)) rfl (Nat.le_of_ble_eq_true rfl) (Nat.le_of_ble_eq_true rfl) (Nat.le_of_ble_eq_true rfl) ?_
    refine sc_boutAt hR hb ?_
    first | refine rn_ast (lkX3_ofBout_5 Y) rfl ?_ | refine rn_astO (lkX3_ofBout_5 Y) rfl ?_ | refine rn_astN (lkX3_ofBout_5 Y) rfl ?_
    refine rn_ild (lkX3_ofBout_6 Y) rfl ?_
    refine rn_swN (lkX3_ofBout_7 Y) (m := 3) (t := 95) rfl (by decide) (by decide) ?_
    first | refine rn_ald (lkX3_ofBout_95 Y) rfl ?_ | refine rn_aldO (lkX3_ofBout_95 Y) rfl ?_ | refine rn_aldN (lkX3_ofBout_95 Y) rfl ?_
    refine rp_getf hR (lkX3_ofBout_96 Y) (by first | assumption | exact xq_v0 (by decide)) rfl rfl ?_
    refine rp_getf hR (lkX3_ofBout_99 Y) (by first | assumption | exact xq_v0 (by decide)) rfl rfl ?_
    refine rn_iret (lkX3_ofBout_102 Y) ?_
    exact ⟨h, Nat.le_refl _, Nat.le_refl _⟩
  · skip
    first | refine rn_ald (lkX3_ofBout_0 Y) rfl ?_ | refine rn_aldO (lkX3_ofBout_0 Y) rfl ?_ | refine rn_aldN (lkX3_ofBout_0 Y) rfl ?_
    refine rn_ild (lkX3_ofBout_1 Y) rfl ?_
    refine rp_callV hR (lkX3_ofBout_2 Y) rfl (by first | assumption | exact xq_v0 (by decide)) rfl (Nat.le_of_ble_eq_true rfl) (Nat.le_of_ble_eq_true rfl) (Nat.le_of_ble_eq_true rfl) ?_
    refine sc_boutAt hR hb ?_
    first | refine rn_ast (lkX3_ofBout_5 Y) rfl ?_ | refine rn_astO (lkX3_ofBout_5 Y) rfl ?_ | refine rn_astN (lkX3_ofBout_5 Y) rfl ?_
    refine rn_ild (lkX3_ofBout_6 Y) rfl ?_
    refine rn_swN (lkX3_ofBout_7 Y) (m := 4) (t := 103) rfl (by decide) (by decide) ?_
    first | refine rn_ald (lkX3_ofBout_103 Y) rfl ?_ | refine rn_aldO (lkX3_ofBout_103 Y) rfl ?_ | refine rn_aldN (lkX3_ofBout_103 Y) rfl ?_
    refine rp_getf hR (lkX3_ofBout_104 Y) (by first | assumption | exact xq_v0 (by decide)) rfl rfl ?_
    refine rp_getf hR (lkX3_ofBout_107 Y) (by first | assumption | exact xq_v0 (by decide)) rfl rfl ?_
    refine rn_iret (lkX3_ofBout_110 Y) ?_
    exact ⟨h, Nat.le_refl _, Nat.le_refl _⟩
  · skip
    first | refine rn_ald (lkX3_ofBout_0 Y) rfl ?_ | refine rn_aldO (lkX3_ofBout_0 Y) rfl ?_ | refine rn_aldN (lkX3_ofBout_0 Y) rfl ?_
    refine rn_ild (lkX3_ofBout_1 Y) rfl ?_
    refine rp_callV hR (lkX3_ofBout_2 Y) rfl (by first | assumption | exact xq_v0 (by decide)) rfl (Nat.le_of_ble_eq_true rfl) (Nat.le_of_ble_eq_true rfl) (Nat.le_of_ble_eq_true rfl) ?_
    refine sc_boutAt hR hb ?_
    first | refine rn_ast (lkX3_ofBout_5 Y) rfl ?_ | refine rn_astO (lkX3_ofBout_5 Y) rfl ?_ | refine rn_astN (lkX3_ofBout_5 Y) rfl ?_
    refine rn_ild (lkX3_ofBout_6 Y) rfl ?_
    refine rn_swN (lkX3_ofBout_7 Y) (m := 5) (t := 111) rfl (by decide) (by decide) ?_
    first | refine rn_ald (lkX3_ofBout_111 Y) rfl ?_ | refine rn_aldO (lkX3_ofBout_111 Y) rfl ?_ | refine rn_aldN (lkX3_ofBout_111 Y) rfl ?_
    refine rp_getf hR (lkX3_ofBout_112 Y) (by first | assumption | exact xq_v0 (by decide)) rfl rfl ?_
    refine rn_callS (lkX3_ofBout_115 Y) (Nat.le_of_ble_eq_true rfl) rfl (Nat.le_of_ble_eq_true rfl) (Nat.le_of_ble_eq_true rfl) (Nat.le_of_ble_eq_true rfl) ?_
    refine sc_num hR (fun k hk => hR.2.2.1.2.1 b k hb hk) ?_
    refine rn_iret (lkX3_ofBout_118 Y) ?_
    exact ⟨h, Nat.le_refl _, Nat.le_refl _⟩
  · skip
    first | refine rn_ald (lkX3_ofBout_0 Y) rfl ?_ | refine rn_aldO (lkX3_ofBout_0 Y) rfl ?_ | refine rn_aldN (lkX3_ofBout_0 Y) rfl ?_
    refine rn_ild (lkX3_ofBout_1 Y) rfl ?_
    refine rp_callV hR (lkX3_ofBout_2 Y) rfl (by first | assumption | exact xq_v0 (by decide)) rfl (Nat.le_of_ble_eq_true rfl) (Nat.le_of_ble_eq_true rfl) (Nat.le_of_ble_eq_true rfl) ?_
    refine sc_boutAt hR hb ?_
    first | refine rn_ast (lkX3_ofBout_5 Y) rfl ?_ | refine rn_astO (lkX3_ofBout_5 Y) rfl ?_ | refine rn_astN (lkX3_ofBout_5 Y) rfl ?_
    refine rn_ild (lkX3_ofBout_6 Y) rfl ?_
    refine rn_swN (lkX3_ofBout_7 Y) (m := 6) (t := 119) rfl (by decide) (by decide) ?_
    first | refine rn_ald (lkX3_ofBout_119 Y) rfl ?_ | refine rn_aldO (lkX3_ofBout_119 Y) rfl ?_ | refine rn_aldN (lkX3_ofBout_119 Y) rfl ?_
    refine rp_getf hR (lkX3_ofBout_120 Y) (by first | assumption | exact xq_v0 (by decide)) rfl rfl ?_
    refine rn_iret (lkX3_ofBout_123 Y) ?_
    exact ⟨h, Nat.le_refl _, Nat.le_refl _⟩
  · skip
    first | refine rn_ald (lkX3_ofBout_0 Y) rfl ?_ | refine rn_aldO (lkX3_ofBout_0 Y) rfl ?_ | refine rn_aldN (lkX3_ofBout_0 Y) rfl ?_
    refine rn_ild (lkX3_ofBout_1 Y) rfl ?_
    refine rp_callV hR (lkX3_ofBout_2 Y) rfl (by first | assumption | exact xq_v0 (by decide)) rfl (Nat.le_of_ble_eq_true rfl) (Nat.le_of_ble_eq_true rfl) (Nat.le_of_ble_eq_true rfl) ?_
    refine sc_boutAt hR hb ?_
    first | refine rn_ast (lkX3_ofBout_5 Y) rfl ?_ | refine rn_astO (lkX3_ofBout_5 Y) rfl ?_ | refine rn_astN (lkX3_ofBout_5 Y) rfl ?_
    refine rn_ild (lkX3_ofBout_6 Y) rfl ?_
    refine rn_swN (lkX3_ofBout_7 Y) (m := 7) (t := 124) rfl (by decide) (by decide) ?_
    first | refine rn_ald (lkX3_ofBout_124 Y) rfl ?_ | refine rn_aldO (lkX3_ofBout_124 Y) rfl ?_ | refine rn_aldN (lkX3_ofBout_124 Y) rfl ?_
    refine rp_getf hR (lkX3_ofBout_125 Y) (by first | assumption | exact xq_v0 (by decide)) rfl rfl ?_
    refine rn_iret (lkX3_ofBout_128 Y) ?_
    exact ⟨h, Nat.le_refl _, Nat.le_refl _⟩
  · skip
    first | refine rn_ald (lkX3_ofBout_0 Y) rfl ?_ | refine rn_aldO (lkX3_ofBout_0 Y) rfl ?_ | refine rn_aldN (lkX3_ofBout_0 Y) rfl ?_
    refine rn_ild (lkX3_ofBout_1 Y) rfl ?_
    refine rp_callV hR (lkX3_ofBout_2 Y) rfl (by first | assumption | exact xq_v0 (by decide)) rfl (Nat.le_of_ble_eq_true rfl) (Nat.le_of_ble_eq_true rfl) (Nat.le_of_ble_eq_true rfl) ?_
    refine sc_boutAt hR hb ?_
    first | refine rn_ast (lkX3_ofBout_5 Y) rfl ?_ | refine rn_astO (lkX3_ofBout_5 Y) rfl ?_ | refine rn_astN (lkX3_ofBout_5 Y) rfl ?_
    refine rn_ild (lkX3_ofBout_6 Y) rfl ?_
    refine rn_swN (lkX3_ofBout_7 Y) (m := 8) (t := 129) rfl (by decide) (by decide) ?_
    first | refine rn_ald (lkX3_ofBout_129 Y) rfl ?_ | refine rn_aldO (lkX3_ofBout_129 Y) rfl ?_ | refine rn_aldN (lkX3_ofBout_129 Y) rfl ?_
    refine rp_getf hR (lkX3_ofBout_130 Y) (by first | assumption | exact xq_v0 (by decide)) rfl rfl ?_
    refine rn_iret (lkX3_ofBout_133 Y) ?_
    exact ⟨h, Nat.le_refl _, Nat.le_refl _⟩
  · skip
    first | refine rn_ald (lkX3_ofBout_0 Y) rfl ?_ | refine rn_aldO (lkX3_ofBout_0 Y) rfl ?_ | refine rn_aldN (lkX3_ofBout_0 Y) rfl ?_
    refine rn_ild (lkX3_ofBout_1 Y) rfl ?_
    refine rp_callV hR (lkX3_ofBout_2 Y) rfl (by first | assumption | exact xq_v0 (by decide)) rfl (Nat.le_of_ble_eq_true rfl) (Nat.le_of_ble_eq_true rfl) (Nat.le_of_ble_eq_true rfl) ?_
    refine sc_boutAt hR hb ?_
    first | refine rn_ast (lkX3_ofBout_5 Y) rfl ?_ | refine rn_astO (lkX3_ofBout_5 Y) rfl ?_ | refine rn_astN (lkX3_ofBout_5 Y) rfl ?_
    refine rn_ild (lkX3_ofBout_6 Y) rfl ?_
    refine rn_swN (lkX3_ofBout_7 Y) (m := 9) (t := 134) rfl (by decide) (by decide) ?_
    first | refine rn_ald (lkX3_ofBout_134 Y) rfl ?_ | refine rn_aldO (lkX3_ofBout_134 Y) rfl ?_ | refine rn_aldN (lkX3_ofBout_134 Y) rfl ?_
    refine rp_callV hR (lkX3_ofBout_135 Y) rfl (by first | assumption | exact xq_v0 (by decide)) rfl (Nat.le_of_ble_eq_true rfl) (Nat.le_of_ble_eq_true rfl) (Nat.le_of_ble_eq_true rfl) ?_
    refine sc_extra hR hb ?_
    refine rn_ifz (lkX3_ofBout_138 Y) (fun c_138 => ?_) (fun c_138 => ?_)
    · try dsimp only at c_138
      refine rn_push (lkX3_ofBout_154 Y) ?_
      refine rn_iret (lkX3_ofBout_155 Y) ?_
      unfold mo_ofBout at h
      try dsimp only at h
      first | (rw [if_pos c_138] at h; exact ⟨h, Nat.le_refl _, Nat.le_refl _⟩) | (rw [if_neg c_138] at h; exact ⟨h, Nat.le_refl _, Nat.le_refl _⟩)
    · try dsimp only at c_138
      first | refine rn_ald (lkX3_ofBout_141 Y) rfl ?_ | refine rn_aldO (lkX3_ofBout_141 Y) rfl ?_ | refine rn_aldN (lkX3_ofBout_141 Y) rfl ?_
      refine rp_callV hR (lkX3_ofBout_142 Y) rfl (by first | assumption | exact xq_v0 (by decide)) rfl (Nat.le_of_ble_eq_true rfl) (Nat.le_of_ble_eq_true rfl) (Nat.le_of_ble_eq_true rfl) ?_
      refine sc_prio hR hb ?_
      obtain ⟨t, ht, htv, x, y, hte⟩ := mo_prio_getf (Y := Y) (ad := ad) (s := s) hb
      rw [ht]
      refine rp_getf hR (lkX3_ofBout_145 Y) htv hte rfl ?_
      refine rn_callS (lkX3_ofBout_148 Y) (Nat.le_of_ble_eq_true rfl) rfl (Nat.le_of_ble_eq_true rfl) (Nat.le_of_ble_eq_true rfl) (Nat.le_of_ble_eq_true rfl) ?_
      refine sc_num hR (fun k hk => mo_prioF_lt hR.2.2.1 hb hk) ?_
      refine rn_goto (lkX3_ofBout_151 Y) ?_
      refine rn_iret (lkX3_ofBout_155 Y) ?_
      unfold mo_ofBout at h
      try dsimp only at h
      first | (rw [if_pos c_138] at h; exact ⟨h, Nat.le_refl _, Nat.le_refl _⟩) | (rw [if_neg c_138] at h; exact ⟨h, Nat.le_refl _, Nat.le_refl _⟩)
  · skip
    first | refine rn_ald (lkX3_ofBout_0 Y) rfl ?_ | refine rn_aldO (lkX3_ofBout_0 Y) rfl ?_ | refine rn_aldN (lkX3_ofBout_0 Y) rfl ?_
    refine rn_ild (lkX3_ofBout_1 Y) rfl ?_
    refine rp_callV hR (lkX3_ofBout_2 Y) rfl (by first | assumption | exact xq_v0 (by decide)) rfl (Nat.le_of_ble_eq_true rfl) (Nat.le_of_ble_eq_true rfl) (Nat.le_of_ble_eq_true rfl) ?_
    refine sc_boutAt hR hb ?_
    first | refine rn_ast (lkX3_ofBout_5 Y) rfl ?_ | refine rn_astO (lkX3_ofBout_5 Y) rfl ?_ | refine rn_astN (lkX3_ofBout_5 Y) rfl ?_
    refine rn_ild (lkX3_ofBout_6 Y) rfl ?_
    refine rn_swN (lkX3_ofBout_7 Y) (m := 10) (t := 156) rfl (by decide) (by decide) ?_
    first | refine rn_ald (lkX3_ofBout_156 Y) rfl ?_ | refine rn_aldO (lkX3_ofBout_156 Y) rfl ?_ | refine rn_aldN (lkX3_ofBout_156 Y) rfl ?_
    refine rp_getf hR (lkX3_ofBout_157 Y) (by first | assumption | exact xq_v0 (by decide)) rfl rfl ?_
    refine rp_getf hR (lkX3_ofBout_160 Y) (by first | assumption | exact xq_v0 (by decide)) rfl rfl ?_
    refine rn_iret (lkX3_ofBout_163 Y) ?_
    exact ⟨h, Nat.le_refl _, Nat.le_refl _⟩
  · skip
    first | refine rn_ald (lkX3_ofBout_0 Y) rfl ?_ | refine rn_aldO (lkX3_ofBout_0 Y) rfl ?_ | refine rn_aldN (lkX3_ofBout_0 Y) rfl ?_
    refine rn_ild (lkX3_ofBout_1 Y) rfl ?_
    refine rp_callV hR (lkX3_ofBout_2 Y) rfl (by first | assumption | exact xq_v0 (by decide)) rfl (Nat.le_of_ble_eq_true rfl) (Nat.le_of_ble_eq_true rfl) (Nat.le_of_ble_eq_true rfl) ?_
    refine sc_boutAt hR hb ?_
    first | refine rn_ast (lkX3_ofBout_5 Y) rfl ?_ | refine rn_astO (lkX3_ofBout_5 Y) rfl ?_ | refine rn_astN (lkX3_ofBout_5 Y) rfl ?_
    refine rn_ild (lkX3_ofBout_6 Y) rfl ?_
    refine rn_swN (lkX3_ofBout_7 Y) (m := 11) (t := 164) rfl (by decide) (by decide) ?_
    first | refine rn_ald (lkX3_ofBout_164 Y) rfl ?_ | refine rn_aldO (lkX3_ofBout_164 Y) rfl ?_ | refine rn_aldN (lkX3_ofBout_164 Y) rfl ?_
    refine rp_getf hR (lkX3_ofBout_165 Y) (by first | assumption | exact xq_v0 (by decide)) rfl rfl ?_
    refine rp_getf hR (lkX3_ofBout_168 Y) (by first | assumption | exact xq_v0 (by decide)) rfl rfl ?_
    refine rn_iret (lkX3_ofBout_171 Y) ?_
    exact ⟨h, Nat.le_refl _, Nat.le_refl _⟩

end XC5
