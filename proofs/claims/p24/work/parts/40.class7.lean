/-! THE OBJECT, on: what changes it -/
section XM7
theorem rn_astN {tb : List (Nat × xw_T)} {Rt : xw_R} {pc : Nat} {lv : xw_L} {r : List Value} {w : xw_W} {k n nx i : Nat} {lv' : xw_L} (h : xw_lk tb pc = some (tr_ast nx i)) (hl : xw_s1 i .null lv = lv') (hk : xw_Run tb Rt nx lv' r w k n) : xw_Run tb Rt pc lv (.null :: r) w k n := rn_astO (o := none) h hl hk
theorem xq_rfS (f : Nat → Nat) (k : Nat) : va_rf (Option.map f (some k)) = .ref (f k) := rfl
theorem xq_rfN (f : Nat → Nat) : va_rf (Option.map f none) = .null := rfl
theorem xn_of {x : Int32} {n : Nat} (h : ¬ (x < 0 ∨ nI n - 1 < x)) (hn : n ≤ 1000) : ∃ k, k < n ∧ x = nI k := by
  rcases pk_ix x (n := n) (by omega) with q | q | ⟨j, q1, q2⟩
  · exact absurd (Or.inl q) h
  · exfalso
    refine h (Or.inr ?_)
    refine Int32.lt_of_lt_of_le ?_ q
    rcases n with _ | n
    · decide
    · rw [nI_pred]
      exact nI_lt (by omega) (by omega)
  · exact ⟨j, q1, q2⟩
def mo_fol (s : xq_S) (b : Nat) : Int32 := xq_i s 9 0 + xq_i s 8 0 / 2 + (xq_i s 1000 b - xq_i s 9 0) / 2
def mo_par (s : xq_S) (b : Nat) : Int32 := (xq_i s 1000 b - xq_i s 9 0) - (xq_i s 1000 b - xq_i s 9 0) / 2 * 2
def mo_goOnT (s : xq_S) (b : Nat) : xq_S := if mo_fol s b < 0 ∨ nI s.2.1 - 1 < mo_fol s b then s else
  if mo_par s b = 0 then xu_r s 1100 (mo_fol s b).toNatClampNeg (xq_r s 1005 b) else xu_r s 1200 (mo_fol s b).toNatClampNeg (xq_r s 1005 b)
def mo_lose (s : xq_S) (b : Nat) (l : Option Nat) : xq_S := match l with
  | none => s
  | some k => xu_i s 913 k (xq_i s 1001 b)
def mo_decide (s : xq_S) (b : Nat) (o : Option Nat) : xq_S :=
  let s := xu_r (xu_i s 1004 b 2) 1005 b o
  if xq_i s 1001 b = -1 then mo_bcount s b o (xq_i s 1101 b) (xq_i s 1201 b) 1
  else mo_goOnT (mo_lose s b (if xq_r s 1100 b = o then xq_r s 1200 b else xq_r s 1100 b)) b
def mo_leave (s : xq_S) (b : Nat) (t : Int32) : xq_S :=
  if xq_i s 1006 b < 0 ∨ 2 < xq_i s 1006 b then mo_bend s b t else mo_bend (xu_r s 300 (xq_i s 1006 b).toNatClampNeg none) b t
def mo_finish (s : xq_S) (b : Nat) (o : Option Nat) (t : Int32) : xq_S := mo_decide (mo_leave s b t) b o
def mo_void (s : xq_S) (b : Nat) : xq_S :=
  xu_r (xu_i (if xq_i s 1004 b = 2 then mo_bcount s b (xq_r s 1005 b) (xq_i s 1101 b) (xq_i s 1201 b) (-1) else s) 1004 b 3) 1005 b none
def mo_voids (s : xq_S) (k : Nat) : Nat → xq_S
  | 0 => s
  | n + 1 => if xq_r (mo_voids s k n) 1100 n = some k ∨ xq_r (mo_voids s k n) 1200 n = some k then mo_void (mo_voids s k n) n else mo_voids s k n
def mo_putOut (s : xq_S) (b k : Nat) (o : Option Nat) : xq_S :=
  if xq_i s 1001 b = -1 then mo_voids (mo_leave (xu_i s 905 k 1) b (xq_i s 7 0)) k s.2.1 else mo_finish (xu_i s 905 k 1) b o (xq_i s 7 0)
def mo_overHit (s : xq_S) (b : Nat) : xq_S := if mo_decided s b = 0 then s else mo_finish s b (mo_win s b) (xq_i s 7 0)
def mo_overAfter (s : xq_S) (b : Nat) (x : Int32) : xq_S := if mo_until s b ≤ x then mo_finish s b (mo_win s b) (xq_i s 7 0 + mo_until s b) else mo_goOn 3 s b x
def mo_passes (s : xq_S) (x : Int32) : Nat → xq_S × Nat
  | 0 => (s, 0)
  | n + 1 => match xq_r (mo_passes s x n).1 300 n with
    | none => mo_passes s x n
    | some b => (mo_overAfter (mo_passes s x n).1 b x, (mo_passes s x n).2 + (if mo_until (mo_passes s x n).1 b ≤ x then 1 else 0))
def mo_pass (s : xq_S) (x : Int32) : xq_S := xu_i (mo_passes s x 3).1 7 0 (xq_i (mo_passes s x 3).1 7 0 + x)
def mo_hit (s : xq_S) (b : Nat) (who : Int32) : xq_S :=
  if who = 0 then mo_overHit (xu_i s 1101 b (xq_i s 1101 b + 1)) b else mo_overHit (xu_i s 1201 b (xq_i s 1201 b + 1)) b
def mo_hitR (s : xq_S) (b : Nat) (who : Int32) : Int32 :=
  if who = 0 then mo_decided (xu_i s 1101 b (xq_i s 1101 b + 1)) b else mo_decided (xu_i s 1201 b (xq_i s 1201 b + 1)) b
/-- the kind that a card is in truth: c is 1102 or 1202 -/
def mo_kind (s : xq_S) (b c : Nat) (kind : Int32) : Int32 := if kind = 0 then (if xq_i s c b ≤ 0 then 0 else 1) else kind
def mo_start (s : xq_S) (b j : Nat) : xq_S := xu_r (mo_bbegin s b (nI j)) 300 j (some b)
/-- a side shows a card (own: 1100 or 1200, other: the other one) -/
def mo_card (s : xq_S) (b own other : Nat) (kind : Int32) : xq_S :=
  let t := mo_kind s b (own + 2) kind
  let s := xu_i s (own + 2) b (mo_max (xq_i s (own + 2) b) (t + 1))
  if t = 1 then mo_overHit (xu_i s (other + 1) b (xq_i s (other + 1) b + 1)) b
  else if t = 2 then (match xq_r s own b with
    | none => s
    | some k => mo_putOut s b k (xq_r s other b)) else s
end XM7
section XC7
variable {Y : xw_Y} {ad : Nat → Nat → Nat} {s : xq_S} {w : xw_W} {post : Option Value → xw_W → Prop}
theorem xq_map9 {a b : Option Nat} (hR : xq_rp Y ad s w) (ha : ∀ k, a = some k → k < s.1) (hb : ∀ k, b = some k → k < s.1) (h : a.map (ad 9) = b.map (ad 9)) : a = b := by
  cases b with
  | none => cases a with
    | none => rfl
    | some k => cases h
  | some k => exact xq_win hR (hb k rfl) ha h
section
variable {tb : List (Nat × xw_T)} {Rt : xw_R} {pc nx : Nat} {lv : xw_L} {r : List Value} {k n : Nat}
/-- a piste's place is set -/
theorem rp_pst {j : Nat} {x : Int32} {v : Option Nat} (hR : xq_rp Y ad s w) (h : xw_lk tb pc = some (tr_aast nx Y.2.2.2.1 [1])) (hx : x = nI j) (hj : j < 3) (hv : ∀ b, v = some b → b < s.2.1) (hk : ∀ w', xq_rp Y ad (xu_r s 300 j v) w' → xw_Run tb Rt nx lv r w' k n) : xw_Run tb Rt pc lv (va_rf (v.map (ad 10)) :: .int x :: .ref (ad 3 0) :: r) w k n := by
  subst hx
  refine rn_aast (u := v.map (ad 10)) h (hR.1 3 0 (xq_v0 (by decide))).1 (hR.1 3 0 (xq_v0 (by decide))).2 (vp_in_nI hj (by omega)) (fun a ha => ?_) ?_
  · cases v with
    | none => cases ha
    | some b =>
      cases ha
      have h10 := hR.1 10 b (xq_v10 (hv b rfl))
      exact ⟨h10.1, _, _, List.mem_singleton.mpr rfl, h10.2⟩
  · rw [nI_clamp (by omega)]
    refine hk _ (xq_rp_r (c := 300) (e := j) hR (xq_v0 (by decide)) rfl (Or.inr (by decide)) (fun b hb => ⟨fun _ => hv b hb, fun q => by omega⟩) ?_)
    refine congrArg Sum.inl (congrArg (Prod.mk _) (congrArg (Prod.mk _) (congrArg xq_rs ?_)))
    funext i
    rw [xq_r_r]
    by_cases hi : i = j
    · subst hi
      simp [va_up]
    · simp [va_up, hi]
end

set_option maxRecDepth 100000 in
set_option maxHeartbeats 4000000 in
theorem sc_goOnT {b : Nat} (hR : xq_rp Y ad s w) (hb : b < s.2.1) (h : ∀ w', xq_rp Y ad (mo_goOnT s b) w' → post none w') : ptX3_goOnInTable Y [.ref (ad 0 0), .ref (ad 10 b)] w post := by
  have hv10 : xq_vl ad s 10 b := xq_v10 hb
  have hv11 : xq_vl ad s 11 b := xq_v11 hb
  have hv12 : xq_vl ad s 12 b := xq_v12 hb
  refine ⟨(by first | exact Nat.le_of_ble_eq_true rfl | simp [lg_sl, xw_cat_rf, xw_cat_i, xw_cat_r, xw_cat_n, xw_cat_l]), ?_⟩
  first | refine rn_ald (lkX3_goOnInTable_0 Y) rfl ?_ | refine rn_aldO (lkX3_goOnInTable_0 Y) rfl ?_ | refine rn_aldN (lkX3_goOnInTable_0 Y) rfl ?_
  refine rp_getf hR (lkX3_goOnInTable_1 Y) (by first | assumption | exact xq_v0 (by decide)) rfl rfl ?_
  first | refine rn_ald (lkX3_goOnInTable_4 Y) rfl ?_ | refine rn_aldO (lkX3_goOnInTable_4 Y) rfl ?_ | refine rn_aldN (lkX3_goOnInTable_4 Y) rfl ?_
  refine rp_getf hR (lkX3_goOnInTable_5 Y) (by first | assumption | exact xq_v0 (by decide)) rfl rfl ?_
  refine rn_i2 (lkX3_goOnInTable_8 Y) ?_
  refine rn_ist (lkX3_goOnInTable_9 Y) rfl ?_
  first | refine rn_ald (lkX3_goOnInTable_10 Y) rfl ?_ | refine rn_aldO (lkX3_goOnInTable_10 Y) rfl ?_ | refine rn_aldN (lkX3_goOnInTable_10 Y) rfl ?_
  refine rp_getf hR (lkX3_goOnInTable_11 Y) (by first | assumption | exact xq_v0 (by decide)) rfl rfl ?_
  first | refine rn_ald (lkX3_goOnInTable_14 Y) rfl ?_ | refine rn_aldO (lkX3_goOnInTable_14 Y) rfl ?_ | refine rn_aldN (lkX3_goOnInTable_14 Y) rfl ?_
  refine rp_getf hR (lkX3_goOnInTable_15 Y) (by first | assumption | exact xq_v0 (by decide)) rfl rfl ?_
  refine rn_push (lkX3_goOnInTable_18 Y) ?_
  refine rn_i2z (lkX3_goOnInTable_19 Y) (by decide) ?_
  refine rn_i2 (lkX3_goOnInTable_20 Y) ?_
  refine rn_ild (lkX3_goOnInTable_21 Y) rfl ?_
  refine rn_push (lkX3_goOnInTable_22 Y) ?_
  refine rn_i2z (lkX3_goOnInTable_23 Y) (by decide) ?_
  refine rn_i2 (lkX3_goOnInTable_24 Y) ?_
  refine rn_ist (lkX3_goOnInTable_25 Y) rfl ?_
  refine rn_ild (lkX3_goOnInTable_26 Y) rfl ?_
  refine rn_push (lkX3_goOnInTable_27 Y) ?_
  first | refine rn_ald (lkX3_goOnInTable_28 Y) rfl ?_ | refine rn_aldO (lkX3_goOnInTable_28 Y) rfl ?_ | refine rn_aldN (lkX3_goOnInTable_28 Y) rfl ?_
  refine rp_getf hR (lkX3_goOnInTable_29 Y) (by first | assumption | exact xq_v0 (by decide)) rfl rfl ?_
  refine rp_callV hR (lkX3_goOnInTable_32 Y) rfl (by first | assumption | exact xq_v0 (by decide)) rfl (Nat.le_of_ble_eq_true rfl) (Nat.le_of_ble_eq_true rfl) (Nat.le_of_ble_eq_true rfl) ?_
  refine sl_sizeB hR ?_
  refine rn_push (lkX3_goOnInTable_35 Y) ?_
  refine rn_i2 (lkX3_goOnInTable_36 Y) ?_
  refine rn_callS (lkX3_goOnInTable_37 Y) (Nat.le_of_ble_eq_true rfl) rfl (Nat.le_of_ble_eq_true rfl) (Nat.le_of_ble_eq_true rfl) (Nat.le_of_ble_eq_true rfl) ?_
  refine sc_isIn ?_
  unfold mo_goOnT at h
  by_cases hc : mo_fol s b < 0 ∨ nI s.2.1 - 1 < mo_fol s b
  · rw [if_pos hc] at h
    have hc2 := hc
    unfold mo_fol at hc2
    rw [if_pos hc2]
    refine rn_ifz (lkX3_goOnInTable_40 Y) (fun _ => ?_) (fun q => absurd (by decide) q)
    refine rn_vret (lkX3_goOnInTable_67 Y) ?_
    exact ⟨h _ hR, Nat.le_refl _, Nat.le_refl _⟩
  · rw [if_neg hc] at h
    have hc2 := hc
    unfold mo_fol at hc2
    rw [if_neg hc2]
    obtain ⟨f, hf, e⟩ := xn_of hc (by have := xq_nb hR; omega)
    have hv11f : xq_vl ad s 11 f := xq_v11 hf
    have hv12f : xq_vl ad s 12 f := xq_v12 hf
    have hv10f : xq_vl ad s 10 f := xq_v10 hf
    rw [e, nI_clamp (by have := xq_nb hR; omega)] at h
    refine rn_ifz (lkX3_goOnInTable_40 Y) (fun q => absurd q (by decide)) (fun _ => ?_)
    first | refine rn_ald (lkX3_goOnInTable_43 Y) rfl ?_ | refine rn_aldO (lkX3_goOnInTable_43 Y) rfl ?_ | refine rn_aldN (lkX3_goOnInTable_43 Y) rfl ?_
    refine rp_getf hR (lkX3_goOnInTable_44 Y) (by first | assumption | exact xq_v0 (by decide)) rfl rfl ?_
    refine rn_ild (lkX3_goOnInTable_47 Y) rfl ?_
    refine rp_callV hR (lkX3_goOnInTable_48 Y) rfl (by first | assumption | exact xq_v0 (by decide)) rfl (Nat.le_of_ble_eq_true rfl) (Nat.le_of_ble_eq_true rfl) (Nat.le_of_ble_eq_true rfl) ?_
    refine sl_getB hR hf e ?_
    refine rp_cast hR (lkX3_goOnInTable_51 Y) (by first | assumption | exact xq_v0 (by decide)) rfl ?_
    refine rn_ild (lkX3_goOnInTable_54 Y) rfl ?_
    refine rn_push (lkX3_goOnInTable_55 Y) ?_
    refine rn_i2z (lkX3_goOnInTable_56 Y) (by decide) ?_
    refine rp_callV hR (lkX3_goOnInTable_57 Y) rfl (by first | assumption | exact xq_v0 (by decide)) rfl (Nat.le_of_ble_eq_true rfl) (Nat.le_of_ble_eq_true rfl) (Nat.le_of_ble_eq_true rfl) ?_
    refine sc_sideOf hR hf ?_
    by_cases hp : mo_par s b = 0
    · rw [if_pos hp] at h
      have hp2 := hp
      unfold mo_par at hp2
      rw [if_pos hp2]
      first | refine rn_ald (lkX3_goOnInTable_60 Y) rfl ?_ | refine rn_aldO (lkX3_goOnInTable_60 Y) rfl ?_ | refine rn_aldN (lkX3_goOnInTable_60 Y) rfl ?_
      refine rp_getf hR (lkX3_goOnInTable_61 Y) (by first | assumption | exact xq_v0 (by decide)) rfl rfl ?_
      refine rp_putr (c := 1100) (v := xq_r s 1005 b) hR (lkX3_goOnInTable_64 Y) (by assumption) rfl (Nat.le_of_ble_eq_true rfl) (xw_fit_o _ _) rfl (fun k hk => ⟨fun q => by omega, fun _ => hR.2.2.1.2.1 b k hb hk⟩) (by simp [xq_en, xq_i_r, xq_r_r]) (fun w hR => ?_)
      refine rn_vret (lkX3_goOnInTable_67 Y) ?_
      exact ⟨h _ hR, Nat.le_refl _, Nat.le_refl _⟩
    · rw [if_neg hp] at h
      have hp2 := hp
      unfold mo_par at hp2
      rw [if_neg hp2]
      first | refine rn_ald (lkX3_goOnInTable_60 Y) rfl ?_ | refine rn_aldO (lkX3_goOnInTable_60 Y) rfl ?_ | refine rn_aldN (lkX3_goOnInTable_60 Y) rfl ?_
      refine rp_getf hR (lkX3_goOnInTable_61 Y) (by first | assumption | exact xq_v0 (by decide)) rfl rfl ?_
      refine rp_putr (c := 1200) (v := xq_r s 1005 b) hR (lkX3_goOnInTable_64 Y) (by assumption) rfl (Nat.le_of_ble_eq_true rfl) (xw_fit_o _ _) rfl (fun k hk => ⟨fun q => by omega, fun _ => hR.2.2.1.2.1 b k hb hk⟩) (by simp [xq_en, xq_i_r, xq_r_r]) (fun w hR => ?_)
      refine rn_vret (lkX3_goOnInTable_67 Y) ?_
      exact ⟨h _ hR, Nat.le_refl _, Nat.le_refl _⟩

set_option maxRecDepth 100000 in
set_option maxHeartbeats 4000000 in
theorem sc_decide {o : Option Nat} {b : Nat} (hR : xq_rp Y ad s w) (hb : b < s.2.1) (ho : ∀ k, o = some k → k < s.1) (h : ∀ w', xq_rp Y ad (mo_decide s b o) w' → post none w') : ptX3_decide Y [.ref (ad 0 0), .ref (ad 10 b), va_rf (o.map (ad 9))] w post := by
  have hv10 : xq_vl ad s 10 b := xq_v10 hb
  have hv11 : xq_vl ad s 11 b := xq_v11 hb
  have hv12 : xq_vl ad s 12 b := xq_v12 hb
  refine ⟨(by first | exact Nat.le_of_ble_eq_true rfl | simp [lg_sl, xw_cat_rf, xw_cat_i, xw_cat_r, xw_cat_n, xw_cat_l]), ?_⟩
  rw [show lv_args 0 [.ref (ad 0 0), .ref (ad 10 b), va_rf (o.map (ad 9))] = [(0, .ref (ad 0 0)), (1, .ref (ad 10 b)), (2, va_rf (o.map (ad 9)))] from by simp [lv_args, xw_cat_rf, xw_cat_i, xw_cat_r, xw_cat_n, xw_cat_l]]
  first | refine rn_ald (lkX3_decide_0 Y) rfl ?_ | refine rn_aldO (lkX3_decide_0 Y) rfl ?_ | refine rn_aldN (lkX3_decide_0 Y) rfl ?_
  refine rn_push (lkX3_decide_1 Y) ?_
  refine rp_puti (c := 1004) hR (lkX3_decide_2 Y) (by first | assumption | exact xq_v0 (by decide)) rfl (Nat.le_of_ble_eq_true rfl) (xw_fit_i _) rfl (fun q => absurd q (by decide)) (by simp [xq_en, xq_i_i, xq_r_i]) (fun w hR => ?_)
  first | refine rn_ald (lkX3_decide_5 Y) rfl ?_ | refine rn_aldO (lkX3_decide_5 Y) rfl ?_ | refine rn_aldN (lkX3_decide_5 Y) rfl ?_
  first | refine rn_ald (lkX3_decide_6 Y) rfl ?_ | refine rn_aldO (lkX3_decide_6 Y) rfl ?_ | refine rn_aldN (lkX3_decide_6 Y) rfl ?_
  refine rp_putr (c := 1005) (v := o) hR (lkX3_decide_7 Y) (by first | assumption | exact xq_v0 (by decide)) rfl (Nat.le_of_ble_eq_true rfl) (xw_fit_o _ _) rfl (fun k hk => ⟨fun q => by omega, fun _ => ho k hk⟩) (by simp [xq_en, xq_i_r, xq_r_r]) (fun w hR => ?_)
  unfold mo_decide at h
  dsimp only at h
  have ho2 : ∀ k, o = some k → k < (xu_r (xu_i s 1004 b 2) 1005 b o).1 := ho
  have hb2 : b < (xu_r (xu_i s 1004 b 2) 1005 b o).2.1 := hb
  generalize xu_r (xu_i s 1004 b 2) 1005 b o = s2 at hR h ho2 hb2
  have hv10 : xq_vl ad s2 10 b := xq_v10 hb2
  have hv11 : xq_vl ad s2 11 b := xq_v11 hb2
  have hv12 : xq_vl ad s2 12 b := xq_v12 hb2
  have hv0 : xq_vl ad s2 0 0 := xq_v0 (by decide)
  first | refine rn_ald (lkX3_decide_10 Y) rfl ?_ | refine rn_aldO (lkX3_decide_10 Y) rfl ?_ | refine rn_aldN (lkX3_decide_10 Y) rfl ?_
  refine rp_callV hR (lkX3_decide_11 Y) rfl (by first | assumption | exact xq_v0 (by decide)) rfl (Nat.le_of_ble_eq_true rfl) (Nat.le_of_ble_eq_true rfl) (Nat.le_of_ble_eq_true rfl) ?_
  refine sc_isOfTable hR hb2 ?_
  by_cases hq : xq_i s2 1001 b = -1
  · rw [if_pos hq] at h ⊢
    refine rn_ifz (lkX3_decide_14 Y) (fun q => absurd q (by decide)) (fun _ => ?_)
    first | refine rn_ald (lkX3_decide_17 Y) rfl ?_ | refine rn_aldO (lkX3_decide_17 Y) rfl ?_ | refine rn_aldN (lkX3_decide_17 Y) rfl ?_
    first | refine rn_ald (lkX3_decide_18 Y) rfl ?_ | refine rn_aldO (lkX3_decide_18 Y) rfl ?_ | refine rn_aldN (lkX3_decide_18 Y) rfl ?_
    first | refine rn_ald (lkX3_decide_19 Y) rfl ?_ | refine rn_aldO (lkX3_decide_19 Y) rfl ?_ | refine rn_aldN (lkX3_decide_19 Y) rfl ?_
    refine rp_getf hR (lkX3_decide_20 Y) (by first | assumption | exact xq_v0 (by decide)) rfl rfl ?_
    refine rp_getf hR (lkX3_decide_23 Y) (by first | assumption | exact xq_v0 (by decide)) rfl rfl ?_
    first | refine rn_ald (lkX3_decide_26 Y) rfl ?_ | refine rn_aldO (lkX3_decide_26 Y) rfl ?_ | refine rn_aldN (lkX3_decide_26 Y) rfl ?_
    refine rp_getf hR (lkX3_decide_27 Y) (by first | assumption | exact xq_v0 (by decide)) rfl rfl ?_
    refine rp_getf hR (lkX3_decide_30 Y) (by first | assumption | exact xq_v0 (by decide)) rfl rfl ?_
    refine rn_push (lkX3_decide_33 Y) ?_
    refine rp_callV hR (lkX3_decide_34 Y) rfl (by first | assumption | exact xq_v0 (by decide)) rfl (Nat.le_of_ble_eq_true rfl) (Nat.le_of_ble_eq_true rfl) (Nat.le_of_ble_eq_true rfl) ?_
    refine sc_bcount hR hb2 ho2 (fun w hR => ?_)
    refine rn_vret (lkX3_decide_37 Y) ?_
    exact ⟨h _ hR, Nat.le_refl _, Nat.le_refl _⟩
  · rw [if_neg hq] at h ⊢
    refine rn_ifz (lkX3_decide_14 Y) (fun _ => ?_) (fun q => absurd (by decide) q)
    first | refine rn_ald (lkX3_decide_38 Y) rfl ?_ | refine rn_aldO (lkX3_decide_38 Y) rfl ?_ | refine rn_aldN (lkX3_decide_38 Y) rfl ?_
    refine rp_getf hR (lkX3_decide_39 Y) (by first | assumption | exact xq_v0 (by decide)) rfl rfl ?_
    refine rp_getf hR (lkX3_decide_42 Y) (by first | assumption | exact xq_v0 (by decide)) rfl rfl ?_
    first | refine rn_ald (lkX3_decide_45 Y) rfl ?_ | refine rn_aldO (lkX3_decide_45 Y) rfl ?_ | refine rn_aldN (lkX3_decide_45 Y) rfl ?_
    refine rn_ifa (lkX3_decide_46 Y) (fun c_46 => ?_) (fun c_46 => ?_)
    · have e : xq_r s2 1100 b = o := xq_map9 hR (fun k hk => hR.2.2.1.2.2.1 b k hb2 hk) ho2 c_46
      rw [if_pos e] at h
      first | refine rn_ald (lkX3_decide_49 Y) rfl ?_ | refine rn_aldO (lkX3_decide_49 Y) rfl ?_ | refine rn_aldN (lkX3_decide_49 Y) rfl ?_
      refine rp_getf hR (lkX3_decide_50 Y) (by first | assumption | exact xq_v0 (by decide)) rfl rfl ?_
      refine rp_getf hR (lkX3_decide_53 Y) (by first | assumption | exact xq_v0 (by decide)) rfl rfl ?_
      refine rn_goto (lkX3_decide_56 Y) ?_
      rcases hL : xq_r s2 1200 b with _ | k
      · rw [hL] at h
        rw [xq_rfN]
        unfold mo_lose at h
        dsimp only at h
        first | refine rn_ast (lkX3_decide_66 Y) rfl ?_ | refine rn_astO (lkX3_decide_66 Y) rfl ?_ | refine rn_astN (lkX3_decide_66 Y) rfl ?_
        first | refine rn_ald (lkX3_decide_67 Y) rfl ?_ | refine rn_aldO (lkX3_decide_67 Y) rfl ?_ | refine rn_aldN (lkX3_decide_67 Y) rfl ?_
        refine rn_ifnN (lkX3_decide_68 Y) ?_
        first | refine rn_ald (lkX3_decide_79 Y) rfl ?_ | refine rn_aldO (lkX3_decide_79 Y) rfl ?_ | refine rn_aldN (lkX3_decide_79 Y) rfl ?_
        first | refine rn_ald (lkX3_decide_80 Y) rfl ?_ | refine rn_aldO (lkX3_decide_80 Y) rfl ?_ | refine rn_aldN (lkX3_decide_80 Y) rfl ?_
        refine rp_callV hR (lkX3_decide_81 Y) rfl (by first | assumption | exact xq_v0 (by decide)) rfl (Nat.le_of_ble_eq_true rfl) (Nat.le_of_ble_eq_true rfl) (Nat.le_of_ble_eq_true rfl) ?_
        refine sc_goOnT hR hb2 (fun w hR => ?_)
        refine rn_vret (lkX3_decide_84 Y) ?_
        exact ⟨h _ hR, Nat.le_refl _, Nat.le_refl _⟩
      · rw [hL] at h
        rw [xq_rfS]
        unfold mo_lose at h
        dsimp only at h
        have hv9 : xq_vl ad s2 9 k := xq_v9 (hR.2.2.1.2.2.2.1 b k hb2 hL)
        first | refine rn_ast (lkX3_decide_66 Y) rfl ?_ | refine rn_astO (lkX3_decide_66 Y) rfl ?_ | refine rn_astN (lkX3_decide_66 Y) rfl ?_
        first | refine rn_ald (lkX3_decide_67 Y) rfl ?_ | refine rn_aldO (lkX3_decide_67 Y) rfl ?_ | refine rn_aldN (lkX3_decide_67 Y) rfl ?_
        refine rn_ifnR (lkX3_decide_68 Y) ?_
        first | refine rn_ald (lkX3_decide_71 Y) rfl ?_ | refine rn_aldO (lkX3_decide_71 Y) rfl ?_ | refine rn_aldN (lkX3_decide_71 Y) rfl ?_
        first | refine rn_ald (lkX3_decide_72 Y) rfl ?_ | refine rn_aldO (lkX3_decide_72 Y) rfl ?_ | refine rn_aldN (lkX3_decide_72 Y) rfl ?_
        refine rp_getf hR (lkX3_decide_73 Y) (by first | assumption | exact xq_v0 (by decide)) rfl rfl ?_
        refine rp_puti (c := 913) hR (lkX3_decide_76 Y) (by first | assumption | exact xq_v0 (by decide)) rfl (Nat.le_of_ble_eq_true rfl) (xw_fit_i _) rfl (fun q => absurd q (by decide)) (by simp [xq_en, xq_i_i, xq_r_i]) (fun w hR => ?_)
        first | refine rn_ald (lkX3_decide_79 Y) rfl ?_ | refine rn_aldO (lkX3_decide_79 Y) rfl ?_ | refine rn_aldN (lkX3_decide_79 Y) rfl ?_
        first | refine rn_ald (lkX3_decide_80 Y) rfl ?_ | refine rn_aldO (lkX3_decide_80 Y) rfl ?_ | refine rn_aldN (lkX3_decide_80 Y) rfl ?_
        refine rp_callV hR (lkX3_decide_81 Y) rfl (by first | assumption | exact xq_v0 (by decide)) rfl (Nat.le_of_ble_eq_true rfl) (Nat.le_of_ble_eq_true rfl) (Nat.le_of_ble_eq_true rfl) ?_
        refine sc_goOnT hR hb2 (fun w hR => ?_)
        refine rn_vret (lkX3_decide_84 Y) ?_
        exact ⟨h _ hR, Nat.le_refl _, Nat.le_refl _⟩
    · have e : ¬ xq_r s2 1100 b = o := fun z => c_46 (by rw [z])
      rw [if_neg e] at h
      first | refine rn_ald (lkX3_decide_59 Y) rfl ?_ | refine rn_aldO (lkX3_decide_59 Y) rfl ?_ | refine rn_aldN (lkX3_decide_59 Y) rfl ?_
      refine rp_getf hR (lkX3_decide_60 Y) (by first | assumption | exact xq_v0 (by decide)) rfl rfl ?_
      refine rp_getf hR (lkX3_decide_63 Y) (by first | assumption | exact xq_v0 (by decide)) rfl rfl ?_
      rcases hL : xq_r s2 1100 b with _ | k
      · rw [hL] at h
        rw [xq_rfN]
        unfold mo_lose at h
        dsimp only at h
        first | refine rn_ast (lkX3_decide_66 Y) rfl ?_ | refine rn_astO (lkX3_decide_66 Y) rfl ?_ | refine rn_astN (lkX3_decide_66 Y) rfl ?_
        first | refine rn_ald (lkX3_decide_67 Y) rfl ?_ | refine rn_aldO (lkX3_decide_67 Y) rfl ?_ | refine rn_aldN (lkX3_decide_67 Y) rfl ?_
        refine rn_ifnN (lkX3_decide_68 Y) ?_
        first | refine rn_ald (lkX3_decide_79 Y) rfl ?_ | refine rn_aldO (lkX3_decide_79 Y) rfl ?_ | refine rn_aldN (lkX3_decide_79 Y) rfl ?_
        first | refine rn_ald (lkX3_decide_80 Y) rfl ?_ | refine rn_aldO (lkX3_decide_80 Y) rfl ?_ | refine rn_aldN (lkX3_decide_80 Y) rfl ?_
        refine rp_callV hR (lkX3_decide_81 Y) rfl (by first | assumption | exact xq_v0 (by decide)) rfl (Nat.le_of_ble_eq_true rfl) (Nat.le_of_ble_eq_true rfl) (Nat.le_of_ble_eq_true rfl) ?_
        refine sc_goOnT hR hb2 (fun w hR => ?_)
        refine rn_vret (lkX3_decide_84 Y) ?_
        exact ⟨h _ hR, Nat.le_refl _, Nat.le_refl _⟩
      · rw [hL] at h
        rw [xq_rfS]
        unfold mo_lose at h
        dsimp only at h
        have hv9 : xq_vl ad s2 9 k := xq_v9 (hR.2.2.1.2.2.1 b k hb2 hL)
        first | refine rn_ast (lkX3_decide_66 Y) rfl ?_ | refine rn_astO (lkX3_decide_66 Y) rfl ?_ | refine rn_astN (lkX3_decide_66 Y) rfl ?_
        first | refine rn_ald (lkX3_decide_67 Y) rfl ?_ | refine rn_aldO (lkX3_decide_67 Y) rfl ?_ | refine rn_aldN (lkX3_decide_67 Y) rfl ?_
        refine rn_ifnR (lkX3_decide_68 Y) ?_
        first | refine rn_ald (lkX3_decide_71 Y) rfl ?_ | refine rn_aldO (lkX3_decide_71 Y) rfl ?_ | refine rn_aldN (lkX3_decide_71 Y) rfl ?_
        first | refine rn_ald (lkX3_decide_72 Y) rfl ?_ | refine rn_aldO (lkX3_decide_72 Y) rfl ?_ | refine rn_aldN (lkX3_decide_72 Y) rfl ?_
        refine rp_getf hR (lkX3_decide_73 Y) (by first | assumption | exact xq_v0 (by decide)) rfl rfl ?_
        refine rp_puti (c := 913) hR (lkX3_decide_76 Y) (by first | assumption | exact xq_v0 (by decide)) rfl (Nat.le_of_ble_eq_true rfl) (xw_fit_i _) rfl (fun q => absurd q (by decide)) (by simp [xq_en, xq_i_i, xq_r_i]) (fun w hR => ?_)
        first | refine rn_ald (lkX3_decide_79 Y) rfl ?_ | refine rn_aldO (lkX3_decide_79 Y) rfl ?_ | refine rn_aldN (lkX3_decide_79 Y) rfl ?_
        first | refine rn_ald (lkX3_decide_80 Y) rfl ?_ | refine rn_aldO (lkX3_decide_80 Y) rfl ?_ | refine rn_aldN (lkX3_decide_80 Y) rfl ?_
        refine rp_callV hR (lkX3_decide_81 Y) rfl (by first | assumption | exact xq_v0 (by decide)) rfl (Nat.le_of_ble_eq_true rfl) (Nat.le_of_ble_eq_true rfl) (Nat.le_of_ble_eq_true rfl) ?_
        refine sc_goOnT hR hb2 (fun w hR => ?_)
        refine rn_vret (lkX3_decide_84 Y) ?_
        exact ⟨h _ hR, Nat.le_refl _, Nat.le_refl _⟩

theorem mo_bend_1 (s : xq_S) (b : Nat) (t : Int32) : (mo_bend s b t).1 = s.1 := by
  unfold mo_bend
  rw [mo_send_1, mo_send_1]
  rfl
theorem mo_bend_2 (s : xq_S) (b : Nat) (t : Int32) : (mo_bend s b t).2.1 = s.2.1 := by
  unfold mo_bend
  rw [mo_send_2, mo_send_2]
  rfl
theorem mo_leave_1 (s : xq_S) (b : Nat) (t : Int32) : (mo_leave s b t).1 = s.1 := by
  unfold mo_leave
  split <;> rw [mo_bend_1] <;> rfl
theorem mo_leave_2 (s : xq_S) (b : Nat) (t : Int32) : (mo_leave s b t).2.1 = s.2.1 := by
  unfold mo_leave
  split <;> rw [mo_bend_2] <;> rfl
theorem mo_bcount_1 (s : xq_S) (b : Nat) (o : Option Nat) (x y z : Int32) : (mo_bcount s b o x y z).1 = s.1 := by
  unfold mo_bcount
  rw [mo_scount_1, mo_scount_1]
theorem mo_bcount_2 (s : xq_S) (b : Nat) (o : Option Nat) (x y z : Int32) : (mo_bcount s b o x y z).2.1 = s.2.1 := by
  unfold mo_bcount
  rw [mo_scount_2, mo_scount_2]
theorem mo_void_1 (s : xq_S) (b : Nat) : (mo_void s b).1 = s.1 := by
  unfold mo_void
  rw [xu_r_1, xu_i_1]
  split
  · rw [mo_bcount_1]
  · rfl
theorem mo_void_2 (s : xq_S) (b : Nat) : (mo_void s b).2.1 = s.2.1 := by
  unfold mo_void
  rw [xu_r_2, xu_i_2]
  split
  · rw [mo_bcount_2]
  · rfl
theorem mo_voids_1 (s : xq_S) (k : Nat) : ∀ n, (mo_voids s k n).1 = s.1
  | 0 => rfl
  | n + 1 => by
    rw [mo_voids]
    split
    · rw [mo_void_1, mo_voids_1 s k n]
    · exact mo_voids_1 s k n
theorem mo_voids_2 (s : xq_S) (k : Nat) : ∀ n, (mo_voids s k n).2.1 = s.2.1
  | 0 => rfl
  | n + 1 => by
    rw [mo_voids]
    split
    · rw [mo_void_2, mo_voids_2 s k n]
    · exact mo_voids_2 s k n

set_option maxRecDepth 100000 in
set_option maxHeartbeats 4000000 in
theorem sc_leave {t : Int32} {b : Nat} (hR : xq_rp Y ad s w) (hb : b < s.2.1) (h : ∀ w', xq_rp Y ad (mo_leave s b t) w' → post none w') : ptX3_leavePiste Y [.ref (ad 0 0), .ref (ad 10 b), .int t] w post := by
  have hv10 : xq_vl ad s 10 b := xq_v10 hb
  have hv11 : xq_vl ad s 11 b := xq_v11 hb
  have hv12 : xq_vl ad s 12 b := xq_v12 hb
  refine ⟨(by first | exact Nat.le_of_ble_eq_true rfl | simp [lg_sl, xw_cat_rf, xw_cat_i, xw_cat_r, xw_cat_n, xw_cat_l]), ?_⟩
  first | refine rn_ald (lkX3_leavePiste_0 Y) rfl ?_ | refine rn_aldO (lkX3_leavePiste_0 Y) rfl ?_ | refine rn_aldN (lkX3_leavePiste_0 Y) rfl ?_
  refine rp_getf hR (lkX3_leavePiste_1 Y) (by first | assumption | exact xq_v0 (by decide)) rfl rfl ?_
  refine rn_callS (lkX3_leavePiste_4 Y) (Nat.le_of_ble_eq_true rfl) rfl (Nat.le_of_ble_eq_true rfl) (Nat.le_of_ble_eq_true rfl) (Nat.le_of_ble_eq_true rfl) ?_
  refine sc_isPiste ?_
  unfold mo_leave at h
  by_cases hc : xq_i s 1006 b < 0 ∨ 2 < xq_i s 1006 b
  · rw [if_pos hc] at h ⊢
    refine rn_ifz (lkX3_leavePiste_7 Y) (fun _ => ?_) (fun q => absurd (by decide) q)
    first | refine rn_ald (lkX3_leavePiste_20 Y) rfl ?_ | refine rn_aldO (lkX3_leavePiste_20 Y) rfl ?_ | refine rn_aldN (lkX3_leavePiste_20 Y) rfl ?_
    refine rn_ild (lkX3_leavePiste_21 Y) rfl ?_
    refine rp_callV hR (lkX3_leavePiste_22 Y) rfl (by first | assumption | exact xq_v0 (by decide)) rfl (Nat.le_of_ble_eq_true rfl) (Nat.le_of_ble_eq_true rfl) (Nat.le_of_ble_eq_true rfl) ?_
    refine sc_bend hR hb (fun w hR => ?_)
    refine rn_vret (lkX3_leavePiste_25 Y) ?_
    exact ⟨h _ hR, Nat.le_refl _, Nat.le_refl _⟩
  · rw [if_neg hc] at h ⊢
    obtain ⟨j, hj, e⟩ := nI_of2 (M := 2) (n := 2) (by decide) (fun z => hc (Or.inl z)) (Int32.not_lt.mp (fun z => hc (Or.inr z)))
    rw [e, nI_clamp (by omega)] at h
    refine rn_ifz (lkX3_leavePiste_7 Y) (fun q => absurd q (by decide)) (fun _ => ?_)
    first | refine rn_ald (lkX3_leavePiste_10 Y) rfl ?_ | refine rn_aldO (lkX3_leavePiste_10 Y) rfl ?_ | refine rn_aldN (lkX3_leavePiste_10 Y) rfl ?_
    refine rp_getf hR (lkX3_leavePiste_11 Y) (by first | assumption | exact xq_v0 (by decide)) rfl rfl ?_
    first | refine rn_ald (lkX3_leavePiste_14 Y) rfl ?_ | refine rn_aldO (lkX3_leavePiste_14 Y) rfl ?_ | refine rn_aldN (lkX3_leavePiste_14 Y) rfl ?_
    refine rp_getf hR (lkX3_leavePiste_15 Y) (by first | assumption | exact xq_v0 (by decide)) rfl rfl ?_
    refine rn_push (lkX3_leavePiste_18 Y) ?_
    refine rp_pst (v := none) hR (lkX3_leavePiste_19 Y) e (by omega) (fun b hb => by cases hb) (fun w hR => ?_)
    first | refine rn_ald (lkX3_leavePiste_20 Y) rfl ?_ | refine rn_aldO (lkX3_leavePiste_20 Y) rfl ?_ | refine rn_aldN (lkX3_leavePiste_20 Y) rfl ?_
    refine rn_ild (lkX3_leavePiste_21 Y) rfl ?_
    refine rp_callV hR (lkX3_leavePiste_22 Y) rfl (by first | assumption | exact xq_v0 (by decide)) rfl (Nat.le_of_ble_eq_true rfl) (Nat.le_of_ble_eq_true rfl) (Nat.le_of_ble_eq_true rfl) ?_
    refine sc_bend hR hb (fun w hR => ?_)
    refine rn_vret (lkX3_leavePiste_25 Y) ?_
    exact ⟨h _ hR, Nat.le_refl _, Nat.le_refl _⟩

set_option maxRecDepth 100000 in
set_option maxHeartbeats 4000000 in
theorem sc_finish {o : Option Nat} {t : Int32} {b : Nat} (hR : xq_rp Y ad s w) (hb : b < s.2.1) (ho : ∀ k, o = some k → k < s.1) (h : ∀ w', xq_rp Y ad (mo_finish s b o t) w' → post none w') : ptX3_finish Y [.ref (ad 0 0), .ref (ad 10 b), va_rf (o.map (ad 9)), .int t] w post := by
  have hv10 : xq_vl ad s 10 b := xq_v10 hb
  have hv11 : xq_vl ad s 11 b := xq_v11 hb
  have hv12 : xq_vl ad s 12 b := xq_v12 hb
  refine ⟨(by first | exact Nat.le_of_ble_eq_true rfl | simp [lg_sl, xw_cat_rf, xw_cat_i, xw_cat_r, xw_cat_n, xw_cat_l]), ?_⟩
  rw [show lv_args 0 [.ref (ad 0 0), .ref (ad 10 b), va_rf (o.map (ad 9)), .int t] = [(0, .ref (ad 0 0)), (1, .ref (ad 10 b)), (2, va_rf (o.map (ad 9))), (3, .int t)] from by simp [lv_args, xw_cat_rf, xw_cat_i, xw_cat_r, xw_cat_n, xw_cat_l]]
  first | refine rn_ald (lkX3_finish_0 Y) rfl ?_ | refine rn_aldO (lkX3_finish_0 Y) rfl ?_ | refine rn_aldN (lkX3_finish_0 Y) rfl ?_
  first | refine rn_ald (lkX3_finish_1 Y) rfl ?_ | refine rn_aldO (lkX3_finish_1 Y) rfl ?_ | refine rn_aldN (lkX3_finish_1 Y) rfl ?_
  refine rn_ild (lkX3_finish_2 Y) rfl ?_
  refine rp_callV hR (lkX3_finish_3 Y) rfl (by first | assumption | exact xq_v0 (by decide)) rfl (Nat.le_of_ble_eq_true rfl) (Nat.le_of_ble_eq_true rfl) (Nat.le_of_ble_eq_true rfl) ?_
  refine sc_leave hR hb (fun w hR => ?_)
  first | refine rn_ald (lkX3_finish_6 Y) rfl ?_ | refine rn_aldO (lkX3_finish_6 Y) rfl ?_ | refine rn_aldN (lkX3_finish_6 Y) rfl ?_
  first | refine rn_ald (lkX3_finish_7 Y) rfl ?_ | refine rn_aldO (lkX3_finish_7 Y) rfl ?_ | refine rn_aldN (lkX3_finish_7 Y) rfl ?_
  first | refine rn_ald (lkX3_finish_8 Y) rfl ?_ | refine rn_aldO (lkX3_finish_8 Y) rfl ?_ | refine rn_aldN (lkX3_finish_8 Y) rfl ?_
  refine rp_callV hR (lkX3_finish_9 Y) rfl (by first | assumption | exact xq_v0 (by decide)) rfl (Nat.le_of_ble_eq_true rfl) (Nat.le_of_ble_eq_true rfl) (Nat.le_of_ble_eq_true rfl) ?_
  refine sc_decide hR (by rw [mo_leave_2]; exact hb) (fun k hk => by rw [mo_leave_1]; exact ho k hk) (fun w hR => ?_)
  refine rn_vret (lkX3_finish_12 Y) ?_
  exact ⟨h _ hR, Nat.le_refl _, Nat.le_refl _⟩

set_option maxRecDepth 100000 in
set_option maxHeartbeats 4000000 in
theorem sc_void {b : Nat} (hR : xq_rp Y ad s w) (hb : b < s.2.1) (h : ∀ w', xq_rp Y ad (mo_void s b) w' → post none w') : ptX3_makeVoid Y [.ref (ad 0 0), .ref (ad 10 b)] w post := by
  have hv10 : xq_vl ad s 10 b := xq_v10 hb
  have hv11 : xq_vl ad s 11 b := xq_v11 hb
  have hv12 : xq_vl ad s 12 b := xq_v12 hb
  refine ⟨(by first | exact Nat.le_of_ble_eq_true rfl | simp [lg_sl, xw_cat_rf, xw_cat_i, xw_cat_r, xw_cat_n, xw_cat_l]), ?_⟩
  first | refine rn_ald (lkX3_makeVoid_0 Y) rfl ?_ | refine rn_aldO (lkX3_makeVoid_0 Y) rfl ?_ | refine rn_aldN (lkX3_makeVoid_0 Y) rfl ?_
  refine rp_getf hR (lkX3_makeVoid_1 Y) (by first | assumption | exact xq_v0 (by decide)) rfl rfl ?_
  refine rn_push (lkX3_makeVoid_4 Y) ?_
  unfold mo_void at h
  by_cases hq : xq_i s 1004 b = 2
  · rw [if_pos hq] at h
    refine rn_ifc (lkX3_makeVoid_5 Y) (fun q => absurd q (fun z => z hq)) (fun _ => ?_)
    first | refine rn_ald (lkX3_makeVoid_8 Y) rfl ?_ | refine rn_aldO (lkX3_makeVoid_8 Y) rfl ?_ | refine rn_aldN (lkX3_makeVoid_8 Y) rfl ?_
    first | refine rn_ald (lkX3_makeVoid_9 Y) rfl ?_ | refine rn_aldO (lkX3_makeVoid_9 Y) rfl ?_ | refine rn_aldN (lkX3_makeVoid_9 Y) rfl ?_
    refine rp_getf hR (lkX3_makeVoid_10 Y) (by first | assumption | exact xq_v0 (by decide)) rfl rfl ?_
    first | refine rn_ald (lkX3_makeVoid_13 Y) rfl ?_ | refine rn_aldO (lkX3_makeVoid_13 Y) rfl ?_ | refine rn_aldN (lkX3_makeVoid_13 Y) rfl ?_
    refine rp_getf hR (lkX3_makeVoid_14 Y) (by first | assumption | exact xq_v0 (by decide)) rfl rfl ?_
    refine rp_getf hR (lkX3_makeVoid_17 Y) (by first | assumption | exact xq_v0 (by decide)) rfl rfl ?_
    first | refine rn_ald (lkX3_makeVoid_20 Y) rfl ?_ | refine rn_aldO (lkX3_makeVoid_20 Y) rfl ?_ | refine rn_aldN (lkX3_makeVoid_20 Y) rfl ?_
    refine rp_getf hR (lkX3_makeVoid_21 Y) (by first | assumption | exact xq_v0 (by decide)) rfl rfl ?_
    refine rp_getf hR (lkX3_makeVoid_24 Y) (by first | assumption | exact xq_v0 (by decide)) rfl rfl ?_
    refine rn_push (lkX3_makeVoid_27 Y) ?_
    refine rp_callV hR (lkX3_makeVoid_28 Y) rfl (by first | assumption | exact xq_v0 (by decide)) rfl (Nat.le_of_ble_eq_true rfl) (Nat.le_of_ble_eq_true rfl) (Nat.le_of_ble_eq_true rfl) ?_
    refine sc_bcount hR hb (fun k hk => hR.2.2.1.2.1 b k hb hk) (fun w hR => ?_)
    have hb2 : b < (mo_bcount s b (xq_r s 1005 b) (xq_i s 1101 b) (xq_i s 1201 b) (-1)).2.1 := by rw [mo_bcount_2]; exact hb
    have hv10' : xq_vl ad (mo_bcount s b (xq_r s 1005 b) (xq_i s 1101 b) (xq_i s 1201 b) (-1)) 10 b := xq_v10 hb2
    first | refine rn_ald (lkX3_makeVoid_31 Y) rfl ?_ | refine rn_aldO (lkX3_makeVoid_31 Y) rfl ?_ | refine rn_aldN (lkX3_makeVoid_31 Y) rfl ?_
    refine rn_push (lkX3_makeVoid_32 Y) ?_
    refine rp_puti (c := 1004) hR (lkX3_makeVoid_33 Y) (by assumption) rfl (Nat.le_of_ble_eq_true rfl) (xw_fit_i _) rfl (fun q => absurd q (by decide)) (by simp [xq_en, xq_i_i, xq_r_i]) (fun w hR => ?_)
    first | refine rn_ald (lkX3_makeVoid_36 Y) rfl ?_ | refine rn_aldO (lkX3_makeVoid_36 Y) rfl ?_ | refine rn_aldN (lkX3_makeVoid_36 Y) rfl ?_
    refine rn_push (lkX3_makeVoid_37 Y) ?_
    refine rp_putr (c := 1005) (v := none) hR (lkX3_makeVoid_38 Y) (by assumption) rfl (Nat.le_of_ble_eq_true rfl) (xw_fit_o _ none) rfl (fun k hk => by cases hk) (by simp [xq_en, xq_i_r, xq_r_r, va_rf]) (fun w hR => ?_)
    refine rn_vret (lkX3_makeVoid_41 Y) ?_
    exact ⟨h _ hR, Nat.le_refl _, Nat.le_refl _⟩
  · rw [if_neg hq] at h
    refine rn_ifc (lkX3_makeVoid_5 Y) (fun _ => ?_) (fun q => absurd hq q)
    first | refine rn_ald (lkX3_makeVoid_31 Y) rfl ?_ | refine rn_aldO (lkX3_makeVoid_31 Y) rfl ?_ | refine rn_aldN (lkX3_makeVoid_31 Y) rfl ?_
    refine rn_push (lkX3_makeVoid_32 Y) ?_
    refine rp_puti (c := 1004) hR (lkX3_makeVoid_33 Y) (by assumption) rfl (Nat.le_of_ble_eq_true rfl) (xw_fit_i _) rfl (fun q => absurd q (by decide)) (by simp [xq_en, xq_i_i, xq_r_i]) (fun w hR => ?_)
    first | refine rn_ald (lkX3_makeVoid_36 Y) rfl ?_ | refine rn_aldO (lkX3_makeVoid_36 Y) rfl ?_ | refine rn_aldN (lkX3_makeVoid_36 Y) rfl ?_
    refine rn_push (lkX3_makeVoid_37 Y) ?_
    refine rp_putr (c := 1005) (v := none) hR (lkX3_makeVoid_38 Y) (by assumption) rfl (Nat.le_of_ble_eq_true rfl) (xw_fit_o _ none) rfl (fun k hk => by cases hk) (by simp [xq_en, xq_i_r, xq_r_r, va_rf]) (fun w hR => ?_)
    refine rn_vret (lkX3_makeVoid_41 Y) ?_
    exact ⟨h _ hR, Nat.le_refl _, Nat.le_refl _⟩

end XC7
