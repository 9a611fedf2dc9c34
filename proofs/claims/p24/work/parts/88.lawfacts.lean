/-! THE LAW: what a turn does, in short -/
section XL8
variable {Y : xw_Y} {ad : Nat → Nat → Nat} {np T : Nat} {s : xq_S} {w w0 : xw_W} {post : Option Value → xw_W → Prop}
theorem pu_fd0 {p : Nat → Bool} : ∀ {n : Nat}, xq_fd p n = none → ∀ i, i < n → p i = false
  | 0, _, i, hi => absurd hi (by omega)
  | n + 1, h, i, hi => by
    rw [xq_fd] at h
    cases h5 : xq_fd p n with
    | some j => rw [h5] at h; cases h
    | none =>
      rw [h5] at h
      by_cases e : i = n
      · subst e
        cases hp : p i with
        | false => rfl
        | true => simp [hp] at h
      · exact pu_fd0 h5 i (by omega)
theorem pf_lv0 {p : Nat} (hV : pi_V np T s) (wf : xq_wf s) (hp : p < 3) (h : mo_live s p = none) : xq_r s 300 p = none := by
  cases e : xq_r s 300 p with
  | none => rfl
  | some b =>
    have := pu_fd0 h b (wf.2.2.2.2.1 p b e)
    rw [decide_eq_false_iff_not] at this
    exact absurd (hV.2.2.1.2.1 p b hp e) this
theorem pf_lv1 {p b : Nat} (hV : pi_V np T s) (hp : p < 3) (h : mo_live s p = some b) : b < s.2.1 ∧ xq_i s 1006 b = nI p ∧ xq_i s 1004 b = 1 ∧ xq_r s 300 p = some b := by
  obtain ⟨h1, h2⟩ := xq_fd_lt h
  have h2 := of_decide_eq_true h2
  have h4 := pi_st hV hp h1 h2
  obtain ⟨-, ⟨j, hj, q1, q2⟩, -⟩ := pi_lv hV h1 h4
  have := pi_n3e hj hp (q1.symm.trans h2)
  subst this
  exact ⟨h1, h2, h4, q2⟩
theorem pf_max (x y : Int32) : ¬ mo_max x y < y := by
  unfold mo_max
  split
  · exact fun h => Int32.lt_irrefl h
  · next h => exact h
theorem pf_over {b : Nat} (hV : pi_V np T s) (hb : b < s.2.1) (h : xq_i s 1004 b = 2) : ∃ k, xq_r s 1005 b = some k := by
  rcases (hV.2.1 b hb).2.1 with q | q | q | q
  · exact absurd (h.symm.trans q.1) (by decide)
  · exact absurd (h.symm.trans q.1) (by decide)
  · obtain ⟨k, q1, _⟩ := q.2.1
    exact ⟨k, q1⟩
  · exact absurd (h.symm.trans q.1) (by decide)
/-- a hit -/
theorem pf_hitE {b c : Nat} {S : xq_S} {r : Int32} (hc : c = 1101 ∨ c = 1201) (hS : mo_overHit (xu_i s c b (xq_i s c b + 1)) b = S) (hr : mo_decided (xu_i s c b (xq_i s c b + 1)) b = r) (h : pi_V np T s) (wf : xq_wf s) (hb : b < s.2.1) (h1 : xq_i s 1004 b = 1) : pi_V np T S ∧ S.1 = s.1 ∧ S.2.1 = s.2.1 ∧ ((r = 1 ∧ xq_i S 1004 b = 2) ∨ (r = 0 ∧ xq_i S 1004 b = 1)) ∧ xq_i S c b = xq_i s c b + 1 ∧ ∀ j, xq_r S 500 j = xq_r s 500 j := by
  obtain ⟨v1, v2, v3, v4, v5, v6⟩ := pi_hitV hc h wf hb h1
  rw [hS] at v1 v2 v3 v4 v5
  rw [hr] at v4
  exact ⟨v1, v2, v3, v4, v5, fun j => by rw [← hS, fz_overHit]; rfl⟩
theorem pf_hit0 {b : Nat} (h : pi_V np T s) (wf : xq_wf s) (hb : b < s.2.1) (h1 : xq_i s 1004 b = 1) : ∃ (S : xq_S) (r : Int32), (∀ _ : Unit, mo_hit s b 0 = S) ∧ (∀ _ : Unit, mo_hitR s b 0 = r) ∧ pi_V np T S ∧ S.1 = s.1 ∧ S.2.1 = s.2.1 ∧ ((r = 1 ∧ xq_i S 1004 b = 2) ∨ (r = 0 ∧ xq_i S 1004 b = 1)) ∧ xq_i S 1101 b = xq_i s 1101 b + 1 ∧ ∀ j, xq_r S 500 j = xq_r s 500 j :=
  ⟨_, _, fun _ => rfl, fun _ => rfl, pf_hitE (Or.inl rfl) (by unfold mo_hit; rw [if_pos rfl]) (by unfold mo_hitR; rw [if_pos rfl]) h wf hb h1⟩
theorem pf_hit1 {b : Nat} (h : pi_V np T s) (wf : xq_wf s) (hb : b < s.2.1) (h1 : xq_i s 1004 b = 1) : ∃ (S : xq_S) (r : Int32), (∀ _ : Unit, mo_hit s b 1 = S) ∧ (∀ _ : Unit, mo_hitR s b 1 = r) ∧ pi_V np T S ∧ S.1 = s.1 ∧ S.2.1 = s.2.1 ∧ ((r = 1 ∧ xq_i S 1004 b = 2) ∨ (r = 0 ∧ xq_i S 1004 b = 1)) ∧ xq_i S 1201 b = xq_i s 1201 b + 1 ∧ ∀ j, xq_r S 500 j = xq_r s 500 j :=
  ⟨_, _, fun _ => rfl, fun _ => rfl, pf_hitE (Or.inr rfl) (by unfold mo_hit; rw [if_neg (by decide)]) (by unfold mo_hitR; rw [if_neg (by decide)]) h wf hb h1⟩
/-- time -/
theorem pf_time {X : Nat} (h : pi_V np T s) (wf : xq_wf s) (hX : X ≤ 600) : ∃ (S : xq_S) (m : Nat), mo_pass s (nI X) = S ∧ (mo_passes s (nI X) 3).2 = m ∧ pi_V np T S ∧ S.1 = s.1 ∧ S.2.1 = s.2.1 ∧ xq_i S 7 0 = xq_i s 7 0 + nI X ∧ (∀ j b, j < 3 → xq_r s 300 j = some b → ∃ k : Option Nat, mo_ofBout S b 5 = mo_num s k ∧ ((mo_until s b ≤ nI X ∧ k = mo_win s b ∧ 1 ≤ m) ∨ (¬ mo_until s b ≤ nI X ∧ k = none))) ∧ (∀ i, i < 3 → ∀ b, xq_r (mo_passes s (nI X) i).1 300 i = some b → ∃ p, 1 ≤ p ∧ p ≤ 90 ∧ xq_i (mo_passes s (nI X) i).1 1007 b = nI p) ∧ m ≤ 3 ∧ ∀ j, xq_r S 500 j = xq_r s 500 j := by
  obtain ⟨v1, v2, v3, v4, v5, v6, v7, v8⟩ := pi_pass h wf hX
  refine ⟨_, _, rfl, rfl, v1, v2, v3, v4, fun j b hj e => ?_, v7, v8, fun j => fz_passes s (nI X) j 3⟩
  have en : ∀ k : Option Nat, mo_num (mo_pass s (nI X)) k = mo_num s k := fun k => by
    cases k with
    | none => rfl
    | some k => exact v5 k
  rcases v6 j b hj e with ⟨q1, q2, q3⟩ | ⟨q1, q2⟩
  · exact ⟨mo_win s b, (congrArg (mo_num _) q2).trans (en _), Or.inl ⟨q1, rfl, q3⟩⟩
  · exact ⟨none, (congrArg (mo_num _) q2).trans (en _), Or.inr ⟨q1, rfl⟩⟩
/-- a bout begins -/
theorem pf_begin {b j : Nat} (h : pi_V np T s) (wf : xq_wf s) (hb : b < s.2.1) (hw : mo_why s b = 0) (hj : j < 3) (hj3 : xq_r s 300 j = none) : ∃ S : xq_S, mo_start s b j = S ∧ pi_V np T S ∧ S.1 = s.1 ∧ S.2.1 = s.2.1 ∧ mo_ofBout S b 6 = nI j ∧ mo_why S b = 1 ∧ ∀ j, xq_r S 500 j = xq_r s 500 j := by
  obtain ⟨u1, u2, u3, u4, u5⟩ := pi_start h wf hb hw hj hj3
  exact ⟨_, rfl, u1, u2, u3, u4, u5, fun i => fz_start s b j i⟩
/-- a card -/
theorem pf_kind {b c : Nat} {kind : Int32} (hk : kind = 0 ∨ kind = 1 ∨ kind = 2) : (mo_kind s b c kind = 0 ∨ mo_kind s b c kind = 1 ∨ mo_kind s b c kind = 2) ∧ ¬ mo_kind s b c kind < kind := by
  unfold mo_kind
  rcases hk with rfl | rfl | rfl
  · rw [if_pos rfl]
    split
    · exact ⟨Or.inl rfl, by decide⟩
    · exact ⟨Or.inr (Or.inl rfl), by decide⟩
  · rw [if_neg (by decide)]
    exact ⟨Or.inr (Or.inl rfl), by decide⟩
  · rw [if_neg (by decide)]
    exact ⟨Or.inr (Or.inr rfl), by decide⟩
theorem pf_card {b own other : Nat} {kind : Int32} (hk : kind = 0 ∨ kind = 1 ∨ kind = 2) (hc : (own = 1100 ∧ other = 1200) ∨ (own = 1200 ∧ other = 1100)) (h : pi_V np T s) (wf : xq_wf s) (hb : b < s.2.1) (h1 : xq_i s 1004 b = 1) : ∃ (S : xq_S) (t : Int32) (k : Nat), mo_card s b own other kind = S ∧ mo_kind s b (own + 2) kind = t ∧ pi_V np T S ∧ S.1 = s.1 ∧ S.2.1 = s.2.1 ∧ xq_r s own b = some k ∧ k < s.1 ∧ mo_num s (xq_r s own b) = nI k ∧ ¬ t < kind ∧ ((t = 2 ∧ mo_of S k 4 = 1) ∨ (¬ t = 2 ∧ mo_of S k 4 = 0)) ∧ ¬ xq_i S (own + 2) b < t + 1 ∧ ∀ j, xq_r S 500 j = xq_r s 500 j := by
  obtain ⟨v1, v2, v3, ⟨k, w1, w2, w3, w4⟩, v5⟩ := pi_cardV (mo_kind s b (own + 2) kind) hc h wf hb h1
  rw [← mo_card_eq] at v1 v2 v3 w3 w4 v5
  refine ⟨_, _, k, rfl, rfl, v1, v2, v3, w1, w2, (congrArg (mo_num s) w1).trans (h.1.2.2.2.2.2.2.2.1 k w2), (pf_kind hk).2, ?_, ?_, fun j => ?_⟩
  · by_cases e : mo_kind s b (own + 2) kind = 2
    · exact Or.inl ⟨e, if_neg (w3 e)⟩
    · exact Or.inr ⟨e, if_pos (w4 e)⟩
  · rw [v5]
    exact pf_max _ _
  · rw [mo_card_eq, fz_card2]
def lw_NX (Y : xw_Y) (Rt : xw_R) (np M a i : Nat) : Prop := ∀ (T : Nat) (s : xq_S) (ad : Nat → Nat → Nat) (w : xw_W) (lv : xw_L) (k n : Nat), pi_V np T s → (T = 0 → ∀ j, xq_r s 500 j = none) → s.1 = M → ad 0 0 = a → xq_rp Y ad s w → xw_lk lv 0 = some (.ref Y.1.2.1) → xw_lk lv 1 = some (.ref a) → xw_lk lv 3 = some (.int (nI M)) → xw_lk lv 4 = some (.int (nI np)) → xw_lk lv 5 = some (.int (nI i)) → k ≤ 1061 + 61 * i → n ≤ 43308 + 3308 * i → xw_Run (tbL_law Y) Rt 609 lv [] w k n
def lw_N5 (Y : xw_Y) (Rt : xw_R) (np M a i : Nat) : Prop := ∀ (T : Nat) (s : xq_S) (ad : Nat → Nat → Nat) (w : xw_W) (lv : xw_L) (k n : Nat), pi_V np T s → (T = 0 → ∀ j, xq_r s 500 j = none) → s.1 = M → ad 0 0 = a → xq_rp Y ad s w → xw_lk lv 0 = some (.ref Y.1.2.1) → xw_lk lv 1 = some (.ref a) → xw_lk lv 3 = some (.int (nI M)) → xw_lk lv 4 = some (.int (nI np)) → xw_lk lv 5 = some (.int (nI i)) → k ≤ 1060 + 61 * i → n ≤ 43300 + 3308 * i → xw_Run (tbL_law Y) Rt 590 lv [] w k n
end XL8
