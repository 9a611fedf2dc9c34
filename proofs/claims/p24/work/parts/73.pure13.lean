/-! PURE: start, next; the seeds stay none; how it begins -/
section PUG
variable {np T : Nat} {s s1 s' u v : xq_S}
theorem pi_inL {c b l : Nat} (hl : xq_r s c b = some l) (h : mo_inLive s c b = 0) : xq_r s 906 l = none := by
  unfold mo_inLive at h
  rw [hl] at h
  cases h6 : xq_r s 906 l with
  | none => rfl
  | some z =>
    simp only [h6] at h
    exact absurd h (by decide)
theorem pi_kn {b : Nat} (h : ¬ mo_known s b = 0) : ∃ l r, xq_r s 1100 b = some l ∧ xq_r s 1200 b = some r := by
  unfold mo_known at h
  cases hl : xq_r s 1100 b with
  | none => simp only [hl] at h; exact absurd trivial h
  | some l =>
    cases hr : xq_r s 1200 b with
    | none => simp only [hl, hr] at h; exact absurd trivial h
    | some r => exact ⟨l, r, rfl, rfl⟩
theorem pi_why {b : Nat} (h : mo_why s b = 0) : xq_i s 1004 b = 0 ∧ ∃ l r, xq_r s 1100 b = some l ∧ xq_r s 1200 b = some r ∧ xq_r s 906 l = none ∧ xq_r s 906 r = none := by
  unfold mo_why at h
  by_cases e : xq_i s 1004 b = 0
  · refine ⟨e, ?_⟩
    rw [if_pos e] at h
    by_cases e1 : mo_known s b = 0
    · rw [if_pos e1] at h
      exact absurd h (by decide)
    · rw [if_neg e1] at h
      obtain ⟨l, r, hl, hr⟩ := pi_kn e1
      by_cases e2 : mo_inLive s 1100 b = 0
      · rw [if_pos e2] at h
        by_cases e3 : mo_inLive s 1200 b = 0
        · exact ⟨l, r, hl, hr, pi_inL hl e2, pi_inL hr e3⟩
        · rw [if_neg e3] at h
          exact absurd h (by decide)
      · rw [if_neg e2] at h
        exact absurd h (by decide)
  · rw [if_neg e] at h
    exact absurd h (by decide)
theorem pi_nx (s : xq_S) : ∀ n, (mo_nx s n).1 = -1 ∨ ∃ i, i < n ∧ (mo_nx s n).1 = nI i ∧ mo_why s i = 0
  | 0 => Or.inl rfl
  | n + 1 => by
    rw [mo_nx]
    by_cases e : ((mo_nx s n).1 = -1 ∨ mo_rested s n < (mo_nx s n).2) ∧ mo_why s n = 0
    · rw [if_pos e]
      exact Or.inr ⟨n, by omega, rfl, e.2⟩
    · rw [if_neg e]
      rcases pi_nx s n with q | ⟨i, q1, q2, q3⟩
      · exact Or.inl q
      · exact Or.inr ⟨i, by omega, q2, q3⟩
theorem pi_start {b j : Nat} (h : pi_V np T s) (wf : xq_wf s) (hb : b < s.2.1) (hw : mo_why s b = 0) (hj : j < 3) (hj3 : xq_r s 300 j = none) : pi_V np T (mo_start s b j) ∧ (mo_start s b j).1 = s.1 ∧ (mo_start s b j).2.1 = s.2.1 ∧ xq_i (mo_start s b j) 1006 b = nI j ∧ mo_why (mo_start s b j) b = 1 := by
  obtain ⟨h1, l, r, hl, hr, h6, h7⟩ := pi_why hw
  have e : mo_start s b j = xu_r (xu_r (xu_r (xu_i (xu_i (xu_i (xu_i s 1004 b 1) 1006 b (nI j)) 1007 b 1) 1008 b 180) 906 l (some b)) 906 r (some b)) 300 j (some b) := by
    unfold mo_start mo_bbegin mo_sbegin
    simp only [xq_r_i, xq_r_r, hl, hr, show ¬ ((1200 : Nat) = 906 ∧ b = l) by omega, if_false]
  rw [e]
  have i4 : xq_i (xu_r (xu_r (xu_r (xu_i (xu_i (xu_i (xu_i s 1004 b 1) 1006 b (nI j)) 1007 b 1) 1008 b 180) 906 l (some b)) 906 r (some b)) 300 j (some b)) 1004 b = 1 := by simp [xq_i_i, xq_i_r]
  refine ⟨pi_begin h wf hb h1 hl hr h6 h7 hj hj3 rfl rfl (fun c i hc => ?_) (fun c i z hc => ?_) i4 ?_ ?_ ?_ (fun c i hc => ?_) (fun j' => ?_) (fun k => ?_), rfl, rfl, ?_, ?_⟩
  · simp only [xq_i_i, xq_i_r]
    rw [if_neg (by omega), if_neg (by omega), if_neg (by omega), if_neg (by omega)]
  · simp only [xq_i_i, xq_i_r]
    rw [if_neg (by omega), if_neg (by omega), if_neg (by omega), if_neg (by omega)]
  · simp [xq_i_i, xq_i_r]
  · simp [xq_i_i, xq_i_r]
  · simp [xq_i_i, xq_i_r]
  · simp only [xq_r_i, xq_r_r]
    rw [if_neg (by omega), if_neg (by omega), if_neg (by omega)]
  · simp only [xq_r_i, xq_r_r]
    by_cases z : j' = j
    · simp [z]
    · simp [z]
  · simp only [xq_r_i, xq_r_r]
    by_cases z : k = r
    · simp [z]
    · by_cases z2 : k = l
      · simp [z, z2]
      · simp [z, z2]
  · simp [xq_i_i, xq_i_r]
  · unfold mo_why
    rw [i4, if_neg (by decide)]
/-- seeds are none until the table is drawn -/
theorem fz_scount (s : xq_S) (c b : Nat) (w : Option Nat) (x y z : Int32) (j : Nat) : xq_r (mo_scount s c b w x y z) 500 j = xq_r s 500 j := by
  unfold mo_scount
  split <;> rfl
theorem fz_bcount (s : xq_S) (b : Nat) (w : Option Nat) (x y z : Int32) (j : Nat) : xq_r (mo_bcount s b w x y z) 500 j = xq_r s 500 j := pd_bcount_r w x y z 500 j
theorem fz_goOnT (s : xq_S) (b j : Nat) : xq_r (mo_goOnT s b) 500 j = xq_r s 500 j := by
  unfold mo_goOnT
  split
  · rfl
  · split <;> rfl
theorem fz_decide (s : xq_S) (b : Nat) (o : Option Nat) (j : Nat) : xq_r (mo_decide s b o) 500 j = xq_r s 500 j := by
  unfold mo_decide
  simp only
  split
  · rw [fz_bcount]; rfl
  · rw [fz_goOnT, pd_lose_r]; rfl
theorem fz_send (s : xq_S) (c b : Nat) (t : Int32) (j : Nat) : xq_r (mo_send s c b t) 500 j = xq_r s 500 j := by
  unfold mo_send
  split <;> rfl
theorem fz_leave (s : xq_S) (b : Nat) (t : Int32) (j : Nat) : xq_r (mo_leave s b t) 500 j = xq_r s 500 j := by
  unfold mo_leave mo_bend
  split
  · simp only
    rw [fz_send, fz_send]; rfl
  · simp only
    rw [fz_send, fz_send]; rfl
theorem fz_finish (s : xq_S) (b : Nat) (o : Option Nat) (t : Int32) (j : Nat) : xq_r (mo_finish s b o t) 500 j = xq_r s 500 j := by
  unfold mo_finish
  rw [fz_decide, fz_leave]
theorem fz_overHit (s : xq_S) (b j : Nat) : xq_r (mo_overHit s b) 500 j = xq_r s 500 j := by
  unfold mo_overHit
  split
  · rfl
  · exact fz_finish _ _ _ _ _
theorem fz_hit (s : xq_S) (b : Nat) (who : Int32) (j : Nat) : xq_r (mo_hit s b who) 500 j = xq_r s 500 j := by
  unfold mo_hit
  split
  · exact fz_overHit _ _ _
  · exact fz_overHit _ _ _
theorem fz_voids (s : xq_S) (k j : Nat) : ∀ n, xq_r (mo_voids s k n) 500 j = xq_r s 500 j
  | 0 => rfl
  | n + 1 => by
    rw [mo_voids]
    split
    · rw [pd_void_r, if_neg (by omega), fz_voids s k j n]
    · exact fz_voids s k j n
theorem fz_card2 (s : xq_S) (b own other : Nat) (t : Int32) (j : Nat) : xq_r (mo_card2 s b own other t) 500 j = xq_r s 500 j := by
  unfold mo_card2
  simp only
  split
  · exact fz_overHit _ _ _
  · split
    · split
      · rfl
      · unfold mo_putOut
        split
        · rw [fz_voids, fz_leave]; rfl
        · rw [fz_finish]; rfl
    · rfl
theorem fz_goOn (b : Nat) (j : Nat) : ∀ (n : Nat) (s : xq_S) (x : Int32), xq_r (mo_goOn n s b x) 500 j = xq_r s 500 j
  | 0, _, _ => rfl
  | n + 1, s, x => by
    rw [mo_goOn]
    split
    · rfl
    · split
      · rfl
      · exact fz_goOn b j n _ _
theorem fz_passes (s : xq_S) (x : Int32) (j : Nat) : ∀ n, xq_r (mo_passes s x n).1 500 j = xq_r s 500 j
  | 0 => rfl
  | n + 1 => by
    rw [mo_passes]
    split
    · exact fz_passes s x j n
    · show xq_r (mo_overAfter (mo_passes s x n).1 _ x) 500 j = _
      unfold mo_overAfter
      split
      · rw [fz_finish, fz_passes s x j n]
      · rw [fz_goOn, fz_passes s x j n]
theorem fz_start (s : xq_S) (b p j : Nat) : xq_r (mo_start s b p) 500 j = xq_r s 500 j := by
  unfold mo_start mo_bbegin mo_sbegin
  rw [xq_r_r, if_neg (by omega)]
  simp only
  split
  · split
    · rfl
    · rw [xq_r_r, if_neg (by omega)]; rfl
  · split
    · rw [xq_r_r, if_neg (by omega)]; rfl
    · rw [xq_r_r, if_neg (by omega), xq_r_r, if_neg (by omega)]; rfl
/-- the beginning: fencers without bouts -/
def pi_0 (s : xq_S) : Prop := s.2.1 = 0 ∧ (∀ k, k < s.1 → xq_i s 900 k = nI k ∧ xq_i s 905 k = 0 ∧ xq_i s 908 k = 0 ∧ xq_i s 909 k = 0 ∧ xq_r s 906 k = none) ∧ (∀ j, xq_r s 300 j = none) ∧ (∀ j, xq_r s 500 j = none) ∧ xq_i s 6 0 = 0 ∧ xq_i s 8 0 = 0 ∧ (∀ q, xq_i s 400 q = 0)
theorem pi_00 : pi_0 xq_0 := ⟨rfl, fun k hk => absurd hk (by show ¬ k < 0; omega), fun _ => rfl, fun _ => rfl, rfl, rfl, fun _ => rfl⟩
theorem pi_0f {a b : Int32} (h : pi_0 s) : pi_0 (mo_fencer s (nI s.1) a b) ∧ (mo_fencer s (nI s.1) a b).1 = s.1 + 1 := by
  obtain ⟨h1, h2, h3, h4, h5, h6, h7⟩ := h
  have i : ∀ c i, ¬ c = 100 → xq_i (mo_fencer s (nI s.1) a b) c i = xq_i (mo_newF s (nI s.1) a b) c i := fun c i hc => by
    have e : xq_i (mo_fencer s (nI s.1) a b) c i = xq_i (xu_i (mo_newF s (nI s.1) a b) 100 0 (xq_i (mo_newF s (nI s.1) a b) 100 0 + 1)) c i := rfl
    rw [e, xq_i_i, if_neg (fun z => hc z.1)]
  have r : ∀ c i, xq_r (mo_fencer s (nI s.1) a b) c i = xq_r (mo_newF s (nI s.1) a b) c i := fun c i => rfl
  refine ⟨⟨h1, fun k hk => ?_, fun j => ?_, fun j => ?_, ?_, ?_, fun q => ?_⟩, rfl⟩
  · have hk : k < s.1 + 1 := hk
    rw [i 900 k (by decide), i 905 k (by decide), i 908 k (by decide), i 909 k (by decide), r]
    simp only [xq_i_nF, xq_r_nF]
    by_cases e : k = s.1
    · subst e
      simp
    · simp only [e, and_false, if_false]
      exact h2 k (by omega)
  · rw [r, xq_r_nF, if_neg (by omega)]; exact h3 j
  · rw [r, xq_r_nF, if_neg (by omega)]; exact h4 j
  · rw [i 6 0 (by decide), xq_i_nF, if_neg (by omega)]; exact h5
  · rw [i 8 0 (by decide), xq_i_nF, if_neg (by omega)]; exact h6
  · rw [i 400 q (by decide), xq_i_nF, if_neg (by omega)]; exact h7 q
/-- what forming keeps -/
def pi_1 (s : xq_S) : Prop := s.1 ≤ 8 ∧ (∀ k, k < s.1 → xq_i s 900 k = nI k ∧ xq_i s 905 k = 0 ∧ xq_i s 908 k = 0 ∧ xq_i s 909 k = 0 ∧ xq_r s 906 k = none) ∧ (∀ j, xq_r s 300 j = none) ∧ (∀ j, xq_r s 500 j = none) ∧ ¬ xq_i s 6 0 = 0 ∧ xq_i s 8 0 = 0 ∧ ∀ b, b < s.2.1 → xq_i s 1000 b = nI b ∧ xq_i s 1001 b = -1 ∧ xq_i s 1004 b = 0 ∧ pi_idle s b ∧ xq_i s 1101 b = 0 ∧ xq_i s 1201 b = 0 ∧ xq_r s 1005 b = none ∧ ∃ l r, xq_r s 1100 b = some l ∧ xq_r s 1200 b = some r ∧ ¬ l = r
theorem pi_keep : mo_keepF pi_1 := by
  refine ⟨fun s k p hk h => ?_, fun s L R hL hR hne h => ?_⟩
  · obtain ⟨h1, h2, h3, h4, h5, h6, h7⟩ := h
    have i : ∀ c i, ¬ c = 903 → ¬ c = 904 → ¬ c = 400 → xq_i (mo_put s k p) c i = xq_i s c i := fun c i z1 z2 z3 => by
      unfold mo_put
      simp only
      rw [xq_i_i, if_neg (by omega), xq_i_i, if_neg (by omega), xq_i_i, if_neg (by omega)]
    refine ⟨h1, fun k' hk' => ?_, h3, h4, by rw [i 6 0 (by decide) (by decide) (by decide)]; exact h5, (i 8 0 (by decide) (by decide) (by decide)).trans h6, fun b hb => ?_⟩
    · rw [i 900 k' (by decide) (by decide) (by decide), i 905 k' (by decide) (by decide) (by decide), i 908 k' (by decide) (by decide) (by decide), i 909 k' (by decide) (by decide) (by decide)]
      exact h2 k' hk'
    · have := h7 b hb
      unfold pi_idle at this ⊢
      rw [i 1000 b (by decide) (by decide) (by decide), i 1001 b (by decide) (by decide) (by decide), i 1004 b (by decide) (by decide) (by decide), i 1006 b (by decide) (by decide) (by decide), i 1007 b (by decide) (by decide) (by decide), i 1008 b (by decide) (by decide) (by decide), i 1101 b (by decide) (by decide) (by decide), i 1201 b (by decide) (by decide) (by decide)]
      exact this
  · obtain ⟨h1, h2, h3, h4, h5, h6, h7⟩ := h
    refine ⟨h1, fun k' hk' => ?_, fun j => ?_, fun j => ?_, ?_, ?_, fun b hb => ?_⟩
    · rw [pd_bout_i 900 k' (by decide), pd_bout_i 905 k' (by decide), pd_bout_i 908 k' (by decide), pd_bout_i 909 k' (by decide), pd_bout_r, if_neg (by omega), if_neg (by omega), if_neg (by omega), if_neg (by omega), if_neg (by omega)]
      exact h2 k' hk'
    · rw [pd_bout_r, if_neg (by omega)]; exact h3 j
    · rw [pd_bout_r, if_neg (by omega)]; exact h4 j
    · rw [pd_bout_i 6 0 (by decide), if_neg (by omega)]; exact h5
    · rw [pd_bout_i 8 0 (by decide), if_neg (by omega)]; exact h6
    · have hb : b < s.2.1 + 1 := hb
      unfold pi_idle
      simp only [pd_bout_r, pd_bout_i 1000 b (by decide), pd_bout_i 1001 b (by decide), pd_bout_i 1004 b (by decide), pd_bout_i 1006 b (by decide), pd_bout_i 1007 b (by decide), pd_bout_i 1008 b (by decide), pd_bout_i 1101 b (by decide), pd_bout_i 1201 b (by decide)]
      by_cases e : b = s.2.1
      · subst e
        simp [hne]
      · have := h7 b (by omega)
        unfold pi_idle at this
        simp only [e, and_false, if_false]
        exact this
theorem pi_formed (h : pi_1 s) (hb : s.2.1 ≤ 98) : pi_V s.2.1 0 s := by
  obtain ⟨h1, h2, h3, h4, h5, h6, h7⟩ := h
  refine ⟨⟨h1, Or.inl rfl, rfl, hb, h6, fun q => absurd q (by omega), h5, fun k hk => (h2 k hk).1, fun b hb => (h7 b hb).1, fun b hb => ⟨fun _ => hb, fun _ => (h7 b hb).2.1⟩⟩, fun b hb => ?_, ⟨fun k b hk q => ?_, fun j b hj q => ?_, fun k b hk hb ho => ?_, fun b hb => ?_, fun q => absurd q (by omega)⟩, fun k hk => ?_, fun q hq => absurd hq (by omega), fun p q k hp hq => absurd hq (by omega)⟩
  · obtain ⟨_, _, y3, y4, y5, y6, y7, l, r, y8, y9, y10⟩ := h7 b hb
    refine ⟨⟨0, 0, y5, y6, by omega, by omega, fun _ => ?_⟩, Or.inl ⟨y3, y7, y4⟩, fun k z z2 => ?_⟩
    · unfold pi_goal
      split <;> omega
    · rw [y8] at z
      rw [y9] at z2
      cases z
      cases z2
      exact y10 rfl
  · rw [(h2 k hk).2.2.2.2] at q; cases q
  · rw [h3] at q; cases q
  · exact absurd (h2 k hk).2.1 ho
  · obtain ⟨_, _, y3, y4, y5, y6, y7, l, r, y8, y9, y10⟩ := h7 b hb
    exact ⟨l, r, y8, y9⟩
  · obtain ⟨_, _, z1, z2, _⟩ := h2 k hk
    have e0 : ∀ p : Nat → Bool, (∀ i, i < s.2.1 → p i = false) → xq_ct p s.2.1 = 0 := fun p hp => by
      have e1 := pu_ct_not p s.2.1
      rw [pu_ct_n (p := fun i => !p i) (fun i hi => by simp [hp i hi])] at e1
      omega
    rw [z1, z2, e0 (pi_met s k) (fun i hi => by unfold pi_met; rw [decide_eq_false_iff_not, (h7 i hi).2.2.1]; exact fun z => absurd z.1 (by decide)), e0 (pi_won s k) (fun i hi => by unfold pi_won; rw [decide_eq_false_iff_not, (h7 i hi).2.2.1]; exact fun z => absurd z.1 (by decide))]
    exact ⟨rfl, rfl⟩
theorem pi_01 {N : Nat} (h : pi_0 s) (h8 : s.1 ≤ 8) (hN : N = 1 ∨ N = 2) : pi_1 (xu_i s 6 0 (nI N)) := by
  obtain ⟨h1, h2, h3, h4, h5, h6, h7⟩ := h
  refine ⟨h8, fun k hk => ?_, h3, h4, ?_, ?_, fun b hb => absurd hb (by show ¬ b < s.2.1; omega)⟩
  · rw [xq_i_i, if_neg (by omega), xq_i_i, if_neg (by omega), xq_i_i, if_neg (by omega), xq_i_i, if_neg (by omega)]
    exact h2 k hk
  · rw [xq_i_i, if_pos ⟨rfl, rfl⟩]
    rcases hN with rfl | rfl <;> decide
  · rw [xq_i_i, if_neg (by omega)]; exact h6
end PUG
