/-! PURE: hits and cards -/
section PU8
variable {np T : Nat} {s s1 s' : xq_S}
theorem pi_win {b l r : Nat} (hl : xq_r s 1100 b = some l) (hr : xq_r s 1200 b = some r) : ∃ kw, mo_win s b = some kw ∧ pi_has s b kw := by
  unfold mo_win mo_prioF
  split
  · split
    · exact ⟨l, hl, Or.inl hl⟩
    · exact ⟨r, hr, Or.inr hr⟩
  · split
    · exact ⟨r, hr, Or.inr hr⟩
    · exact ⟨l, hl, Or.inl hl⟩
theorem pi_goalI {b : Nat} (h : pi_A np T s) (hb : b < s.2.1) : mo_goal s b = nI (pi_goal np b) := by
  unfold mo_goal pi_goal
  have := h.2.2.2.2.2.2.2.2.2 b hb
  by_cases e : b < np
  · rw [if_pos (this.mpr e), if_pos e]; rfl
  · rw [if_neg (fun z => e (this.mp z)), if_neg e]; rfl
theorem pi_perI {b : Nat} (h : pi_A np T s) (hb : b < s.2.1) : mo_periods s b = nI (pi_per np b) := by
  unfold mo_periods pi_per
  have := h.2.2.2.2.2.2.2.2.2 b hb
  by_cases e : b < np
  · rw [if_pos (this.mpr e), if_pos e]; rfl
  · rw [if_neg (fun z => e (this.mp z)), if_neg e]; rfl
theorem pi_goal_le (np b : Nat) : pi_goal np b ≤ 15 := by
  unfold pi_goal
  split <;> omega
theorem pi_per_le (np b : Nat) : 1 ≤ pi_per np b ∧ pi_per np b ≤ 3 := by
  unfold pi_per
  split <;> omega
theorem pi_hitV {b c : Nat} (hc : c = 1101 ∨ c = 1201) (h : pi_V np T s) (wf : xq_wf s) (hb : b < s.2.1) (h1 : xq_i s 1004 b = 1) : pi_V np T (mo_overHit (xu_i s c b (xq_i s c b + 1)) b) ∧ (mo_overHit (xu_i s c b (xq_i s c b + 1)) b).1 = s.1 ∧ (mo_overHit (xu_i s c b (xq_i s c b + 1)) b).2.1 = s.2.1 ∧ ((mo_decided (xu_i s c b (xq_i s c b + 1)) b = 1 ∧ xq_i (mo_overHit (xu_i s c b (xq_i s c b + 1)) b) 1004 b = 2) ∨ (mo_decided (xu_i s c b (xq_i s c b + 1)) b = 0 ∧ xq_i (mo_overHit (xu_i s c b (xq_i s c b + 1)) b) 1004 b = 1)) ∧ xq_i (mo_overHit (xu_i s c b (xq_i s c b + 1)) b) c b = xq_i s c b + 1 ∧ (∀ c' i, c' = 905 ∨ c' = 1102 ∨ c' = 1202 → xq_i (mo_overHit (xu_i s c b (xq_i s c b + 1)) b) c' i = xq_i s c' i) := by
  obtain ⟨x, y, q1, q2, q3, q4, q5⟩ := (h.2.1 b hb).1
  obtain ⟨q6, q7⟩ := q5 (Or.inr h1)
  have hg := pi_goal_le np b
  obtain ⟨_, ⟨_, ⟨p, tt, p1, p2, p3, p4, p5, p6⟩, l, r, hl, hr, _, _⟩⟩ := pi_lv h hb h1
  have hgoal : mo_goal (xu_i s c b (xq_i s c b + 1)) b = nI (pi_goal np b) := by
    have : mo_goal (xu_i s c b (xq_i s c b + 1)) b = mo_goal s b := by
      have e : xq_i (xu_i s c b (xq_i s c b + 1)) 1001 b = xq_i s 1001 b := by rw [xq_i_i, if_neg (by omega)]
      unfold mo_goal
      rw [e]
    rw [this]
    exact pi_goalI h.1 hb
  -- the new scores
  have sc : ∃ x' y', xq_i (xu_i s c b (xq_i s c b + 1)) 1101 b = nI x' ∧ xq_i (xu_i s c b (xq_i s c b + 1)) 1201 b = nI y' ∧ x' ≤ pi_goal np b ∧ y' ≤ pi_goal np b := by
    rcases hc with rfl | rfl
    · refine ⟨x + 1, y, ?_, ?_, by omega, by omega⟩
      · rw [xq_i_i, if_pos ⟨rfl, rfl⟩, q1, nI_1]
      · rw [xq_i_i, if_neg (by omega), q2]
    · refine ⟨x, y + 1, ?_, ?_, by omega, by omega⟩
      · rw [xq_i_i, if_neg (by omega), q1]
      · rw [xq_i_i, if_pos ⟨rfl, rfl⟩, q2, nI_1]
  by_cases hd : mo_decided (xu_i s c b (xq_i s c b + 1)) b = 0
  · have e : mo_overHit (xu_i s c b (xq_i s c b + 1)) b = xu_i s c b (xq_i s c b + 1) := by unfold mo_overHit; rw [if_pos hd]
    rw [e]
    have hlt : ¬ (mo_goal (xu_i s c b (xq_i s c b + 1)) b ≤ xq_i (xu_i s c b (xq_i s c b + 1)) 1101 b) ∧ ¬ (mo_goal (xu_i s c b (xq_i s c b + 1)) b ≤ xq_i (xu_i s c b (xq_i s c b + 1)) 1201 b) := by
      unfold mo_decided at hd
      split at hd
      · exact absurd hd (by decide)
      · next z => exact ⟨fun y => z (Or.inr (Or.inl y)), fun y => z (Or.inr (Or.inr y))⟩
    obtain ⟨x', y', z1, z2, z3, z4⟩ := sc
    rw [hgoal, z1, z2, nI_leI (by omega) (by omega), nI_leI (by omega) (by omega)] at hlt
    refine ⟨pi_soft (b := b) h (fun _ => h1) rfl rfl (fun c' i hc' => ?_) (fun c' i e' hc' => ?_) (fun _ _ _ => rfl) (fun _ => ⟨x', y', z1, z2, z3, z4, fun _ => ⟨by omega, by omega⟩⟩) (fun _ => ⟨p, tt, ?_, p2, p3, ?_, p5, p6⟩), rfl, rfl, Or.inr ⟨hd, ?_⟩, ?_, fun c' i hc' => ?_⟩
    · rw [xq_i_i, if_neg (by omega)]
    · rw [xq_i_i, if_neg (fun z => e' z.2)]
    · rw [xq_i_i, if_neg (by omega)]
      exact p1
    · rw [xq_i_i, if_neg (by omega)]
      exact p4
    · rw [xq_i_i, if_neg (by omega)]
      exact h1
    · rw [xq_i_i, if_pos ⟨rfl, rfl⟩]
    · rw [xq_i_i, if_neg (by omega)]
  · have hd1 : mo_decided (xu_i s c b (xq_i s c b + 1)) b = 1 := by
      unfold mo_decided at hd ⊢
      split
      · rfl
      · next z => rw [if_neg z] at hd; exact absurd rfl hd
    obtain ⟨kw, w1, w2⟩ := pi_win (s := xu_i s c b (xq_i s c b + 1)) (b := b) hl hr
    have e : mo_overHit (xu_i s c b (xq_i s c b + 1)) b = mo_finish (xu_i s c b (xq_i s c b + 1)) b (some kw) (xq_i (xu_i s c b (xq_i s c b + 1)) 7 0) := by unfold mo_overHit; rw [if_neg hd, w1]
    rw [e]
    obtain ⟨v1, v2, v3, v4, v5, v6, v7, v8, v9, v10, v11⟩ := pi_finish (s1 := xu_i s c b (xq_i s c b + 1)) (t := xq_i (xu_i s c b (xq_i s c b + 1)) 7 0) h wf hb h1 w2 rfl rfl (fun c' i e1 e2 e3 e4 => by rw [xq_i_i, if_neg (by omega)]) (fun _ _ => rfl) sc (fun k hk => Or.inl (by rwa [xq_i_i, if_neg (by omega)] at hk))
    refine ⟨v1, v2, v3, Or.inl ⟨hd1, v4⟩, ?_, fun c' i hc' => ?_⟩
    · rw [v6 c b (by omega), xq_i_i, if_pos ⟨rfl, rfl⟩]
    · rw [v6 c' i (by omega), xq_i_i, if_neg (by omega)]
/-- bouts of one who is out are void: step by step -/
theorem pi_v1 (u : xq_S) (m : Nat) : (mo_void u m).1 = u.1 ∧ (mo_void u m).2.1 = u.2.1 := ⟨mo_void_1 u m, mo_void_2 u m⟩
theorem pd_void_i {u : xq_S} {m : Nat} (c i : Nat) (h : ¬ c = 908 ∧ ¬ c = 909 ∧ ¬ c = 910 ∧ ¬ c = 911) : xq_i (mo_void u m) c i = if c = 1004 ∧ i = m then 3 else xq_i u c i := by
  unfold mo_void
  rw [xq_i_r, xq_i_i]
  by_cases e : c = 1004 ∧ i = m
  · rw [if_pos e, if_pos e]
  · rw [if_neg e, if_neg e]
    split
    · exact fr_bcount u m _ _ _ _ i (by omega)
    · rfl
theorem pd_void_r {u : xq_S} {m : Nat} (c i : Nat) : xq_r (mo_void u m) c i = if c = 1005 ∧ i = m then none else xq_r u c i := by
  unfold mo_void
  rw [xq_r_r, xq_r_i]
  by_cases e : c = 1005 ∧ i = m
  · rw [if_pos e, if_pos e]
  · rw [if_neg e, if_neg e]
    split
    · exact pd_bcount_r _ _ _ _ c i
    · rfl
theorem pd_m1 (c : Nat) : nI (c + 1) + (-1) = nI c := by rw [pk_m1]
theorem pi_voidF {u : xq_S} {m l r : Nat} (hF : pi_F np u) (hm : m < np) (hl : xq_r u 1100 m = some l) (hr : xq_r u 1200 m = some r) (hne : ¬ l = r) (h2 : xq_i u 1004 m = 2 → ∃ k, xq_r u 1005 m = some k ∧ pi_has u m k) : pi_F np (mo_void u m) := by
  intro k hk
  rw [mo_void_1] at hk
  obtain ⟨f1, f2⟩ := hF k hk
  have same : ∀ i, i < np → ¬ i = m → pi_met (mo_void u m) k i = pi_met u k i ∧ pi_won (mo_void u m) k i = pi_won u k i := fun i hi e => by
    unfold pi_met pi_won pi_has
    rw [pd_void_i 1004 i (by decide), pd_void_r 1100 i, pd_void_r 1200 i, pd_void_r 1005 i, if_neg (fun z => e z.2), if_neg (by omega), if_neg (by omega), if_neg (fun z => e z.2)]
    exact ⟨rfl, rfl⟩
  have now : pi_met (mo_void u m) k m = false ∧ pi_won (mo_void u m) k m = false := by
    unfold pi_met pi_won
    rw [pd_void_i 1004 m (by decide), if_pos ⟨rfl, rfl⟩, decide_eq_false_iff_not, decide_eq_false_iff_not]
    exact ⟨fun z => absurd z.1 (by decide), fun z => absurd z.1 (by decide)⟩
  by_cases h : xq_i u 1004 m = 2
  · obtain ⟨kw, w1, w2⟩ := h2 h
    have hkw := pi_hasL hl hr w2
    have e : mo_void u m = xu_r (xu_i (mo_bcount u m (some kw) (xq_i u 1101 m) (xq_i u 1201 m) (-1)) 1004 m 3) 1005 m none := by
      unfold mo_void
      rw [if_pos h, w1]
    have i8 : xq_i (mo_void u m) 908 k = if k = l ∨ k = r then xq_i u 908 k + (-1) else xq_i u 908 k := by
      rw [e, xq_i_r, xq_i_i, if_neg (by omega), pd_bcount_i hl hr hne hkw _ _ _ _ _ (by decide)]
      by_cases z : k = l ∨ k = r
      · rw [if_pos ⟨rfl, z⟩, if_pos z]
      · rw [if_neg (fun y => z y.2), if_neg (by omega), if_neg z]
    have i9 : xq_i (mo_void u m) 909 k = if k = kw then xq_i u 909 k + (-1) else xq_i u 909 k := by
      rw [e, xq_i_r, xq_i_i, if_neg (by omega), pd_bcount_i hl hr hne hkw _ _ _ _ _ (by decide), if_neg (by omega)]
      by_cases z : k = kw
      · rw [if_pos ⟨rfl, z⟩, if_pos z]
      · rw [if_neg (fun y => z y.2), if_neg z]
    rw [i8, i9, f1, f2]
    constructor
    · by_cases z : k = l ∨ k = r
      · have hm1 : pi_met u k m = true := by
          unfold pi_met
          rw [decide_eq_true_iff]
          refine ⟨h, ?_⟩
          rcases z with rfl | rfl
          · exact Or.inl hl
          · exact Or.inr hr
        rw [if_pos z, pu_ct_up hm now.1 hm1 (fun i hi ne => (same i hi ne).1), pd_m1]
      · rw [if_neg z]
        refine congrArg nI (pu_ct_eq (fun i hi => ?_))
        by_cases ne : i = m
        · subst ne
          rw [now.1]
          unfold pi_met
          rw [decide_eq_false_iff_not]
          exact fun y => z (pi_hasL hl hr y.2)
        · exact (same i hi ne).1.symm
    · by_cases z : k = kw
      · have hm1 : pi_won u k m = true := by
          unfold pi_won
          rw [decide_eq_true_iff, z]
          exact ⟨h, w1⟩
        rw [if_pos z, pu_ct_up hm now.2 hm1 (fun i hi ne => (same i hi ne).2), pd_m1]
      · rw [if_neg z]
        refine congrArg nI (pu_ct_eq (fun i hi => ?_))
        by_cases ne : i = m
        · subst ne
          rw [now.2]
          unfold pi_won
          rw [decide_eq_false_iff_not, w1]
          exact fun y => z (Option.some.inj y.2).symm
        · exact (same i hi ne).2.symm
  · have e : mo_void u m = xu_r (xu_i u 1004 m 3) 1005 m none := by
      unfold mo_void
      rw [if_neg h]
    have i8 : xq_i (mo_void u m) 908 k = xq_i u 908 k := by rw [e, xq_i_r, xq_i_i, if_neg (by omega)]
    have i9 : xq_i (mo_void u m) 909 k = xq_i u 909 k := by rw [e, xq_i_r, xq_i_i, if_neg (by omega)]
    rw [i8, i9, f1, f2]
    constructor
    · refine congrArg nI (pu_ct_eq (fun i hi => ?_))
      by_cases ne : i = m
      · subst ne
        rw [now.1]
        unfold pi_met
        rw [decide_eq_false_iff_not]
        exact fun y => h y.1
      · exact (same i hi ne).1.symm
    · refine congrArg nI (pu_ct_eq (fun i hi => ?_))
      by_cases ne : i = m
      · subst ne
        rw [now.2]
        unfold pi_won
        rw [decide_eq_false_iff_not]
        exact fun y => h y.1
      · exact (same i hi ne).2.symm
theorem pi_voids {u : xq_S} {k : Nat} (hF : pi_F np u) (hs : ∀ m, m < np → ∃ l r, xq_r u 1100 m = some l ∧ xq_r u 1200 m = some r ∧ ¬ l = r) (h2 : ∀ m, m < np → xq_i u 1004 m = 2 → ∃ k, xq_r u 1005 m = some k ∧ pi_has u m k) : ∀ M, M ≤ np → pi_F np (mo_voids u k M) ∧ (mo_voids u k M).1 = u.1 ∧ (mo_voids u k M).2.1 = u.2.1 ∧ (∀ c i, ¬ c = 908 ∧ ¬ c = 909 ∧ ¬ c = 910 ∧ ¬ c = 911 → xq_i (mo_voids u k M) c i = if c = 1004 ∧ i < M ∧ pi_has u i k then 3 else xq_i u c i) ∧ (∀ c i, xq_r (mo_voids u k M) c i = if c = 1005 ∧ i < M ∧ pi_has u i k then none else xq_r u c i)
  | 0, _ => ⟨hF, rfl, rfl, fun c i _ => by rw [if_neg (by omega)]; rfl, fun c i => by rw [if_neg (by omega)]; rfl⟩
  | M + 1, hM => by
    obtain ⟨a1, a2, a3, a4, a5⟩ := pi_voids hF hs h2 M (by omega) (k := k)
    have s1 : ∀ c i, c = 1100 ∨ c = 1200 → xq_r (mo_voids u k M) c i = xq_r u c i := fun c i hc => by rw [a5, if_neg (by omega)]
    have hE : pi_has (mo_voids u k M) M k ↔ pi_has u M k := pi_hasE (fun c hc => s1 c M hc)
    by_cases e : pi_has u M k
    · have e1 : mo_voids u k (M + 1) = mo_void (mo_voids u k M) M := by rw [mo_voids, if_pos (hE.mpr e)]
      rw [e1]
      obtain ⟨l, r, hl, hr, hne⟩ := hs M (by omega)
      refine ⟨pi_voidF a1 (by omega) ((s1 1100 M (by simp)).trans hl) ((s1 1200 M (by simp)).trans hr) hne (fun z => ?_), (mo_void_1 _ _).trans a2, (mo_void_2 _ _).trans a3, fun c i hc => ?_, fun c i => ?_⟩
      · rw [a4 1004 M (by decide), if_neg (by omega)] at z
        obtain ⟨kw, z1, z2⟩ := h2 M (by omega) z
        refine ⟨kw, ?_, (pi_hasE (fun c hc => s1 c M hc)).mpr z2⟩
        rw [a5, if_neg (by omega)]
        exact z1
      · rw [pd_void_i c i hc, a4 c i hc]
        by_cases y1 : c = 1004
        · by_cases y2 : i = M
          · subst y2
            rw [if_pos ⟨y1, rfl⟩, if_pos ⟨y1, by omega, e⟩]
          · rw [if_neg (fun z => y2 z.2)]
            by_cases y3 : i < M ∧ pi_has u i k
            · rw [if_pos ⟨y1, y3⟩, if_pos ⟨y1, by omega, y3.2⟩]
            · rw [if_neg (fun z => y3 z.2), if_neg (fun z => y3 ⟨by omega, z.2.2⟩)]
        · rw [if_neg (fun z => y1 z.1), if_neg (fun z => y1 z.1), if_neg (fun z => y1 z.1)]
      · rw [pd_void_r c i, a5 c i]
        by_cases y1 : c = 1005
        · by_cases y2 : i = M
          · subst y2
            rw [if_pos ⟨y1, rfl⟩, if_pos ⟨y1, by omega, e⟩]
          · rw [if_neg (fun z => y2 z.2)]
            by_cases y3 : i < M ∧ pi_has u i k
            · rw [if_pos ⟨y1, y3⟩, if_pos ⟨y1, by omega, y3.2⟩]
            · rw [if_neg (fun z => y3 z.2), if_neg (fun z => y3 ⟨by omega, z.2.2⟩)]
        · rw [if_neg (fun z => y1 z.1), if_neg (fun z => y1 z.1), if_neg (fun z => y1 z.1)]
    · have e1 : mo_voids u k (M + 1) = mo_voids u k M := by rw [mo_voids, if_neg (fun z => e (hE.mp z))]
      rw [e1]
      refine ⟨a1, a2, a3, fun c i hc => ?_, fun c i => ?_⟩
      · rw [a4 c i hc]
        by_cases y3 : c = 1004 ∧ i < M ∧ pi_has u i k
        · rw [if_pos y3, if_pos ⟨y3.1, by omega, y3.2.2⟩]
        · rw [if_neg y3, if_neg]
          rintro ⟨z1, z2, z3⟩
          by_cases y2 : i = M
          · subst y2; exact e z3
          · exact y3 ⟨z1, by omega, z3⟩
      · rw [a5 c i]
        by_cases y3 : c = 1005 ∧ i < M ∧ pi_has u i k
        · rw [if_pos y3, if_pos ⟨y3.1, by omega, y3.2.2⟩]
        · rw [if_neg y3, if_neg]
          rintro ⟨z1, z2, z3⟩
          by_cases y2 : i = M
          · subst y2; exact e z3
          · exact y3 ⟨z1, by omega, z3⟩
end PU8
