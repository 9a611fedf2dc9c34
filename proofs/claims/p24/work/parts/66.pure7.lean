/-! PURE: cards -/
section PU9
variable {np T : Nat} {s s1 s' : xq_S}
set_option maxHeartbeats 2000000 in
theorem pi_putOut {b k o : Nat} (h : pi_V np T s) (wf : xq_wf s) (hb : b < s.2.1) (h1 : xq_i s 1004 b = 1) (hk : pi_has s b k) (ho : pi_has s b o) (hne : ¬ k = o) : pi_V np T (mo_putOut s b k (some o)) ∧ (mo_putOut s b k (some o)).1 = s.1 ∧ (mo_putOut s b k (some o)).2.1 = s.2.1 ∧ ¬ xq_i (mo_putOut s b k (some o)) 905 k = 0 ∧ (∀ c i, c = 1102 ∨ c = 1202 → xq_i (mo_putOut s b k (some o)) c i = xq_i s c i) := by
  have hT := pi_lvT h hb (Or.inl h1)
  have h10 := h.1.2.2.2.2.2.2.2.2.2 b hb
  by_cases e : T = 0
  · subst e
    have hbn := hT.mpr rfl
    have e1 : mo_putOut s b k (some o) = mo_voids (mo_leave (xu_i s 905 k 1) b (xq_i s 7 0)) k s.2.1 := by
      unfold mo_putOut
      rw [if_pos (h10.mpr hbn)]
    obtain ⟨hwn, hpn⟩ := pi_lv h hb h1
    obtain ⟨⟨j, hj, q1, q2⟩, _, l, r, q3, q4, q5, q6⟩ := hpn
    have hnp : s.2.1 = np := by have := h.1.2.2.1; omega
    have L := fun c i hc => pd_leave_i (s := xu_i s 905 k 1) (t := xq_i s 7 0) q3 q4 (by rw [xq_i_i, if_neg (by omega)]; exact q1) hj c i hc
    have LR := fun c i => pd_leave_r (s := xu_i s 905 k 1) (t := xq_i s 7 0) q3 q4 (by rw [xq_i_i, if_neg (by omega)]; exact q1) hj c i
    have LR : ∀ c i, xq_r (mo_leave (xu_i s 905 k 1) b (xq_i s 7 0)) c i = if c = 906 ∧ (i = l ∨ i = r) then none else if c = 300 ∧ i = j then none else xq_r s c i := LR
    have Ls : ∀ c i, ¬ c = 905 → ¬ c = 907 → ¬ c = 1006 → ¬ c = 1007 → ¬ c = 1008 → xq_i (mo_leave (xu_i s 905 k 1) b (xq_i s 7 0)) c i = xq_i s c i := fun c i z1 z2 z3 z4 z5 => by
      rw [L c i z2, if_neg (by omega), if_neg (by omega), xq_i_i, if_neg (by omega)]
    have Lr : ∀ c i, ¬ c = 906 → ¬ c = 300 → xq_r (mo_leave (xu_i s 905 k 1) b (xq_i s 7 0)) c i = xq_r s c i := fun c i z1 z2 => by
      rw [LR c i, if_neg (by omega), if_neg (by omega)]
    have hE : ∀ b' k', pi_has (mo_leave (xu_i s 905 k 1) b (xq_i s 7 0)) b' k' ↔ pi_has s b' k' := fun b' k' => pi_hasE (fun c hc => Lr c b' (by omega) (by omega))
    have F : pi_F np (mo_leave (xu_i s 905 k 1) b (xq_i s 7 0)) := fun k' hk' => by
      rw [mo_leave_1] at hk'
      obtain ⟨f1, f2⟩ := h.2.2.2.1 k' hk'
      rw [Ls 908 k' (by decide) (by decide) (by decide) (by decide) (by decide), Ls 909 k' (by decide) (by decide) (by decide) (by decide) (by decide), f1, f2]
      constructor
      · refine congrArg nI (pu_ct_eq (fun i _ => ?_))
        unfold pi_met
        rw [decide_eq_decide, hE, Ls 1004 i (by decide) (by decide) (by decide) (by decide) (by decide)]
      · refine congrArg nI (pu_ct_eq (fun i _ => ?_))
        unfold pi_won
        rw [decide_eq_decide, Lr 1005 i (by decide) (by decide), Ls 1004 i (by decide) (by decide) (by decide) (by decide) (by decide)]
    obtain ⟨a1, a2, a3, a4, a5⟩ := pi_voids (k := k) F (fun m hm => by
        obtain ⟨l', r', z1, z2⟩ := h.2.2.1.2.2.2.1 m hm
        refine ⟨l', r', (Lr _ _ (by decide) (by decide)).trans z1, (Lr _ _ (by decide) (by decide)).trans z2, fun z => ?_⟩
        subst z
        exact (h.2.1 m (by omega)).2.2 l' z1 z2) (fun m hm z => by
        rw [Ls 1004 m (by decide) (by decide) (by decide) (by decide) (by decide)] at z
        rcases (h.2.1 m (by omega)).2.1 with y | y | y | y
        · exact absurd (z.symm.trans y.1) (by decide)
        · exact absurd (z.symm.trans y.1) (by decide)
        · obtain ⟨kw, y1, y2⟩ := y.2.1
          exact ⟨kw, (Lr _ _ (by decide) (by decide)).trans y1, (hE _ _).mpr y2⟩
        · exact absurd (z.symm.trans y.1) (by decide)) np (Nat.le_refl _)
    rw [e1, hnp]
    have n1 : (mo_voids (mo_leave (xu_i s 905 k 1) b (xq_i s 7 0)) k np).1 = s.1 := a2.trans (mo_leave_1 _ _ _)
    have n2 : (mo_voids (mo_leave (xu_i s 905 k 1) b (xq_i s 7 0)) k np).2.1 = s.2.1 := a3.trans (mo_leave_2 _ _ _)
    have same : ∀ c i, ¬ c = 905 → ¬ c = 907 → ¬ c = 1006 → ¬ c = 1007 → ¬ c = 1008 → ¬ c = 1004 → ¬ c = 908 ∧ ¬ c = 909 ∧ ¬ c = 910 ∧ ¬ c = 911 → xq_i (mo_voids (mo_leave (xu_i s 905 k 1) b (xq_i s 7 0)) k np) c i = xq_i s c i := fun c i z1 z2 z3 z4 z5 z6 z7 => by
      rw [a4 c i z7, if_neg (fun z => z6 z.1), Ls c i z1 z2 z3 z4 z5]
    have i905 : ∀ i, xq_i (mo_voids (mo_leave (xu_i s 905 k 1) b (xq_i s 7 0)) k np) 905 i = if i = k then 1 else xq_i s 905 i := fun i => by
      rw [a4 905 i (by decide), if_neg (by omega), L 905 i (by decide), if_neg (by omega), if_neg (by omega), xq_i_i]
      by_cases z : i = k
      · rw [if_pos ⟨rfl, z⟩, if_pos z]
      · rw [if_neg (fun y => z y.2), if_neg z]
    refine ⟨pi_void (s' := mo_voids (mo_leave (xu_i s 905 k 1) b (xq_i s 7 0)) k np) h wf hb h1 q3 q4 (pi_hasL q3 q4 hk) hj q1 n1 n2 (fun c i hc => same c i (by omega) (by omega) (by omega) (by omega) (by omega) (by omega) (by omega)) (fun c i z hc => ?_) ⟨?_, ?_, ?_⟩ (fun b' hb' => ?_) (fun b' hb' => ?_) (fun c i hc => ?_) (fun k' z => ?_) (fun j' => ?_) (fun k' => ?_) a1, n1, n2.trans hnp, ?_, fun c i hc => same c i (by omega) (by omega) (by omega) (by omega) (by omega) (by omega) (by omega)⟩
    · rw [a4 c i (by omega), if_neg (by omega), L c i (by omega), if_neg (by omega), if_neg (by omega), xq_i_i, if_neg (by omega)]
    · rw [a4 1006 b (by decide), if_neg (by omega), L 1006 b (by decide), if_pos ⟨rfl, rfl⟩]
    · rw [a4 1007 b (by decide), if_neg (by omega), L 1007 b (by decide), if_neg (by omega), if_pos ⟨Or.inl rfl, rfl⟩]
    · rw [a4 1008 b (by decide), if_neg (by omega), L 1008 b (by decide), if_neg (by omega), if_pos ⟨Or.inr rfl, rfl⟩]
    · rw [a4 1004 b' (by decide), Ls 1004 b' (by decide) (by decide) (by decide) (by decide) (by decide)]
      by_cases z : pi_has s b' k
      · rw [if_pos ⟨rfl, by omega, (hE _ _).mpr z⟩, if_pos z]
      · rw [if_neg (fun y => z ((hE _ _).mp y.2.2)), if_neg z]
    · rw [a5 1005 b', Lr 1005 b' (by decide) (by decide)]
      by_cases z : pi_has s b' k
      · rw [if_pos ⟨rfl, by omega, (hE _ _).mpr z⟩, if_pos z]
      · rw [if_neg (fun y => z ((hE _ _).mp y.2.2)), if_neg z]
    · rw [a5 c i, if_neg (by omega), Lr c i (by omega) (by omega)]
    · rw [i905] at z
      by_cases y : k' = k
      · exact Or.inr y
      · rw [if_neg y] at z; exact Or.inl z
    · rw [a5 300 j', if_neg (by omega), LR 300 j', if_neg (by omega)]
      by_cases z : j' = j
      · rw [if_pos ⟨rfl, z⟩, if_pos z]
      · rw [if_neg (fun y => z y.2), if_neg z]
    · rw [a5 906 k', if_neg (by omega), LR 906 k']
      by_cases z : k' = l ∨ k' = r
      · rw [if_pos ⟨rfl, z⟩, if_pos z]
      · rw [if_neg (fun y => z y.2), if_neg z, if_neg (by omega)]
    · rw [i905, if_pos rfl]
      decide
  · have e1 : mo_putOut s b k (some o) = mo_finish (xu_i s 905 k 1) b (some o) (xq_i s 7 0) := by
      unfold mo_putOut
      rw [if_neg (fun z => e (hT.mp (h10.mp z)))]
    rw [e1]
    obtain ⟨x, y, s1, s2, s3, s4, _⟩ := (h.2.1 b hb).1
    obtain ⟨v1, v2, v3, v4, v5, v6, v7, v8, v9, v10, v11⟩ := pi_finish (s1 := xu_i s 905 k 1) (t := xq_i s 7 0) h wf hb h1 ho rfl rfl (fun c' i z1 _ _ _ => by rw [xq_i_i, if_neg (by omega)]) (fun _ _ => rfl) ⟨x, y, by rw [xq_i_i, if_neg (by omega)]; exact s1, by rw [xq_i_i, if_neg (by omega)]; exact s2, s3, s4⟩ (fun k' hk' => by
      rw [xq_i_i] at hk'
      by_cases z : k' = k
      · exact Or.inr ⟨by omega, by rw [z]; exact hk, by rw [z]; exact hne⟩
      · rw [if_neg (fun y => z y.2)] at hk'; exact Or.inl hk')
    refine ⟨v1, v2, v3, ?_, fun c i hc => ?_⟩
    · rw [v6 905 k (by simp), xq_i_i, if_pos ⟨rfl, rfl⟩]
      decide
    · rw [v6 c i (by omega), xq_i_i, if_neg (by omega)]
theorem pi_cardV {b own other : Nat} (t : Int32) (hc : (own = 1100 ∧ other = 1200) ∨ (own = 1200 ∧ other = 1100)) (h : pi_V np T s) (wf : xq_wf s) (hb : b < s.2.1) (h1 : xq_i s 1004 b = 1) : pi_V np T (mo_card2 s b own other t) ∧ (mo_card2 s b own other t).1 = s.1 ∧ (mo_card2 s b own other t).2.1 = s.2.1 ∧ (∃ k, xq_r s own b = some k ∧ k < s.1 ∧ (t = 2 → ¬ xq_i (mo_card2 s b own other t) 905 k = 0) ∧ (¬ t = 2 → xq_i (mo_card2 s b own other t) 905 k = 0)) ∧ xq_i (mo_card2 s b own other t) (own + 2) b = mo_max (xq_i s (own + 2) b) (t + 1) := by
  obtain ⟨hwn, hpn⟩ := pi_lv h hb h1
  obtain ⟨⟨j, hj, q1, q2⟩, _, l, r, q3, q4, q5, q6⟩ := hpn
  have hne : ¬ l = r := fun z => by
    subst z
    exact (h.2.1 b hb).2.2 l q3 q4
  have hln := wf.2.2.1 b l hb q3
  have hrn := wf.2.2.2.1 b r hb q4
  obtain ⟨k, o, hk, ho, hko, hkn, hk2, ho2⟩ : ∃ k o, xq_r s own b = some k ∧ xq_r s other b = some o ∧ ¬ k = o ∧ k < s.1 ∧ pi_has s b k ∧ pi_has s b o := by
    rcases hc with ⟨rfl, rfl⟩ | ⟨rfl, rfl⟩
    · exact ⟨l, r, q3, q4, hne, hln, Or.inl q3, Or.inr q4⟩
    · exact ⟨r, l, q4, q3, fun z => hne z.symm, hrn, Or.inr q4, Or.inl q3⟩
  have hk0 : xq_i s 905 k = 0 := by
    by_cases z : xq_i s 905 k = 0
    · exact z
    · rcases h.2.2.1.2.2.1 k b hkn hb z hk2 with q | q <;> exact absurd (h1.symm.trans q) (by decide)
  have h0 : pi_V np T (xu_i s (own + 2) b (mo_max (xq_i s (own + 2) b) (t + 1))) := pi_free h rfl rfl (fun c i hc' => by rw [xq_i_i, if_neg (by omega)]) (fun _ _ _ => rfl)
  have wf0 : xq_wf (xu_i s (own + 2) b (mo_max (xq_i s (own + 2) b) (t + 1))) := xq_wf_i wf (fun z => by omega)
  have h10 : xq_i (xu_i s (own + 2) b (mo_max (xq_i s (own + 2) b) (t + 1))) 1004 b = 1 := by rw [xq_i_i, if_neg (by omega)]; exact h1
  by_cases e1 : t = 1
  · have e : mo_card2 s b own other t = mo_overHit (xu_i (xu_i s (own + 2) b (mo_max (xq_i s (own + 2) b) (t + 1))) (other + 1) b (xq_i (xu_i s (own + 2) b (mo_max (xq_i s (own + 2) b) (t + 1))) (other + 1) b + 1)) b := by
      unfold mo_card2
      simp only
      rw [if_pos e1]
    rw [e]
    obtain ⟨v1, v2, v3, _, _, v6⟩ := pi_hitV (c := other + 1) (by omega) h0 wf0 hb h10
    refine ⟨v1, v2, v3, ⟨k, hk, hkn, fun z => ?_, fun _ => ?_⟩, ?_⟩
    · rw [e1] at z; exact absurd z (by decide)
    · rw [v6 905 k (by simp), xq_i_i, if_neg (by omega)]
      exact hk0
    · rw [v6 (own + 2) b (by omega), xq_i_i, if_pos ⟨rfl, rfl⟩]
  · by_cases e2 : t = 2
    · have e : mo_card2 s b own other t = mo_putOut (xu_i s (own + 2) b (mo_max (xq_i s (own + 2) b) (t + 1))) b k (some o) := by
        unfold mo_card2
        simp only
        rw [if_neg e1, if_pos e2, xq_r_i, hk]
        simp only
        rw [xq_r_i, ho]
      rw [e]
      obtain ⟨v1, v2, v3, v4, v5⟩ := pi_putOut h0 wf0 hb h10 hk2 ho2 hko
      refine ⟨v1, v2, v3, ⟨k, hk, hkn, fun _ => v4, fun z => absurd e2 z⟩, ?_⟩
      rw [v5 (own + 2) b (by omega), xq_i_i, if_pos ⟨rfl, rfl⟩]
    · have e : mo_card2 s b own other t = xu_i s (own + 2) b (mo_max (xq_i s (own + 2) b) (t + 1)) := by
        unfold mo_card2
        simp only
        rw [if_neg e1, if_neg e2]
      rw [e]
      refine ⟨h0, rfl, rfl, ⟨k, hk, hkn, fun z => absurd z e2, fun _ => ?_⟩, ?_⟩
      · rw [xq_i_i, if_neg (by omega)]; exact hk0
      · rw [xq_i_i, if_pos ⟨rfl, rfl⟩]
end PU9
