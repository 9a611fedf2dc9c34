/-! PURE: reads of what ends a bout -/
section PU6
variable {s : xq_S} {b l r j kw : Nat} {t : Int32}
theorem pd_n0 {j : Nat} (hj : j < 3) : ¬ (nI j < 0 ∨ 2 < nI j) := by
  rcases (show j = 0 ∨ j = 1 ∨ j = 2 by omega) with rfl | rfl | rfl <;> decide
theorem pd_cl {j : Nat} (hj : j < 3) : (nI j).toNatClampNeg = j := by
  rcases (show j = 0 ∨ j = 1 ∨ j = 2 by omega) with rfl | rfl | rfl <;> decide
theorem pd_leave (hl : xq_r s 1100 b = some l) (hr : xq_r s 1200 b = some r) (hp : xq_i s 1006 b = nI j) (hj : j < 3) : mo_leave s b t = xu_i (xu_r (xu_i (xu_r (xu_i (xu_i (xu_i (xu_r s 300 j none) 1006 b (-1)) 1007 b 0) 1008 b 0) 906 l none) 907 l (t + 120)) 906 r none) 907 r (t + 120) := by
  unfold mo_leave
  rw [hp, if_neg (pd_n0 hj), pd_cl hj]
  unfold mo_bend mo_send
  simp only [xq_r_i, xq_r_r, hl, hr, show ¬ ((1100 : Nat) = 300 ∧ b = j) by omega, show ¬ ((1200 : Nat) = 300 ∧ b = j) by omega, show ¬ ((1200 : Nat) = 906 ∧ b = l) by omega, if_false]
theorem pd_leave_i (hl : xq_r s 1100 b = some l) (hr : xq_r s 1200 b = some r) (hp : xq_i s 1006 b = nI j) (hj : j < 3) (c i : Nat) (h7 : ¬ c = 907) : xq_i (mo_leave s b t) c i = if c = 1006 ∧ i = b then -1 else if (c = 1007 ∨ c = 1008) ∧ i = b then 0 else xq_i s c i := by
  rw [pd_leave hl hr hp hj, xq_i_i, if_neg (by omega), xq_i_r, xq_i_i, if_neg (by omega), xq_i_r, xq_i_i, xq_i_i, xq_i_i, xq_i_r]
  by_cases e : i = b
  · by_cases e1 : c = 1006
    · rw [if_neg (by omega), if_neg (by omega), if_pos ⟨e1, e⟩, if_pos ⟨e1, e⟩]
    · by_cases e2 : c = 1007
      · rw [if_neg (by omega), if_pos ⟨e2, e⟩, if_neg (by omega), if_pos ⟨Or.inl e2, e⟩]
      · by_cases e3 : c = 1008
        · rw [if_pos ⟨e3, e⟩, if_neg (by omega), if_pos ⟨Or.inr e3, e⟩]
        · rw [if_neg (by omega), if_neg (by omega), if_neg (by omega), if_neg (by omega), if_neg (by omega)]
  · rw [if_neg (by omega), if_neg (by omega), if_neg (by omega), if_neg (by omega), if_neg (by omega)]
theorem pd_leave_r (hl : xq_r s 1100 b = some l) (hr : xq_r s 1200 b = some r) (hp : xq_i s 1006 b = nI j) (hj : j < 3) (c i : Nat) : xq_r (mo_leave s b t) c i = if c = 906 ∧ (i = l ∨ i = r) then none else if c = 300 ∧ i = j then none else xq_r s c i := by
  rw [pd_leave hl hr hp hj, xq_r_i, xq_r_r, xq_r_i, xq_r_r, xq_r_i, xq_r_i, xq_r_i, xq_r_r]
  by_cases e : c = 906
  · by_cases e1 : i = r
    · rw [if_pos ⟨e, e1⟩, if_pos ⟨e, Or.inr e1⟩]
    · by_cases e2 : i = l
      · rw [if_neg (by omega), if_pos ⟨e, e2⟩, if_pos ⟨e, Or.inl e2⟩]
      · rw [if_neg (by omega), if_neg (by omega), if_neg (by omega : ¬ (c = 906 ∧ (i = l ∨ i = r)))]
  · rw [if_neg (by omega), if_neg (by omega), if_neg (by omega : ¬ (c = 906 ∧ (i = l ∨ i = r)))]
/-- counts -/
theorem pd_count_i (k : Nat) (x y z v : Int32) (c i : Nat) (h : ¬ c = 910 ∧ ¬ c = 911) : xq_i (mo_count s k x y z v) c i = if c = 908 ∧ i = k then xq_i s 908 k + v else if c = 909 ∧ i = k then xq_i s 909 k + (if x = 0 then 0 else v) else xq_i s c i := by
  unfold mo_count
  simp only [xq_i_i]
  rw [if_neg (by omega), if_neg (by omega)]
  by_cases e : i = k
  · subst e
    by_cases e1 : c = 908
    · subst e1; simp
    · by_cases e2 : c = 909
      · subst e2; simp
      · simp [e1, e2]
  · simp [e]
theorem pd_bcount_i (hl : xq_r s 1100 b = some l) (hr : xq_r s 1200 b = some r) (hne : ¬ l = r) (hk : kw = l ∨ kw = r) (x y v : Int32) (c i : Nat) (h : ¬ c = 910 ∧ ¬ c = 911) : xq_i (mo_bcount s b (some kw) x y v) c i = if c = 908 ∧ (i = l ∨ i = r) then xq_i s 908 i + v else if c = 909 ∧ i = kw then xq_i s 909 i + v else xq_i s c i := by
  unfold mo_bcount mo_scount
  have hr2 : ∀ z1 z2 z3 z4 z5, xq_r (mo_count s z1 z2 z3 z4 z5) 1200 b = some r := fun _ _ _ _ _ => hr
  have hne2 : ¬ r = l := fun z => hne z.symm
  simp only [hl, hr2]
  rw [pd_count_i _ _ _ _ _ _ _ h, pd_count_i _ _ _ _ _ _ _ h, pd_count_i _ _ _ _ _ _ _ (by decide), pd_count_i _ _ _ _ _ _ _ (by decide)]
  by_cases e8 : c = 908
  · subst e8
    by_cases e1 : i = r
    · subst e1
      simp [hne, hne2]
    · by_cases e2 : i = l
      · subst e2; simp [e1, hne]
      · simp [e1, e2]
  · by_cases e9 : c = 909
    · subst e9
      rcases hk with rfl | rfl
      · by_cases e1 : i = kw
        · subst e1; simp [hne, hne2]
        · by_cases e2 : i = r
          · subst e2; simp [hne, hne2, e1, fun z : kw = i => e1 z.symm]
          · simp [e1, e2]
      · by_cases e1 : i = kw
        · subst e1; simp [hne, hne2]
        · by_cases e2 : i = l
          · subst e2; simp [e1, hne2, fun z : kw = i => e1 z.symm]
          · simp [e1, e2]
    · simp [e8, e9]
theorem pd_bcount_r (w : Option Nat) (x y v : Int32) (c i : Nat) : xq_r (mo_bcount s b w x y v) c i = xq_r s c i := by
  unfold mo_bcount mo_scount
  split <;> split <;> rfl
/-- a bout of a pool is decided -/
theorem pd_dec0_i (hp : xq_i s 1001 b = -1) (hl : xq_r s 1100 b = some l) (hr : xq_r s 1200 b = some r) (hne : ¬ l = r) (hk : kw = l ∨ kw = r) (c i : Nat) (h : ¬ c = 910 ∧ ¬ c = 911) : xq_i (mo_decide s b (some kw)) c i = if c = 1004 ∧ i = b then 2 else if c = 908 ∧ (i = l ∨ i = r) then xq_i s 908 i + 1 else if c = 909 ∧ i = kw then xq_i s 909 i + 1 else xq_i s c i := by
  unfold mo_decide
  simp only
  rw [if_pos (by rw [xq_i_r, xq_i_i, if_neg (by omega)]; exact hp), pd_bcount_i (by rw [xq_r_r, if_neg (by omega), xq_r_i]; exact hl) (by rw [xq_r_r, if_neg (by omega), xq_r_i]; exact hr) hne hk _ _ _ _ _ h]
  rw [xq_i_r, xq_i_r, xq_i_r, xq_i_i, xq_i_i, xq_i_i, if_neg (by omega : ¬ ((908 : Nat) = 1004 ∧ i = b)), if_neg (by omega : ¬ ((909 : Nat) = 1004 ∧ i = b))]
  by_cases e : c = 1004 ∧ i = b
  · rw [if_pos e, if_neg (by omega), if_neg (by omega), if_pos e]
  · rw [if_neg e, if_neg e]
theorem pd_dec0_r (hp : xq_i s 1001 b = -1) (o : Option Nat) (c i : Nat) : xq_r (mo_decide s b o) c i = if c = 1005 ∧ i = b then o else xq_r s c i := by
  unfold mo_decide
  simp only
  rw [if_pos (by rw [xq_i_r, xq_i_i, if_neg (by omega)]; exact hp), pd_bcount_r, xq_r_r, xq_r_i]
/-- a bout of the table is decided -/
theorem pd_decT_i (hp : ¬ xq_i s 1001 b = -1) (o : Option Nat) (c i : Nat) (h : ¬ c = 913) : xq_i (mo_decide s b o) c i = if c = 1004 ∧ i = b then 2 else xq_i s c i := by
  unfold mo_decide
  simp only
  rw [if_neg (by rw [xq_i_r, xq_i_i, if_neg (by omega)]; exact hp), fr_goOnT, fr_lose _ _ _ i h, xq_i_r, xq_i_i]
theorem pd_lose_r (o : Option Nat) (c i : Nat) : xq_r (mo_lose s b o) c i = xq_r s c i := by
  unfold mo_lose
  split <;> rfl
theorem pd_lose_2 (o : Option Nat) : (mo_lose s b o).2.1 = s.2.1 := by
  unfold mo_lose
  split <;> rfl
theorem pd_goOnT_r {np T q : Nat} (h1 : xq_i s 1000 b = nI b) (h9 : xq_i s 9 0 = nI np) (h8 : xq_i s 8 0 = nI T) (hT : T = 2 ∨ T = 4 ∨ T = 8) (hn : s.2.1 = np + (T - 1)) (hq : b = np + q) (hb : b < s.2.1) (hnp : np ≤ 98) (c i : Nat) : xq_r (mo_goOnT s b) c i = if q + 2 < T ∧ c = (if q % 2 = 0 then 1100 else 1200) ∧ i = np + T / 2 + q / 2 then xq_r s 1005 b else xq_r s c i := by
  have e1 : mo_fol s b = nI (np + T / 2 + q / 2) := by
    unfold mo_fol
    rw [h1, h9, h8, hq, pk_sub (by omega), show np + q - np = q by omega, show (nI T : Int32) / 2 = nI (T / 2) from pk_div (by omega) (by decide) (by decide), show (nI q : Int32) / 2 = nI (q / 2) from pk_div (by omega) (by decide) (by decide), nI_add, nI_add]
  have e2 : mo_par s b = nI (q % 2) := by
    unfold mo_par
    rw [h1, h9, hq, pk_sub (by omega), show np + q - np = q by omega]
    exact pk_rem (by omega) (by decide) (by decide)
  have e3 : (nI (np + T / 2 + q / 2)).toNatClampNeg = np + T / 2 + q / 2 := nI_clamp (by omega)
  unfold mo_goOnT
  rw [e1, e2, e3]
  by_cases e : q + 2 < T
  · have hlt : np + T / 2 + q / 2 < s.2.1 := by rcases hT with rfl | rfl | rfl <;> omega
    rw [if_neg (xn_in hlt (by omega))]
    by_cases e4 : q % 2 = 0
    · rw [if_pos (by rw [e4]; rfl), xq_r_r]
      by_cases e5 : c = 1100 ∧ i = np + T / 2 + q / 2
      · rw [if_pos e5, if_pos ⟨e, by rw [if_pos e4]; exact e5.1, e5.2⟩]
      · rw [if_neg e5, if_neg]
        rw [if_pos e4]
        exact fun z => e5 z.2
    · rw [if_neg (by rw [show q % 2 = 1 by omega]; decide), xq_r_r]
      by_cases e5 : c = 1200 ∧ i = np + T / 2 + q / 2
      · rw [if_pos e5, if_pos ⟨e, by rw [if_neg e4]; exact e5.1, e5.2⟩]
      · rw [if_neg e5, if_neg]
        rw [if_neg e4]
        exact fun z => e5 z.2
  · have hge : s.2.1 ≤ np + T / 2 + q / 2 := by rcases hT with rfl | rfl | rfl <;> omega
    rw [if_pos, if_neg (fun z => e z.1)]
    right
    obtain ⟨m, hm⟩ : ∃ m, s.2.1 = m + 1 := ⟨s.2.1 - 1, by omega⟩
    rw [hm, nI_pred]
    exact nI_lt (by omega) (by omega)
theorem pd_decT_r {np T q : Nat} (hp : ¬ xq_i s 1001 b = -1) (o : Option Nat) (h1 : xq_i s 1000 b = nI b) (h9 : xq_i s 9 0 = nI np) (h8 : xq_i s 8 0 = nI T) (hT : T = 2 ∨ T = 4 ∨ T = 8) (hn : s.2.1 = np + (T - 1)) (hq : b = np + q) (hb : b < s.2.1) (hnp : np ≤ 98) (c i : Nat) : xq_r (mo_decide s b o) c i = if q + 2 < T ∧ c = (if q % 2 = 0 then 1100 else 1200) ∧ i = np + T / 2 + q / 2 then o else if c = 1005 ∧ i = b then o else xq_r s c i := by
  unfold mo_decide
  simp only
  rw [if_neg (by rw [xq_i_r, xq_i_i, if_neg (by omega)]; exact hp)]
  have f : ∀ (x : Option Nat) (c i : Nat), ¬ c = 1004 → ¬ c = 913 → xq_i (mo_lose (xu_r (xu_i s 1004 b 2) 1005 b o) b x) c i = xq_i s c i := fun x c i h4 h3 => by
    rw [fr_lose _ _ _ i h3, xq_i_r, xq_i_i, if_neg (fun z => h4 z.1)]
  rw [pd_goOnT_r (np := np) (T := T) (q := q) ((f _ 1000 b (by decide) (by decide)).trans h1) ((f _ 9 0 (by decide) (by decide)).trans h9) ((f _ 8 0 (by decide) (by decide)).trans h8) hT (by rw [pd_lose_2]; exact hn) hq (by rw [pd_lose_2]; exact hb) hnp, pd_lose_r, pd_lose_r, xq_r_r, xq_r_r, if_pos (⟨rfl, rfl⟩ : (1005 : Nat) = 1005 ∧ b = b), xq_r_i]
end PU6
/-! PURE: a live bout ends -/
section PU7
variable {np T : Nat} {s s1 s' : xq_S}
/-- what stays when the bout b is over -/
def pi_aft (s s' : xq_S) (b kw : Nat) : Prop := s'.1 = s.1 ∧ s'.2.1 = s.2.1 ∧ xq_i s' 1004 b = 2 ∧ xq_r s' 1005 b = some kw ∧ (∀ c i, c = 6 ∨ c = 7 ∨ c = 8 ∨ c = 9 ∨ c = 900 ∨ c = 905 ∨ c = 1000 ∨ c = 1001 ∨ c = 1101 ∨ c = 1201 ∨ c = 1102 ∨ c = 1202 → xq_i s' c i = xq_i s c i) ∧ (∀ c i, ¬ i = b → c = 1004 ∨ c = 1006 ∨ c = 1007 ∨ c = 1008 → xq_i s' c i = xq_i s c i) ∧ (∀ i, ¬ i = b → xq_r s' 1005 i = xq_r s 1005 i) ∧ (∀ j' b', xq_r s 300 j' = some b' → ¬ b' = b → xq_r s' 300 j' = some b') ∧ (∀ j', xq_r s 300 j' = none → xq_r s' 300 j' = none) ∧ (∀ c i, i < s.2.1 → c = 1100 ∨ c = 1200 → xq_i s 1004 i = 1 → xq_r s' c i = xq_r s c i) ∧ (∀ c i, xq_r s' c i = xq_r s c i ∨ xq_r s' c i = none ∨ ((c = 1005 ∨ c = 1100 ∨ c = 1200) ∧ xq_r s' c i = some kw))
theorem pi_ite {c : Prop} [Decidable c] {a b : Option Nat} (P : Option Nat → Prop) (h1 : c → P a) (h2 : P b) : P (if c then a else b) := by
  by_cases z : c
  · rw [if_pos z]; exact h1 z
  · rw [if_neg z]; exact h2
set_option maxHeartbeats 2000000 in
theorem pi_finish {b kw : Nat} {t : Int32} (h : pi_V np T s) (wf : xq_wf s) (hb : b < s.2.1) (h1 : xq_i s 1004 b = 1) (hkw : pi_has s b kw) (n1 : s1.1 = s.1) (n2 : s1.2.1 = s.2.1)
    (hi : ∀ c i, ¬ c = 905 → ¬ c = 1102 → ¬ c = 1202 → ¬ ((c = 1101 ∨ c = 1201) ∧ i = b) → xq_i s1 c i = xq_i s c i) (hr : ∀ c i, xq_r s1 c i = xq_r s c i)
    (hsc : ∃ x y, xq_i s1 1101 b = nI x ∧ xq_i s1 1201 b = nI y ∧ x ≤ pi_goal np b ∧ y ≤ pi_goal np b)
    (i5 : ∀ k, ¬ xq_i s1 905 k = 0 → ¬ xq_i s 905 k = 0 ∨ (0 < T ∧ pi_has s b k ∧ ¬ k = kw)) : pi_V np T (mo_finish s1 b (some kw) t) ∧ pi_aft s1 (mo_finish s1 b (some kw) t) b kw := by
  obtain ⟨hwn, hpn⟩ := pi_lv h hb h1
  have hT := pi_lvT h hb (Or.inl h1)
  obtain ⟨⟨j, hj, q1, q2⟩, _, l, r, q3, q4, q5, q6⟩ := hpn
  have hk : kw = l ∨ kw = r := pi_hasL q3 q4 hkw
  have hne : ¬ l = r := fun z => by
    subst z
    exact (h.2.1 b hb).2.2 l q3 q4
  have hl1 : xq_r s1 1100 b = some l := (hr _ _).trans q3
  have hr1 : xq_r s1 1200 b = some r := (hr _ _).trans q4
  have hp1 : xq_i s1 1006 b = nI j := (hi 1006 b (by decide) (by decide) (by decide) (by omega)).trans q1
  have L := fun c i hc => pd_leave_i (s := s1) (t := t) hl1 hr1 hp1 hj c i hc
  have LR := fun c i => pd_leave_r (s := s1) (t := t) hl1 hr1 hp1 hj c i
  have hl2 : xq_r (mo_leave s1 b t) 1100 b = some l := by rw [LR, if_neg (by omega), if_neg (by omega)]; exact hl1
  have hr2 : xq_r (mo_leave s1 b t) 1200 b = some r := by rw [LR, if_neg (by omega), if_neg (by omega)]; exact hr1
  have A := h.1
  obtain ⟨A1, A2, A3, A4, A5, A6, A7, A8, A9, A10⟩ := A
  have ls : ∀ c i, ¬ c = 905 → ¬ c = 1102 → ¬ c = 1202 → ¬ (c = 1101 ∨ c = 1201) → ¬ c = 907 → ¬ c = 1006 → ¬ c = 1007 → ¬ c = 1008 → xq_i (mo_leave s1 b t) c i = xq_i s c i := fun c i e1 e2 e3 e4 e5 e6 e7 e8 => by
    rw [L c i e5, if_neg (fun z => e6 z.1), if_neg (fun z => z.1.elim e7 e8)]
    exact hi c i e1 e2 e3 (fun z => e4 z.1)
  have l9 : ∀ c i, c < 1000 → ¬ c = 907 → xq_i (mo_leave s1 b t) c i = xq_i s1 c i := fun c i e1 e2 => by
    rw [L c i e2, if_neg (by omega), if_neg (by omega)]
  have m1 : (mo_finish s1 b (some kw) t).1 = s1.1 := by unfold mo_finish; rw [mo_decide_1, mo_leave_1]
  have m2 : (mo_finish s1 b (some kw) t).2.1 = s1.2.1 := by unfold mo_finish; rw [mo_decide_2, mo_leave_2]
  have I : ∀ c i, ¬ c = 907 ∧ ¬ c = 910 ∧ ¬ c = 911 ∧ ¬ c = 913 → xq_i (mo_finish s1 b (some kw) t) c i = if c = 1004 ∧ i = b then 2 else if T = 0 ∧ c = 908 ∧ (i = l ∨ i = r) then xq_i s1 908 i + 1 else if T = 0 ∧ c = 909 ∧ i = kw then xq_i s1 909 i + 1 else xq_i (mo_leave s1 b t) c i := fun c i hc => by
    unfold mo_finish
    by_cases e : T = 0
    · rw [pd_dec0_i ((ls 1001 b (by decide) (by decide) (by decide) (by decide) (by decide) (by decide) (by decide) (by decide)).trans ((A10 b hb).mpr (hT.mpr e))) hl2 hr2 hne hk c i ⟨hc.2.1, hc.2.2.1⟩, l9 908 i (by decide) (by decide), l9 909 i (by decide) (by decide)]
      simp only [e, true_and]
    · rw [pd_decT_i (by rw [ls 1001 b (by decide) (by decide) (by decide) (by decide) (by decide) (by decide) (by decide) (by decide)]; exact fun z => e (hT.mp ((A10 b hb).mp z))) (some kw) c i hc.2.2.2]
      simp only [e, false_and, if_false]
  have R : ∀ c i, xq_r (mo_finish s1 b (some kw) t) c i = if 0 < T ∧ (b - np) + 2 < T ∧ c = (if (b - np) % 2 = 0 then 1100 else 1200) ∧ i = np + T / 2 + (b - np) / 2 then some kw else if c = 1005 ∧ i = b then some kw else xq_r (mo_leave s1 b t) c i := fun c i => by
    unfold mo_finish
    by_cases e : T = 0
    · rw [pd_dec0_r ((ls 1001 b (by decide) (by decide) (by decide) (by decide) (by decide) (by decide) (by decide) (by decide)).trans ((A10 b hb).mpr (hT.mpr e))) (some kw) c i]
      have e0 : ¬ 0 < T := by omega
      simp only [e0, false_and, if_false]
    · have hbn : np ≤ b := by
        by_cases z : b < np
        · exact absurd (hT.mp z) e
        · omega
      rw [pd_decT_r (np := np) (T := T) (q := b - np) (by rw [ls 1001 b (by decide) (by decide) (by decide) (by decide) (by decide) (by decide) (by decide) (by decide)]; exact fun z => e (hT.mp ((A10 b hb).mp z))) (some kw) ((ls 1000 b (by decide) (by decide) (by decide) (by decide) (by decide) (by decide) (by decide) (by decide)).trans (A9 b hb)) ((ls 9 0 (by decide) (by decide) (by decide) (by decide) (by decide) (by decide) (by decide) (by decide)).trans (A6 (by omega))) ((ls 8 0 (by decide) (by decide) (by decide) (by decide) (by decide) (by decide) (by decide) (by decide)).trans A5) (by omega) (by rw [mo_leave_2, n2]; exact A3) (by omega) (by rw [mo_leave_2, n2]; exact hb) A4]
      have : 0 < T := by omega
      simp only [this, true_and]
  have same : ∀ c i, c = 6 ∨ c = 7 ∨ c = 8 ∨ c = 9 ∨ c = 900 ∨ c = 905 ∨ c = 1000 ∨ c = 1001 ∨ c = 1101 ∨ c = 1201 ∨ c = 1102 ∨ c = 1202 → xq_i (mo_finish s1 b (some kw) t) c i = xq_i s1 c i := fun c i hc => by
    rw [I c i (by omega), if_neg (by omega), if_neg (by omega), if_neg (by omega), L c i (by omega), if_neg (by omega), if_neg (by omega)]
  have same2 : ∀ c i, ¬ i = b → c = 1004 ∨ c = 1006 ∨ c = 1007 ∨ c = 1008 → xq_i (mo_finish s1 b (some kw) t) c i = xq_i s1 c i := fun c i e hc => by
    rw [I c i (by omega), if_neg (by omega), if_neg (by omega), if_neg (by omega), L c i (by omega), if_neg (by omega), if_neg (by omega)]
  have r5 : ∀ b', xq_r (mo_finish s1 b (some kw) t) 1005 b' = if b' = b then some kw else xq_r s1 1005 b' := fun b' => by
    rw [R, if_neg (fun z => by have := z.2.2.1; split at this <;> omega)]
    by_cases e : b' = b
    · rw [if_pos ⟨rfl, e⟩, if_pos e]
    · rw [if_neg (fun z => e z.2), if_neg e, LR, if_neg (by omega), if_neg (by omega)]
  have r3 : ∀ j', xq_r (mo_finish s1 b (some kw) t) 300 j' = if j' = j then none else xq_r s1 300 j' := fun j' => by
    rw [R, if_neg (fun z => by have := z.2.2.1; split at this <;> omega), if_neg (by omega), LR, if_neg (by omega)]
    by_cases e : j' = j
    · rw [if_pos ⟨rfl, e⟩, if_pos e]
    · rw [if_neg (fun z => e z.2), if_neg e]
  have r6 : ∀ k, xq_r (mo_finish s1 b (some kw) t) 906 k = if k = l ∨ k = r then none else xq_r s1 906 k := fun k => by
    rw [R, if_neg (fun z => by have := z.2.2.1; split at this <;> omega), if_neg (by omega), LR]
    by_cases e : k = l ∨ k = r
    · rw [if_pos ⟨rfl, e⟩, if_pos e]
    · rw [if_neg (fun z => e z.2), if_neg e, if_neg (by omega)]
  have sd : ∀ c i, c = 1100 ∨ c = 1200 → xq_r (mo_finish s1 b (some kw) t) c i = if 0 < T ∧ (b - np) + 2 < T ∧ c = (if (b - np) % 2 = 0 then 1100 else 1200) ∧ i = np + T / 2 + (b - np) / 2 then some kw else xq_r s1 c i := fun c i hc => by
    have e : xq_r (mo_leave s1 b t) c i = xq_r s1 c i := by rw [LR, if_neg (by omega), if_neg (by omega)]
    have e2 : (if c = 1005 ∧ i = b then some kw else xq_r (mo_leave s1 b t) c i) = xq_r s1 c i := by rw [if_neg (by omega), e]
    rw [R, e2]
  have b4 : xq_i (mo_finish s1 b (some kw) t) 1004 b = 2 := by rw [I 1004 b (by omega), if_pos ⟨rfl, rfl⟩]
  refine ⟨pi_fin (s' := mo_finish s1 b (some kw) t) h wf hb h1 q3 q4 hk hj q1 (m1.trans n1) (m2.trans n2) ?_ (fun c hc => ?_) (fun k => ?_) (fun c b' hc => ?_) (fun c b' e hc => ?_) b4 ⟨?_, ?_, ?_⟩ (fun b' => ?_) (fun j' => ?_) (fun k => ?_) (fun k hk5 => ?_) (fun k => ?_) (fun k => ?_) (fun q e c b' hc => ?_) (fun e c b' hc => ?_), m1, m2, b4, by rw [r5, if_pos rfl], same, same2, fun i e => by rw [r5, if_neg e], fun j' b' e1 e2 => ?_, fun j' e => ?_, fun c i hin hc h4 => ?_, fun c i => ?_⟩
  · obtain ⟨x, y, z1, z2, z3, z4⟩ := hsc
    exact ⟨x, y, (same 1101 b (by simp)).trans z1, (same 1201 b (by simp)).trans z2, z3, z4⟩
  · rw [same c 0 (by omega)]
    exact hi c 0 (by omega) (by omega) (by omega) (by omega)
  · rw [same 900 k (by simp)]
    exact hi 900 k (by omega) (by omega) (by omega) (by omega)
  · rw [same c b' (by omega)]
    exact hi c b' (by omega) (by omega) (by omega) (by omega)
  · by_cases e2 : c = 1101 ∨ c = 1201
    · rw [same c b' (by omega)]
      exact hi c b' (by omega) (by omega) (by omega) (by omega)
    · rw [same2 c b' e (by omega)]
      exact hi c b' (by omega) (by omega) (by omega) (by omega)
  · rw [I 1006 b (by omega), if_neg (by omega), if_neg (by omega), if_neg (by omega), L 1006 b (by omega), if_pos ⟨rfl, rfl⟩]
  · rw [I 1007 b (by omega), if_neg (by omega), if_neg (by omega), if_neg (by omega), L 1007 b (by omega), if_neg (by omega), if_pos ⟨Or.inl rfl, rfl⟩]
  · rw [I 1008 b (by omega), if_neg (by omega), if_neg (by omega), if_neg (by omega), L 1008 b (by omega), if_neg (by omega), if_pos ⟨Or.inr rfl, rfl⟩]
  · rw [r5, hr]
  · rw [r3, hr]
  · rw [r6, hr]
  · rw [same 905 k (by simp)] at hk5
    rcases i5 k hk5 with z | ⟨z1, z2, z3⟩
    · exact Or.inl z
    · exact Or.inr ⟨z1, pi_hasL q3 q4 z2, z3⟩
  · rw [I 908 k (by omega), if_neg (by omega), hi 908 k (by omega) (by omega) (by omega) (by omega)]
    by_cases e : T = 0 ∧ (k = l ∨ k = r)
    · rw [if_pos ⟨e.1, rfl, e.2⟩, if_pos e]
    · rw [if_neg (fun z => e ⟨z.1, z.2.2⟩), if_neg (by omega), if_neg e]
      exact ls 908 k (by decide) (by decide) (by decide) (by decide) (by decide) (by decide) (by decide) (by decide)
  · rw [I 909 k (by omega), if_neg (by omega), if_neg (by omega), hi 909 k (by omega) (by omega) (by omega) (by omega)]
    by_cases e : T = 0 ∧ k = kw
    · rw [if_pos ⟨e.1, rfl, e.2⟩, if_pos e]
    · rw [if_neg (fun z => e ⟨z.1, z.2.2⟩), if_neg e]
      exact ls 909 k (by decide) (by decide) (by decide) (by decide) (by decide) (by decide) (by decide) (by decide)
  · rw [sd c b' hc, hr, show b - np = q by omega]
  · rw [sd c b' hc, hr, if_neg]
    intro z
    have := hT.mp e
    omega
  · rw [r3, if_neg]
    · exact e1
    · intro z
      subst z
      rw [hr, q2] at e1
      exact e2 (Option.some.inj e1).symm
  · rw [r3]
    split
    · rfl
    · exact e
  · rw [sd c i hc, if_neg]
    rintro ⟨z1, z2, z3, z4⟩
    have g := h.2.2.2.2.1 (b - np) z2
    have hbn : np ≤ b := by
      by_cases z : b < np
      · have := hT.mp z; omega
      · omega
    rw [← z4, show np + (b - np) = b by omega, hwn, ← z3] at g
    have h4s : xq_i s 1004 i = 1 := (hi 1004 i (by omega) (by omega) (by omega) (by omega)).symm.trans h4
    obtain ⟨_, _, l', r', y1, y2, _⟩ := (pi_lv h (by omega) h4s).2
    rcases hc with rfl | rfl
    · rw [y1] at g; cases g
    · rw [y2] at g; cases g
  · rw [R]
    refine pi_ite (fun o => o = xq_r s1 c i ∨ o = none ∨ ((c = 1005 ∨ c = 1100 ∨ c = 1200) ∧ o = some kw)) (fun z => Or.inr (Or.inr ⟨?_, rfl⟩)) (pi_ite (fun o => o = xq_r s1 c i ∨ o = none ∨ ((c = 1005 ∨ c = 1100 ∨ c = 1200) ∧ o = some kw)) (fun z => Or.inr (Or.inr ⟨Or.inl z.1, rfl⟩)) ?_)
    · rw [z.2.2.1]
      split <;> simp
    · rw [LR]
      exact pi_ite (fun o => o = xq_r s1 c i ∨ o = none ∨ ((c = 1005 ∨ c = 1100 ∨ c = 1200) ∧ o = some kw)) (fun _ => Or.inr (Or.inl rfl)) (pi_ite (fun o => o = xq_r s1 c i ∨ o = none ∨ ((c = 1005 ∨ c = 1100 ∨ c = 1200) ∧ o = some kw)) (fun _ => Or.inr (Or.inl rfl)) (Or.inl rfl))
end PU7
