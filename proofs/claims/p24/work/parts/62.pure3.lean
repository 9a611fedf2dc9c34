/-! PURE: what always holds -/
section PU3
def pi_goal (np b : Nat) : Nat := if b < np then 5 else 15
def pi_per (np b : Nat) : Nat := if b < np then 1 else 3
abbrev pi_has (s : xq_S) (b k : Nat) : Prop := xq_r s 1100 b = some k ∨ xq_r s 1200 b = some k
def pi_idle (s : xq_S) (b : Nat) : Prop := xq_i s 1006 b = -1 ∧ xq_i s 1007 b = 0 ∧ xq_i s 1008 b = 0
def pi_live (np : Nat) (s : xq_S) (b : Nat) : Prop := (∃ j, j < 3 ∧ xq_i s 1006 b = nI j ∧ xq_r s 300 j = some b) ∧ (∃ p q, xq_i s 1007 b = nI p ∧ 1 ≤ p ∧ p ≤ pi_per np b + 1 ∧ xq_i s 1008 b = nI q ∧ 1 ≤ q ∧ q ≤ 180) ∧ ∃ l r, xq_r s 1100 b = some l ∧ xq_r s 1200 b = some r ∧ xq_r s 906 l = some b ∧ xq_r s 906 r = some b
def pi_sc (np : Nat) (s : xq_S) (b : Nat) : Prop := ∃ x y, xq_i s 1101 b = nI x ∧ xq_i s 1201 b = nI y ∧ x ≤ pi_goal np b ∧ y ≤ pi_goal np b ∧ (xq_i s 1004 b = 0 ∨ xq_i s 1004 b = 1 → x < pi_goal np b ∧ y < pi_goal np b)
def pi_sh (np : Nat) (s : xq_S) (b : Nat) : Prop := (xq_i s 1004 b = 0 ∧ xq_r s 1005 b = none ∧ pi_idle s b) ∨ (xq_i s 1004 b = 1 ∧ xq_r s 1005 b = none ∧ pi_live np s b) ∨ (xq_i s 1004 b = 2 ∧ (∃ k, xq_r s 1005 b = some k ∧ pi_has s b k) ∧ pi_idle s b) ∨ (xq_i s 1004 b = 3 ∧ xq_r s 1005 b = none ∧ pi_idle s b)
/-- numbers and sizes -/
def pi_A (np T : Nat) (s : xq_S) : Prop := s.1 ≤ 8 ∧ (T = 0 ∨ T = 2 ∨ T = 4 ∨ T = 8) ∧ s.2.1 = np + (T - 1) ∧ np ≤ 98 ∧ xq_i s 8 0 = nI T ∧ (0 < T → xq_i s 9 0 = nI np) ∧ ¬ xq_i s 6 0 = 0 ∧ (∀ k, k < s.1 → xq_i s 900 k = nI k) ∧ (∀ b, b < s.2.1 → xq_i s 1000 b = nI b) ∧ (∀ b, b < s.2.1 → (xq_i s 1001 b = -1 ↔ b < np))
/-- bouts -/
def pi_B (np T : Nat) (s : xq_S) : Prop := ∀ b, b < s.2.1 → pi_sc np s b ∧ pi_sh np s b ∧ ∀ k, xq_r s 1100 b = some k → ¬ xq_r s 1200 b = some k
/-- the live bouts of fencers, of pistes; who is out; pools -/
def pi_C (np T : Nat) (s : xq_S) : Prop := (∀ k b, k < s.1 → xq_r s 906 k = some b → xq_i s 1004 b = 1 ∧ pi_has s b k) ∧ (∀ j b, j < 3 → xq_r s 300 j = some b → xq_i s 1006 b = nI j) ∧ (∀ k b, k < s.1 → b < s.2.1 → ¬ xq_i s 905 k = 0 → pi_has s b k → xq_i s 1004 b = 2 ∨ xq_i s 1004 b = 3) ∧ (∀ b, b < np → ∃ l r, xq_r s 1100 b = some l ∧ xq_r s 1200 b = some r) ∧ (0 < T → ∀ b, b < np → xq_i s 1004 b = 2 ∨ xq_i s 1004 b = 3)
def pi_met (s : xq_S) (k b : Nat) : Bool := decide (xq_i s 1004 b = 2 ∧ pi_has s b k)
def pi_won (s : xq_S) (k b : Nat) : Bool := decide (xq_i s 1004 b = 2 ∧ xq_r s 1005 b = some k)
/-- counts -/
def pi_F (np : Nat) (s : xq_S) : Prop := ∀ k, k < s.1 → xq_i s 908 k = nI (xq_ct (pi_met s k) np) ∧ xq_i s 909 k = nI (xq_ct (pi_won s k) np)
/-- the table: who wins goes on; and nobody else does -/
def pi_G (np T : Nat) (s : xq_S) : Prop := ∀ q, q + 2 < T → xq_r s (if q % 2 = 0 then 1100 else 1200) (np + T / 2 + q / 2) = xq_r s 1005 (np + q)
def pi_U (np T : Nat) (s : xq_S) : Prop := ∀ p q k, p < q → q + 1 < T → pi_has s (np + p) k → pi_has s (np + q) k → xq_r s 1005 (np + p) = some k ∧ T / 2 + p / 2 ≤ q
def pi_V (np T : Nat) (s : xq_S) : Prop := pi_A np T s ∧ pi_B np T s ∧ pi_C np T s ∧ pi_F np s ∧ pi_G np T s ∧ pi_U np T s
theorem pi_n3 {j : Nat} (hj : j < 3) : ¬ nI j = (-1 : Int32) := by
  rcases (show j = 0 ∨ j = 1 ∨ j = 2 by omega) with rfl | rfl | rfl <;> decide
theorem pi_n3e {i j : Nat} (hi : i < 3) (hj : j < 3) (h : nI i = nI j) : i = j := (nI_eq (by omega) (by omega)).mp h
section
variable {np T : Nat} {s s' : xq_S}
/-- whose piste it is, it is live -/
theorem pi_st {j b : Nat} (h : pi_V np T s) (hj : j < 3) (hb : b < s.2.1) (hp : xq_i s 1006 b = nI j) : xq_i s 1004 b = 1 := by
  rcases (h.2.1 b hb).2.1 with q | q | q | q
  · exact absurd (hp.symm.trans q.2.2.1) (pi_n3 hj)
  · exact q.1
  · exact absurd (hp.symm.trans q.2.2.1) (pi_n3 hj)
  · exact absurd (hp.symm.trans q.2.2.1) (pi_n3 hj)
theorem pi_lv {b : Nat} (h : pi_V np T s) (hb : b < s.2.1) (h1 : xq_i s 1004 b = 1) : xq_r s 1005 b = none ∧ pi_live np s b := by
  rcases (h.2.1 b hb).2.1 with q | q | q | q
  · exact absurd (h1.symm.trans q.1) (by decide)
  · exact q.2
  · exact absurd (h1.symm.trans q.1) (by decide)
  · exact absurd (h1.symm.trans q.1) (by decide)
theorem pi_lvT {b : Nat} (h : pi_V np T s) (hb : b < s.2.1) (h1 : xq_i s 1004 b = 1 ∨ xq_i s 1004 b = 0) : b < np ↔ T = 0 := by
  have hA := h.1.2.2.1
  constructor
  · intro q
    by_cases e : T = 0
    · exact e
    · rcases h.2.2.1.2.2.2.2 (by omega) b q with r | r <;> rcases h1 with h1 | h1 <;> exact absurd (h1.symm.trans r) (by decide)
  · intro q
    subst q
    omega
theorem pi_hasL {b k l r : Nat} (hl : xq_r s 1100 b = some l) (hr : xq_r s 1200 b = some r) (h : pi_has s b k) : k = l ∨ k = r := by
  rcases h with q | q
  · rw [hl] at q; exact Or.inl (Option.some.inj q).symm
  · rw [hr] at q; exact Or.inr (Option.some.inj q).symm
/-- how what a state tells is another's -/
theorem pi_sameB {b : Nat} (h : pi_sc np s b ∧ pi_sh np s b ∧ ∀ k, xq_r s 1100 b = some k → ¬ xq_r s 1200 b = some k)
    (hi : ∀ c, c = 1004 ∨ c = 1006 ∨ c = 1007 ∨ c = 1008 ∨ c = 1101 ∨ c = 1201 → xq_i s' c b = xq_i s c b) (hr : ∀ c, c = 1005 ∨ c = 1100 ∨ c = 1200 → xq_r s' c b = xq_r s c b) (h3 : ∀ j, j < 3 → xq_r s 300 j = some b → xq_r s' 300 j = some b) (h9 : ∀ k, pi_has s b k → xq_r s 906 k = some b → xq_r s' 906 k = some b) : pi_sc np s' b ∧ pi_sh np s' b ∧ ∀ k, xq_r s' 1100 b = some k → ¬ xq_r s' 1200 b = some k := by
  obtain ⟨h1, h2, h4⟩ := h
  have e4 := hi 1004 (by simp)
  have e6 := hi 1006 (by simp)
  have e7 := hi 1007 (by simp)
  have e8 := hi 1008 (by simp)
  have r5 := hr 1005 (by simp)
  have r1 := hr 1100 (by simp)
  have r2 := hr 1200 (by simp)
  refine ⟨?_, ?_, ?_⟩
  · unfold pi_sc at h1 ⊢
    rw [hi 1101 (by simp), hi 1201 (by simp), e4]
    exact h1
  · unfold pi_sh pi_idle at h2 ⊢
    rw [e4, e6, e7, e8, r5]
    rcases h2 with q | q | q | q
    · exact Or.inl q
    · refine Or.inr (Or.inl ⟨q.1, q.2.1, ?_⟩)
      obtain ⟨⟨j, hj, q1, q2⟩, q3, ⟨l, r, q4, q5, q6, q7⟩⟩ := q.2.2
      refine ⟨⟨j, hj, e6.trans q1, h3 j hj q2⟩, ?_, ⟨l, r, r1.trans q4, r2.trans q5, h9 l (Or.inl q4) q6, h9 r (Or.inr q5) q7⟩⟩
      rw [e7, e8]
      exact q3
    · refine Or.inr (Or.inr (Or.inl ⟨q.1, ?_, q.2.2⟩))
      obtain ⟨k, q1, q2⟩ := q.2.1
      refine ⟨k, q1, ?_⟩
      unfold pi_has at q2 ⊢
      rw [r1, r2]
      exact q2
    · exact Or.inr (Or.inr (Or.inr q))
  · intro k
    rw [r1, r2]
    exact h4 k
theorem pi_hasE {b k : Nat} (hr : ∀ c, c = 1100 ∨ c = 1200 → xq_r s' c b = xq_r s c b) : pi_has s' b k ↔ pi_has s b k := by
  unfold pi_has
  rw [hr 1100 (by simp), hr 1200 (by simp)]
end
end PU3
/-! PURE: a bout is over -/
section PU4
variable {np T : Nat} {s s' : xq_S}
theorem pi_if {c : Prop} [Decidable c] {a b x : Option Nat} (h : (if c then a else b) = x) : (c ∧ a = x) ∨ b = x := by
  by_cases z : c
  · rw [if_pos z] at h; exact Or.inl ⟨z, h⟩
  · rw [if_neg z] at h; exact Or.inr h
set_option maxHeartbeats 2000000 in
theorem pi_fin {b l r j kw : Nat} (h : pi_V np T s) (wf : xq_wf s) (hb : b < s.2.1) (h1 : xq_i s 1004 b = 1) (hl : xq_r s 1100 b = some l) (hr : xq_r s 1200 b = some r) (hkw : kw = l ∨ kw = r) (hj : j < 3) (hp : xq_i s 1006 b = nI j)
    (n1 : s'.1 = s.1) (n2 : s'.2.1 = s.2.1)
    (hsc : ∃ x y, xq_i s' 1101 b = nI x ∧ xq_i s' 1201 b = nI y ∧ x ≤ pi_goal np b ∧ y ≤ pi_goal np b)
    (i0 : ∀ c, c = 6 ∨ c = 8 ∨ c = 9 → xq_i s' c 0 = xq_i s c 0) (iN : ∀ k, xq_i s' 900 k = xq_i s 900 k) (iB : ∀ c b', c = 1000 ∨ c = 1001 → xq_i s' c b' = xq_i s c b')
    (iO : ∀ c b', ¬ b' = b → c = 1004 ∨ c = 1006 ∨ c = 1007 ∨ c = 1008 ∨ c = 1101 ∨ c = 1201 → xq_i s' c b' = xq_i s c b')
    (b4 : xq_i s' 1004 b = 2) (b6 : pi_idle s' b)
    (r5 : ∀ b', xq_r s' 1005 b' = if b' = b then some kw else xq_r s 1005 b') (r3 : ∀ j', xq_r s' 300 j' = if j' = j then none else xq_r s 300 j') (r6 : ∀ k, xq_r s' 906 k = if k = l ∨ k = r then none else xq_r s 906 k)
    (i5 : ∀ k, ¬ xq_i s' 905 k = 0 → ¬ xq_i s 905 k = 0 ∨ (0 < T ∧ (k = l ∨ k = r) ∧ ¬ k = kw))
    (c8 : ∀ k, xq_i s' 908 k = if T = 0 ∧ (k = l ∨ k = r) then xq_i s 908 k + 1 else xq_i s 908 k) (c9 : ∀ k, xq_i s' 909 k = if T = 0 ∧ k = kw then xq_i s 909 k + 1 else xq_i s 909 k)
    (sd : ∀ q, b = np + q → ∀ c b', c = 1100 ∨ c = 1200 → xq_r s' c b' = if 0 < T ∧ q + 2 < T ∧ c = (if q % 2 = 0 then 1100 else 1200) ∧ b' = np + T / 2 + q / 2 then some kw else xq_r s c b')
    (sd0 : b < np → ∀ c b', c = 1100 ∨ c = 1200 → xq_r s' c b' = xq_r s c b') : pi_V np T s' := by
  obtain ⟨hwn, hpn⟩ := pi_lv h hb h1
  have hT := pi_lvT h hb (Or.inl h1)
  have hlb : ∀ k, pi_has s b k → k = l ∨ k = r := fun k => pi_hasL hl hr
  have hbl : pi_has s b kw := by
    rcases hkw with rfl | rfl
    · exact Or.inl hl
    · exact Or.inr hr
  have hpj : xq_r s 300 j = some b := by
    obtain ⟨⟨j', hj', q1, q2⟩, _⟩ := hpn
    have := pi_n3e hj' hj (q1.symm.trans hp)
    subst this
    exact q2
  have h6l : xq_r s 906 l = some b ∧ xq_r s 906 r = some b := by
    obtain ⟨_, _, l', r', q1, q2, q3, q4⟩ := hpn
    rw [hl] at q1
    rw [hr] at q2
    cases q1
    cases q2
    exact ⟨q3, q4⟩
  obtain ⟨⟨A1, A2, A3, A4, A5, A6, A7, A8, A9, A10⟩, hB, ⟨C1, C2, C3, C4, C5⟩, hF, hG, hU⟩ := h
  -- the side that is set was none
  have hkn : ∀ q, b = np + q → q + 2 < T → xq_r s (if q % 2 = 0 then 1100 else 1200) (np + T / 2 + q / 2) = none := fun q e q2 => by
    rw [hG q q2, ← e]
    exact hwn
  have hne : ∀ q, b = np + q → q + 2 < T → ¬ np + T / 2 + q / 2 = b := fun q e q2 => by omega
  have sdb : ∀ c, c = 1100 ∨ c = 1200 → xq_r s' c b = xq_r s c b := fun c hc => by
    by_cases e : b < np
    · exact sd0 e c b hc
    · rw [sd (b - np) (by omega) c b hc, if_neg]
      rintro ⟨_, q2, _, q4⟩
      exact hne (b - np) (by omega) q2 q4.symm
  have hmono : ∀ b' k, pi_has s b' k → pi_has s' b' k := fun b' k q => by
    by_cases e : b < np
    · exact (pi_hasE (sd0 e · b')).mpr q
    · have e2 : b = np + (b - np) := by omega
      have hn := hkn (b - np) e2
      rcases q with q | q
      · refine Or.inl ?_
        rw [sd (b - np) e2 1100 b' (by simp), if_neg]
        · exact q
        · rintro ⟨q1, q2, q3, q4⟩
          rw [← q3, ← q4] at hn
          rw [hn q2] at q
          cases q
      · refine Or.inr ?_
        rw [sd (b - np) e2 1200 b' (by simp), if_neg]
        · exact q
        · rintro ⟨q1, q2, q3, q4⟩
          rw [← q3, ← q4] at hn
          rw [hn q2] at q
          cases q
  have hanti : ∀ b' k, pi_has s' b' k → pi_has s b' k ∨ (k = kw ∧ 0 < T ∧ ∃ q, b = np + q ∧ q + 2 < T ∧ b' = np + T / 2 + q / 2) := fun b' k q => by
    by_cases e : b < np
    · exact Or.inl ((pi_hasE (sd0 e · b')).mp q)
    · have e2 : b = np + (b - np) := by omega
      rcases q with q | q
      · rw [sd (b - np) e2 1100 b' (by simp)] at q
        rcases pi_if q with ⟨z, q⟩ | q
        · exact Or.inr ⟨(Option.some.inj q).symm, z.1, b - np, e2, z.2.1, z.2.2.2⟩
        · exact Or.inl (Or.inl q)
      · rw [sd (b - np) e2 1200 b' (by simp)] at q
        rcases pi_if q with ⟨z, q⟩ | q
        · exact Or.inr ⟨(Option.some.inj q).symm, z.1, b - np, e2, z.2.1, z.2.2.2⟩
        · exact Or.inl (Or.inr q)
  have hbp : ∀ b', b' < np → ∀ c, c = 1100 ∨ c = 1200 → xq_r s' c b' = xq_r s c b' := fun b' hb' c hc => by
    by_cases e : b < np
    · exact sd0 e c b' hc
    · rw [sd (b - np) (by omega) c b' hc, if_neg]
      rintro ⟨_, _, _, q4⟩
      omega
  refine ⟨⟨by rw [n1]; exact A1, A2, by rw [n2]; exact A3, A4, (i0 8 (by simp)).trans A5, fun q => (i0 9 (by simp)).trans (A6 q), by rw [i0 6 (by simp)]; exact A7, fun k hk => (iN k).trans (A8 k (by omega)), fun b' hb' => (iB 1000 b' (by simp)).trans (A9 b' (by omega)), fun b' hb' => by rw [iB 1001 b' (by simp)]; exact A10 b' (by omega)⟩, ?_, ⟨?_, ?_, ?_, ?_, ?_⟩, ?_, ?_, ?_⟩
  · -- bouts
    intro b' hb'
    have hb' : b' < s.2.1 := by omega
    by_cases e : b' = b
    · subst e
      refine ⟨?_, Or.inr (Or.inr (Or.inl ⟨b4, ⟨kw, ?_, hmono _ _ hbl⟩, b6⟩)), fun k => ?_⟩
      · obtain ⟨x, y, q1, q2, q3, q4⟩ := hsc
        refine ⟨x, y, q1, q2, q3, q4, fun q => ?_⟩
        rcases q with q | q <;> exact absurd (b4.symm.trans q) (by decide)
      · rw [r5, if_pos rfl]
      · rw [sdb 1100 (by simp), sdb 1200 (by simp)]
        exact (hB b' hb').2.2 k
    · have old := hB b' hb'
      have k3 : ∀ j', j' < 3 → xq_r s 300 j' = some b' → xq_r s' 300 j' = some b' := fun j' _ q => by
        rw [r3, if_neg]
        · exact q
        · intro z
          subst z
          exact e (Option.some.inj (q.symm.trans hpj))
      have k9 : ∀ k, pi_has s b' k → xq_r s 906 k = some b' → xq_r s' 906 k = some b' := fun k _ q => by
        rw [r6, if_neg]
        · exact q
        · rintro (z | z) <;> subst z
          · exact e (Option.some.inj (q.symm.trans h6l.1))
          · exact e (Option.some.inj (q.symm.trans h6l.2))
      by_cases ef : (0 < T ∧ ∃ q, b = np + q ∧ q + 2 < T ∧ b' = np + T / 2 + q / 2)
      · -- the following one
        obtain ⟨eT, q, e1, e2, e3⟩ := ef
        have hn := hkn q e1 e2
        have hnl : ¬ xq_i s 1004 b' = 1 := fun z => by
          obtain ⟨l', r', q1, q2, _⟩ : ∃ l r, xq_r s 1100 b' = some l ∧ xq_r s 1200 b' = some r ∧ True := by
            rcases old.2.1 with q | q | q | q
            · exact absurd (z.symm.trans q.1) (by decide)
            · obtain ⟨_, _, l', r', q1, q2, _⟩ := q.2.2
              exact ⟨l', r', q1, q2, trivial⟩
            · exact absurd (z.symm.trans q.1) (by decide)
            · exact absurd (z.symm.trans q.1) (by decide)
          rw [← e3] at hn
          split at hn
          · rw [hn] at q1; cases q1
          · rw [hn] at q2; cases q2
        have e4 := iO 1004 b' e (by simp)
        have hid : pi_idle s' b' ↔ pi_idle s b' := by
          unfold pi_idle
          rw [iO 1006 b' e (by simp), iO 1007 b' e (by simp), iO 1008 b' e (by simp)]
        refine ⟨?_, ?_, ?_⟩
        · obtain ⟨x, y, q1, q2, q3, q4, q5⟩ := old.1
          exact ⟨x, y, (iO 1101 b' e (by simp)).trans q1, (iO 1201 b' e (by simp)).trans q2, q3, q4, by rw [e4]; exact q5⟩
        · unfold pi_sh
          rw [e4, hid, r5, if_neg e]
          rcases old.2.1 with q | q | q | q
          · exact Or.inl q
          · exact absurd q.1 hnl
          · refine Or.inr (Or.inr (Or.inl ⟨q.1, ?_, q.2.2⟩))
            obtain ⟨k, q1, q2⟩ := q.2.1
            exact ⟨k, q1, hmono _ _ q2⟩
          · exact Or.inr (Or.inr (Or.inr q))
        · -- the other side is another fencer
          have other : ∀ p, p + 2 < T → ¬ p = q → p / 2 = q / 2 → ¬ xq_r s (if p % 2 = 0 then 1100 else 1200) (np + T / 2 + p / 2) = some kw := fun p e5 e6 e7 q1 => by
            rw [hG p e5] at q1
            have e8 : np + p < s.2.1 := by omega
            have hh : pi_has s (np + p) kw := by
              rcases (hB (np + p) e8).2.1 with z | z | z | z
              · rw [z.2.1] at q1; cases q1
              · rw [z.2.1] at q1; cases q1
              · obtain ⟨k, z1, z2⟩ := z.2.1
                rw [z1] at q1
                cases q1
                exact z2
              · rw [z.2.1] at q1; cases q1
            have hh2 : pi_has s (np + q) kw := by rw [← e1]; exact hbl
            rcases (show p < q ∨ q < p by omega) with z | z
            · have := (hU p q kw z (by omega) hh hh2).2
              rcases A2 with rfl | rfl | rfl | rfl <;> omega
            · have := (hU q p kw z (by omega) hh2 hh).2
              rcases A2 with rfl | rfl | rfl | rfl <;> omega
          intro k
          rw [sd q e1 1100 b' (by simp), sd q e1 1200 b' (by simp)]
          by_cases e5 : q % 2 = 0
          · rw [if_pos (by rw [if_pos e5]; exact ⟨eT, e2, rfl, e3⟩), if_neg (by rw [if_pos e5]; intro z; exact absurd z.2.2.1 (by decide))]
            intro z z2
            cases z
            by_cases e7 : q + 1 + 2 < T
            · refine other (q + 1) e7 (by omega) (by omega) ?_
              rw [if_neg (by omega), show (q + 1) / 2 = q / 2 by omega, ← e3]
              exact z2
            · rcases A2 with rfl | rfl | rfl | rfl <;> omega
          · rw [if_neg (by rw [if_neg e5]; intro z; exact absurd z.2.2.1 (by decide)), if_pos (by rw [if_neg e5]; exact ⟨eT, e2, rfl, e3⟩)]
            intro z2 z
            cases z
            refine other (q - 1) (by omega) (by omega) (by omega) ?_
            rw [if_pos (by omega), show (q - 1) / 2 = q / 2 by omega, ← e3]
            exact z2
      · refine pi_sameB old (fun c hc => iO c b' e hc) (fun c hc => ?_) k3 k9
        rcases hc with rfl | hc
        · rw [r5, if_neg e]
        · by_cases e2 : b < np
          · exact sd0 e2 c b' hc
          · rw [sd (b - np) (by omega) c b' hc, if_neg]
            rintro ⟨z1, z2, _, z4⟩
            exact ef ⟨z1, b - np, by omega, z2, z4⟩
  · -- fencers' live bouts
    intro k b' hk q
    rw [r6] at q
    split at q
    · cases q
    · next z =>
      obtain ⟨q1, q2⟩ := C1 k b' (by omega) q
      have e : ¬ b' = b := fun e => by
        subst e
        exact z (hlb k q2)
      exact ⟨(iO 1004 b' e (by simp)).trans q1, hmono _ _ q2⟩
  · -- pistes
    intro j' b' hj' q
    rw [r3] at q
    split at q
    · cases q
    · next z =>
      have q1 := C2 j' b' hj' q
      have e : ¬ b' = b := fun e => by
        subst e
        exact z (pi_n3e hj' hj (q1.symm.trans hp))
      exact (iO 1006 b' e (by simp)).trans q1
  · -- who is out
    intro k b' hk hb' ho hh
    by_cases e : b' = b
    · subst e; exact Or.inl b4
    · rw [iO 1004 b' e (by simp)]
      have okw : xq_i s 905 kw = 0 := by
        by_cases z : xq_i s 905 kw = 0
        · exact z
        · have hkn : kw < s.1 := by
            rcases hkw with rfl | rfl
            · exact wf.2.2.1 b _ hb hl
            · exact wf.2.2.2.1 b _ hb hr
          rcases C3 kw b hkn hb z hbl with q | q <;> exact absurd (h1.symm.trans q) (by decide)
      rcases i5 k ho with z | ⟨z1, z2, z3⟩
      · rcases hanti b' k hh with q | q
        · exact C3 k b' (by omega) (by omega) z q
        · rw [q.1] at z; exact absurd okw z
      · rcases hanti b' k hh with q | q
        · have hh2 : pi_has s b k := by
            rcases z2 with rfl | rfl
            · exact Or.inl hl
            · exact Or.inr hr
          by_cases e2 : b' < np
          · exact C5 z1 b' e2
          · have e3 : ¬ b < np := fun z => by have := hT.mp z; omega
            rcases (show b' < b ∨ b < b' by omega) with z | z
            · have q3 := (hU (b' - np) (b - np) k (by omega) (by omega) (by rw [show np + (b' - np) = b' by omega]; exact q) (by rw [show np + (b - np) = b by omega]; exact hh2)).1
              rw [show np + (b' - np) = b' by omega] at q3
              rcases (hB b' (by omega)).2.1 with y | y | y | y
              · rw [y.2.1] at q3; cases q3
              · rw [y.2.1] at q3; cases q3
              · exact Or.inl y.1
              · exact Or.inr y.1
            · have q3 := (hU (b - np) (b' - np) k (by omega) (by omega) (by rw [show np + (b - np) = b by omega]; exact hh2) (by rw [show np + (b' - np) = b' by omega]; exact q)).1
              rw [show np + (b - np) = b by omega, hwn] at q3
              cases q3
        · exact absurd q.1 z3
  · -- the pools' bouts have both
    intro b' hb'
    obtain ⟨l', r', q1, q2⟩ := C4 b' hb'
    exact ⟨l', r', (hbp b' hb' 1100 (by simp)).trans q1, (hbp b' hb' 1200 (by simp)).trans q2⟩
  · intro q b' hb'
    have e : ¬ b' = b := fun z => by
      subst z
      have := hT.mp hb'
      omega
    rw [iO 1004 b' e (by simp)]
    exact C5 q b' hb'
  · -- counts
    intro k hk
    obtain ⟨f1, f2⟩ := hF k (by omega)
    rw [c8, c9, f1, f2]
    have same : ∀ b', b' < np → ¬ b' = b → pi_met s k b' = pi_met s' k b' ∧ pi_won s k b' = pi_won s' k b' := fun b' hb' e => by
      unfold pi_met pi_won
      have hE : pi_has s' b' k ↔ pi_has s b' k := pi_hasE (hbp b' hb')
      rw [iO 1004 b' e (by simp), r5, if_neg e]
      refine ⟨?_, rfl⟩
      rw [decide_eq_decide, hE]
    by_cases e : T = 0
    · have hbn := hT.mpr e
      have hm : pi_met s k b = false := by
        unfold pi_met
        rw [decide_eq_false_iff_not, h1]
        intro z
        exact absurd z.1 (by decide)
      have hw : pi_won s k b = false := by
        unfold pi_won
        rw [decide_eq_false_iff_not, h1]
        intro z
        exact absurd z.1 (by decide)
      constructor
      · by_cases e2 : k = l ∨ k = r
        · rw [if_pos ⟨e, e2⟩, nI_1]
          refine congrArg nI (pu_ct_up hbn hm ?_ (fun i hi ne => (same i hi ne).1)).symm
          unfold pi_met
          rw [decide_eq_true_iff]
          refine ⟨b4, hmono b k ?_⟩
          rcases e2 with rfl | rfl
          · exact Or.inl hl
          · exact Or.inr hr
        · rw [if_neg (fun z => e2 z.2)]
          refine congrArg nI (pu_ct_eq (fun i hi => ?_))
          by_cases ne : i = b
          · subst ne
            rw [hm]
            unfold pi_met
            symm
            rw [decide_eq_false_iff_not]
            intro z
            exact e2 (hlb k ((pi_hasE (fun c hc => sdb c hc)).mp z.2))
          · exact (same i hi ne).1
      · by_cases e2 : k = kw
        · rw [if_pos ⟨e, e2⟩, nI_1]
          refine congrArg nI (pu_ct_up hbn hw ?_ (fun i hi ne => (same i hi ne).2)).symm
          unfold pi_won
          rw [decide_eq_true_iff, r5, if_pos rfl, e2]
          exact ⟨b4, rfl⟩
        · rw [if_neg (fun z => e2 z.2)]
          refine congrArg nI (pu_ct_eq (fun i hi => ?_))
          by_cases ne : i = b
          · subst ne
            rw [hw]
            unfold pi_won
            symm
            rw [decide_eq_false_iff_not, r5, if_pos rfl]
            intro z
            exact e2 (Option.some.inj z.2).symm
          · exact (same i hi ne).2
    · rw [if_neg (fun z => e z.1), if_neg (fun z => e z.1)]
      have ne : ∀ i, i < np → ¬ i = b := fun i hi z => by
        subst z
        exact e (hT.mp hi)
      exact ⟨congrArg nI (pu_ct_eq (fun i hi => (same i hi (ne i hi)).1)), congrArg nI (pu_ct_eq (fun i hi => (same i hi (ne i hi)).2))⟩
  · -- who wins goes on
    intro p hp2
    have e3 : ¬ b < np := fun z => by have := hT.mp z; omega
    have e1 : b = np + (b - np) := by omega
    rw [r5, sd (b - np) e1 _ _ (by split <;> simp)]
    by_cases e : np + p = b
    · rw [if_pos e, if_pos]
      have e4 : p = b - np := by omega
      subst e4
      exact ⟨by omega, hp2, rfl, rfl⟩
    · rw [if_neg e, if_neg]
      · exact hG p hp2
      · rintro ⟨_, z2, z3, z4⟩
        have z5 : p % 2 = (b - np) % 2 := by
          by_cases y1 : p % 2 = 0 <;> by_cases y2 : (b - np) % 2 = 0
          · omega
          · rw [if_pos y1, if_neg y2] at z3; exact absurd z3 (by decide)
          · rw [if_neg y1, if_pos y2] at z3; exact absurd z3 (by decide)
          · omega
        omega
  · -- and nobody else
    intro p q k hpq hq h3 h4
    have e3 : ¬ b < np := fun z => by have := hT.mp z; omega
    have e1 : b = np + (b - np) := by omega
    rw [r5]
    rcases hanti _ _ h3 with h3 | h3 <;> rcases hanti _ _ h4 with h4 | h4
    · obtain ⟨u1, u2⟩ := hU p q k hpq hq h3 h4
      refine ⟨?_, u2⟩
      by_cases e : np + p = b
      · rw [e, hwn] at u1; cases u1
      · rw [if_neg e]; exact u1
    · obtain ⟨rfl, _, q', z1, z2, z3⟩ := h4
      have z4 : q' = b - np := by omega
      subst z4
      by_cases e : np + p = b
      · rw [if_pos e]
        exact ⟨rfl, by omega⟩
      · rw [if_neg e]
        rcases (show p < b - np ∨ b - np < p by omega) with y | y
        · obtain ⟨u1, u2⟩ := hU p (b - np) k y (by omega) h3 (by rw [← e1]; exact hbl)
          exact ⟨u1, by omega⟩
        · have u1 := (hU (b - np) p k y (by omega) (by rw [← e1]; exact hbl) h3).1
          rw [← e1, hwn] at u1
          cases u1
    · obtain ⟨rfl, _, q', z1, z2, z3⟩ := h3
      have z4 : q' = b - np := by omega
      subst z4
      have u1 := (hU (b - np) q k (by omega) hq (by rw [← e1]; exact hbl) h4).1
      rw [← e1, hwn] at u1
      cases u1
    · obtain ⟨rfl, _, q', z1, z2, z3⟩ := h3
      obtain ⟨_, _, q2, y1, y2, y3⟩ := h4
      omega
end PU4
