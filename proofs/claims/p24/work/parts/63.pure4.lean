/-! PURE: time and scores of a live bout; a bout begins; bouts are void -/
section PU5
variable {np T : Nat} {s s' : xq_S}
theorem pi_soft {b : Nat} (h : pi_V np T s) (h1 : b < s.2.1 → xq_i s 1004 b = 1) (n1 : s'.1 = s.1) (n2 : s'.2.1 = s.2.1)
    (hi : ∀ c i, c = 6 ∨ c = 8 ∨ c = 9 ∨ c = 900 ∨ c = 905 ∨ c = 908 ∨ c = 909 ∨ c = 1000 ∨ c = 1001 ∨ c = 1004 ∨ c = 1006 → xq_i s' c i = xq_i s c i)
    (hi2 : ∀ c i, ¬ i = b → c = 1007 ∨ c = 1008 ∨ c = 1101 ∨ c = 1201 → xq_i s' c i = xq_i s c i)
    (hr : ∀ c i, c = 300 ∨ c = 906 ∨ c = 1005 ∨ c = 1100 ∨ c = 1200 → xq_r s' c i = xq_r s c i)
    (hsc : b < s.2.1 → pi_sc np s' b) (ht : b < s.2.1 → ∃ p q, xq_i s' 1007 b = nI p ∧ 1 ≤ p ∧ p ≤ pi_per np b + 1 ∧ xq_i s' 1008 b = nI q ∧ 1 ≤ q ∧ q ≤ 180) : pi_V np T s' := by
  have hE : ∀ b k, pi_has s' b k ↔ pi_has s b k := fun b k => pi_hasE (fun c hc => hr c b (by rcases hc with rfl | rfl <;> simp))
  obtain ⟨⟨A1, A2, A3, A4, A5, A6, A7, A8, A9, A10⟩, hB, ⟨C1, C2, C3, C4, C5⟩, hF, hG, hU⟩ := h
  have e4 : ∀ i, xq_i s' 1004 i = xq_i s 1004 i := fun i => hi 1004 i (by simp)
  have e5 : ∀ i, xq_r s' 1005 i = xq_r s 1005 i := fun i => hr 1005 i (by simp)
  refine ⟨⟨by rw [n1]; exact A1, A2, by rw [n2]; exact A3, A4, (hi 8 0 (by simp)).trans A5, fun q => (hi 9 0 (by simp)).trans (A6 q), by rw [hi 6 0 (by simp)]; exact A7, fun k hk => (hi 900 k (by simp)).trans (A8 k (by omega)), fun b' hb' => (hi 1000 b' (by simp)).trans (A9 b' (by omega)), fun b' hb' => by rw [hi 1001 b' (by simp)]; exact A10 b' (by omega)⟩, fun b' hb' => ?_, ⟨fun k b' hk q => ?_, fun j b' hj q => ?_, fun k b' hk hb' ho hh => ?_, fun b' hb' => ?_, fun hT b' hb' => ?_⟩, fun k hk => ?_, fun q hq => ?_, fun p q k hp hq x y => ?_⟩
  · have hb' : b' < s.2.1 := by omega
    by_cases e : b' = b
    · subst e
      obtain ⟨o1, o2, o3⟩ := hB b' hb'
      have l1 := h1 hb'
      refine ⟨hsc hb', Or.inr (Or.inl ?_), ?_⟩
      · rcases o2 with q | q | q | q
        · exact absurd (l1.symm.trans q.1) (by decide)
        · refine ⟨(e4 b').trans q.1, (e5 b').trans q.2.1, ?_⟩
          obtain ⟨⟨j, hj, q1, q2⟩, _, ⟨l, r, q4, q5, q6, q7⟩⟩ := q.2.2
          exact ⟨⟨j, hj, (hi 1006 b' (by simp)).trans q1, (hr 300 j (by simp)).trans q2⟩, ht hb', l, r, (hr 1100 b' (by simp)).trans q4, (hr 1200 b' (by simp)).trans q5, (hr 906 l (by simp)).trans q6, (hr 906 r (by simp)).trans q7⟩
        · exact absurd (l1.symm.trans q.1) (by decide)
        · exact absurd (l1.symm.trans q.1) (by decide)
      · intro k
        rw [hr 1100 b' (by simp), hr 1200 b' (by simp)]
        exact o3 k
    · refine pi_sameB (hB b' hb') (fun c hc => ?_) (fun c hc => hr c b' (by rcases hc with rfl | rfl | rfl <;> simp)) (fun j _ q => (hr 300 j (by simp)).trans q) (fun k _ q => (hr 906 k (by simp)).trans q)
      rcases hc with rfl | rfl | hc
      · exact e4 b'
      · exact hi 1006 b' (by simp)
      · exact hi2 c b' e hc
  · rw [hr 906 k (by simp)] at q
    rw [e4, hE]
    exact C1 k b' (by omega) q
  · rw [hr 300 j (by simp)] at q
    rw [hi 1006 b' (by simp)]
    exact C2 j b' hj q
  · rw [hi 905 k (by simp)] at ho
    rw [e4]
    exact C3 k b' (by omega) (by omega) ho ((hE _ _).mp hh)
  · rw [hr 1100 b' (by simp), hr 1200 b' (by simp)]
    exact C4 b' hb'
  · rw [e4]
    exact C5 hT b' hb'
  · obtain ⟨f1, f2⟩ := hF k (by omega)
    rw [hi 908 k (by simp), hi 909 k (by simp), f1, f2]
    constructor
    · refine congrArg nI (pu_ct_eq (fun i _ => ?_))
      unfold pi_met
      rw [decide_eq_decide, hE, e4]
    · refine congrArg nI (pu_ct_eq (fun i _ => ?_))
      unfold pi_won
      rw [decide_eq_decide, e4, e5]
  · rw [e5, hr _ _ (by split <;> simp)]
    exact hG q hq
  · rw [e5]
    exact hU p q k hp hq ((hE _ _).mp x) ((hE _ _).mp y)
/-- what no promise of these speaks of may change -/
theorem pi_free (h : pi_V np T s) (n1 : s'.1 = s.1) (n2 : s'.2.1 = s.2.1)
    (hi : ∀ c i, c = 6 ∨ c = 8 ∨ c = 9 ∨ c = 900 ∨ c = 905 ∨ c = 908 ∨ c = 909 ∨ c = 1000 ∨ c = 1001 ∨ c = 1004 ∨ c = 1006 ∨ c = 1007 ∨ c = 1008 ∨ c = 1101 ∨ c = 1201 → xq_i s' c i = xq_i s c i)
    (hr : ∀ c i, c = 300 ∨ c = 906 ∨ c = 1005 ∨ c = 1100 ∨ c = 1200 → xq_r s' c i = xq_r s c i) : pi_V np T s' :=
  pi_soft (b := s.2.1) h (fun q => absurd q (Nat.lt_irrefl _)) n1 n2 (fun c i hc => hi c i (by omega)) (fun c i _ hc => hi c i (by omega)) hr (fun q => absurd q (Nat.lt_irrefl _)) (fun q => absurd q (Nat.lt_irrefl _))
theorem pi_begin {b l r j : Nat} (h : pi_V np T s) (wf : xq_wf s) (hb : b < s.2.1) (h1 : xq_i s 1004 b = 0) (hl : xq_r s 1100 b = some l) (hr : xq_r s 1200 b = some r) (hl6 : xq_r s 906 l = none) (hr6 : xq_r s 906 r = none) (hj : j < 3) (hj3 : xq_r s 300 j = none)
    (n1 : s'.1 = s.1) (n2 : s'.2.1 = s.2.1)
    (hi : ∀ c i, c = 6 ∨ c = 8 ∨ c = 9 ∨ c = 900 ∨ c = 905 ∨ c = 908 ∨ c = 909 ∨ c = 1000 ∨ c = 1001 ∨ c = 1101 ∨ c = 1201 → xq_i s' c i = xq_i s c i)
    (hi2 : ∀ c i, ¬ i = b → c = 1004 ∨ c = 1006 ∨ c = 1007 ∨ c = 1008 → xq_i s' c i = xq_i s c i)
    (b4 : xq_i s' 1004 b = 1) (b6 : xq_i s' 1006 b = nI j) (b7 : xq_i s' 1007 b = 1) (b8 : xq_i s' 1008 b = 180)
    (hr0 : ∀ c i, c = 1005 ∨ c = 1100 ∨ c = 1200 → xq_r s' c i = xq_r s c i)
    (r3 : ∀ j', xq_r s' 300 j' = if j' = j then some b else xq_r s 300 j') (r6 : ∀ k, xq_r s' 906 k = if k = l ∨ k = r then some b else xq_r s 906 k) : pi_V np T s' := by
  have hE : ∀ b k, pi_has s' b k ↔ pi_has s b k := fun b k => pi_hasE (fun c hc => hr0 c b (by rcases hc with rfl | rfl <;> simp))
  have hT := pi_lvT h hb (Or.inr h1)
  have hln := wf.2.2.1 b l hb hl
  have hrn := wf.2.2.2.1 b r hb hr
  obtain ⟨⟨A1, A2, A3, A4, A5, A6, A7, A8, A9, A10⟩, hB, ⟨C1, C2, C3, C4, C5⟩, hF, hG, hU⟩ := h
  have e5 : ∀ i, xq_r s' 1005 i = xq_r s 1005 i := fun i => hr0 1005 i (by simp)
  have hno : ∀ k, pi_has s b k → xq_i s 905 k = 0 := fun k hh => by
    by_cases z : xq_i s 905 k = 0
    · exact z
    · have : k < s.1 := by rcases pi_hasL hl hr hh with rfl | rfl <;> assumption
      rcases C3 k b this hb z hh with q | q <;> exact absurd (h1.symm.trans q) (by decide)
  have hw5 : xq_r s 1005 b = none := by
    rcases (hB b hb).2.1 with q | q | q | q
    · exact q.2.1
    · exact q.2.1
    · exact absurd (h1.symm.trans q.1) (by decide)
    · exact q.2.1
  refine ⟨⟨by rw [n1]; exact A1, A2, by rw [n2]; exact A3, A4, (hi 8 0 (by simp)).trans A5, fun q => (hi 9 0 (by simp)).trans (A6 q), by rw [hi 6 0 (by simp)]; exact A7, fun k hk => (hi 900 k (by simp)).trans (A8 k (by omega)), fun b' hb' => (hi 1000 b' (by simp)).trans (A9 b' (by omega)), fun b' hb' => by rw [hi 1001 b' (by simp)]; exact A10 b' (by omega)⟩, fun b' hb' => ?_, ⟨fun k b' hk q => ?_, fun j' b' hj' q => ?_, fun k b' hk hb' ho hh => ?_, fun b' hb' => ?_, fun hT0 b' hb' => ?_⟩, fun k hk => ?_, fun q hq => ?_, fun p q k hp hq x y => ?_⟩
  · have hb' : b' < s.2.1 := by omega
    by_cases e : b' = b
    · subst e
      obtain ⟨o1, o2, o3⟩ := hB b' hb'
      refine ⟨?_, Or.inr (Or.inl ⟨b4, (e5 b').trans hw5, ⟨j, hj, b6, by rw [r3, if_pos rfl]⟩, ⟨1, 180, b7.trans rfl, Nat.le_refl _, by omega, b8, by omega, by omega⟩, l, r, (hr0 1100 b' (by simp)).trans hl, (hr0 1200 b' (by simp)).trans hr, by rw [r6, if_pos (Or.inl rfl)], by rw [r6, if_pos (Or.inr rfl)]⟩), ?_⟩
      · obtain ⟨x, y, q1, q2, q3, q4, q5⟩ := o1
        exact ⟨x, y, (hi 1101 b' (by simp)).trans q1, (hi 1201 b' (by simp)).trans q2, q3, q4, fun _ => q5 (Or.inl h1)⟩
      · intro k
        rw [hr0 1100 b' (by simp), hr0 1200 b' (by simp)]
        exact o3 k
    · refine pi_sameB (hB b' hb') (fun c hc => ?_) (fun c hc => hr0 c b' hc) (fun j' _ q => ?_) (fun k _ q => ?_)
      · by_cases e2 : c = 1101 ∨ c = 1201
        · exact hi c b' (by omega)
        · exact hi2 c b' e (by omega)
      · rw [r3, if_neg]
        · exact q
        · intro z
          subst z
          rw [hj3] at q
          cases q
      · rw [r6, if_neg]
        · exact q
        · rintro (z | z) <;> subst z
          · rw [hl6] at q; cases q
          · rw [hr6] at q; cases q
  · rw [hE]
    rw [r6] at q
    rcases pi_if q with ⟨z, q⟩ | q
    · cases q
      refine ⟨b4, ?_⟩
      rcases z with rfl | rfl
      · exact Or.inl hl
      · exact Or.inr hr
    · obtain ⟨q1, q2⟩ := C1 k b' (by omega) q
      have e : ¬ b' = b := fun z => by
        subst z
        exact absurd (h1.symm.trans q1) (by decide)
      exact ⟨(hi2 1004 b' e (by simp)).trans q1, q2⟩
  · rw [r3] at q
    rcases pi_if q with ⟨z, q⟩ | q
    · cases q
      rw [z]
      exact b6
    · have q1 := C2 j' b' hj' q
      have e : ¬ b' = b := fun z => by
        subst z
        rcases (hB b' (by omega)).2.1 with y | y | y | y
        · exact pi_n3 hj' (q1.symm.trans y.2.2.1)
        · exact absurd (h1.symm.trans y.1) (by decide)
        · exact absurd (h1.symm.trans y.1) (by decide)
        · exact absurd (h1.symm.trans y.1) (by decide)
      exact (hi2 1006 b' e (by simp)).trans (C2 j' b' hj' q)
  · rw [hi 905 k (by simp)] at ho
    have hh := (hE _ _).mp hh
    have e : ¬ b' = b := fun z => by
      subst z
      exact ho (hno k hh)
    rw [hi2 1004 b' e (by simp)]
    exact C3 k b' (by omega) (by omega) ho hh
  · rw [hr0 1100 b' (by simp), hr0 1200 b' (by simp)]
    exact C4 b' hb'
  · have e : ¬ b' = b := fun z => by
      subst z
      have := hT.mp hb'
      omega
    rw [hi2 1004 b' e (by simp)]
    exact C5 hT0 b' hb'
  · obtain ⟨f1, f2⟩ := hF k (by omega)
    rw [hi 908 k (by simp), hi 909 k (by simp), f1, f2]
    have e4 : ∀ i, (xq_i s 1004 i = 2 ↔ xq_i s' 1004 i = 2) := fun i => by
      by_cases e : i = b
      · subst e
        rw [b4, h1]
        decide
      · rw [hi2 1004 i e (by simp)]
    constructor
    · refine congrArg nI (pu_ct_eq (fun i _ => ?_))
      unfold pi_met
      rw [decide_eq_decide, hE, e4]
    · refine congrArg nI (pu_ct_eq (fun i _ => ?_))
      unfold pi_won
      rw [decide_eq_decide, e4, e5]
  · rw [e5, hr0 _ _ (by split <;> simp)]
    exact hG q hq
  · rw [e5]
    exact hU p q k hp hq ((hE _ _).mp x) ((hE _ _).mp y)
theorem pi_void {b l r j k : Nat} (h : pi_V np 0 s) (wf : xq_wf s) (hb : b < s.2.1) (h1 : xq_i s 1004 b = 1) (hl : xq_r s 1100 b = some l) (hr : xq_r s 1200 b = some r) (hk : k = l ∨ k = r) (hj : j < 3) (hp : xq_i s 1006 b = nI j)
    (n1 : s'.1 = s.1) (n2 : s'.2.1 = s.2.1)
    (hi : ∀ c i, c = 6 ∨ c = 8 ∨ c = 9 ∨ c = 900 ∨ c = 1000 ∨ c = 1001 ∨ c = 1101 ∨ c = 1201 → xq_i s' c i = xq_i s c i)
    (hi2 : ∀ c i, ¬ i = b → c = 1006 ∨ c = 1007 ∨ c = 1008 → xq_i s' c i = xq_i s c i) (b6 : pi_idle s' b)
    (i4 : ∀ b', b' < s.2.1 → xq_i s' 1004 b' = if pi_has s b' k then 3 else xq_i s 1004 b')
    (r5 : ∀ b', b' < s.2.1 → xq_r s' 1005 b' = if pi_has s b' k then none else xq_r s 1005 b')
    (hr0 : ∀ c i, c = 1100 ∨ c = 1200 → xq_r s' c i = xq_r s c i)
    (i5 : ∀ k', ¬ xq_i s' 905 k' = 0 → ¬ xq_i s 905 k' = 0 ∨ k' = k)
    (r3 : ∀ j', xq_r s' 300 j' = if j' = j then none else xq_r s 300 j') (r6 : ∀ k, xq_r s' 906 k = if k = l ∨ k = r then none else xq_r s 906 k) (hF : pi_F np s') : pi_V np 0 s' := by
  have hE : ∀ b k, pi_has s' b k ↔ pi_has s b k := fun b k => pi_hasE (fun c hc => hr0 c b hc)
  obtain ⟨hwn, hpn⟩ := pi_lv h hb h1
  have hlv := fun b' hb' h1' => (pi_lv (b := b') h hb' h1').2
  have hpj : xq_r s 300 j = some b := by
    obtain ⟨⟨j', hj', q1, q2⟩, _⟩ := hpn
    have := pi_n3e hj' hj (q1.symm.trans hp)
    subst this
    exact q2
  have h6l : xq_r s 906 l = some b ∧ xq_r s 906 r = some b := by
    obtain ⟨_, _, l', r', q1, q2, q3, q4⟩ := hpn
    rw [hl] at q1
    rw [hr] at q2
    cases q1
    cases q2
    exact ⟨q3, q4⟩
  have h6k : xq_r s 906 k = some b := by
    rcases hk with rfl | rfl
    · exact h6l.1
    · exact h6l.2
  -- a live bout of k is this one
  have one : ∀ b', b' < s.2.1 → xq_i s 1004 b' = 1 → pi_has s b' k → b' = b := fun b' hb' q1 q2 => by
    obtain ⟨_, _, l', r', y1, y2, y3, y4⟩ := hlv b' hb' q1
    rcases pi_hasL y1 y2 q2 with rfl | rfl
    · exact Option.some.inj (y3.symm.trans h6k)
    · exact Option.some.inj (y4.symm.trans h6k)
  have hbk : pi_has s b k := by
    rcases hk with rfl | rfl
    · exact Or.inl hl
    · exact Or.inr hr
  obtain ⟨⟨A1, A2, A3, A4, A5, A6, A7, A8, A9, A10⟩, hB, ⟨C1, C2, C3, C4, C5⟩, _, _, _⟩ := h
  refine ⟨⟨by rw [n1]; exact A1, A2, by rw [n2]; exact A3, A4, (hi 8 0 (by simp)).trans A5, fun q => absurd q (by omega), by rw [hi 6 0 (by simp)]; exact A7, fun k hk => (hi 900 k (by simp)).trans (A8 k (by omega)), fun b' hb' => (hi 1000 b' (by simp)).trans (A9 b' (by omega)), fun b' hb' => by rw [hi 1001 b' (by simp)]; exact A10 b' (by omega)⟩, fun b' hb' => ?_, ⟨fun k' b' hk' q => ?_, fun j' b' hj' q => ?_, fun k' b' hk' hb' ho hh => ?_, fun b' hb' => ?_, fun q => absurd q (by omega)⟩, hF, fun q hq => absurd hq (by omega), fun p q k' hp' hq => absurd hq (by omega)⟩
  · have hb' : b' < s.2.1 := by omega
    obtain ⟨o1, o2, o3⟩ := hB b' hb'
    by_cases e : pi_has s b' k
    · have e4 := i4 b' hb'
      rw [if_pos e] at e4
      have e5 := r5 b' hb'
      rw [if_pos e] at e5
      refine ⟨?_, Or.inr (Or.inr (Or.inr ⟨e4, e5, ?_⟩)), ?_⟩
      · obtain ⟨x, y, q1, q2, q3, q4, q5⟩ := o1
        refine ⟨x, y, (hi 1101 b' (by simp)).trans q1, (hi 1201 b' (by simp)).trans q2, q3, q4, fun z => ?_⟩
        rw [e4] at z
        rcases z with z | z <;> exact absurd z (by decide)
      · by_cases eb : b' = b
        · rw [eb]; exact b6
        · have hid : pi_idle s b' := by
            rcases o2 with q | q | q | q
            · exact q.2.2
            · exact absurd (one b' hb' q.1 e) eb
            · exact q.2.2
            · exact q.2.2
          unfold pi_idle at hid ⊢
          rw [hi2 1006 b' eb (by simp), hi2 1007 b' eb (by simp), hi2 1008 b' eb (by simp)]
          exact hid
      · intro k'
        rw [hr0 1100 b' (by simp), hr0 1200 b' (by simp)]
        exact o3 k'
    · have eb : ¬ b' = b := fun z => by
        subst z
        exact e hbk
      refine pi_sameB ⟨o1, o2, o3⟩ (fun c hc => ?_) (fun c hc => ?_) (fun j' _ q => ?_) (fun k' _ q => ?_)
      · by_cases e2 : c = 1101 ∨ c = 1201
        · exact hi c b' (by omega)
        · by_cases e3 : c = 1004
          · rw [e3, i4 b' hb', if_neg e]
          · exact hi2 c b' eb (by omega)
      · by_cases e3 : c = 1005
        · rw [e3, r5 b' hb', if_neg e]
        · exact hr0 c b' (by omega)
      · rw [r3, if_neg]
        · exact q
        · intro z
          subst z
          exact eb (Option.some.inj (q.symm.trans hpj))
      · rw [r6, if_neg]
        · exact q
        · rintro (z | z) <;> subst z
          · exact eb (Option.some.inj (q.symm.trans h6l.1))
          · exact eb (Option.some.inj (q.symm.trans h6l.2))
  · rw [hE]
    rw [r6] at q
    by_cases z : k' = l ∨ k' = r
    · rw [if_pos z] at q; cases q
    · rw [if_neg z] at q
      have hb' : b' < s.2.1 := wf.1 k' b' (by omega) q
      obtain ⟨q1, q2⟩ := C1 k' b' (by omega) q
      refine ⟨?_, q2⟩
      rw [i4 b' hb', if_neg]
      · exact q1
      · intro y
        have := one b' hb' q1 y
        subst this
        exact z (pi_hasL hl hr q2)
  · rw [r3] at q
    by_cases z : j' = j
    · rw [if_pos z] at q; cases q
    · rw [if_neg z] at q
      have q1 := C2 j' b' hj' q
      have e : ¬ b' = b := fun e => by
        subst e
        exact z (pi_n3e hj' hj (q1.symm.trans hp))
      exact (hi2 1006 b' e (by simp)).trans q1
  · have hh := (hE _ _).mp hh
    rw [i4 b' (by omega)]
    by_cases e : pi_has s b' k
    · rw [if_pos e]
      exact Or.inr rfl
    · rw [if_neg e]
      rcases i5 k' ho with z | z
      · exact C3 k' b' (by omega) (by omega) z hh
      · rw [z] at hh
        exact absurd hh e
  · rw [hr0 1100 b' (by simp), hr0 1200 b' (by simp)]
    exact C4 b' hb'
end PU5
