/-! PURE: the table is drawn -/
section PUE
variable {np T : Nat} {s s1 s' u v : xq_S} {f g : Nat → Option Nat}
theorem pi_ok (h : pi_V np T s) (wf : xq_wf s) : pu_ok s (fun k => xq_ct (pi_won s k) np) (fun k => xq_ct (pi_met s k) np) := by
  refine ⟨by have := h.1.1; omega, h.1.2.2.2.2.2.2.2.1, wf.2.2.2.2.2.2, fun k hk => ⟨(h.2.2.2.1 k hk).2, (h.2.2.2.1 k hk).1, pu_ct_le (fun b hb z => ?_), ?_⟩⟩
  · unfold pi_won at z
    unfold pi_met
    rw [decide_eq_true_iff] at z ⊢
    refine ⟨z.1, ?_⟩
    rcases (h.2.1 b (by have := h.1.2.2.1; omega)).2.1 with q | q | q | q
    · exact absurd (z.1.symm.trans q.1) (by decide)
    · exact absurd (z.1.symm.trans q.1) (by decide)
    · obtain ⟨k', q1, q2⟩ := q.2.1
      rw [z.2] at q1
      cases q1
      exact q2
    · exact absurd (z.1.symm.trans q.1) (by decide)
  · show xq_ct (pi_met s k) np ≤ 200
    have := xq_ct_le (pi_met s k) np
    have := h.1.2.2.2.1
    omega
theorem pi_table (h : pi_V np 0 s) (wf : xq_wf s) (hd : ∀ b, b < np → xq_i s 1004 b = 2 ∨ xq_i s 1004 b = 3) (hT : T = 2 ∨ T = 4 ∨ T = 8) (n1 : u.1 = s.1) (n2 : u.2.1 = s.2.1) (hi : ∀ c i, ¬ c = 600 → ¬ c = 8 → ¬ c = 9 → xq_i u c i = xq_i s c i) (hr : ∀ c i, ¬ c = 500 → xq_r u c i = xq_r s c i) (h8 : xq_i u 8 0 = nI T) (h9 : xq_i u 9 0 = nI np) (N : pi_N u v f g) (nv : v.2.1 = np + (T - 1))
    (F1 : ∀ q k, f q = some k ∨ g q = some k → q < T / 2 ∧ k < s.1 ∧ xq_i s 905 k = 0) (F2 : ∀ q q' k, f q = some k ∨ g q = some k → f q' = some k ∨ g q' = some k → q = q') (F3 : ∀ q k, f q = some k → ¬ g q = some k) : pi_V np T v := by
  have hnp : s.2.1 = np := by have := h.1.2.2.1; omega
  obtain ⟨N1, N2, N3, N4, N5, N6⟩ := N
  have hun : u.2.1 = np := by omega
  rw [hun] at N2 N5 N6
  obtain ⟨⟨A1, A2, A3, A4, A5, A6, A7, A8, A9, A10⟩, hB, ⟨C1, C2, C3, C4, C5⟩, hF, hG, hU⟩ := h
  have i9 : ∀ c i, c / 100 < 10 → ¬ c = 200 → ¬ c = 912 → ¬ c = 913 → ¬ c = 600 → ¬ c = 8 → ¬ c = 9 → xq_i v c i = xq_i s c i := fun c i z1 z2 z3 z4 z5 z6 z7 => (N3 c i z1 z2 z3 z4).trans (hi c i z5 z6 z7)
  have r9 : ∀ c i, c / 100 < 10 → ¬ c = 500 → xq_r v c i = xq_r s c i := fun c i z1 z2 => (N4 c i z1).trans (hr c i z2)
  have ib : ∀ c i, i < np → 10 ≤ c / 100 → xq_i v c i = xq_i s c i := fun c i z1 z2 => (N5 c i z1 z2).1.trans (hi c i (by omega) (by omega) (by omega))
  have rb : ∀ c i, i < np → 10 ≤ c / 100 → xq_r v c i = xq_r s c i := fun c i z1 z2 => (N5 c i z1 z2).2.trans (hr c i (by omega))
  have hno : ∀ b, b < np → ¬ xq_i s 1004 b = 1 := fun b hb z => by
    rcases hd b hb with q | q <;> exact absurd (z.symm.trans q) (by decide)
  have nb : ∀ b, b < v.2.1 → ¬ b < np → ∃ q, b = np + q ∧ np + q < v.2.1 := fun b hb z => ⟨b - np, by omega, by omega⟩
  have hasN : ∀ q k, np + q < v.2.1 → pi_has v (np + q) k → f q = some k ∨ g q = some k := fun q k z1 z2 => by
    obtain ⟨_, _, _, _, _, _, _, y1, y2⟩ := N6 q z1
    unfold pi_has at z2
    rw [y1, y2] at z2
    exact z2
  refine ⟨⟨by rw [N1, n1]; exact A1, Or.inr hT, nv, A4, (N3 8 0 (by decide) (by decide) (by decide) (by decide)).trans h8, fun _ => (N3 9 0 (by decide) (by decide) (by decide) (by decide)).trans h9, by rw [i9 6 0 (by decide) (by decide) (by decide) (by decide) (by decide) (by decide) (by decide)]; exact A7, fun k hk => (i9 900 k (by decide) (by decide) (by decide) (by decide) (by decide) (by decide) (by decide)).trans (A8 k (by omega)), fun b hb => ?_, fun b hb => ?_⟩, fun b hb => ?_, ⟨fun k b hk q => ?_, fun j b hj q => ?_, fun k b hk hb ho hh => ?_, fun b hb => ?_, fun _ b hb => ?_⟩, fun k hk => ?_, fun q hq => ?_, fun p q k hp hq x y => ?_⟩
  · by_cases z : b < np
    · rw [ib 1000 b z (by decide)]; exact A9 b (by omega)
    · obtain ⟨q, rfl, z2⟩ := nb b hb z
      exact (N6 q z2).1
  · by_cases z : b < np
    · rw [ib 1001 b z (by decide)]; exact A10 b (by omega)
    · obtain ⟨q, rfl, z2⟩ := nb b hb z
      exact ⟨fun y => absurd y (N6 q z2).2.1, fun y => absurd y z⟩
  · by_cases z : b < np
    · exact pi_sameB (hB b (by omega)) (fun c hc => ib c b z (by omega)) (fun c hc => rb c b z (by omega)) (fun j _ q => (r9 300 j (by decide) (by decide)).trans q) (fun k _ q => (r9 906 k (by decide) (by decide)).trans q)
    · obtain ⟨q, rfl, z2⟩ := nb b hb z
      obtain ⟨_, _, y3, y4, y5, y6, y7, y8, y9⟩ := N6 q z2
      have hg : pi_goal np (np + q) = 15 := if_neg (by omega)
      refine ⟨⟨0, 0, y5, y6, by omega, by omega, fun _ => ⟨by omega, by omega⟩⟩, Or.inl ⟨y3, y7, y4⟩, fun k => ?_⟩
      rw [y8, y9]
      exact F3 q k
  · rw [r9 906 k (by decide) (by decide)] at q
    exact absurd (C1 k b (by omega) q).1 (hno b (by have := wf.1 k b (by omega) q; omega))
  · rw [r9 300 j (by decide) (by decide)] at q
    have hb := wf.2.2.2.2.1 j b q
    have := C2 j b hj q
    rcases (hB b hb).2.1 with y | y | y | y
    · exact absurd (this.symm.trans y.2.2.1) (pi_n3 hj)
    · exact absurd y.1 (hno b (by omega))
    · exact absurd (this.symm.trans y.2.2.1) (pi_n3 hj)
    · exact absurd (this.symm.trans y.2.2.1) (pi_n3 hj)
  · rw [i9 905 k (by decide) (by decide) (by decide) (by decide) (by decide) (by decide) (by decide)] at ho
    by_cases z : b < np
    · rw [ib 1004 b z (by decide)]
      exact hd b z
    · obtain ⟨q, rfl, z2⟩ := nb b hb z
      exact absurd (F1 q k (hasN q k z2 hh)).2.2 ho
  · rw [rb 1100 b hb (by decide), rb 1200 b hb (by decide)]
    exact C4 b hb
  · rw [ib 1004 b hb (by decide)]
    exact hd b hb
  · obtain ⟨f1, f2⟩ := hF k (by omega)
    rw [i9 908 k (by decide) (by decide) (by decide) (by decide) (by decide) (by decide) (by decide), i9 909 k (by decide) (by decide) (by decide) (by decide) (by decide) (by decide) (by decide), f1, f2]
    constructor
    · refine congrArg nI (pu_ct_eq (fun i hi => ?_))
      unfold pi_met pi_has
      rw [ib 1004 i hi (by decide), rb 1100 i hi (by decide), rb 1200 i hi (by decide)]
    · refine congrArg nI (pu_ct_eq (fun i hi => ?_))
      unfold pi_won
      rw [ib 1004 i hi (by decide), rb 1005 i hi (by decide)]
  · have e1 : np + T / 2 + q / 2 = np + (T / 2 + q / 2) := by omega
    have e2 := N6 (T / 2 + q / 2) (by rcases hT with rfl | rfl | rfl <;> omega)
    have e3 := N6 q (by omega)
    rw [e1, e3.2.2.2.2.2.2.1]
    have nf : f (T / 2 + q / 2) = none := by
      cases hf : f (T / 2 + q / 2) with
      | none => rfl
      | some k => have := (F1 _ k (Or.inl hf)).1; omega
    have ng : g (T / 2 + q / 2) = none := by
      cases hf : g (T / 2 + q / 2) with
      | none => rfl
      | some k => have := (F1 _ k (Or.inr hf)).1; omega
    split
    · rw [e2.2.2.2.2.2.2.2.1, nf]
    · rw [e2.2.2.2.2.2.2.2.2, ng]
  · have := F2 p q k (hasN p k (by omega) x) (hasN q k (by omega) y)
    omega
set_option maxHeartbeats 2000000 in
/-- a bout of the table with one fencer is decided -/
theorem pi_fin0 {q kw : Nat} (h : pi_V np T s) (hT0 : 0 < T) (hq : q + 1 < T) (h1 : xq_i s 1004 (np + q) = 0) (hk : pi_has s (np + q) kw) (hk1 : ∀ k, pi_has s (np + q) k → k = kw) (hkn : kw < s.1) : pi_V np T (mo_decide s (np + q) (some kw)) := by
  have n1 : (mo_decide s (np + q) (some kw)).1 = s.1 := mo_decide_1 _ _ _
  have n2 : (mo_decide s (np + q) (some kw)).2.1 = s.2.1 := mo_decide_2 _ _ _
  obtain ⟨⟨A1, A2, A3, A4, A5, A6, A7, A8, A9, A10⟩, hB, ⟨C1, C2, C3, C4, C5⟩, hF, hG, hU⟩ := h
  have hb : np + q < s.2.1 := by omega
  have hp : ¬ xq_i s 1001 (np + q) = -1 := fun z => by
    have := (A10 _ hb).mp z
    omega
  have I : ∀ c i, ¬ c = 913 → xq_i (mo_decide s (np + q) (some kw)) c i = if c = 1004 ∧ i = np + q then 2 else xq_i s c i := fun c i hc => pd_decT_i hp _ c i hc
  have R : ∀ c i, xq_r (mo_decide s (np + q) (some kw)) c i = if q + 2 < T ∧ c = (if q % 2 = 0 then 1100 else 1200) ∧ i = np + T / 2 + q / 2 then some kw else if c = 1005 ∧ i = np + q then some kw else xq_r s c i := fun c i => pd_decT_r (np := np) (T := T) (q := q) hp _ (A9 _ hb) (A6 hT0) A5 (by omega) A3 rfl hb A4 c i
  revert n1 n2 I R
  generalize mo_decide s (np + q) (some kw) = s'
  intro n1 n2 I R
  obtain ⟨o1, o2, o3⟩ := hB _ hb
  obtain ⟨hwn, hid⟩ : xq_r s 1005 (np + q) = none ∧ pi_idle s (np + q) := by
    rcases o2 with y | y | y | y
    · exact y.2
    · exact absurd (h1.symm.trans y.1) (by decide)
    · exact absurd (h1.symm.trans y.1) (by decide)
    · exact absurd (h1.symm.trans y.1) (by decide)
  have r5 : ∀ b', xq_r s' 1005 b' = if b' = np + q then some kw else xq_r s 1005 b' := fun b' => by
    rw [R, if_neg (fun z => by have := z.2.1; split at this <;> omega)]
    by_cases e : b' = np + q
    · rw [if_pos ⟨rfl, e⟩, if_pos e]
    · rw [if_neg (fun z => e z.2), if_neg e]
  have r0 : ∀ c i, c < 1000 → xq_r s' c i = xq_r s c i := fun c i hc => by
    rw [R, if_neg (fun z => by have := z.2.1; split at this <;> omega), if_neg (by omega)]
  have sd : ∀ c i, c = 1100 ∨ c = 1200 → xq_r s' c i = if q + 2 < T ∧ c = (if q % 2 = 0 then 1100 else 1200) ∧ i = np + T / 2 + q / 2 then some kw else xq_r s c i := fun c i hc => by
    have e2 : (if c = 1005 ∧ i = np + q then some kw else xq_r s c i) = xq_r s c i := by rw [if_neg (by omega)]
    rw [R, e2]
  have i4 : ∀ c i, ¬ c = 913 → ¬ c = 1004 → xq_i s' c i = xq_i s c i := fun c i z1 z2 => by rw [I c i z1, if_neg (fun y => z2 y.1)]
  have i44 : ∀ i, ¬ i = np + q → xq_i s' 1004 i = xq_i s 1004 i := fun i z => by rw [I 1004 i (by decide), if_neg (fun y => z y.2)]
  have b4 : xq_i s' 1004 (np + q) = 2 := by rw [I 1004 _ (by decide), if_pos ⟨rfl, rfl⟩]
  have hkn0 : q + 2 < T → xq_r s (if q % 2 = 0 then 1100 else 1200) (np + T / 2 + q / 2) = none := fun q2 => by rw [hG q q2, hwn]
  have hmono : ∀ b' k, pi_has s b' k → pi_has s' b' k := fun b' k z => by
    rcases z with z | z
    · refine Or.inl ?_
      rw [sd 1100 b' (by simp), if_neg]
      · exact z
      · rintro ⟨q2, q3, q4⟩
        have hn := hkn0 q2
        rw [← q3, ← q4, z] at hn
        cases hn
    · refine Or.inr ?_
      rw [sd 1200 b' (by simp), if_neg]
      · exact z
      · rintro ⟨q2, q3, q4⟩
        have hn := hkn0 q2
        rw [← q3, ← q4, z] at hn
        cases hn
  have hanti : ∀ b' k, pi_has s' b' k → pi_has s b' k ∨ (k = kw ∧ q + 2 < T ∧ b' = np + T / 2 + q / 2) := fun b' k z => by
    rcases z with z | z
    · rw [sd 1100 b' (by simp)] at z
      rcases pi_if z with ⟨y, z⟩ | z
      · exact Or.inr ⟨(Option.some.inj z).symm, y.1, y.2.2⟩
      · exact Or.inl (Or.inl z)
    · rw [sd 1200 b' (by simp)] at z
      rcases pi_if z with ⟨y, z⟩ | z
      · exact Or.inr ⟨(Option.some.inj z).symm, y.1, y.2.2⟩
      · exact Or.inl (Or.inr z)
  have okw : xq_i s 905 kw = 0 := by
    by_cases z : xq_i s 905 kw = 0
    · exact z
    · rcases C3 kw _ hkn hb z hk with y | y <;> exact absurd (h1.symm.trans y) (by decide)
  have sdb : ∀ b', (¬ (q + 2 < T ∧ b' = np + T / 2 + q / 2)) → ∀ c, c = 1100 ∨ c = 1200 → xq_r s' c b' = xq_r s c b' := fun b' z c hc => by
    rw [sd c b' hc, if_neg]
    exact fun y => z ⟨y.1, y.2.2⟩
  refine ⟨⟨by rw [n1]; exact A1, A2, by rw [n2]; exact A3, A4, (i4 8 0 (by decide) (by decide)).trans A5, fun z => (i4 9 0 (by decide) (by decide)).trans (A6 z), by rw [i4 6 0 (by decide) (by decide)]; exact A7, fun k hk => (i4 900 k (by decide) (by decide)).trans (A8 k (by omega)), fun b' hb' => (i4 1000 b' (by decide) (by decide)).trans (A9 b' (by omega)), fun b' hb' => by rw [i4 1001 b' (by decide) (by decide)]; exact A10 b' (by omega)⟩, fun b' hb' => ?_, ⟨fun k b' hk' z => ?_, fun j b' hj z => ?_, fun k b' hk' hb' ho hh => ?_, fun b' hb' => ?_, fun z b' hb' => ?_⟩, fun k hk' => ?_, fun p hp2 => ?_, fun p p2 k hp1 hp2 h3 h4 => ?_⟩
  · have hb' : b' < s.2.1 := by omega
    by_cases e : b' = np + q
    · subst e
      refine ⟨?_, Or.inr (Or.inr (Or.inl ⟨b4, ⟨kw, by rw [r5, if_pos rfl], hmono _ _ hk⟩, ?_⟩)), ?_⟩
      · obtain ⟨x, y, q1, q2, q3, q4, q5⟩ := o1
        refine ⟨x, y, (i4 1101 _ (by decide) (by decide)).trans q1, (i4 1201 _ (by decide) (by decide)).trans q2, q3, q4, fun z => ?_⟩
        rcases z with z | z <;> exact absurd (b4.symm.trans z) (by decide)
      · unfold pi_idle at hid ⊢
        rw [i4 1006 _ (by decide) (by decide), i4 1007 _ (by decide) (by decide), i4 1008 _ (by decide) (by decide)]
        exact hid
      · intro k
        rw [sdb _ (by omega) 1100 (by simp), sdb _ (by omega) 1200 (by simp)]
        exact o3 k
    · have old := hB b' hb'
      by_cases ef : q + 2 < T ∧ b' = np + T / 2 + q / 2
      · obtain ⟨e2, e3⟩ := ef
        have hn := hkn0 e2
        have hnl : ¬ xq_i s 1004 b' = 1 := fun z => by
          obtain ⟨l', r', q1, q2, _⟩ : ∃ l r, xq_r s 1100 b' = some l ∧ xq_r s 1200 b' = some r ∧ True := by
            rcases old.2.1 with y | y | y | y
            · exact absurd (z.symm.trans y.1) (by decide)
            · obtain ⟨_, _, l', r', q1, q2, _⟩ := y.2.2
              exact ⟨l', r', q1, q2, trivial⟩
            · exact absurd (z.symm.trans y.1) (by decide)
            · exact absurd (z.symm.trans y.1) (by decide)
          rw [← e3] at hn
          split at hn
          · rw [hn] at q1; cases q1
          · rw [hn] at q2; cases q2
        have e4 := i44 b' e
        have hid : pi_idle s' b' ↔ pi_idle s b' := by
          unfold pi_idle
          rw [i4 1006 _ (by decide) (by decide), i4 1007 _ (by decide) (by decide), i4 1008 _ (by decide) (by decide)]
        refine ⟨?_, ?_, ?_⟩
        · obtain ⟨x, y, q1, q2, q3, q4, q5⟩ := old.1
          exact ⟨x, y, (i4 1101 _ (by decide) (by decide)).trans q1, (i4 1201 _ (by decide) (by decide)).trans q2, q3, q4, by rw [e4]; exact q5⟩
        · unfold pi_sh
          rw [e4, hid, r5, if_neg e]
          rcases old.2.1 with y | y | y | y
          · exact Or.inl y
          · exact absurd y.1 hnl
          · refine Or.inr (Or.inr (Or.inl ⟨y.1, ?_, y.2.2⟩))
            obtain ⟨k, q1, q2⟩ := y.2.1
            exact ⟨k, q1, hmono _ _ q2⟩
          · exact Or.inr (Or.inr (Or.inr y))
        · have other : ∀ p, p + 2 < T → ¬ p = q → p / 2 = q / 2 → ¬ xq_r s (if p % 2 = 0 then 1100 else 1200) (np + T / 2 + p / 2) = some kw := fun p e5 e6 e7 q1 => by
            rw [hG p e5] at q1
            have e8 : np + p < s.2.1 := by omega
            have hh : pi_has s (np + p) kw := by
              rcases (hB (np + p) e8).2.1 with z | z | z | z
              · rw [z.2.1] at q1; cases q1
              · rw [z.2.1] at q1; cases q1
              · obtain ⟨k, z1, z2⟩ := z.2.1
                rw [z1] at q1
                cases q1
                exact z2
              · rw [z.2.1] at q1; cases q1
            rcases (show p < q ∨ q < p by omega) with z | z
            · have := (hU p q kw z (by omega) hh hk).2
              rcases A2 with rfl | rfl | rfl | rfl <;> omega
            · have := (hU q p kw z (by omega) hk hh).2
              rcases A2 with rfl | rfl | rfl | rfl <;> omega
          intro k
          rw [sd 1100 b' (by simp), sd 1200 b' (by simp)]
          by_cases e5 : q % 2 = 0
          · rw [if_pos (by rw [if_pos e5]; exact ⟨e2, rfl, e3⟩), if_neg (by rw [if_pos e5]; intro z; exact absurd z.2.1 (by decide))]
            intro z z2
            cases z
            by_cases e7 : q + 1 + 2 < T
            · refine other (q + 1) e7 (by omega) (by omega) ?_
              rw [if_neg (by omega), show (q + 1) / 2 = q / 2 by omega, ← e3]
              exact z2
            · rcases A2 with rfl | rfl | rfl | rfl <;> omega
          · rw [if_neg (by rw [if_neg e5]; intro z; exact absurd z.2.1 (by decide)), if_pos (by rw [if_neg e5]; exact ⟨e2, rfl, e3⟩)]
            intro z2 z
            cases z
            refine other (q - 1) (by omega) (by omega) (by omega) ?_
            rw [if_pos (by omega), show (q - 1) / 2 = q / 2 by omega, ← e3]
            exact z2
      · refine pi_sameB old (fun c hc => ?_) (fun c hc => ?_) (fun j _ z => (r0 300 j (by decide)).trans z) (fun k _ z => (r0 906 k (by decide)).trans z)
        · by_cases z : c = 1004
          · rw [z]; exact i44 b' e
          · exact i4 c b' (by omega) z
        · rcases hc with rfl | hc
          · rw [r5, if_neg e]
          · exact sdb b' ef c hc
  · rw [r0 906 k (by decide)] at z
    obtain ⟨q1, q2⟩ := C1 k b' (by omega) z
    have e : ¬ b' = np + q := fun e => by
      subst e
      exact absurd (h1.symm.trans q1) (by decide)
    exact ⟨(i44 b' e).trans q1, hmono _ _ q2⟩
  · rw [r0 300 j (by decide)] at z
    rw [i4 1006 b' (by decide) (by decide)]
    exact C2 j b' hj z
  · rw [i4 905 k (by decide) (by decide)] at ho
    by_cases e : b' = np + q
    · rw [e]; exact Or.inl b4
    · rw [i44 b' e]
      rcases hanti b' k hh with y | y
      · exact C3 k b' (by omega) (by omega) ho y
      · rw [y.1] at ho; exact absurd okw ho
  · rw [sdb b' (by omega) 1100 (by simp), sdb b' (by omega) 1200 (by simp)]
    exact C4 b' hb'
  · rw [i44 b' (by omega)]
    exact C5 z b' hb'
  · obtain ⟨f1, f2⟩ := hF k (by omega)
    rw [i4 908 k (by decide) (by decide), i4 909 k (by decide) (by decide), f1, f2]
    constructor
    · refine congrArg nI (pu_ct_eq (fun i hi => ?_))
      unfold pi_met pi_has
      rw [i44 i (by omega), sdb i (by omega) 1100 (by simp), sdb i (by omega) 1200 (by simp)]
    · refine congrArg nI (pu_ct_eq (fun i hi => ?_))
      unfold pi_won
      rw [i44 i (by omega), r5, if_neg (by omega)]
  · rw [r5, sd _ _ (by split <;> simp)]
    by_cases e : np + p = np + q
    · have e4 : p = q := by omega
      subst e4
      rw [if_pos rfl, if_pos ⟨hp2, rfl, rfl⟩]
    · rw [if_neg e, if_neg]
      · exact hG p hp2
      · rintro ⟨z2, z3, z4⟩
        have z5 : p % 2 = q % 2 := by
          by_cases y1 : p % 2 = 0 <;> by_cases y2 : q % 2 = 0
          · omega
          · rw [if_pos y1, if_neg y2] at z3; exact absurd z3 (by decide)
          · rw [if_neg y1, if_pos y2] at z3; exact absurd z3 (by decide)
          · omega
        omega
  · rw [r5]
    rcases hanti _ _ h3 with h3 | h3 <;> rcases hanti _ _ h4 with h4 | h4
    · obtain ⟨u1, u2⟩ := hU p p2 k hp1 hp2 h3 h4
      refine ⟨?_, u2⟩
      by_cases e : np + p = np + q
      · rw [e, hwn] at u1; cases u1
      · rw [if_neg e]; exact u1
    · obtain ⟨rfl, z2, z3⟩ := h4
      by_cases e : np + p = np + q
      · rw [if_pos e]
        exact ⟨rfl, by omega⟩
      · rw [if_neg e]
        rcases (show p < q ∨ q < p by omega) with y | y
        · obtain ⟨u1, u2⟩ := hU p q k y (by omega) h3 hk
          exact ⟨u1, by omega⟩
        · have u1 := (hU q p k y (by omega) hk h3).1
          rw [hwn] at u1
          cases u1
    · obtain ⟨rfl, z2, z3⟩ := h3
      have u1 := (hU q p2 k (by omega) hp2 hk h4).1
      rw [hwn] at u1
      cases u1
    · omega
end PUE
