/-! PURE: seeds and lines -/
section PUC
variable {np T : Nat} {s s1 s' u v : xq_S}
def pl_line (T j : Nat) : Nat := if T = 2 then j else if T = 4 then (if j = 0 then 0 else if j = 1 then 3 else if j = 2 then 1 else 2) else (if j = 0 then 0 else if j = 1 then 7 else if j = 2 then 3 else if j = 3 then 4 else if j = 4 then 1 else if j = 5 then 6 else if j = 6 then 2 else 5)
theorem fr_ln1 (s : xq_S) (z i0 c i : Nat) (h : ¬ c = 600) : xq_i (mo_ln1 s z i0) c i = xq_i s c i := by
  unfold mo_ln1
  simp only
  rw [xq_i_i, if_neg (by omega), xq_i_i, if_neg (by omega)]
theorem fr_ln (z c i : Nat) (h : ¬ c = 600) : ∀ (n : Nat) (s : xq_S), xq_i (mo_ln s z n) c i = xq_i s c i
  | 0, _ => rfl
  | n + 1, s => by rw [mo_ln, fr_ln z c i h n, fr_ln1 _ _ _ _ _ h]
theorem fr_lnr (z c i : Nat) : ∀ (n : Nat) (s : xq_S), xq_r (mo_ln s z n) c i = xq_r s c i
  | 0, _ => rfl
  | n + 1, s => by rw [mo_ln, fr_lnr z c i n]; rfl
theorem fr_out (n c i : Nat) (h : ¬ c = 600) : ∀ (f : Nat) (s : xq_S) (z : Nat), xq_i (mo_out f s z n).1 c i = xq_i s c i ∧ xq_r (mo_out f s z n).1 c i = xq_r s c i
  | 0, _, _ => ⟨rfl, rfl⟩
  | f + 1, s, z => by
    rw [mo_out]
    split
    · exact ⟨rfl, rfl⟩
    · have := fr_out n c i h f (mo_ln s z z) (2 * z)
      rw [fr_ln _ _ _ h, fr_lnr] at this
      exact this
theorem pl_seedI (s : xq_S) (c i : Nat) : ∀ n, xq_i (mo_seed s n) c i = xq_i s c i
  | 0 => rfl
  | n + 1 => pl_seedI s c i n
theorem pl_order (s : xq_S) (x : Int32) : ∀ n, mo_inOrder (mo_seed s n) x = mo_inOrder s x
  | 0 => rfl
  | n + 1 => pl_order s x n
theorem pl_seedR (s : xq_S) (c i : Nat) : ∀ n, xq_r (mo_seed s n) c i = if c = 500 ∧ i < n then mo_inOrder s (nI i) else xq_r s c i
  | 0 => by rw [if_neg (by omega)]; rfl
  | n + 1 => by
    rw [mo_seed, xq_r_r, pl_seedR s c i n, pl_order]
    by_cases e : c = 500
    · by_cases e2 : i = n
      · subst e2
        rw [if_pos ⟨e, rfl⟩, if_pos ⟨e, by omega⟩]
      · rw [if_neg (fun z => e2 z.2)]
        by_cases e3 : i < n
        · rw [if_pos ⟨e, e3⟩, if_pos ⟨e, by omega⟩]
        · rw [if_neg (fun z => e3 z.2), if_neg (by omega)]
    · rw [if_neg (fun z => e z.1), if_neg (fun z => e z.1), if_neg (fun z => e z.1)]
theorem pl_drawnI (s : xq_S) {L : Nat} (c i : Nat) (h : ¬ c = 600) (h8 : ¬ c = 8) : xq_i (mo_drawn s L) c i = xq_i s c i := by
  unfold mo_drawn mo_setLines
  rw [xq_i_i, if_neg (fun z => h8 z.1), (fr_out L c i h 4 _ 1).1, xq_i_i, if_neg (fun z => h z.1), pl_seedI]
theorem pl_drawnR (s : xq_S) {L : Nat} (c i : Nat) : xq_r (mo_drawn s L) c i = if c = 500 ∧ i < L then mo_inOrder s (nI i) else xq_r s c i := by
  unfold mo_drawn mo_setLines
  rw [xq_r_i]
  by_cases e : c = 600
  · subst e
    have : ∀ (f : Nat) (s : xq_S) (z : Nat), xq_r (mo_out f s z L).1 600 i = xq_r s 600 i := by
      intro f
      induction f with
      | zero => intro s z; rfl
      | succ f ih =>
        intro s z
        rw [mo_out]
        split
        · rfl
        · rw [ih, fr_lnr]
    rw [this, xq_r_i, pl_seedR]
  · rw [(fr_out L c i e 4 _ 1).2, xq_r_i, pl_seedR]
/-- lines don't depend on what was there -/
theorem pl_lnC (z : Nat) : ∀ (c : Nat), c ≤ z → ∀ (s s' : xq_S), (∀ i, i < c ∨ (2 * c ≤ i ∧ i < 2 * z) → xq_i s 600 i = xq_i s' 600 i) → ∀ i, i < 2 * z → xq_i (mo_ln s z c) 600 i = xq_i (mo_ln s' z c) 600 i
  | 0, _, s, s', h, i, hi => h i (by omega)
  | c + 1, hc, s, s', h, i, hi => by
    rw [mo_ln, mo_ln]
    refine pl_lnC z c (by omega) _ _ (fun i hi => ?_) i hi
    have e := h c (by omega)
    unfold mo_ln1
    simp only
    simp only [xq_i_i, e]
    by_cases e1 : i = 2 * c + 1
    · simp [e1]
    · by_cases e2 : i = 2 * c
      · simp [e1, e2]
      · simp only [e1, e2, and_false, if_false]
        exact h i (by omega)
theorem pl_outC (n : Nat) : ∀ (f : Nat) (s s' : xq_S) (z : Nat), (∀ i, i < z → xq_i s 600 i = xq_i s' 600 i) → (mo_out f s z n).2 = (mo_out f s' z n).2 ∧ ∀ i, i < (mo_out f s z n).2 → xq_i (mo_out f s z n).1 600 i = xq_i (mo_out f s' z n).1 600 i
  | 0, s, s', z, h => ⟨rfl, fun i hi => h i hi⟩
  | f + 1, s, s', z, h => by
    rw [mo_out, mo_out]
    by_cases e : n ≤ z ∨ 16 < 2 * z
    · rw [if_pos e, if_pos e]
      exact ⟨rfl, h⟩
    · rw [if_neg e, if_neg e]
      exact pl_outC n f _ _ (2 * z) (pl_lnC z z (Nat.le_refl _) s s' (fun i hi => h i (by omega)))
theorem pl_lines0 : ∀ L, L < 9 → 2 ≤ L → ∀ j, j < mo_T L → xq_i (mo_out 4 (xu_i xq_0 600 0 0) 1 L).1 600 j = nI (pl_line (mo_T L) j) := by decide +kernel
theorem pl_lines (s : xq_S) {L : Nat} (h2 : 2 ≤ L) (h8 : L ≤ 8) : ∀ j, j < mo_T L → xq_i (mo_drawn s L) 600 j = nI (pl_line (mo_T L) j) := by
  intro j hj
  unfold mo_drawn mo_setLines
  have hi0 : ∀ (z : Nat), ¬ ((600 : Nat) = 8 ∧ j = 0) := fun _ => by omega
  rw [xq_i_i, if_neg (hi0 0)]
  have hc := pl_outC L 4 (xu_i (mo_seed s L) 600 0 0) (xu_i xq_0 600 0 0) 1 (fun i hi => by
    have : i = 0 := by omega
    subst this
    rw [xq_i_i, xq_i_i, if_pos ⟨rfl, rfl⟩, if_pos ⟨rfl, rfl⟩])
  rw [hc.2 j (by rw [mo_out_T _ h2 h8]; exact hj)]
  exact pl_lines0 L (by omega) h2 j hj
end PUC
/-! PURE: the new bouts of the table -/
section PUD
variable {np T : Nat} {s s1 s' u v : xq_S} {f g : Nat → Option Nat}
def pi_N (u v : xq_S) (f g : Nat → Option Nat) : Prop := v.1 = u.1 ∧ u.2.1 ≤ v.2.1 ∧ (∀ c i, c / 100 < 10 → ¬ c = 200 → ¬ c = 912 → ¬ c = 913 → xq_i v c i = xq_i u c i) ∧ (∀ c i, c / 100 < 10 → xq_r v c i = xq_r u c i) ∧ (∀ c i, i < u.2.1 → 10 ≤ c / 100 → xq_i v c i = xq_i u c i ∧ xq_r v c i = xq_r u c i) ∧ (∀ q, u.2.1 + q < v.2.1 → xq_i v 1000 (u.2.1 + q) = nI (u.2.1 + q) ∧ ¬ xq_i v 1001 (u.2.1 + q) = -1 ∧ xq_i v 1004 (u.2.1 + q) = 0 ∧ pi_idle v (u.2.1 + q) ∧ xq_i v 1101 (u.2.1 + q) = 0 ∧ xq_i v 1201 (u.2.1 + q) = 0 ∧ xq_r v 1005 (u.2.1 + q) = none ∧ xq_r v 1100 (u.2.1 + q) = f q ∧ xq_r v 1200 (u.2.1 + q) = g q)
theorem pi_N0 : pi_N u u f g := ⟨rfl, Nat.le_refl _, fun _ _ _ _ _ _ => rfl, fun _ _ _ => rfl, fun _ _ _ _ => ⟨rfl, rfl⟩, fun q h => absurd h (by omega)⟩
theorem pd_bout_i {x y : Int32} {L R : Option Nat} (c i : Nat) (h : ¬ c = 200) : xq_i (mo_bout v x y L R) c i = if 10 ≤ c / 100 ∧ i = v.2.1 then (if c = 1000 then x else if c = 1001 then y else if c = 1006 then -1 else 0) else xq_i v c i := by
  have e : xq_i (mo_bout v x y L R) c i = xq_i (xu_i (mo_newB v x y L R) 200 0 (xq_i (mo_newB v x y L R) 200 0 + 1)) c i := rfl
  rw [e, xq_i_i, if_neg (fun z => h z.1), xq_i_nB]
theorem pd_bout_r {x y : Int32} {L R : Option Nat} (c i : Nat) : xq_r (mo_bout v x y L R) c i = if 10 ≤ c / 100 ∧ i = v.2.1 then (if c = 1100 then L else if c = 1200 then R else none) else xq_r v c i := rfl
theorem pi_Nb {y : Int32} {L R : Option Nat} (h : pi_N u v f g) (hy : ¬ y = -1) (hL : L = f (v.2.1 - u.2.1)) (hR : R = g (v.2.1 - u.2.1)) : pi_N u (mo_bout v (nI v.2.1) y L R) f g := by
  obtain ⟨h1, h2, h3, h4, h5, h6⟩ := h
  refine ⟨h1, Nat.le_succ_of_le h2, fun c i z1 z2 z3 z4 => ?_, fun c i z1 => ?_, fun c i z1 z2 => ?_, fun q hq => ?_⟩
  · rw [pd_bout_i c i z2, if_neg (by omega)]
    exact h3 c i z1 z2 z3 z4
  · rw [pd_bout_r c i, if_neg (by omega)]
    exact h4 c i z1
  · rw [pd_bout_i c i (by omega), pd_bout_r c i, if_neg (by omega), if_neg (by omega)]
    exact h5 c i z1 z2
  · have hq : u.2.1 + q < v.2.1 + 1 := hq
    unfold pi_idle
    simp only [pd_bout_r, pd_bout_i 1000 (u.2.1 + q) (by decide), pd_bout_i 1001 (u.2.1 + q) (by decide), pd_bout_i 1004 (u.2.1 + q) (by decide), pd_bout_i 1006 (u.2.1 + q) (by decide), pd_bout_i 1007 (u.2.1 + q) (by decide), pd_bout_i 1008 (u.2.1 + q) (by decide), pd_bout_i 1101 (u.2.1 + q) (by decide), pd_bout_i 1201 (u.2.1 + q) (by decide)]
    by_cases e : u.2.1 + q = v.2.1
    · have e2 : v.2.1 - u.2.1 = q := by omega
      rw [e2] at hL hR
      simp [e, hL, hR, hy]
    · have := h6 q (by omega)
      unfold pi_idle at this
      simp only [e, and_false, if_false]
      exact this
theorem pd_enter_i (j c i : Nat) (h : ¬ c = 912 ∧ ¬ c = 913) : xq_i (mo_enter v j) c i = xq_i v c i := by
  unfold mo_enter
  split
  · rfl
  · rw [xq_i_i, if_neg (by omega), xq_i_i, if_neg (by omega)]
theorem pd_enter_r (j c i : Nat) : xq_r (mo_enter v j) c i = xq_r v c i := by
  unfold mo_enter
  split <;> rfl
theorem pi_Ne {j : Nat} (h : pi_N u v f g) : pi_N u (mo_enter v j) f g := by
  obtain ⟨h1, h2, h3, h4, h5, h6⟩ := h
  refine ⟨by rw [mo_enter_1]; exact h1, by rw [mo_enter_2]; exact h2, fun c i z1 z2 z3 z4 => ?_, fun c i z1 => ?_, fun c i z1 z2 => ?_, fun q hq => ?_⟩
  · rw [pd_enter_i _ _ _ ⟨z3, z4⟩]; exact h3 c i z1 z2 z3 z4
  · rw [pd_enter_r]; exact h4 c i z1
  · rw [pd_enter_r, pd_enter_i _ _ _ (by omega)]; exact h5 c i z1 z2
  · rw [mo_enter_2] at hq
    have := h6 q hq
    unfold pi_idle at this ⊢
    simp only [pd_enter_r, pd_enter_i j 1000 (u.2.1 + q) (by decide), pd_enter_i j 1001 (u.2.1 + q) (by decide), pd_enter_i j 1004 (u.2.1 + q) (by decide), pd_enter_i j 1006 (u.2.1 + q) (by decide), pd_enter_i j 1007 (u.2.1 + q) (by decide), pd_enter_i j 1008 (u.2.1 + q) (by decide), pd_enter_i j 1101 (u.2.1 + q) (by decide), pd_enter_i j 1201 (u.2.1 + q) (by decide)]
    exact this
theorem pi_Nl {j : Nat} (h : pi_N u v f g) : mo_onLine v j = mo_onLine u j := by
  unfold mo_onLine
  rw [h.2.2.1 600 j (by decide) (by decide) (by decide) (by decide), h.2.2.2.1 500 _ (by decide)]
def pl_f (u : xq_S) (H q : Nat) : Option Nat := if q < H then mo_onLine u (2 * q) else none
def pl_g (u : xq_S) (H q : Nat) : Option Nat := if q < H then mo_onLine u (2 * q + 1) else none
theorem pi_N1 (H : Nat) : ∀ M, M ≤ H → pi_N u (mo_tb1 u M) (pl_f u H) (pl_g u H)
  | 0, _ => pi_N0
  | M + 1, hM => by
    have h := pi_N1 H M (by omega)
    have e : (mo_tb1 u M).2.1 - u.2.1 = M := by rw [mo_tb1_2]; omega
    rw [mo_tb1]
    have h2 : pi_N u (mo_enter (mo_enter (mo_tb1 u M) (2 * M)) (2 * M + 1)) (pl_f u H) (pl_g u H) := pi_Ne (pi_Ne h)
    have := pi_Nb (y := 0) (L := mo_onLine (mo_tb1 u M) (2 * M)) (R := mo_onLine (mo_enter (mo_tb1 u M) (2 * M)) (2 * M + 1)) h2 (by decide) (by rw [mo_enter_2, mo_enter_2, e, pi_Nl h]; unfold pl_f; rw [if_pos (by omega)]) (by rw [mo_enter_2, mo_enter_2, e, pi_Nl (pi_Ne h)]; unfold pl_g; rw [if_pos (by omega)])
    rw [mo_enter_2, mo_enter_2] at this
    exact this
theorem pi_N2 {H r : Nat} (hr : 1 ≤ r) (hr2 : r < 1000) (h : pi_N u v (pl_f u H) (pl_g u H)) (hH : u.2.1 + H ≤ v.2.1) : ∀ M, pi_N u (mo_tb2 v r M) (pl_f u H) (pl_g u H)
  | 0 => h
  | M + 1 => by
    have h2 := pi_N2 hr hr2 h hH M
    have e := mo_tb2_2 v r M
    rw [mo_tb2]
    refine pi_Nb h2 (fun z => ?_) ?_ ?_
    · have h9 : (nI r).toInt = -1 := by rw [z]; decide
      rw [nI_toInt (by omega)] at h9
      omega
    · unfold pl_f
      rw [if_neg (by omega)]
    · unfold pl_g
      rw [if_neg (by omega)]
theorem pi_N3 {H : Nat} : ∀ (n : Nat) (v : xq_S) (r q : Nat), 1 ≤ r → r + n < 1000 → pi_N u v (pl_f u H) (pl_g u H) → u.2.1 + H ≤ v.2.1 → pi_N u (mo_tb3 n v r q) (pl_f u H) (pl_g u H)
  | 0, v, r, q, _, _, h, _ => h
  | n + 1, v, r, q, h1, h2, h, hH => by
    rw [mo_tb3]
    split
    · exact h
    · exact pi_N3 n _ (r + 1) (q / 2) (by omega) (by omega) (pi_N2 h1 (by omega) h hH q) (by rw [mo_tb2_2]; omega)
theorem pi_tb3n (v : xq_S) {T : Nat} (hT : T = 2 ∨ T = 4 ∨ T = 8) : (mo_tb3 4 v 1 (T / 4)).2.1 = v.2.1 + (T / 2 - 1) := by
  rcases hT with rfl | rfl | rfl
  · rfl
  · simp [mo_tb3, mo_tb2_2]
  · simp [mo_tb3, mo_tb2_2]
/-- the table with its bouts -/
theorem pi_tbs (d : xq_S) {T : Nat} (hT : T = 2 ∨ T = 4 ∨ T = 8) : pi_N (xu_i d 9 0 (nI d.2.1)) (mo_tbs d T) (pl_f d (T / 2)) (pl_g d (T / 2)) ∧ (mo_tbs d T).2.1 = d.2.1 + (T - 1) := by
  have h1 := pi_N1 (T / 2) (T / 2) (Nat.le_refl _) (u := xu_i d 9 0 (nI d.2.1))
  have n1 : (mo_tb1 (xu_i d 9 0 (nI d.2.1)) (T / 2)).2.1 = d.2.1 + T / 2 := mo_tb1_2 _ _
  unfold mo_tbs
  refine ⟨pi_N3 4 _ 1 (T / 4) (Nat.le_refl _) (by omega) h1 (by rw [n1]; exact Nat.le_refl _), ?_⟩
  rw [pi_tb3n _ hT, n1]
  omega
end PUD
