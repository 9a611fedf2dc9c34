/-! PURE: the table is drawn, all of it -/
section PUF
variable {np T : Nat} {s s1 s' u v : xq_S} {f g : Nat → Option Nat}
theorem pi_dwo (h : pi_V np T v) (hT : T = 2 ∨ T = 4 ∨ T = 8) (h0 : ∀ q, q < T / 2 → xq_i v 1004 (np + q) = 0 ∧ xq_r v 1100 (np + q) = f q ∧ xq_r v 1200 (np + q) = g q) (hk : ∀ q k, f q = some k ∨ g q = some k → k < v.1) (h1 : ∀ q, q < T / 2 → ¬ (f q = none ∧ g q = none)) : ∀ M, M ≤ T / 2 → pi_V np T (mo_dwo v np M) ∧ (mo_dwo v np M).1 = v.1 ∧ (mo_dwo v np M).2.1 = v.2.1 ∧ (∀ q, M ≤ q → q < T / 2 → xq_i (mo_dwo v np M) 1004 (np + q) = 0) ∧ ∀ q, q < T / 2 → xq_r (mo_dwo v np M) 1100 (np + q) = f q ∧ xq_r (mo_dwo v np M) 1200 (np + q) = g q
  | 0, _ => ⟨h, rfl, rfl, fun q _ hq => (h0 q hq).1, fun q hq => (h0 q hq).2⟩
  | M + 1, hM => by
    obtain ⟨a1, a2, a3, a4, a5⟩ := pi_dwo h hT h0 hk h1 M (by omega)
    obtain ⟨b1, b2⟩ := a5 M (by omega)
    rw [mo_dwo]
    by_cases hq : mo_known (mo_dwo v np M) (np + M) = 0
    · rw [if_pos hq]
      obtain ⟨kw, e, hh, ho⟩ : ∃ kw, (if xq_r (mo_dwo v np M) 1100 (np + M) = none then xq_r (mo_dwo v np M) 1200 (np + M) else xq_r (mo_dwo v np M) 1100 (np + M)) = some kw ∧ pi_has (mo_dwo v np M) (np + M) kw ∧ ∀ k, pi_has (mo_dwo v np M) (np + M) k → k = kw := by
        unfold mo_known at hq
        cases hf : xq_r (mo_dwo v np M) 1100 (np + M) with
        | none =>
          cases hg : xq_r (mo_dwo v np M) 1200 (np + M) with
          | none => exact absurd ⟨b1.symm.trans hf, b2.symm.trans hg⟩ (h1 M (by omega))
          | some k =>
            refine ⟨k, if_pos rfl, Or.inr hg, fun k' z => ?_⟩
            rcases z with z | z
            · rw [hf] at z; cases z
            · rw [hg] at z; cases z; rfl
        | some k =>
          cases hg : xq_r (mo_dwo v np M) 1200 (np + M) with
          | none =>
            refine ⟨k, if_neg (by simp), Or.inl hf, fun k' z => ?_⟩
            rcases z with z | z
            · rw [hf] at z; cases z; rfl
            · rw [hg] at z; cases z
          | some k' =>
            rw [hf, hg] at hq
            exact absurd (show (1 : Int32) = 0 from hq) (by decide)
      rw [e]
      have hkn : kw < (mo_dwo v np M).1 := by
        rw [a2]
        refine hk M kw ?_
        rw [← b1, ← b2]
        exact hh
      have hnb := a1.1.2.2.1
      have hb : np + M < (mo_dwo v np M).2.1 := by omega
      have A := a1.1
      obtain ⟨A1, A2, A3, A4, A5, A6, A7, A8, A9, A10⟩ := A
      have hp : ¬ xq_i (mo_dwo v np M) 1001 (np + M) = -1 := fun z => by
        have := (A10 _ hb).mp z
        omega
      refine ⟨pi_fin0 a1 (by omega) (by omega) (a4 M (Nat.le_refl _) (by omega)) hh ho hkn, (mo_decide_1 _ _ _).trans a2, (mo_decide_2 _ _ _).trans a3, fun q z1 z2 => ?_, fun q z => ?_⟩
      · rw [pd_decT_i hp _ 1004 _ (by decide), if_neg (by omega)]
        exact a4 q (by omega) z2
      · have R := fun c i => pd_decT_r (np := np) (T := T) (q := M) hp (some kw) (A9 _ hb) (A6 (by omega)) A5 hT A3 rfl hb A4 c i
        rw [R, R, if_neg (by omega), if_neg (by omega), if_neg (by omega), if_neg (by omega)]
        exact a5 q z
    · rw [if_neg hq]
      exact ⟨a1, a2, a3, fun q z1 z2 => a4 q (by omega) z2, a5⟩
theorem pl_lt : ∀ T, T < 9 → (T = 2 ∨ T = 4 ∨ T = 8) → ∀ j, j < T → pl_line T j < T := by decide
theorem pl_inj : ∀ T, T < 9 → (T = 2 ∨ T = 4 ∨ T = 8) → ∀ i, i < T → ∀ j, j < T → pl_line T i = pl_line T j → i = j := by decide +kernel
theorem pl_one : ∀ L, L < 9 → 2 ≤ L → ∀ q, q < mo_T L / 2 → pl_line (mo_T L) (2 * q) < L ∨ pl_line (mo_T L) (2 * q + 1) < L := by decide +kernel
theorem mo_T_3 (L : Nat) : mo_T L = 2 ∨ mo_T L = 4 ∨ mo_T L = 8 := by
  unfold mo_T
  split
  · simp
  · split <;> simp
theorem pl_on {M W : Nat → Nat} {L j : Nat} (hok : pu_ok s W M) (h2 : 2 ≤ L) (h8 : L ≤ 8) (hL : L ≤ s.1) (hz : ∀ j, xq_r s 500 j = none) (hj : j < mo_T L) : (pl_line (mo_T L) j < L → ∃ k, mo_onLine (mo_drawn s L) j = some k ∧ k < s.1 ∧ mo_rank s k = pl_line (mo_T L) j) ∧ (¬ pl_line (mo_T L) j < L → mo_onLine (mo_drawn s L) j = none) := by
  have hT := mo_T_3 L
  have hlt := pl_lt (mo_T L) (by have := mo_T_8 L; omega) hT j hj
  have h88 := mo_T_8 L
  have e : mo_onLine (mo_drawn s L) j = if pl_line (mo_T L) j < L then mo_inOrder s (nI (pl_line (mo_T L) j)) else none := by
    unfold mo_onLine
    rw [pl_lines s h2 h8 j hj, if_neg (fun z => by
      rcases z with z | z
      · exact nI_pos (by omega) z
      · exact (show ¬ nI 15 < nI (pl_line (mo_T L) j) from nI_nlt (by omega) (by omega)) z), nI_clamp (by omega), pl_drawnR]
    by_cases z : pl_line (mo_T L) j < L
    · rw [if_pos ⟨rfl, z⟩, if_pos z]
    · rw [if_neg (fun y => z y.2), if_neg z, hz]
  rw [e]
  constructor
  · intro z
    rw [if_pos z]
    obtain ⟨k, k1, k2, k3⟩ := pu_seed hok (i := pl_line (mo_T L) j) (by omega)
    exact ⟨k, k2, k1, k3⟩
  · intro z
    rw [if_neg z]
theorem pi_draw {L : Nat} (h : pi_V np 0 s) (wf : xq_wf s) (hz : ∀ j, xq_r s 500 j = none) (hd : ∀ b, b < np → xq_i s 1004 b = 2 ∨ xq_i s 1004 b = 3) (hL : s.1 = mo_outs s + L) (h2 : 2 ≤ L) : pi_V np (mo_T L) (mo_draw s L) ∧ (mo_draw s L).1 = s.1 ∧ (mo_draw s L).2.1 = np + (mo_T L - 1) := by
  have hok := pi_ok h wf
  have h8 : L ≤ 8 := by have := h.1.1; omega
  have hT := mo_T_3 L
  have h88 := mo_T_8 L
  have hnp : s.2.1 = np := by have := h.1.2.2.1; omega
  obtain ⟨N, nN⟩ := pi_tbs (mo_drawn s L) hT
  have n1 : (mo_drawn s L).1 = s.1 := mo_drawn_1 s L
  have n2 : (mo_drawn s L).2.1 = np := (mo_drawn_2 s L).trans hnp
  have hon := fun j hj => pl_on hok h2 h8 (by omega) hz (j := j) hj
  -- who is on a line
  have line : ∀ q k, pl_f (mo_drawn s L) (mo_T L / 2) q = some k ∨ pl_g (mo_drawn s L) (mo_T L / 2) q = some k → ∃ j, j < mo_T L ∧ q = j / 2 ∧ q < mo_T L / 2 ∧ k < s.1 ∧ mo_rank s k = pl_line (mo_T L) j ∧ pl_line (mo_T L) j < L := fun q k z => by
    unfold pl_f pl_g at z
    by_cases hq : q < mo_T L / 2
    · rw [if_pos hq, if_pos hq] at z
      have key : ∀ j, j < mo_T L → q = j / 2 → mo_onLine (mo_drawn s L) j = some k → ∃ j, j < mo_T L ∧ q = j / 2 ∧ q < mo_T L / 2 ∧ k < s.1 ∧ mo_rank s k = pl_line (mo_T L) j ∧ pl_line (mo_T L) j < L := fun j hj e y => by
        by_cases hl : pl_line (mo_T L) j < L
        · obtain ⟨k', k1, k2, k3⟩ := (hon j hj).1 hl
          rw [y] at k1
          cases k1
          exact ⟨j, hj, e, hq, k2, k3, hl⟩
        · rw [(hon j hj).2 hl] at y
          cases y
      rcases z with z | z
      · exact key (2 * q) (by omega) (by omega) z
      · exact key (2 * q + 1) (by omega) (by omega) z
    · rw [if_neg hq, if_neg hq] at z
      rcases z with z | z <;> cases z
  have F1 : ∀ q k, pl_f (mo_drawn s L) (mo_T L / 2) q = some k ∨ pl_g (mo_drawn s L) (mo_T L / 2) q = some k → q < mo_T L / 2 ∧ k < s.1 ∧ xq_i s 905 k = 0 := fun q k z => by
    obtain ⟨j, j1, j2, j3, j4, j5, j6⟩ := line q k z
    exact ⟨j3, j4, pu_seedIn hok hL j4 (by omega)⟩
  have F2 : ∀ q q' k, pl_f (mo_drawn s L) (mo_T L / 2) q = some k ∨ pl_g (mo_drawn s L) (mo_T L / 2) q = some k → pl_f (mo_drawn s L) (mo_T L / 2) q' = some k ∨ pl_g (mo_drawn s L) (mo_T L / 2) q' = some k → q = q' := fun q q' k z z' => by
    obtain ⟨j, j1, j2, j3, j4, j5, j6⟩ := line q k z
    obtain ⟨i, i1, i2, i3, i4, i5, i6⟩ := line q' k z'
    have := pl_inj (mo_T L) (by omega) hT j j1 i i1 (by omega)
    omega
  have F3 : ∀ q k, pl_f (mo_drawn s L) (mo_T L / 2) q = some k → ¬ pl_g (mo_drawn s L) (mo_T L / 2) q = some k := fun q k z z' => by
    unfold pl_f at z
    unfold pl_g at z'
    by_cases hq : q < mo_T L / 2
    · rw [if_pos hq] at z z'
      have key : ∀ j, j < mo_T L → mo_onLine (mo_drawn s L) j = some k → mo_rank s k = pl_line (mo_T L) j := fun j hj y => by
        by_cases hl : pl_line (mo_T L) j < L
        · obtain ⟨k', k1, k2, k3⟩ := (hon j hj).1 hl
          rw [y] at k1
          cases k1
          exact k3
        · rw [(hon j hj).2 hl] at y
          cases y
      have e1 := key (2 * q) (by omega) z
      have e2 := key (2 * q + 1) (by omega) z'
      have := pl_inj (mo_T L) (by omega) hT (2 * q) (by omega) (2 * q + 1) (by omega) (by omega)
      omega
    · rw [if_neg hq] at z
      cases z
  have F4 : ∀ q, q < mo_T L / 2 → ¬ (pl_f (mo_drawn s L) (mo_T L / 2) q = none ∧ pl_g (mo_drawn s L) (mo_T L / 2) q = none) := fun q hq z => by
    unfold pl_f pl_g at z
    rw [if_pos hq, if_pos hq] at z
    rcases pl_one L (by omega) h2 q hq with y | y
    · obtain ⟨k', k1, _⟩ := (hon (2 * q) (by omega)).1 y
      rw [k1] at z
      cases z.1
    · obtain ⟨k', k1, _⟩ := (hon (2 * q + 1) (by omega)).1 y
      rw [k1] at z
      cases z.2
  have hv : pi_V np (mo_T L) (mo_tbs (mo_drawn s L) (mo_T L)) := pi_table (u := xu_i (mo_drawn s L) 9 0 (nI (mo_drawn s L).2.1)) h wf hd hT n1 (n2.trans hnp.symm) (fun c i z1 z2 z3 => by rw [xq_i_i, if_neg (fun y => z3 y.1)]; exact pl_drawnI s c i z1 z2) (fun c i z => by rw [xq_r_i, pl_drawnR, if_neg (fun y => z y.1)]) (by rw [xq_i_i, if_neg (by omega)]; exact mo_drawn_8 s h2 h8) (by rw [xq_i_i, if_pos ⟨rfl, rfl⟩, n2]) N (by rw [nN, n2]) F1 F2 F3
  have e1 : (mo_tbs (mo_drawn s L) (mo_T L)).1 = s.1 := (mo_tbs_1 _ _).trans n1
  have N6 := N.2.2.2.2.2
  have e3 : (xu_i (mo_drawn s L) 9 0 (nI (mo_drawn s L).2.1)).2.1 = np := n2
  rw [e3] at N6
  obtain ⟨v1, v2, v3, _⟩ := pi_dwo (v := mo_tbs (mo_drawn s L) (mo_T L)) hv hT (fun q hq => by
    have := N6 q (by rw [nN, n2]; omega)
    exact ⟨this.2.2.1, this.2.2.2.2.2.2.2⟩) (fun q k z => by rw [e1]; exact (F1 q k z).2.1) F4 (mo_T L / 2) (Nat.le_refl _)
  have e : mo_draw s L = mo_dwo (mo_tbs (mo_drawn s L) (mo_T L)) np (mo_T L / 2) := by
    unfold mo_draw mo_addTB
    rw [n2]
  rw [e]
  exact ⟨v1, v2.trans e1, v3.trans (nN.trans (by rw [n2]))⟩
end PUF
