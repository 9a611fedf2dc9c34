/-! PURE: pass -/
section PUB
variable {np T : Nat} {s s1 s' : xq_S}
theorem pi_untilC {u : xq_S} {b : Nat} (h : ∀ c, c = 1001 ∨ c = 1007 ∨ c = 1008 ∨ c = 1101 ∨ c = 1201 → xq_i u c b = xq_i s c b) : mo_until u b = mo_until s b := by
  unfold mo_until mo_extra mo_periods
  rw [h 1001 (by simp), h 1007 (by simp), h 1008 (by simp), h 1101 (by simp), h 1201 (by simp)]
theorem pi_winC {u : xq_S} {b : Nat} (h : ∀ c, c = 1000 ∨ c = 1101 ∨ c = 1201 → xq_i u c b = xq_i s c b) (hr : ∀ c, c = 1100 ∨ c = 1200 → xq_r u c b = xq_r s c b) : mo_win u b = mo_win s b := by
  unfold mo_win mo_prioF
  rw [h 1000 (by simp), h 1101 (by simp), h 1201 (by simp), hr 1100 (by simp), hr 1200 (by simp)]
theorem pi_wf0 (wf : xq_wf s) (n1 : s'.1 = s.1) (n2 : s'.2.1 = s.2.1) (hr : ∀ c i, xq_r s' c i = xq_r s c i) (h5 : ∀ k, xq_i s' 905 k = xq_i s 905 k) : xq_wf s' := by
  by_cases e : 0 < s.1
  · exact pi_wfU (kw := 0) wf n1 n2 (fun c i => Or.inl (hr c i)) e h5
  · obtain ⟨w1, w2, w3, w4, w5, w6, w7⟩ := wf
    refine ⟨fun k b q e => ?_, fun b k q e => ?_, fun b k q e => ?_, fun b k q e => ?_, fun j b e => ?_, fun j k e => ?_, fun k hk => by rw [h5]; exact w7 k (by omega)⟩
    · omega
    · rw [hr] at e; have := w2 b k (by omega) e; omega
    · rw [hr] at e; have := w3 b k (by omega) e; omega
    · rw [hr] at e; have := w4 b k (by omega) e; omega
    · rw [hr] at e; have := w5 j b e; omega
    · rw [hr] at e; have := w6 j k e; omega
/-- what holds when n pistes are through -/
def pi_P (np T : Nat) (s : xq_S) (x : Int32) (n : Nat) (u : xq_S) (m : Nat) : Prop := pi_V np T u ∧ xq_wf u ∧ u.1 = s.1 ∧ u.2.1 = s.2.1 ∧ (∀ c i, c = 6 ∨ c = 7 ∨ c = 8 ∨ c = 900 ∨ c = 905 ∨ c = 1000 ∨ c = 1001 ∨ c = 1101 ∨ c = 1201 → xq_i u c i = xq_i s c i) ∧ (∀ j, n ≤ j → j < 3 → xq_r u 300 j = xq_r s 300 j ∧ ∀ b, xq_r s 300 j = some b → (∀ c, c = 1004 ∨ c = 1006 ∨ c = 1007 ∨ c = 1008 → xq_i u c b = xq_i s c b) ∧ ∀ c, c = 1100 ∨ c = 1200 → xq_r u c b = xq_r s c b) ∧ (∀ j b, j < n → j < 3 → xq_r s 300 j = some b → (mo_until s b ≤ x ∧ xq_r u 1005 b = mo_win s b ∧ 1 ≤ m) ∨ (¬ mo_until s b ≤ x ∧ xq_r u 1005 b = none)) ∧ m ≤ n
theorem pi_passes {X : Nat} (h : pi_V np T s) (wf : xq_wf s) (hX : X ≤ 600) : ∀ n, n ≤ 3 → pi_P np T s (nI X) n (mo_passes s (nI X) n).1 (mo_passes s (nI X) n).2
  | 0, _ => ⟨h, wf, rfl, rfl, fun _ _ _ => rfl, fun j _ _ => ⟨rfl, fun b _ => ⟨fun _ _ => rfl, fun _ _ => rfl⟩⟩, fun j b hj => by omega, Nat.le_refl _⟩
  | n + 1, hn => by
    obtain ⟨a1, a2, a3, a4, a5, a6, a7, a8⟩ := pi_passes h wf hX n (by omega)
    obtain ⟨b1, b2⟩ := a6 n (Nat.le_refl _) (by omega)
    -- different pistes, different bouts
    have two : ∀ j b b', j < 3 → ¬ j = n → xq_r s 300 j = some b → xq_r s 300 n = some b' → ¬ b = b' := fun j b b' hj hne e1 e2 e3 => by
      subst e3
      exact hne (pi_n3e hj (by omega) ((h.2.2.1.2.1 j b hj e1).symm.trans (h.2.2.1.2.1 n b (by omega) e2)))
    cases hp : xq_r s 300 n with
    | none =>
      have e : mo_passes s (nI X) (n + 1) = mo_passes s (nI X) n := by rw [mo_passes, b1, hp]
      rw [e]
      refine ⟨a1, a2, a3, a4, a5, fun j hj hj3 => a6 j (by omega) hj3, fun j b hj hj3 q => ?_, by omega⟩
      by_cases e2 : j = n
      · subst e2; rw [hp] at q; cases q
      · exact a7 j b (by omega) hj3 q
    | some b =>
      have e : mo_passes s (nI X) (n + 1) = (mo_overAfter (mo_passes s (nI X) n).1 b (nI X), (mo_passes s (nI X) n).2 + (if mo_until (mo_passes s (nI X) n).1 b ≤ nI X then 1 else 0)) := by rw [mo_passes, b1, hp]
      rw [e]
      obtain ⟨c1, c2⟩ := b2 b hp
      have hb : b < s.2.1 := wf.2.2.2.2.1 n b hp
      have hbu : b < (mo_passes s (nI X) n).1.2.1 := by omega
      have h1s : xq_i s 1004 b = 1 := pi_st h (show n < 3 by omega) hb (h.2.2.1.2.1 n b (by omega) hp)
      have h1 : xq_i (mo_passes s (nI X) n).1 1004 b = 1 := (c1 1004 (by simp)).trans h1s
      have eu : mo_until (mo_passes s (nI X) n).1 b = mo_until s b := pi_untilC (fun c hc => by
        rcases hc with rfl | rfl | rfl | rfl | rfl
        · exact a5 1001 b (by simp)
        · exact c1 1007 (by simp)
        · exact c1 1008 (by simp)
        · exact a5 1101 b (by simp)
        · exact a5 1201 b (by simp))
      have ew : mo_win (mo_passes s (nI X) n).1 b = mo_win s b := pi_winC (fun c hc => by
        rcases hc with rfl | rfl | rfl
        · exact a5 1000 b (by simp)
        · exact a5 1101 b (by simp)
        · exact a5 1201 b (by simp)) c2
      obtain ⟨hw0, _, ⟨p, q, p1, p2, p3, p4, p5, p6⟩, l, r, hl, hr, _, _⟩ := pi_lv a1 hbu h1
      obtain ⟨x, y, s1, s2, s3, s4, s5⟩ := (a1.2.1 b hbu).1
      have hln := a2.2.2.1 b l hbu hl
      have hrn := a2.2.2.2.1 b r hbu hr
      by_cases ht : mo_until s b ≤ nI X
      · -- it is over
        obtain ⟨kw, w1, w2⟩ := pi_win hl hr
        have hkn : kw < (mo_passes s (nI X) n).1.1 := by rcases pi_hasL hl hr w2 with rfl | rfl <;> assumption
        have e2 : mo_overAfter (mo_passes s (nI X) n).1 b (nI X) = mo_finish (mo_passes s (nI X) n).1 b (some kw) (xq_i (mo_passes s (nI X) n).1 7 0 + mo_until (mo_passes s (nI X) n).1 b) := by
          unfold mo_overAfter
          rw [if_pos (by rw [eu]; exact ht), w1]
        rw [e2]
        obtain ⟨v1, v2, v3, v4, v5, v6, v7, v8, v9, v10, v11, v12⟩ := pi_finish (s1 := (mo_passes s (nI X) n).1) (t := xq_i (mo_passes s (nI X) n).1 7 0 + mo_until (mo_passes s (nI X) n).1 b) a1 a2 hbu h1 w2 rfl rfl (fun _ _ _ _ _ _ => rfl) (fun _ _ => rfl) ⟨x, y, s1, s2, s3, s4⟩ (fun k hk => Or.inl hk)
        refine ⟨v1, pi_wfU a2 v2 v3 v12 hkn (fun k => v6 905 k (by simp)), v2.trans a3, v3.trans a4, fun c i hc => (v6 c i (by omega)).trans (a5 c i hc), fun j hj hj3 => ?_, fun j b' hj hj3 q => ?_, ?_⟩
        · obtain ⟨d1, d2⟩ := a6 j (by omega) hj3
          refine ⟨?_, fun b' hb' => ?_⟩
          · cases hq : xq_r s 300 j with
            | none => exact v10 j (d1.trans hq)
            | some b' => exact v9 j b' (d1.trans hq) (two j b' b hj3 (by omega) hq hp)
          · obtain ⟨f1, f2⟩ := d2 b' hb'
            have hne := two j b' b hj3 (by omega) hb' hp
            refine ⟨fun c hc => (v7 c b' hne (by omega)).trans (f1 c hc), fun c hc => (v11 c b' ?_ hc ?_).trans (f2 c hc)⟩
            · have := wf.2.2.2.2.1 j b' hb'; omega
            · exact (f1 1004 (by simp)).trans (pi_st h hj3 (wf.2.2.2.2.1 j b' hb') (h.2.2.1.2.1 j b' hj3 hb'))
        · have em : 1 ≤ (mo_passes s (nI X) n).2 + (if mo_until (mo_passes s (nI X) n).1 b ≤ nI X then 1 else 0) := by rw [if_pos (by rw [eu]; exact ht)]; omega
          by_cases e3 : j = n
          · subst e3
            rw [hp] at q
            cases q
            exact Or.inl ⟨ht, by rw [v5, ← ew, w1], em⟩
          · have hne := two j b' b hj3 e3 q hp
            rw [v8 b' hne]
            rcases a7 j b' (by omega) hj3 q with z | z
            · exact Or.inl ⟨z.1, z.2.1, em⟩
            · exact Or.inr z
        · show (mo_passes s (nI X) n).2 + (if mo_until (mo_passes s (nI X) n).1 b ≤ nI X then 1 else 0) ≤ n + 1
          split <;> omega
      · -- it goes on
        have e2 : mo_overAfter (mo_passes s (nI X) n).1 b (nI X) = mo_goOn 3 (mo_passes s (nI X) n).1 b (nI X) := by
          unfold mo_overAfter
          rw [if_neg (by rw [eu]; exact ht)]
        rw [e2]
        have hP := pi_perI a1.1 hbu
        have hP3 := pi_per_le np b
        obtain ⟨u1, u2⟩ := pi_untilI hP p1 p4 hP3.2 p3
        have hlt : X < pi_u (pi_per np b) p q (decide (xq_i (mo_passes s (nI X) n).1 1101 b = xq_i (mo_passes s (nI X) n).1 1201 b)) := by
          rw [← eu, u1] at ht
          have : pi_u (pi_per np b) p q (decide (xq_i (mo_passes s (nI X) n).1 1101 b = xq_i (mo_passes s (nI X) n).1 1201 b)) ≤ 1000 := by
            unfold pi_u
            have : (pi_per np b - p) * 180 ≤ 3 * 180 := Nat.mul_le_mul_right 180 (by omega)
            split
            · split <;> omega
            · omega
          rw [nI_leI (by omega) (by omega)] at ht
          omega
        obtain ⟨v1, v2, v3, v4, v5⟩ := pi_goOn hP3.2 3 (mo_passes s (nI X) n).1 X p q hP p1 p4 p2 p3 (by omega) p5 p6 hX hlt
        have n5 : ∀ k, xq_i (mo_goOn 3 (mo_passes s (nI X) n).1 b (nI X)) 905 k = xq_i (mo_passes s (nI X) n).1 905 k := fun k => v4 905 k (by omega)
        refine ⟨pi_soft (b := b) a1 (fun _ => h1) v2 v3 (fun c i hc => v4 c i (by omega)) (fun c i hne _ => v4 c i (fun z => hne z.2)) (fun c i _ => v5 c i) (fun _ => ?_) (fun _ => v1), pi_wf0 a2 v2 v3 v5 n5, v2.trans a3, v3.trans a4, fun c i hc => (v4 c i (by omega)).trans (a5 c i hc), fun j hj hj3 => ?_, fun j b' hj hj3 q => ?_, ?_⟩
        · refine ⟨x, y, (v4 1101 b (by omega)).trans s1, (v4 1201 b (by omega)).trans s2, s3, s4, fun z => s5 ?_⟩
          rw [v4 1004 b (by omega)] at z
          exact z
        · obtain ⟨d1, d2⟩ := a6 j (by omega) hj3
          refine ⟨(v5 300 j).trans d1, fun b' hb' => ?_⟩
          obtain ⟨f1, f2⟩ := d2 b' hb'
          have hne := two j b' b hj3 (by omega) hb' hp
          exact ⟨fun c hc => (v4 c b' (fun z => hne z.2)).trans (f1 c hc), fun c hc => (v5 c b').trans (f2 c hc)⟩
        · rw [v5]
          by_cases e3 : j = n
          · subst e3
            rw [hp] at q
            cases q
            exact Or.inr ⟨ht, hw0⟩
          · rcases a7 j b' (by omega) hj3 q with z | z
            · exact Or.inl ⟨z.1, z.2.1, by show 1 ≤ _ + _; omega⟩
            · exact Or.inr z
        · show (mo_passes s (nI X) n).2 + (if mo_until (mo_passes s (nI X) n).1 b ≤ nI X then 1 else 0) ≤ n + 1
          split <;> omega
theorem pi_pass {X : Nat} (h : pi_V np T s) (wf : xq_wf s) (hX : X ≤ 600) : pi_V np T (mo_pass s (nI X)) ∧ (mo_pass s (nI X)).1 = s.1 ∧ (mo_pass s (nI X)).2.1 = s.2.1 ∧ xq_i (mo_pass s (nI X)) 7 0 = xq_i s 7 0 + nI X ∧ (∀ k, xq_i (mo_pass s (nI X)) 900 k = xq_i s 900 k) ∧ (∀ j b, j < 3 → xq_r s 300 j = some b → (mo_until s b ≤ nI X ∧ xq_r (mo_pass s (nI X)) 1005 b = mo_win s b ∧ 1 ≤ (mo_passes s (nI X) 3).2) ∨ (¬ mo_until s b ≤ nI X ∧ xq_r (mo_pass s (nI X)) 1005 b = none)) ∧ (∀ i, i < 3 → ∀ b, xq_r (mo_passes s (nI X) i).1 300 i = some b → ∃ p, 1 ≤ p ∧ p ≤ 90 ∧ xq_i (mo_passes s (nI X) i).1 1007 b = nI p) ∧ (mo_passes s (nI X) 3).2 ≤ 3 := by
  obtain ⟨a1, a2, a3, a4, a5, a6, a7, a8⟩ := pi_passes h wf hX 3 (Nat.le_refl _)
  refine ⟨pi_free (s := (mo_passes s (nI X) 3).1) a1 rfl rfl (fun c i hc => ?_) (fun _ _ _ => rfl), a3, a4, ?_, fun k => ?_, fun j b hj q => a7 j b hj hj q, fun i hi b q => ?_, a8⟩
  · unfold mo_pass
    rw [xq_i_i, if_neg (by omega)]
  · unfold mo_pass
    rw [xq_i_i, if_pos ⟨rfl, rfl⟩, a5 7 0 (by simp)]
  · unfold mo_pass
    rw [xq_i_i, if_neg (by omega), a5 900 k (by simp)]
  · obtain ⟨a1, a2, a3, a4, a5, a6, a7, a8⟩ := pi_passes h wf hX i (by omega)
    have hb := a2.2.2.2.2.1 i b q
    obtain ⟨_, _, ⟨p, q, p1, p2, p3, p4, p5, p6⟩, _⟩ := pi_lv a1 hb (pi_st a1 hi hb (a1.2.2.1.2.1 i b hi q))
    have := pi_per_le np b
    exact ⟨p, p2, by omega, p1⟩
end PUB
