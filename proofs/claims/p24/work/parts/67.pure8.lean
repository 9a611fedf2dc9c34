/-! PURE: time passes -/
section PUA
variable {np T : Nat} {s s1 s' : xq_S}
theorem pi_wfU {kw : Nat} (wf : xq_wf s) (n1 : s'.1 = s.1) (n2 : s'.2.1 = s.2.1) (hr : ∀ c i, xq_r s' c i = xq_r s c i ∨ xq_r s' c i = none ∨ ((c = 1005 ∨ c = 1100 ∨ c = 1200) ∧ xq_r s' c i = some kw)) (hk : kw < s.1) (h5 : ∀ k, xq_i s' 905 k = xq_i s 905 k) : xq_wf s' := by
  obtain ⟨w1, w2, w3, w4, w5, w6, w7⟩ := wf
  refine ⟨fun k b q e => ?_, fun b k q e => ?_, fun b k q e => ?_, fun b k q e => ?_, fun j b e => ?_, fun j k e => ?_, fun k hk => by rw [h5]; exact w7 k (by omega)⟩
  · rcases hr 906 k with z | z | z
    · rw [z] at e; have := w1 k b (by omega) e; omega
    · rw [z] at e; cases e
    · omega
  · rcases hr 1005 b with z | z | z
    · rw [z] at e; have := w2 b k (by omega) e; omega
    · rw [z] at e; cases e
    · rw [z.2] at e; cases e; omega
  · rcases hr 1100 b with z | z | z
    · rw [z] at e; have := w3 b k (by omega) e; omega
    · rw [z] at e; cases e
    · rw [z.2] at e; cases e; omega
  · rcases hr 1200 b with z | z | z
    · rw [z] at e; have := w4 b k (by omega) e; omega
    · rw [z] at e; cases e
    · rw [z.2] at e; cases e; omega
  · rcases hr 300 j with z | z | z
    · rw [z] at e; have := w5 j b e; omega
    · rw [z] at e; cases e
    · omega
  · rcases hr 500 j with z | z | z
    · rw [z] at e; have := w6 j k e; omega
    · rw [z] at e; cases e
    · omega
/-- the seconds until it is over -/
def pi_u (P p q : Nat) (e : Bool) : Nat := if p ≤ P then q + (P - p) * 180 + (if e then 60 else 0) else q
theorem pi_untilI {b P p q : Nat} (hP : mo_periods s b = nI P) (hp : xq_i s 1007 b = nI p) (hq : xq_i s 1008 b = nI q) (h1 : P ≤ 3) (h2 : p ≤ P + 1) : mo_until s b = nI (pi_u P p q (decide (xq_i s 1101 b = xq_i s 1201 b))) ∧ (mo_extra s b = 0 ↔ p ≤ P) := by
  have hx : mo_extra s b = 0 ↔ p ≤ P := by
    unfold mo_extra
    rw [hP, hp]
    by_cases e : p ≤ P
    · rw [if_pos (nI_le e (by omega))]
      simp [e]
    · rw [if_neg (show ¬ nI p ≤ nI P from nI_ge (by omega) (by omega))]
      simp [e]
  refine ⟨?_, hx⟩
  unfold mo_until pi_u
  rw [hP, hp, hq]
  by_cases e : p ≤ P
  · have e3 : nI q + (nI P - nI p) * 180 = nI (q + (P - p) * 180) := by
      rw [pk_sub e, show (180 : Int32) = nI 180 from rfl, pk_mul, nI_add]
    rw [if_pos (hx.mpr e), if_pos e, e3]
    by_cases e2 : xq_i s 1101 b = xq_i s 1201 b
    · rw [if_pos e2, if_pos (decide_eq_true e2), show (60 : Int32) = nI 60 from rfl, nI_add]
    · rw [if_neg e2, if_neg (fun z => e2 (of_decide_eq_true z)), Nat.add_zero]
  · rw [if_neg (fun z => e (hx.mp z)), if_neg e]
theorem pi_goOn {b P : Nat} (hP3 : P ≤ 3) : ∀ (n : Nat) (u : xq_S) (X p q : Nat), mo_periods u b = nI P → xq_i u 1007 b = nI p → xq_i u 1008 b = nI q → 1 ≤ p → p ≤ P + 1 → P + 1 ≤ p + n → 1 ≤ q → q ≤ 180 → X ≤ 600 → X < pi_u P p q (decide (xq_i u 1101 b = xq_i u 1201 b)) →
    (∃ p' q', xq_i (mo_goOn n u b (nI X)) 1007 b = nI p' ∧ 1 ≤ p' ∧ p' ≤ P + 1 ∧ xq_i (mo_goOn n u b (nI X)) 1008 b = nI q' ∧ 1 ≤ q' ∧ q' ≤ 180) ∧ (mo_goOn n u b (nI X)).1 = u.1 ∧ (mo_goOn n u b (nI X)).2.1 = u.2.1 ∧ (∀ c i, ¬ ((c = 1007 ∨ c = 1008) ∧ i = b) → xq_i (mo_goOn n u b (nI X)) c i = xq_i u c i) ∧ (∀ c i, xq_r (mo_goOn n u b (nI X)) c i = xq_r u c i) := by
  have last : ∀ (u : xq_S) (X p q : Nat), xq_i u 1007 b = nI p → xq_i u 1008 b = nI q → 1 ≤ p → p ≤ P + 1 → q ≤ 180 → X < q → (∃ p' q', xq_i (xu_i u 1008 b (xq_i u 1008 b - nI X)) 1007 b = nI p' ∧ 1 ≤ p' ∧ p' ≤ P + 1 ∧ xq_i (xu_i u 1008 b (xq_i u 1008 b - nI X)) 1008 b = nI q' ∧ 1 ≤ q' ∧ q' ≤ 180) ∧ (xu_i u 1008 b (xq_i u 1008 b - nI X)).1 = u.1 ∧ (xu_i u 1008 b (xq_i u 1008 b - nI X)).2.1 = u.2.1 ∧ (∀ c i, ¬ ((c = 1007 ∨ c = 1008) ∧ i = b) → xq_i (xu_i u 1008 b (xq_i u 1008 b - nI X)) c i = xq_i u c i) ∧ (∀ c i, xq_r (xu_i u 1008 b (xq_i u 1008 b - nI X)) c i = xq_r u c i) := by
    intro u X p q hp hq h1 h2 h3 h4
    refine ⟨⟨p, q - X, ?_, h1, h2, ?_, by omega, by omega⟩, rfl, rfl, fun c i hc => ?_, fun c i => rfl⟩
    · rw [xq_i_i, if_neg (by omega)]; exact hp
    · rw [xq_i_i, if_pos ⟨rfl, rfl⟩, hq, pk_sub (by omega)]
    · rw [xq_i_i, if_neg (by omega)]
  intro n
  induction n with
  | zero =>
    intro u X p q hP hp hq h1 h2 h3 h4 h5 h6 h7
    unfold pi_u at h7
    rw [if_neg (by omega)] at h7
    exact last u X p q hp hq h1 h2 h5 h7
  | succ n ih =>
    intro u X p q hP hp hq h1 h2 h3 h4 h5 h6 h7
    by_cases e : X < q
    · have e1 : mo_goOn (n + 1) u b (nI X) = xu_i u 1008 b (xq_i u 1008 b - nI X) := by
        rw [mo_goOn, if_pos (by rw [hq]; exact nI_lt e (by omega))]
      rw [e1]
      exact last u X p q hp hq h1 h2 h5 e
    · have hpP : p ≤ P := by
        by_cases z : p ≤ P
        · exact z
        · unfold pi_u at h7
          rw [if_neg z] at h7
          omega
      have hx : mo_extra (xu_i u 1007 b (xq_i u 1007 b + 1)) b = 0 ↔ p + 1 ≤ P := by
        unfold mo_extra
        have e0 : mo_periods (xu_i u 1007 b (xq_i u 1007 b + 1)) b = nI P := by
          have : mo_periods (xu_i u 1007 b (xq_i u 1007 b + 1)) b = mo_periods u b := by
            unfold mo_periods
            have : xq_i (xu_i u 1007 b (xq_i u 1007 b + 1)) 1001 b = xq_i u 1001 b := by rw [xq_i_i, if_neg (by omega)]
            rw [this]
          rw [this, hP]
        have e7 : xq_i (xu_i u 1007 b (xq_i u 1007 b + 1)) 1007 b = nI (p + 1) := by rw [xq_i_i, if_pos ⟨rfl, rfl⟩, hp, nI_1]
        rw [e0, e7]
        by_cases z : p + 1 ≤ P
        · rw [if_pos (nI_le z (by omega))]
          simp [z]
        · rw [if_neg (show ¬ nI (p + 1) ≤ nI P from nI_ge (by omega) (by omega))]
          simp [z]
      have e1 : mo_goOn (n + 1) u b (nI X) = mo_goOn n (xu_i (xu_i u 1007 b (xq_i u 1007 b + 1)) 1008 b (if mo_extra (xu_i u 1007 b (xq_i u 1007 b + 1)) b = 0 then 180 else 60)) b (nI (X - q)) := by
        rw [mo_goOn, if_neg (by rw [hq]; exact nI_nlt (by omega) (by omega)), if_neg (by rw [hP, hp]; exact nI_nlt hpP (by omega))]
        simp only
        rw [hq, pk_sub (by omega)]
      rw [e1]
      obtain ⟨v1, v2, v3, v4, v5⟩ := ih (xu_i (xu_i u 1007 b (xq_i u 1007 b + 1)) 1008 b (if mo_extra (xu_i u 1007 b (xq_i u 1007 b + 1)) b = 0 then 180 else 60)) (X - q) (p + 1) (if p + 1 ≤ P then 180 else 60)
        (by
          have : mo_periods (xu_i (xu_i u 1007 b (xq_i u 1007 b + 1)) 1008 b (if mo_extra (xu_i u 1007 b (xq_i u 1007 b + 1)) b = 0 then 180 else 60)) b = mo_periods u b := by
            unfold mo_periods
            rfl
          rw [this, hP])
        (by rw [xq_i_i, if_neg (by omega), xq_i_i, if_pos ⟨rfl, rfl⟩, hp, nI_1])
        (by
          rw [xq_i_i, if_pos ⟨rfl, rfl⟩]
          by_cases z : p + 1 ≤ P
          · rw [if_pos (hx.mpr z), if_pos z]; rfl
          · rw [if_neg (fun y => z (hx.mp y)), if_neg z]; rfl)
        (by omega) (by omega) (by omega) (by split <;> omega) (by split <;> omega) (by omega)
        (by
          have e5 : decide (xq_i (xu_i (xu_i u 1007 b (xq_i u 1007 b + 1)) 1008 b (if mo_extra (xu_i u 1007 b (xq_i u 1007 b + 1)) b = 0 then 180 else 60)) 1101 b = xq_i (xu_i (xu_i u 1007 b (xq_i u 1007 b + 1)) 1008 b (if mo_extra (xu_i u 1007 b (xq_i u 1007 b + 1)) b = 0 then 180 else 60)) 1201 b) = decide (xq_i u 1101 b = xq_i u 1201 b) := rfl
          rw [e5]
          unfold pi_u at h7 ⊢
          rw [if_pos hpP] at h7
          by_cases z : p + 1 ≤ P
          · rw [if_pos z, if_pos z]
            have : P - p = P - (p + 1) + 1 := by omega
            rw [this, Nat.add_mul] at h7
            omega
          · rw [if_neg z, if_neg z]
            have : P - p = 0 := by omega
            rw [this] at h7
            split at h7 <;> omega)
      refine ⟨v1, v2, v3, fun c i hc => ?_, fun c i => v5 c i⟩
      rw [v4 c i hc, xq_i_i, if_neg (by omega), xq_i_i, if_neg (by omega)]
end PUA
