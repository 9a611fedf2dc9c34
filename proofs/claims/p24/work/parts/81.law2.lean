/-! PURE: what the law asks of a state -/
section PL1
variable {np T : Nat} {s : xq_S}
def pf_live (s : xq_S) (b j : Nat) : Int32 := match xq_r s 906 j with
  | some c => if c < b then 1 else 0
  | none => 0
theorem pf_0 (j : Nat) : pf_live s 0 j = 0 := by
  unfold pf_live
  split
  · rw [if_neg (by omega)]
  · rfl
theorem pf_skip {b j : Nat} (h : pi_V np T s) (h1 : ¬ xq_i s 1004 b = 1) (hj : j < s.1) : pf_live s (b + 1) j = pf_live s b j := by
  unfold pf_live
  cases e : xq_r s 906 j with
  | none => rfl
  | some c =>
    have hc : ¬ c = b := fun z => by
      subst z
      exact h1 (h.2.2.1.1 j c hj e).1
    show (if c < b + 1 then (1 : Int32) else 0) = if c < b then 1 else 0
    by_cases z : c < b
    · rw [if_pos z, if_pos (by omega)]
    · rw [if_neg z, if_neg (by omega)]
theorem pf_hit {b l r : Nat} (h : pi_V np T s) (hl : xq_r s 1100 b = some l) (hr : xq_r s 1200 b = some r) (h6 : xq_r s 906 l = some b) (h7 : xq_r s 906 r = some b) : pf_live s b l = 0 ∧ pf_live s b r = 0 ∧ ∀ j, j < s.1 → pf_live s (b + 1) j = if j = l ∨ j = r then 1 else pf_live s b j := by
  have e0 : ∀ k, xq_r s 906 k = some b → pf_live s b k = 0 := fun k e => by
    unfold pf_live
    rw [e]
    show (if b < b then (1 : Int32) else 0) = 0
    rw [if_neg (by omega)]
  refine ⟨e0 l h6, e0 r h7, fun j hj => ?_⟩
  by_cases z : j = l ∨ j = r
  · rw [if_pos z]
    have e : xq_r s 906 j = some b := by rcases z with rfl | rfl <;> assumption
    unfold pf_live
    rw [e]
    show (if b < b + 1 then (1 : Int32) else 0) = 1
    rw [if_pos (by omega)]
  · rw [if_neg z]
    unfold pf_live
    cases e : xq_r s 906 j with
    | none => rfl
    | some c =>
      have hc : ¬ c = b := fun y => by
        subst y
        exact z (pi_hasL hl hr (h.2.2.1.1 j c hj e).2)
      show (if c < b + 1 then (1 : Int32) else 0) = if c < b then 1 else 0
      by_cases y : c < b
      · rw [if_pos y, if_pos (by omega)]
      · rw [if_neg y, if_neg (by omega)]
theorem pf_end (wf : xq_wf s) {j : Nat} (hj : j < s.1) : (xq_r s 906 j = none ∧ pf_live s s.2.1 j = 0) ∨ ∃ c, c < s.2.1 ∧ xq_r s 906 j = some c ∧ pf_live s s.2.1 j = 1 := by
  unfold pf_live
  cases e : xq_r s 906 j with
  | none => exact Or.inl ⟨rfl, rfl⟩
  | some c =>
    have hc := wf.1 j c hj e
    exact Or.inr ⟨c, hc, rfl, if_pos hc⟩
theorem pf_num {k : Nat} (h : pi_V np T s) (hk : k < s.1) : mo_num s (some k) = nI k := h.1.2.2.2.2.2.2.2.1 k hk
theorem pf_mx {x y g : Nat} (hx : x ≤ g) (hy : y ≤ g) (hg : g ≤ 15) : ¬ nI g < (if nI x < nI y then nI y else nI x) := by
  split
  · exact nI_nlt hy (by omega)
  · exact nI_nlt hx (by omega)
theorem pf_pos {k : Nat} (h : k < 1000) : ¬ nI k < 0 := nI_pos (by omega)
/-- a round of the table -/
theorem pf_round {a lf k : Nat} (h : pi_V np T s) (ha : a + 2 * lf = T) (he : a % 2 = 0) (h2 : a / 2 + lf = T / 2) (hl : 2 ≤ lf) (hk : k < lf) : np + a + lf + k / 2 < s.2.1 ∧ np + a + k < s.2.1 ∧ mo_ofBout s (np + a + lf + k / 2) (1 + k % 2) = mo_ofBout s (np + a + k) 5 := by
  have hn := h.1.2.2.1
  have g := h.2.2.2.2.1 (a + k) (by omega)
  rw [show np + T / 2 + (a + k) / 2 = np + a + lf + k / 2 by omega, show np + (a + k) = np + a + k by omega, show (a + k) % 2 = k % 2 by omega] at g
  refine ⟨by omega, by omega, ?_⟩
  by_cases e : k % 2 = 0
  · rw [if_pos e] at g
    rw [e]
    exact congrArg (mo_num s) g
  · rw [if_neg e] at g
    rw [show k % 2 = 1 by omega]
    exact congrArg (mo_num s) g
theorem pf_sum4 (p q r t : Nat → Bool) : ∀ n, (∀ i, i < n → (p i = true ∧ q i = false ∧ r i = false ∧ t i = false) ∨ (p i = false ∧ q i = true ∧ r i = false ∧ t i = false) ∨ (p i = false ∧ q i = false ∧ r i = true ∧ t i = false) ∨ (p i = false ∧ q i = false ∧ r i = false ∧ t i = true)) → xq_ct p n + xq_ct q n + xq_ct r n + xq_ct t n = n
  | 0, _ => rfl
  | n + 1, h => by
    have ih := pf_sum4 p q r t n (fun i hi => h i (by omega))
    rw [xq_ct, xq_ct, xq_ct, xq_ct]
    rcases h n (by omega) with ⟨a, b, c, d⟩ | ⟨a, b, c, d⟩ | ⟨a, b, c, d⟩ | ⟨a, b, c, d⟩ <;> rw [a, b, c, d] <;> simp <;> omega
theorem pf_sum (h : pi_V np T s) : nI (mo_bin s 0) + nI (mo_bin s 1) + nI (mo_bin s 2) + nI (mo_bin s 3) = nI s.2.1 := by
  rw [nI_add, nI_add, nI_add]
  refine congrArg nI (pf_sum4 _ _ _ _ s.2.1 (fun b hb => ?_))
  rcases (h.2.1 b hb).2.1 with q | q | q | q <;> rw [q.1] <;> decide
/-- the order and the places -/
theorem pf_ord (h : pi_V np T s) (wf : xq_wf s) : (∀ a, a < s.1 → mo_rank s a < s.1) ∧ (∀ a, a < s.1 → mo_plc s a < s.1) ∧ (∀ a b, a < s.1 → b < s.1 → mo_rank s a = mo_rank s b → a = b) ∧ (∀ a b, a < s.1 → b < s.1 → mo_plc s a = mo_plc s b → a = b) ∧ (∀ a b, a < s.1 → b < s.1 → xq_i s 905 a = 0 → ¬ xq_i s 905 b = 0 → mo_rank s a < mo_rank s b ∧ mo_plc s a < mo_plc s b) ∧ ∀ k, k < s.1 → ¬ xq_i s 908 k < xq_i s 909 k := by
  have ok := pi_ok h wf
  obtain ⟨r1, r2, r3⟩ := pu_ranks ok
  obtain ⟨p1, p2, p3⟩ := pu_plcs ok
  refine ⟨r1, p1, r3, p3, fun a b ha hb h0 h1 => ?_, fun k hk => ?_⟩
  · have hb1 : xq_i s 905 b = 1 := (wf.2.2.2.2.2.2 b hb).resolve_left h1
    exact ⟨r2 a b ha hb (Or.inl (pu_oL h0 hb1)), p2 a b ha hb (Or.inl (pu_oL h0 hb1))⟩
  · obtain ⟨f1, f2, f3, f4⟩ := ok.2.2.2 k hk
    rw [f1, f2]
    exact nI_nlt f3 (by omega)
theorem pf_done {n : Nat} {f : Nat → Nat} (hn : n < 9) (h1 : ∀ i, i < n → f i < n) (h2 : ∀ i j, i < n → j < n → f i = f j → i = j) : nI (pu_or f n) = ((1 : Int32) <<< (nI n &&& 31)) - 1 := by
  rw [pu_allI n hn, pu_or_all h1 h2]
theorem pf_or {n k : Nat} {f : Nat → Nat} (hn : n < 9) (h1 : ∀ i, i < n → f i < n) (hk : k < n) : nI (pu_or f k) ||| ((1 : Int32) <<< (nI (f k) &&& 31)) = nI (pu_or f (k + 1)) := by
  have h3 := pu_or_lt h1 k (by omega)
  have h4 : 2 ^ n ≤ 2 ^ 8 := Nat.pow_le_pow_right (by decide) (by omega)
  rw [pu_orI _ (by omega) _ (by have := h1 k hk; omega)]
  rfl
end PL1
