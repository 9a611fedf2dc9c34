/-! THE LISTS GROW, as the picture sees it -/
section XCB
variable {Y : xw_Y} {ad : Nat → Nat → Nat} {s : xq_S} {w : xw_W} {post : Option Value → xw_W → Prop}
/-- a picture's cell doesn't feel a change of places elsewhere -/
theorem xq_en_ad {ad' : Nat → Nat → Nat} {t i : Nat} (hwf : xq_wf s) (hv : xq_vl ad s t i) (h6 : t = 0 → ∀ u, 1 ≤ u → u ≤ 6 → ad' u 0 = ad u 0) (h7 : t = 1 → ad' 7 0 = ad 7 0) (h8 : t = 2 → ad' 8 0 = ad 8 0) (h13 : t = 7 → ad' 13 0 = ad 13 0) (h14 : t = 8 → ad' 14 0 = ad 14 0) (h9 : ∀ k, k < s.1 → ad' 9 k = ad 9 k) (h10 : ∀ b, b < s.2.1 → ad' 10 b = ad 10 b) (h11 : t = 10 → ad' 11 i = ad 11 i ∧ ad' 12 i = ad 12 i) : xq_en Y ad' s t i = xq_en Y ad s t i := by
  have m9 : ∀ o : Option Nat, (∀ k, o = some k → k < s.1) → o.map (ad' 9) = o.map (ad 9) := by
    intro o ho
    cases o with
    | none => rfl
    | some k => exact congrArg some (h9 k (ho k rfl))
  have m10 : ∀ o : Option Nat, (∀ k, o = some k → k < s.2.1) → o.map (ad' 10) = o.map (ad 10) := by
    intro o ho
    cases o with
    | none => rfl
    | some k => exact congrArg some (h10 k (ho k rfl))
  obtain ⟨w1, w2, w3, w4, w5, w6, w7⟩ := hwf
  have hle := xq_vl_le hv
  rcases (show t = 0 ∨ t = 1 ∨ t = 2 ∨ t = 3 ∨ t = 4 ∨ t = 5 ∨ t = 6 ∨ t = 7 ∨ t = 8 ∨ t = 9 ∨ t = 10 ∨ t = 11 ∨ t = 12 by omega) with rfl | rfl | rfl | rfl | rfl | rfl | rfl | rfl | rfl | rfl | rfl | rfl | rfl
  · simp only [xq_en, h6 rfl 1 (by decide) (by decide), h6 rfl 2 (by decide) (by decide), h6 rfl 3 (by decide) (by decide), h6 rfl 4 (by decide) (by decide), h6 rfl 5 (by decide) (by decide), h6 rfl 6 (by decide) (by decide)]
  · simp only [xq_en, h7 rfl]
  · simp only [xq_en, h8 rfl]
  · simp only [xq_en]
    rw [show (fun j => (xq_r s 300 j).map (ad' 10)) = (fun j => (xq_r s 300 j).map (ad 10)) from funext (fun j => m10 _ (fun b hb => w5 j b hb))]
  · rfl
  · simp only [xq_en]
    rw [show (fun j => (xq_r s 500 j).map (ad' 9)) = (fun j => (xq_r s 500 j).map (ad 9)) from funext (fun j => m9 _ (fun k hk => w6 j k hk))]
  · rfl
  · simp only [xq_en, h13 rfl]
    rw [show (fun j => if j < s.1 then some (ad' 9 j) else none) = (fun j => if j < s.1 then some (ad 9 j) else none) from funext (fun j => by
      split
      · next c => rw [h9 j c]
      · rfl)]
  · simp only [xq_en, h14 rfl]
    rw [show (fun j => if j < s.2.1 then some (ad' 10 j) else none) = (fun j => if j < s.2.1 then some (ad 10 j) else none) from funext (fun j => by
      split
      · next c => rw [h10 j c]
      · rfl)]
  · have hi : i < s.1 := by unfold xq_vl at hv; omega
    simp only [xq_en, m10 _ (fun b hb => w1 i b hi hb)]
  · have hi : i < s.2.1 := by unfold xq_vl at hv; omega
    simp only [xq_en, m9 _ (fun k hk => w2 i k hi hk), (h11 rfl).1, (h11 rfl).2]
  · have hi : i < s.2.1 := by unfold xq_vl at hv; omega
    simp only [xq_en, m9 _ (fun k hk => w3 i k hi hk)]
  · have hi : i < s.2.1 := by unfold xq_vl at hv; omega
    simp only [xq_en, m9 _ (fun k hk => w4 i k hi hk)]
def mo_addF (s : xq_S) : xq_S := (s.1 + 1, (xu_i s 100 0 (xq_i s 100 0 + 1)).2)
def mo_addB (s : xq_S) : xq_S := (s.1, s.2.1 + 1, (xu_i s 200 0 (xq_i s 200 0 + 1)).2.2)


/-- where the cells lie behind an add: row e, c places, the new cells nw -/
def xa_F (ad : Nat → Nat → Nat) (s : xq_S) (e c : Nat) (nw : Nat → Nat) : Nat → Nat → Nat := fun t i => if t = 7 then e else if t = 13 then c else if (t = 9) ∧ i = s.1 then nw t else ad t i
theorem xa_F_7 (e c : Nat) (nw : Nat → Nat) (i : Nat) : xa_F ad s e c nw 7 i = e := if_pos rfl
theorem xa_F_13 (e c : Nat) (nw : Nat → Nat) (i : Nat) : xa_F ad s e c nw 13 i = c := rfl
theorem xa_F_n (e c : Nat) (nw : Nat → Nat) {t : Nat} (h : t = 9) : xa_F ad s e c nw t s.1 = nw t := by
  unfold xa_F
  rw [if_neg (by omega), if_neg (by omega), if_pos ⟨h, rfl⟩]
theorem xa_F_o (e c : Nat) (nw : Nat → Nat) {t i : Nat} (h1 : ¬ t = 7) (h2 : ¬ t = 13) (h3 : ¬ ((t = 9) ∧ i = s.1)) : xa_F ad s e c nw t i = ad t i := by
  unfold xa_F
  rw [if_neg h1, if_neg h2, if_neg h3]
theorem sl_picF {w1 : xw_W} {e c : Nat} {nw : Nat → Nat} (hR : xq_rp Y ad s w)
    (hnw : ∀ t, (t = 9) → nw t ∈ w.1 ∧ (∀ t' i', xq_vl ad s t' i' → ¬ ad t' i' = nw t) ∧ w.2 (nw t) = xq_en Y (xa_F ad s e c nw) s t s.1)
    (hinj : ∀ t t', (t = 9) → (t' = 9) → nw t = nw t' → t = t') (h6 : xq_r s 906 s.1 = none) (h5 : xq_i s 905 s.1 = 0 ∨ xq_i s 905 s.1 = 1)
    (he : e ∈ w1.1) (hef : (e = ad 7 0 ∧ 0 < ad 13 0) ∨ ¬ e ∈ w.1) (hw1 : ∀ y ∈ w.1, y ∈ w1.1 ∧ w1.2 y = w.2 y) (hc : s.1 + 1 ≤ c) (hc2 : c ≤ 200) (hc3 : 10 ≤ c) :
    xq_rp Y (xa_F ad s e c nw) (mo_addF s) (w1.1, va_up (va_up w1.2 e (.inl (Y.2.2.1, c, xq_rs (va_up (fun j => if j < s.1 then some (ad 9 j) else none) s.1 (some (nw 9)))))) (ad 1 0) (.inr (0, [.int (xq_i s 100 0 + 1), .ref e, .int (nI (s.1 + 1))]))) := by
  obtain ⟨g1, g2, g3, g4⟩ := hR
  have hvl : ∀ t i, xq_vl (xa_F ad s e c nw) (mo_addF s) t i → (t = 7 ∧ i = 0) ∨ ((t = 9) ∧ i = s.1) ∨ (xq_vl ad s t i ∧ ¬ t = 7 ∧ ¬ t = 13 ∧ ¬ ((t = 9) ∧ i = s.1)) := by
    intro t i h
    have e13 : xa_F ad s e c nw 14 0 = ad 14 0 := xa_F_o e c nw (by omega) (by omega) (by omega)
    have e14 : xa_F ad s e c nw 13 0 = c := rfl
    unfold xq_vl at h ⊢
    unfold mo_addF at h
    simp only [e13, e14] at h
    try simp only [xu_i_2] at h
    omega
  have hae : ¬ ad 1 0 = e := by
    intro z
    rcases hef with ⟨q, q2⟩ | q
    · have hv7 : xq_vl ad s 7 0 := by unfold xq_vl; omega
      exact absurd (g2 1 0 7 0 (xq_v0 (by decide)) hv7 (z.trans q)).1 (by decide)
    · exact q (by rw [← z]; exact (g1 1 0 (xq_v0 (by decide))).1)
  have hoe : ∀ t i, xq_vl ad s t i → ¬ t = 7 → ¬ ad t i = e := by
    intro t i hv ht z
    rcases hef with ⟨q, q2⟩ | q
    · have hv7 : xq_vl ad s 7 0 := by unfold xq_vl; omega
      exact ht (g2 t i 7 0 hv hv7 (z.trans q)).1
    · exact q (by rw [← z]; exact (g1 t i hv).1)
  have hne : ∀ t, (t = 9) → ¬ nw t = e := by
    intro t ht z
    rcases hef with ⟨q, q2⟩ | q
    · have hv7 : xq_vl ad s 7 0 := by unfold xq_vl; omega
      exact (hnw t ht).2.1 7 0 hv7 (q.symm.trans z.symm)
    · exact q (by rw [← z]; exact (hnw t ht).1)
  have hna : ∀ t, (t = 9) → ¬ nw t = ad 1 0 := fun t ht z => (hnw t ht).2.1 1 0 (xq_v0 (by decide)) z.symm
  have hen : ∀ t i, xq_vl ad s t i → ¬ t = 1 → ¬ t = 7 → xq_en Y (xa_F ad s e c nw) (mo_addF s) t i = xq_en Y ad s t i := by
    intro t i hv h1 h2
    have e0 : xq_en Y (xa_F ad s e c nw) (mo_addF s) t i = xq_en Y (xa_F ad s e c nw) s t i := by
      have e1 : xq_en Y (xa_F ad s e c nw) (mo_addF s) t i = xq_en Y (xa_F ad s e c nw) (xu_i s 100 0 (xq_i s 100 0 + 1)) t i := by
        have hle := xq_vl_le hv
        rcases (show t = 0 ∨ t = 1 ∨ t = 2 ∨ t = 3 ∨ t = 4 ∨ t = 5 ∨ t = 6 ∨ t = 7 ∨ t = 8 ∨ t = 9 ∨ t = 10 ∨ t = 11 ∨ t = 12 by omega) with rfl | rfl | rfl | rfl | rfl | rfl | rfl | rfl | rfl | rfl | rfl | rfl | rfl <;> first | rfl | exact absurd rfl h1 | exact absurd rfl h2
      rw [e1]
      exact xq_en_i (xq_vl_le hv).1 (Or.inl (fun z => h1 z.symm))
    rw [e0]
    have hle := xq_vl_le hv
    refine xq_en_ad g3 hv ?_ ?_ ?_ ?_ ?_ ?_ ?_ ?_
    · intro _ u q1 q2
      exact xa_F_o e c nw (by omega) (by omega) (by omega)
    · intro q
      exact xa_F_o e c nw (by omega) (by omega) (by omega)
    · intro q
      exact xa_F_o e c nw (by omega) (by omega) (by omega)
    · intro q
      exact xa_F_o e c nw (by omega) (by omega) (by omega)
    · intro q
      exact xa_F_o e c nw (by omega) (by omega) (by omega)
    · intro k hk
      exact xa_F_o e c nw (by omega) (by omega) (by omega)
    · intro b hb
      exact xa_F_o e c nw (by omega) (by omega) (by omega)
    · intro q
      have hi : i < s.2.1 := by unfold xq_vl at hv; omega
      exact ⟨xa_F_o e c nw (by omega) (by omega) (by omega), xa_F_o e c nw (by omega) (by omega) (by omega)⟩
  refine ⟨?_, ?_, ?_, ?_⟩
  · intro t i hv
    rcases hvl t i hv with ⟨rfl, rfl⟩ | ⟨ht, rfl⟩ | ⟨hv0, h7, h13, hnn⟩
    · rw [xa_F_7]
      refine ⟨he, ?_⟩
      show va_up (va_up w1.2 e _) (ad 1 0) _ e = _
      rw [va_up_ne _ _ (fun z => hae z.symm), va_up_self]
      show _ = (Sum.inl (Y.2.2.1, xa_F ad s e c nw 13 0, xq_rs _) : va_E)
      rw [xa_F_13]
      refine congrArg Sum.inl (congrArg (Prod.mk _) (congrArg (Prod.mk _) (congrArg xq_rs ?_)))
      funext j
      show va_up _ _ _ j = if j < s.1 + 1 then some (xa_F ad s e c nw 9 j) else none
      by_cases hj : j = s.1
      · subst hj
        rw [if_pos (by omega), xa_F_n e c nw (by omega), va_up_self]
      · rw [va_up_ne _ _ hj, xa_F_o e c nw (by omega) (by omega) (by omega)]
        by_cases hj2 : j < s.1
        · rw [if_pos hj2, if_pos (by omega)]
        · rw [if_neg hj2, if_neg (by omega)]
    · rw [xa_F_n e c nw ht]
      obtain ⟨a1, a2, a3⟩ := hnw t ht
      refine ⟨(hw1 _ a1).1, ?_⟩
      show va_up (va_up w1.2 e _) (ad 1 0) _ (nw t) = _
      rw [va_up_ne _ _ (hna t ht), va_up_ne _ _ (hne t ht), (hw1 _ a1).2, a3]
      have : t = 9 := ht
      subst this
      have e1 : xq_en Y (xa_F ad s e c nw) (mo_addF s) 9 s.1 = xq_en Y (xa_F ad s e c nw) (xu_i s 100 0 (xq_i s 100 0 + 1)) 9 s.1 := rfl
      rw [e1, xq_en_i (by decide) (Or.inl (by decide))]
    · rw [xa_F_o e c nw h7 h13 hnn]
      have hg := g1 t i hv0
      refine ⟨(hw1 _ hg.1).1, ?_⟩
      show va_up (va_up w1.2 e _) (ad 1 0) _ (ad t i) = _
      by_cases ht1 : t = 1
      · subst ht1
        have : i = 0 := (xq_vl_le hv0).2 (by decide)
        subst this
        rw [va_up_self]
        show _ = (Sum.inr (0, [.int (xq_i (mo_addF s) 100 0), .ref (xa_F ad s e c nw 7 0), .int (nI (s.1 + 1))]) : va_E)
        rw [xa_F_7]
        rfl
      · rw [va_up_ne _ _ (fun z => ht1 (g2 t i 1 0 hv0 (xq_v0 (by decide)) z).1), va_up_ne _ _ (hoe t i hv0 h7), (hw1 _ hg.1).2, hg.2, hen t i hv0 ht1 h7]
  · intro t i t' i' hv hv' ee
    rcases hvl t i hv with ⟨rfl, rfl⟩ | ⟨ht, rfl⟩ | ⟨hv0, h7, h13, hnn⟩
    · rcases hvl t' i' hv' with ⟨rfl, rfl⟩ | ⟨ht', rfl⟩ | ⟨hv0', h7', h13', hnn'⟩
      · exact ⟨rfl, rfl⟩
      · rw [xa_F_7, xa_F_n e c nw ht'] at ee
        exact absurd ee.symm (hne t' ht')
      · rw [xa_F_7, xa_F_o e c nw h7' h13' hnn'] at ee
        exact absurd ee.symm (hoe t' i' hv0' h7')
    · rcases hvl t' i' hv' with ⟨rfl, rfl⟩ | ⟨ht', rfl⟩ | ⟨hv0', h7', h13', hnn'⟩
      · rw [xa_F_7, xa_F_n e c nw ht] at ee
        exact absurd ee (hne t ht)
      · rw [xa_F_n e c nw ht, xa_F_n e c nw ht'] at ee
        exact ⟨hinj t t' ht ht' ee, rfl⟩
      · rw [xa_F_n e c nw ht, xa_F_o e c nw h7' h13' hnn'] at ee
        exact absurd ee.symm ((hnw t ht).2.1 t' i' hv0')
    · rcases hvl t' i' hv' with ⟨rfl, rfl⟩ | ⟨ht', rfl⟩ | ⟨hv0', h7', h13', hnn'⟩
      · rw [xa_F_7, xa_F_o e c nw h7 h13 hnn] at ee
        exact absurd ee (hoe t i hv0 h7)
      · rw [xa_F_n e c nw ht', xa_F_o e c nw h7 h13 hnn] at ee
        exact absurd ee ((hnw t' ht').2.1 t i hv0)
      · rw [xa_F_o e c nw h7 h13 hnn, xa_F_o e c nw h7' h13' hnn'] at ee
        exact g2 t i t' i' hv0 hv0' ee
  · obtain ⟨w1', w2', w3', w4', w5', w6', w7'⟩ := g3
    refine ⟨fun k b hk q => ?_, fun b k hb q => Nat.lt_succ_of_lt (w2' b k hb q), fun b k hb q => Nat.lt_succ_of_lt (w3' b k hb q), fun b k hb q => Nat.lt_succ_of_lt (w4' b k hb q), w5', fun j k q => Nat.lt_succ_of_lt (w6' j k q), fun k hk => ?_⟩
    · by_cases hk2 : k = s.1
      · rw [hk2] at q
        exact absurd (h6.symm.trans q) (by simp)
      · exact w1' k b (by have : k < s.1 + 1 := hk; omega) q
    · have e5 : xq_i (mo_addF s) 905 k = xq_i s 905 k := by
        have : xq_i (xu_i s 100 0 (xq_i s 100 0 + 1)) 905 k = xq_i s 905 k := by rw [xq_i_i, if_neg (fun z => absurd z.1 (by decide))]
        exact this
      rw [e5]
      by_cases hk2 : k = s.1
      · rw [hk2]
        exact h5
      · exact w7' k (by have : k < s.1 + 1 := hk; omega)
  · obtain ⟨c1, c2, c3, c4, c5, c6, c7, c8⟩ := g4
    have e13 : xa_F ad s e c nw 14 0 = ad 14 0 := xa_F_o e c nw (by omega) (by omega) (by omega)
    have e7 : xa_F ad s e c nw 8 0 = ad 8 0 := xa_F_o e c nw (by omega) (by omega) (by omega)
    have e14 : xa_F ad s e c nw 13 0 = c := rfl
    unfold xq_cp mo_addF
    rw [e13, e14, e7]
    refine ⟨fun z => by omega, c2, hc, c4, hc2, c6, Or.inr hc3, c8⟩
theorem sl_addF {nw : Nat → Nat} (hR : xq_rp Y ad s w) (hN : s.1 ≤ 133)
    (hnw : ∀ t, (t = 9) → nw t ∈ w.1 ∧ (∀ t' i', xq_vl ad s t' i' → ¬ ad t' i' = nw t) ∧ ∀ e c, w.2 (nw t) = xq_en Y (xa_F ad s e c nw) s t s.1)
    (hinj : ∀ t t', (t = 9) → (t' = 9) → nw t = nw t' → t = t') (h6 : xq_r s 906 s.1 = none) (h5 : xq_i s 905 s.1 = 0 ∨ xq_i s 905 s.1 = 1)
    (h : ∀ (ad' : Nat → Nat → Nat) (w' : xw_W), ad' 0 0 = ad 0 0 → xq_rp Y ad' (mo_addF s) w' → post (some (.int 1)) w') : ptJx4a65c_add_9ea2d Y [.ref (ad 1 0), .ref (nw 9)] w post := by
  have g := hR
  obtain ⟨g1, g2, g3, g4⟩ := g
  obtain ⟨c1, c2, c3, c4, c5, c6, c7, c8⟩ := g4
  have ha := g1 1 0 (xq_v0 (by decide))
  have hnx := hnw 9 (by omega)
  have hax : ¬ nw 9 = ad 1 0 := fun z => hnx.2.1 1 0 (xq_v0 (by decide)) z.symm
  have hwx : ∃ (ci : Nat) (fs : List Value), ci ∈ [1, 2] ∧ w.2 (nw 9) = .inr (ci, fs) := ⟨_, _, by simp, hnx.2.2 0 0⟩
  have r0 : ∀ e c, xa_F ad s e c nw 0 0 = ad 0 0 := fun e c => xa_F_o e c nw (by omega) (by omega) (by omega)
  by_cases hz : ad 13 0 = 0
  · have e0 : s.1 = 0 := by omega
    have hw : w.2 (ad 1 0) = .inr (0, [.int (xq_i s 100 0), .ref Y.1.1.1, .int (nI 0)]) := by
      rw [ha.2]
      show (Sum.inr (0, [.int (xq_i s 100 0), .ref (ad 7 0), .int (nI s.1)]) : va_E) = _
      rw [c1 hz, e0]
    refine sj_adds_first (e := 0) (n := 0) (cap := 0) (f := fun _ => none) ha.1 hw hnx.1 hwx hax (fun q hq => ?_)
    have hp := sl_picF (w1 := (w.1 ++ [q], va_up w.2 q (.inl (Y.2.2.1, 10, .inr (.inr (.inr (.inr (fun _ => none)))))))) (e := q) (c := 10) hR (fun t ht => ⟨(hnw t ht).1, (hnw t ht).2.1, (hnw t ht).2.2 q 10⟩) hinj h6 h5
      (List.mem_append_right _ (List.mem_singleton.mpr rfl)) (Or.inr hq) (fun y hy => ⟨List.mem_append_left _ hy, va_up_ne _ _ (fun z => hq (by rw [← z]; exact hy))⟩) (by omega) (by omega) (by omega)
    refine h _ _ (r0 q 10) ?_
    unfold xj_aw
    have ef : (fun j => if j < s.1 then some (ad 9 j) else none) = (fun _ : Nat => (none : Option Nat)) := by
      funext j
      rw [if_neg (by omega)]
    rw [ef] at hp
    simp only [e0] at hp
    exact hp
  · have hv7 : xq_vl ad s 7 0 := by unfold xq_vl; omega
    have h7 := g1 7 0 hv7
    by_cases hf : s.1 < ad 13 0
    · refine sj_adds_room ha.1 ha.2 h7.1 h7.2 hf (by omega) (fun z => absurd (g2 1 0 7 0 (xq_v0 (by decide)) hv7 z).1 (by decide)) hnx.1 hwx hax ?_
      exact h _ _ (r0 (ad 7 0) (ad 13 0)) (sl_picF (w1 := w) (e := ad 7 0) (c := ad 13 0) hR (fun t ht => ⟨(hnw t ht).1, (hnw t ht).2.1, (hnw t ht).2.2 _ _⟩) hinj h6 h5 h7.1 (Or.inl ⟨rfl, by omega⟩) (fun y hy => ⟨hy, rfl⟩) (by omega) (by omega) (by omega))
    · have ec : ad 13 0 = s.1 := by omega
      have hwe : w.2 (ad 7 0) = .inl (Y.2.2.1, s.1, xq_rs (fun j => if j < s.1 then some (ad 9 j) else none)) := by
        rw [h7.2]
        show (Sum.inl (Y.2.2.1, ad 13 0, _) : va_E) = _
        rw [ec]
      refine sj_adds_full (n := 0) ha.1 ha.2 h7.1 hwe (fun i y hi hy => ?_) (by omega) (by omega) (fun z => absurd (g2 1 0 7 0 (xq_v0 (by decide)) hv7 z).1 (by decide)) hnx.1 hwx hax (fun q hq => ?_)
      · rw [if_pos hi] at hy
        cases hy
        have hk := g1 9 i (by unfold xq_vl; omega)
        exact ⟨hk.1, _, _, by simp, hk.2⟩
      · have ef : va_cpy (fun j => if j < s.1 then some (ad 9 j) else none) (fun _ => none) 0 0 s.1 = (fun j => if j < s.1 then some (ad 9 j) else none) := by
          funext j
          unfold va_cpy
          by_cases hj : j < s.1
          · rw [if_pos ⟨Nat.zero_le _, by omega⟩, Nat.sub_zero, Nat.zero_add]
          · rw [if_neg (by omega), if_neg hj]
        rw [ef]
        exact h _ _ (r0 q (s.1 + s.1 / 2)) (sl_picF (w1 := (w.1 ++ [q], va_up w.2 q (.inl (Y.2.2.1, s.1 + s.1 / 2, xq_rs (fun j => if j < s.1 then some (ad 9 j) else none))))) (e := q) (c := s.1 + s.1 / 2) hR (fun t ht => ⟨(hnw t ht).1, (hnw t ht).2.1, (hnw t ht).2.2 _ _⟩) hinj h6 h5
          (List.mem_append_right _ (List.mem_singleton.mpr rfl)) (Or.inr hq) (fun y hy => ⟨List.mem_append_left _ hy, va_up_ne _ _ (fun z => hq (by rw [← z]; exact hy))⟩) (by omega) (by omega) (by omega))


/-- where the cells lie behind an add: row e, c places, the new cells nw -/
def xa_B (ad : Nat → Nat → Nat) (s : xq_S) (e c : Nat) (nw : Nat → Nat) : Nat → Nat → Nat := fun t i => if t = 8 then e else if t = 14 then c else if (10 ≤ t ∧ t ≤ 12) ∧ i = s.2.1 then nw t else ad t i
theorem xa_B_7 (e c : Nat) (nw : Nat → Nat) (i : Nat) : xa_B ad s e c nw 8 i = e := if_pos rfl
theorem xa_B_13 (e c : Nat) (nw : Nat → Nat) (i : Nat) : xa_B ad s e c nw 14 i = c := rfl
theorem xa_B_n (e c : Nat) (nw : Nat → Nat) {t : Nat} (h : 10 ≤ t ∧ t ≤ 12) : xa_B ad s e c nw t s.2.1 = nw t := by
  unfold xa_B
  rw [if_neg (by omega), if_neg (by omega), if_pos ⟨h, rfl⟩]
theorem xa_B_o (e c : Nat) (nw : Nat → Nat) {t i : Nat} (h1 : ¬ t = 8) (h2 : ¬ t = 14) (h3 : ¬ ((10 ≤ t ∧ t ≤ 12) ∧ i = s.2.1)) : xa_B ad s e c nw t i = ad t i := by
  unfold xa_B
  rw [if_neg h1, if_neg h2, if_neg h3]
theorem sl_picB {w1 : xw_W} {e c : Nat} {nw : Nat → Nat} (hR : xq_rp Y ad s w)
    (hnw : ∀ t, (10 ≤ t ∧ t ≤ 12) → nw t ∈ w.1 ∧ (∀ t' i', xq_vl ad s t' i' → ¬ ad t' i' = nw t) ∧ w.2 (nw t) = xq_en Y (xa_B ad s e c nw) s t s.2.1)
    (hinj : ∀ t t', (10 ≤ t ∧ t ≤ 12) → (10 ≤ t' ∧ t' ≤ 12) → nw t = nw t' → t = t') (hb5 : xq_r s 1005 s.2.1 = none) (hb1 : ∀ k, xq_r s 1100 s.2.1 = some k → k < s.1) (hb2 : ∀ k, xq_r s 1200 s.2.1 = some k → k < s.1)
    (he : e ∈ w1.1) (hef : (e = ad 8 0 ∧ 0 < ad 14 0) ∨ ¬ e ∈ w.1) (hw1 : ∀ y ∈ w.1, y ∈ w1.1 ∧ w1.2 y = w.2 y) (hc : s.2.1 + 1 ≤ c) (hc2 : c ≤ 200) (hc3 : 10 ≤ c) :
    xq_rp Y (xa_B ad s e c nw) (mo_addB s) (w1.1, va_up (va_up w1.2 e (.inl (Y.2.2.1, c, xq_rs (va_up (fun j => if j < s.2.1 then some (ad 10 j) else none) s.2.1 (some (nw 10)))))) (ad 2 0) (.inr (0, [.int (xq_i s 200 0 + 1), .ref e, .int (nI (s.2.1 + 1))]))) := by
  obtain ⟨g1, g2, g3, g4⟩ := hR
  have hvl : ∀ t i, xq_vl (xa_B ad s e c nw) (mo_addB s) t i → (t = 8 ∧ i = 0) ∨ ((10 ≤ t ∧ t ≤ 12) ∧ i = s.2.1) ∨ (xq_vl ad s t i ∧ ¬ t = 8 ∧ ¬ t = 14 ∧ ¬ ((10 ≤ t ∧ t ≤ 12) ∧ i = s.2.1)) := by
    intro t i h
    have e13 : xa_B ad s e c nw 13 0 = ad 13 0 := xa_B_o e c nw (by omega) (by omega) (by omega)
    have e14 : xa_B ad s e c nw 14 0 = c := rfl
    unfold xq_vl at h ⊢
    unfold mo_addB at h
    simp only [e13, e14] at h
    try simp only [xu_i_2] at h
    omega
  have hae : ¬ ad 2 0 = e := by
    intro z
    rcases hef with ⟨q, q2⟩ | q
    · have hv7 : xq_vl ad s 8 0 := by unfold xq_vl; omega
      exact absurd (g2 2 0 8 0 (xq_v0 (by decide)) hv7 (z.trans q)).1 (by decide)
    · exact q (by rw [← z]; exact (g1 2 0 (xq_v0 (by decide))).1)
  have hoe : ∀ t i, xq_vl ad s t i → ¬ t = 8 → ¬ ad t i = e := by
    intro t i hv ht z
    rcases hef with ⟨q, q2⟩ | q
    · have hv7 : xq_vl ad s 8 0 := by unfold xq_vl; omega
      exact ht (g2 t i 8 0 hv hv7 (z.trans q)).1
    · exact q (by rw [← z]; exact (g1 t i hv).1)
  have hne : ∀ t, (10 ≤ t ∧ t ≤ 12) → ¬ nw t = e := by
    intro t ht z
    rcases hef with ⟨q, q2⟩ | q
    · have hv7 : xq_vl ad s 8 0 := by unfold xq_vl; omega
      exact (hnw t ht).2.1 8 0 hv7 (q.symm.trans z.symm)
    · exact q (by rw [← z]; exact (hnw t ht).1)
  have hna : ∀ t, (10 ≤ t ∧ t ≤ 12) → ¬ nw t = ad 2 0 := fun t ht z => (hnw t ht).2.1 2 0 (xq_v0 (by decide)) z.symm
  have hen : ∀ t i, xq_vl ad s t i → ¬ t = 2 → ¬ t = 8 → xq_en Y (xa_B ad s e c nw) (mo_addB s) t i = xq_en Y ad s t i := by
    intro t i hv h1 h2
    have e0 : xq_en Y (xa_B ad s e c nw) (mo_addB s) t i = xq_en Y (xa_B ad s e c nw) s t i := by
      have e1 : xq_en Y (xa_B ad s e c nw) (mo_addB s) t i = xq_en Y (xa_B ad s e c nw) (xu_i s 200 0 (xq_i s 200 0 + 1)) t i := by
        have hle := xq_vl_le hv
        rcases (show t = 0 ∨ t = 1 ∨ t = 2 ∨ t = 3 ∨ t = 4 ∨ t = 5 ∨ t = 6 ∨ t = 7 ∨ t = 8 ∨ t = 9 ∨ t = 10 ∨ t = 11 ∨ t = 12 by omega) with rfl | rfl | rfl | rfl | rfl | rfl | rfl | rfl | rfl | rfl | rfl | rfl | rfl <;> first | rfl | exact absurd rfl h1 | exact absurd rfl h2
      rw [e1]
      exact xq_en_i (xq_vl_le hv).1 (Or.inl (fun z => h1 z.symm))
    rw [e0]
    have hle := xq_vl_le hv
    refine xq_en_ad g3 hv ?_ ?_ ?_ ?_ ?_ ?_ ?_ ?_
    · intro _ u q1 q2
      exact xa_B_o e c nw (by omega) (by omega) (by omega)
    · intro q
      exact xa_B_o e c nw (by omega) (by omega) (by omega)
    · intro q
      exact xa_B_o e c nw (by omega) (by omega) (by omega)
    · intro q
      exact xa_B_o e c nw (by omega) (by omega) (by omega)
    · intro q
      exact xa_B_o e c nw (by omega) (by omega) (by omega)
    · intro k hk
      exact xa_B_o e c nw (by omega) (by omega) (by omega)
    · intro b hb
      exact xa_B_o e c nw (by omega) (by omega) (by omega)
    · intro q
      have hi : i < s.2.1 := by unfold xq_vl at hv; omega
      exact ⟨xa_B_o e c nw (by omega) (by omega) (by omega), xa_B_o e c nw (by omega) (by omega) (by omega)⟩
  refine ⟨?_, ?_, ?_, ?_⟩
  · intro t i hv
    rcases hvl t i hv with ⟨rfl, rfl⟩ | ⟨ht, rfl⟩ | ⟨hv0, h7, h13, hnn⟩
    · rw [xa_B_7]
      refine ⟨he, ?_⟩
      show va_up (va_up w1.2 e _) (ad 2 0) _ e = _
      rw [va_up_ne _ _ (fun z => hae z.symm), va_up_self]
      show _ = (Sum.inl (Y.2.2.1, xa_B ad s e c nw 14 0, xq_rs _) : va_E)
      rw [xa_B_13]
      refine congrArg Sum.inl (congrArg (Prod.mk _) (congrArg (Prod.mk _) (congrArg xq_rs ?_)))
      funext j
      show va_up _ _ _ j = if j < s.2.1 + 1 then some (xa_B ad s e c nw 10 j) else none
      by_cases hj : j = s.2.1
      · subst hj
        rw [if_pos (by omega), xa_B_n e c nw (by omega), va_up_self]
      · rw [va_up_ne _ _ hj, xa_B_o e c nw (by omega) (by omega) (by omega)]
        by_cases hj2 : j < s.2.1
        · rw [if_pos hj2, if_pos (by omega)]
        · rw [if_neg hj2, if_neg (by omega)]
    · rw [xa_B_n e c nw ht]
      obtain ⟨a1, a2, a3⟩ := hnw t ht
      refine ⟨(hw1 _ a1).1, ?_⟩
      show va_up (va_up w1.2 e _) (ad 2 0) _ (nw t) = _
      rw [va_up_ne _ _ (hna t ht), va_up_ne _ _ (hne t ht), (hw1 _ a1).2, a3]
      have e1 : xq_en Y (xa_B ad s e c nw) (mo_addB s) t s.2.1 = xq_en Y (xa_B ad s e c nw) (xu_i s 200 0 (xq_i s 200 0 + 1)) t s.2.1 := by
        rcases (show t = 10 ∨ t = 11 ∨ t = 12 by omega) with rfl | rfl | rfl <;> rfl
      rw [e1, xq_en_i (by omega) (Or.inl (by omega))]
    · rw [xa_B_o e c nw h7 h13 hnn]
      have hg := g1 t i hv0
      refine ⟨(hw1 _ hg.1).1, ?_⟩
      show va_up (va_up w1.2 e _) (ad 2 0) _ (ad t i) = _
      by_cases ht1 : t = 2
      · subst ht1
        have : i = 0 := (xq_vl_le hv0).2 (by decide)
        subst this
        rw [va_up_self]
        show _ = (Sum.inr (0, [.int (xq_i (mo_addB s) 200 0), .ref (xa_B ad s e c nw 8 0), .int (nI (s.2.1 + 1))]) : va_E)
        rw [xa_B_7]
        rfl
      · rw [va_up_ne _ _ (fun z => ht1 (g2 t i 2 0 hv0 (xq_v0 (by decide)) z).1), va_up_ne _ _ (hoe t i hv0 h7), (hw1 _ hg.1).2, hg.2, hen t i hv0 ht1 h7]
  · intro t i t' i' hv hv' ee
    rcases hvl t i hv with ⟨rfl, rfl⟩ | ⟨ht, rfl⟩ | ⟨hv0, h7, h13, hnn⟩
    · rcases hvl t' i' hv' with ⟨rfl, rfl⟩ | ⟨ht', rfl⟩ | ⟨hv0', h7', h13', hnn'⟩
      · exact ⟨rfl, rfl⟩
      · rw [xa_B_7, xa_B_n e c nw ht'] at ee
        exact absurd ee.symm (hne t' ht')
      · rw [xa_B_7, xa_B_o e c nw h7' h13' hnn'] at ee
        exact absurd ee.symm (hoe t' i' hv0' h7')
    · rcases hvl t' i' hv' with ⟨rfl, rfl⟩ | ⟨ht', rfl⟩ | ⟨hv0', h7', h13', hnn'⟩
      · rw [xa_B_7, xa_B_n e c nw ht] at ee
        exact absurd ee (hne t ht)
      · rw [xa_B_n e c nw ht, xa_B_n e c nw ht'] at ee
        exact ⟨hinj t t' ht ht' ee, rfl⟩
      · rw [xa_B_n e c nw ht, xa_B_o e c nw h7' h13' hnn'] at ee
        exact absurd ee.symm ((hnw t ht).2.1 t' i' hv0')
    · rcases hvl t' i' hv' with ⟨rfl, rfl⟩ | ⟨ht', rfl⟩ | ⟨hv0', h7', h13', hnn'⟩
      · rw [xa_B_7, xa_B_o e c nw h7 h13 hnn] at ee
        exact absurd ee (hoe t i hv0 h7)
      · rw [xa_B_n e c nw ht', xa_B_o e c nw h7 h13 hnn] at ee
        exact absurd ee ((hnw t' ht').2.1 t i hv0)
      · rw [xa_B_o e c nw h7 h13 hnn, xa_B_o e c nw h7' h13' hnn'] at ee
        exact g2 t i t' i' hv0 hv0' ee
  · obtain ⟨w1', w2', w3', w4', w5', w6', w7'⟩ := g3
    refine ⟨fun k b hk q => Nat.lt_succ_of_lt (w1' k b hk q), fun b k hb q => ?_, fun b k hb q => ?_, fun b k hb q => ?_, fun j b q => Nat.lt_succ_of_lt (w5' j b q), w6', fun k hk => ?_⟩
    · by_cases hk2 : b = s.2.1
      · rw [hk2] at q
        exact absurd (hb5.symm.trans q) (by simp)
      · exact w2' b k (by have : b < s.2.1 + 1 := hb; omega) q
    · by_cases hk2 : b = s.2.1
      · rw [hk2] at q
        exact hb1 k q
      · exact w3' b k (by have : b < s.2.1 + 1 := hb; omega) q
    · by_cases hk2 : b = s.2.1
      · rw [hk2] at q
        exact hb2 k q
      · exact w4' b k (by have : b < s.2.1 + 1 := hb; omega) q
    · have e5 : xq_i (mo_addB s) 905 k = xq_i s 905 k := by
        have : xq_i (xu_i s 200 0 (xq_i s 200 0 + 1)) 905 k = xq_i s 905 k := by rw [xq_i_i, if_neg (fun z => absurd z.1 (by decide))]
        exact this
      rw [e5]
      exact w7' k hk
  · obtain ⟨c1, c2, c3, c4, c5, c6, c7, c8⟩ := g4
    have e13 : xa_B ad s e c nw 13 0 = ad 13 0 := xa_B_o e c nw (by omega) (by omega) (by omega)
    have e7 : xa_B ad s e c nw 7 0 = ad 7 0 := xa_B_o e c nw (by omega) (by omega) (by omega)
    have e14 : xa_B ad s e c nw 14 0 = c := rfl
    unfold xq_cp mo_addB
    rw [e13, e14, e7]
    refine ⟨c1, fun z => by omega, c3, hc, c5, hc2, c7, Or.inr hc3⟩
theorem sl_addB {nw : Nat → Nat} (hR : xq_rp Y ad s w) (hN : s.2.1 ≤ 133)
    (hnw : ∀ t, (10 ≤ t ∧ t ≤ 12) → nw t ∈ w.1 ∧ (∀ t' i', xq_vl ad s t' i' → ¬ ad t' i' = nw t) ∧ ∀ e c, w.2 (nw t) = xq_en Y (xa_B ad s e c nw) s t s.2.1)
    (hinj : ∀ t t', (10 ≤ t ∧ t ≤ 12) → (10 ≤ t' ∧ t' ≤ 12) → nw t = nw t' → t = t') (hb5 : xq_r s 1005 s.2.1 = none) (hb1 : ∀ k, xq_r s 1100 s.2.1 = some k → k < s.1) (hb2 : ∀ k, xq_r s 1200 s.2.1 = some k → k < s.1)
    (h : ∀ (ad' : Nat → Nat → Nat) (w' : xw_W), ad' 0 0 = ad 0 0 → xq_rp Y ad' (mo_addB s) w' → post (some (.int 1)) w') : ptJx4a65c_add_9ea2d Y [.ref (ad 2 0), .ref (nw 10)] w post := by
  have g := hR
  obtain ⟨g1, g2, g3, g4⟩ := g
  obtain ⟨c1, c2, c3, c4, c5, c6, c7, c8⟩ := g4
  have ha := g1 2 0 (xq_v0 (by decide))
  have hnx := hnw 10 (by omega)
  have hax : ¬ nw 10 = ad 2 0 := fun z => hnx.2.1 2 0 (xq_v0 (by decide)) z.symm
  have hwx : ∃ (ci : Nat) (fs : List Value), ci ∈ [1, 2] ∧ w.2 (nw 10) = .inr (ci, fs) := ⟨_, _, by simp, hnx.2.2 0 0⟩
  have r0 : ∀ e c, xa_B ad s e c nw 0 0 = ad 0 0 := fun e c => xa_B_o e c nw (by omega) (by omega) (by omega)
  by_cases hz : ad 14 0 = 0
  · have e0 : s.2.1 = 0 := by omega
    have hw : w.2 (ad 2 0) = .inr (0, [.int (xq_i s 200 0), .ref Y.1.1.1, .int (nI 0)]) := by
      rw [ha.2]
      show (Sum.inr (0, [.int (xq_i s 200 0), .ref (ad 8 0), .int (nI s.2.1)]) : va_E) = _
      rw [c2 hz, e0]
    refine sj_adds_first (e := 0) (n := 0) (cap := 0) (f := fun _ => none) ha.1 hw hnx.1 hwx hax (fun q hq => ?_)
    have hp := sl_picB (w1 := (w.1 ++ [q], va_up w.2 q (.inl (Y.2.2.1, 10, .inr (.inr (.inr (.inr (fun _ => none)))))))) (e := q) (c := 10) hR (fun t ht => ⟨(hnw t ht).1, (hnw t ht).2.1, (hnw t ht).2.2 q 10⟩) hinj hb5 hb1 hb2
      (List.mem_append_right _ (List.mem_singleton.mpr rfl)) (Or.inr hq) (fun y hy => ⟨List.mem_append_left _ hy, va_up_ne _ _ (fun z => hq (by rw [← z]; exact hy))⟩) (by omega) (by omega) (by omega)
    refine h _ _ (r0 q 10) ?_
    unfold xj_aw
    have ef : (fun j => if j < s.2.1 then some (ad 10 j) else none) = (fun _ : Nat => (none : Option Nat)) := by
      funext j
      rw [if_neg (by omega)]
    rw [ef] at hp
    simp only [e0] at hp
    exact hp
  · have hv7 : xq_vl ad s 8 0 := by unfold xq_vl; omega
    have h7 := g1 8 0 hv7
    by_cases hf : s.2.1 < ad 14 0
    · refine sj_adds_room ha.1 ha.2 h7.1 h7.2 hf (by omega) (fun z => absurd (g2 2 0 8 0 (xq_v0 (by decide)) hv7 z).1 (by decide)) hnx.1 hwx hax ?_
      exact h _ _ (r0 (ad 8 0) (ad 14 0)) (sl_picB (w1 := w) (e := ad 8 0) (c := ad 14 0) hR (fun t ht => ⟨(hnw t ht).1, (hnw t ht).2.1, (hnw t ht).2.2 _ _⟩) hinj hb5 hb1 hb2 h7.1 (Or.inl ⟨rfl, by omega⟩) (fun y hy => ⟨hy, rfl⟩) (by omega) (by omega) (by omega))
    · have ec : ad 14 0 = s.2.1 := by omega
      have hwe : w.2 (ad 8 0) = .inl (Y.2.2.1, s.2.1, xq_rs (fun j => if j < s.2.1 then some (ad 10 j) else none)) := by
        rw [h7.2]
        show (Sum.inl (Y.2.2.1, ad 14 0, _) : va_E) = _
        rw [ec]
      refine sj_adds_full (n := 0) ha.1 ha.2 h7.1 hwe (fun i y hi hy => ?_) (by omega) (by omega) (fun z => absurd (g2 2 0 8 0 (xq_v0 (by decide)) hv7 z).1 (by decide)) hnx.1 hwx hax (fun q hq => ?_)
      · rw [if_pos hi] at hy
        cases hy
        have hk := g1 10 i (by unfold xq_vl; omega)
        exact ⟨hk.1, _, _, by simp, hk.2⟩
      · have ef : va_cpy (fun j => if j < s.2.1 then some (ad 10 j) else none) (fun _ => none) 0 0 s.2.1 = (fun j => if j < s.2.1 then some (ad 10 j) else none) := by
          funext j
          unfold va_cpy
          by_cases hj : j < s.2.1
          · rw [if_pos ⟨Nat.zero_le _, by omega⟩, Nat.sub_zero, Nat.zero_add]
          · rw [if_neg (by omega), if_neg hj]
        rw [ef]
        exact h _ _ (r0 q (s.2.1 + s.2.1 / 2)) (sl_picB (w1 := (w.1 ++ [q], va_up w.2 q (.inl (Y.2.2.1, s.2.1 + s.2.1 / 2, xq_rs (fun j => if j < s.2.1 then some (ad 10 j) else none))))) (e := q) (c := s.2.1 + s.2.1 / 2) hR (fun t ht => ⟨(hnw t ht).1, (hnw t ht).2.1, (hnw t ht).2.2 _ _⟩) hinj hb5 hb1 hb2
          (List.mem_append_right _ (List.mem_singleton.mpr rfl)) (Or.inr hq) (fun y hy => ⟨List.mem_append_left _ hy, va_up_ne _ _ (fun z => hq (by rw [← z]; exact hy))⟩) (by omega) (by omega) (by omega))

end XCB
