/-! THE STATE of a tournament: how many fencers, how many bouts, a table of ints, a table of references (by numbers). A code is 100 * (the kind of cell) + (the slot). Kinds: 0 the object, 1 2 its lists, 3 pistes, 4 poolSizes, 5 seeded, 6 seedsOfLines, 7 8 the lists' rows, 9 a fencer, 10 a bout, 11 12 its sides. -/
section XST
abbrev xq_S : Type := Nat × Nat × (Nat → Nat → Int32) × (Nat → Nat → Option Nat)
def xq_i (s : xq_S) (c i : Nat) : Int32 := s.2.2.1 c i
def xq_r (s : xq_S) (c i : Nat) : Option Nat := s.2.2.2 c i
def xu_i (s : xq_S) (c i : Nat) (v : Int32) : xq_S := (s.1, s.2.1, (fun c' i' => if c' = c ∧ i' = i then v else s.2.2.1 c' i'), s.2.2.2)
def xu_r (s : xq_S) (c i : Nat) (v : Option Nat) : xq_S := (s.1, s.2.1, s.2.2.1, (fun c' i' => if c' = c ∧ i' = i then v else s.2.2.2 c' i'))
theorem xu_i_1 (s : xq_S) (c i : Nat) (v : Int32) : (xu_i s c i v).1 = s.1 := rfl
theorem xu_i_2 (s : xq_S) (c i : Nat) (v : Int32) : (xu_i s c i v).2.1 = s.2.1 := rfl
theorem xu_r_1 (s : xq_S) (c i : Nat) (v : Option Nat) : (xu_r s c i v).1 = s.1 := rfl
theorem xu_r_2 (s : xq_S) (c i : Nat) (v : Option Nat) : (xu_r s c i v).2.1 = s.2.1 := rfl
theorem xq_i_i (s : xq_S) (c i c' i' : Nat) (v : Int32) : xq_i (xu_i s c i v) c' i' = if c' = c ∧ i' = i then v else xq_i s c' i' := rfl
theorem xq_i_r (s : xq_S) (c i c' i' : Nat) (v : Option Nat) : xq_i (xu_r s c i v) c' i' = xq_i s c' i' := rfl
theorem xq_r_i (s : xq_S) (c i c' i' : Nat) (v : Int32) : xq_r (xu_i s c i v) c' i' = xq_r s c' i' := rfl
theorem xq_r_r (s : xq_S) (c i c' i' : Nat) (v : Option Nat) : xq_r (xu_r s c i v) c' i' = if c' = c ∧ i' = i then v else xq_r s c' i' := rfl
abbrev xq_rs (f : Nat → Option Nat) : (Nat → Int32) ⊕ (Nat → Int64) ⊕ (Nat → UInt32) ⊕ (Nat → UInt64) ⊕ (Nat → Option Nat) := .inr (.inr (.inr (.inr f)))
/-- what the cell of kind t, number i holds; ad: where the cells lie (ad 13 0, ad 14 0: how many places the lists' rows have) -/
def xq_en (Y : xw_Y) (ad : Nat → Nat → Nat) (s : xq_S) (t i : Nat) : va_E := match t with
  | 0 => .inr (4, [.ref (ad 1 0), .ref (ad 2 0), .ref (ad 3 0), .ref (ad 4 0), .ref (ad 5 0), .ref (ad 6 0), .int (xq_i s 6 0), .int (xq_i s 7 0), .int (xq_i s 8 0), .int (xq_i s 9 0)])
  | 1 => .inr (0, [.int (xq_i s 100 0), .ref (ad 7 0), .int (nI s.1)])
  | 2 => .inr (0, [.int (xq_i s 200 0), .ref (ad 8 0), .int (nI s.2.1)])
  | 3 => .inl (Y.2.2.2.1, 3, xq_rs (fun j => (xq_r s 300 j).map (ad 10)))
  | 4 => .inl (Y.2.1, 4, .inl (fun j => xq_i s 400 j))
  | 5 => .inl (Y.2.2.2.2, 16, xq_rs (fun j => (xq_r s 500 j).map (ad 9)))
  | 6 => .inl (Y.2.1, 16, .inl (fun j => xq_i s 600 j))
  | 7 => .inl (Y.2.2.1, ad 13 0, xq_rs (fun j => if j < s.1 then some (ad 9 j) else none))
  | 8 => .inl (Y.2.2.1, ad 14 0, xq_rs (fun j => if j < s.2.1 then some (ad 10 j) else none))
  | 9 => .inr (2, [.int (xq_i s 900 i), .int (xq_i s 901 i), .int (xq_i s 902 i), .int (xq_i s 903 i), .int (xq_i s 904 i), .int (xq_i s 905 i), va_rf ((xq_r s 906 i).map (ad 10)), .int (xq_i s 907 i), .int (xq_i s 908 i), .int (xq_i s 909 i), .int (xq_i s 910 i), .int (xq_i s 911 i), .int (xq_i s 912 i), .int (xq_i s 913 i)])
  | 10 => .inr (1, [.int (xq_i s 1000 i), .int (xq_i s 1001 i), .ref (ad 11 i), .ref (ad 12 i), .int (xq_i s 1004 i), va_rf ((xq_r s 1005 i).map (ad 9)), .int (xq_i s 1006 i), .int (xq_i s 1007 i), .int (xq_i s 1008 i)])
  | 11 => .inr (3, [va_rf ((xq_r s 1100 i).map (ad 9)), .int (xq_i s 1101 i), .int (xq_i s 1102 i)])
  | _ => .inr (3, [va_rf ((xq_r s 1200 i).map (ad 9)), .int (xq_i s 1201 i), .int (xq_i s 1202 i)])
/-- which cells there are -/
def xq_vl (ad : Nat → Nat → Nat) (s : xq_S) (t i : Nat) : Prop := (t ≤ 6 ∧ i = 0) ∨ (t = 7 ∧ i = 0 ∧ 0 < ad 13 0) ∨ (t = 8 ∧ i = 0 ∧ 0 < ad 14 0) ∨ (t = 9 ∧ i < s.1) ∨ (10 ≤ t ∧ t ≤ 12 ∧ i < s.2.1)
/-- references go to what there is -/
def xq_wf (s : xq_S) : Prop := (∀ k b, k < s.1 → xq_r s 906 k = some b → b < s.2.1) ∧ (∀ b k, b < s.2.1 → xq_r s 1005 b = some k → k < s.1) ∧ (∀ b k, b < s.2.1 → xq_r s 1100 b = some k → k < s.1) ∧ (∀ b k, b < s.2.1 → xq_r s 1200 b = some k → k < s.1) ∧ (∀ j b, xq_r s 300 j = some b → b < s.2.1) ∧ (∀ j k, xq_r s 500 j = some k → k < s.1) ∧ (∀ k, k < s.1 → xq_i s 905 k = 0 ∨ xq_i s 905 k = 1)
/-- the lists' rows: none at first (then the empty one), and never much larger than what they hold -/
def xq_cp (Y : xw_Y) (ad : Nat → Nat → Nat) (s : xq_S) : Prop := (ad 13 0 = 0 → ad 7 0 = Y.1.1.1) ∧ (ad 14 0 = 0 → ad 8 0 = Y.1.1.1) ∧ s.1 ≤ ad 13 0 ∧ s.2.1 ≤ ad 14 0 ∧ ad 13 0 ≤ 200 ∧ ad 14 0 ≤ 200 ∧ (ad 13 0 = 0 ∨ 10 ≤ ad 13 0) ∧ (ad 14 0 = 0 ∨ 10 ≤ ad 14 0)
/-- THE PICTURE: the world w holds the state s, its cells at ad -/
def xq_rp (Y : xw_Y) (ad : Nat → Nat → Nat) (s : xq_S) (w : xw_W) : Prop := (∀ t i, xq_vl ad s t i → ad t i ∈ w.1 ∧ w.2 (ad t i) = xq_en Y ad s t i) ∧ (∀ t i t' i', xq_vl ad s t i → xq_vl ad s t' i' → ad t i = ad t' i' → t = t' ∧ i = i') ∧ xq_wf s ∧ xq_cp Y ad s
theorem xq_en_i {Y : xw_Y} {ad : Nat → Nat → Nat} {s : xq_S} {c e t i : Nat} {v : Int32} (ht : t ≤ 12) (h : ¬ c / 100 = t ∨ (9 ≤ t ∧ ¬ i = e)) : xq_en Y ad (xu_i s c e v) t i = xq_en Y ad s t i := by
  have key : ∀ c' : Nat, c' / 100 = t → xq_i (xu_i s c e v) c' i = xq_i s c' i := by
    intro c' hc'
    rw [xq_i_i, if_neg]
    rintro ⟨h1, h2⟩
    rcases h with h | ⟨-, h⟩
    · exact h (by rw [← h1]; exact hc')
    · exact h h2
  have key2 : ∀ c' j : Nat, c' / 100 = t → t < 9 → xq_i (xu_i s c e v) c' j = xq_i s c' j := by
    intro c' j hc' h9
    rw [xq_i_i, if_neg]
    rintro ⟨h1, h2⟩
    rcases h with h | ⟨h, -⟩
    · exact h (by rw [← h1]; exact hc')
    · omega
  rcases (show t = 0 ∨ t = 1 ∨ t = 2 ∨ t = 3 ∨ t = 4 ∨ t = 5 ∨ t = 6 ∨ t = 7 ∨ t = 8 ∨ t = 9 ∨ t = 10 ∨ t = 11 ∨ t = 12 by omega) with rfl | rfl | rfl | rfl | rfl | rfl | rfl | rfl | rfl | rfl | rfl | rfl | rfl
  · simp only [xq_en, key2 6 0 rfl (by decide), key2 7 0 rfl (by decide), key2 8 0 rfl (by decide), key2 9 0 rfl (by decide)]
  · simp only [xq_en, xu_i_1, key2 100 0 rfl (by decide)]
  · simp only [xq_en, xu_i_2, key2 200 0 rfl (by decide)]
  · rfl
  · simp only [xq_en, key2 400 _ rfl (by decide)]
  · rfl
  · simp only [xq_en, key2 600 _ rfl (by decide)]
  · rfl
  · rfl
  · simp only [xq_en, xq_r_i, key 900 rfl, key 901 rfl, key 902 rfl, key 903 rfl, key 904 rfl, key 905 rfl, key 907 rfl, key 908 rfl, key 909 rfl, key 910 rfl, key 911 rfl, key 912 rfl, key 913 rfl]
  · simp only [xq_en, xq_r_i, key 1000 rfl, key 1001 rfl, key 1004 rfl, key 1006 rfl, key 1007 rfl, key 1008 rfl]
  · simp only [xq_en, xq_r_i, key 1101 rfl, key 1102 rfl]
  · simp only [xq_en, xq_r_i, key 1201 rfl, key 1202 rfl]
theorem xq_en_r {Y : xw_Y} {ad : Nat → Nat → Nat} {s : xq_S} {c e t i : Nat} {v : Option Nat} (ht : t ≤ 12) (h : ¬ c / 100 = t ∨ (9 ≤ t ∧ ¬ i = e)) : xq_en Y ad (xu_r s c e v) t i = xq_en Y ad s t i := by
  have key : ∀ c' : Nat, c' / 100 = t → xq_r (xu_r s c e v) c' i = xq_r s c' i := by
    intro c' hc'
    rw [xq_r_r, if_neg]
    rintro ⟨h1, h2⟩
    rcases h with h | ⟨-, h⟩
    · exact h (by rw [← h1]; exact hc')
    · exact h h2
  have key2 : ∀ c' j : Nat, c' / 100 = t → t < 9 → xq_r (xu_r s c e v) c' j = xq_r s c' j := by
    intro c' j hc' h9
    rw [xq_r_r, if_neg]
    rintro ⟨h1, h2⟩
    rcases h with h | ⟨h, -⟩
    · exact h (by rw [← h1]; exact hc')
    · omega
  rcases (show t = 0 ∨ t = 1 ∨ t = 2 ∨ t = 3 ∨ t = 4 ∨ t = 5 ∨ t = 6 ∨ t = 7 ∨ t = 8 ∨ t = 9 ∨ t = 10 ∨ t = 11 ∨ t = 12 by omega) with rfl | rfl | rfl | rfl | rfl | rfl | rfl | rfl | rfl | rfl | rfl | rfl | rfl
  · rfl
  · rfl
  · rfl
  · simp only [xq_en, key2 300 _ rfl (by decide)]
  · rfl
  · simp only [xq_en, key2 500 _ rfl (by decide)]
  · rfl
  · rfl
  · rfl
  · simp only [xq_en, xq_i_r, key 906 rfl]
  · simp only [xq_en, xq_i_r, key 1005 rfl]
  · simp only [xq_en, xq_i_r, key 1100 rfl]
  · simp only [xq_en, xq_i_r, key 1200 rfl]
theorem xq_vl_le {ad : Nat → Nat → Nat} {s : xq_S} {t i : Nat} (h : xq_vl ad s t i) : t ≤ 12 ∧ (t ≤ 8 → i = 0) := by unfold xq_vl at h; omega
/-- one cell changes: the others' pictures stay -/
theorem xq_rp_up {Y : xw_Y} {ad : Nat → Nat → Nat} {s s' : xq_S} {w : xw_W} {t i : Nat} (h : xq_rp Y ad s w) (hv : xq_vl ad s t i) (hvl : ∀ t' i', xq_vl ad s' t' i' → xq_vl ad s t' i') (hen : ∀ t' i', xq_vl ad s t' i' → ¬ (t' = t ∧ i' = i) → xq_en Y ad s' t' i' = xq_en Y ad s t' i') (hwf : xq_wf s') (hcp : xq_cp Y ad s') {x : va_E} (hx : xq_en Y ad s' t i = x) : xq_rp Y ad s' (w.1, va_up w.2 (ad t i) x) := by
  refine ⟨fun t' i' hv' => ?_, fun t1 i1 t2 i2 h1 h2 e => h.2.1 t1 i1 t2 i2 (hvl _ _ h1) (hvl _ _ h2) e, hwf, hcp⟩
  have hv0 := hvl _ _ hv'
  obtain ⟨h1, h2⟩ := h.1 t' i' hv0
  refine ⟨h1, ?_⟩
  by_cases he : t' = t ∧ i' = i
  · obtain ⟨rfl, rfl⟩ := he
    show va_up w.2 _ _ _ = _
    rw [va_up_self, hx]
  · show va_up w.2 _ _ _ = _
    rw [va_up_ne _ _ (fun q => he (h.2.1 _ _ _ _ hv0 hv q)), h2, hen _ _ hv0 he]
theorem xq_wf_i {s : xq_S} {c e : Nat} {v : Int32} (h : xq_wf s) (hb : c = 905 → v = 0 ∨ v = 1) : xq_wf (xu_i s c e v) := by
  obtain ⟨h1, h2, h3, h4, h5, h6, h7⟩ := h
  refine ⟨h1, h2, h3, h4, h5, h6, fun k hk => ?_⟩
  rw [xq_i_i]
  split
  · next z => exact hb z.1.symm
  · exact h7 k hk
theorem xq_rp_i {Y : xw_Y} {ad : Nat → Nat → Nat} {s : xq_S} {w : xw_W} {t i c e : Nat} {v : Int32} (h : xq_rp Y ad s w) (hv : xq_vl ad s t i) (hc : c / 100 = t) (he : e = i ∨ t ≤ 8) (hb : c = 905 → v = 0 ∨ v = 1) {x : va_E} (hx : xq_en Y ad (xu_i s c e v) t i = x) : xq_rp Y ad (xu_i s c e v) (w.1, va_up w.2 (ad t i) x) := by
  refine xq_rp_up (s' := xu_i s c e v) h hv (fun _ _ q => q) (fun t' i' hv' hne => xq_en_i (xq_vl_le hv').1 ?_) (xq_wf_i h.2.2.1 hb) h.2.2.2 hx
  by_cases ht : t' = t
  · right
    have h1 := xq_vl_le hv
    have h2 := xq_vl_le hv'
    subst ht
    rcases he with rfl | he
    · exact ⟨by
        by_cases h8 : t' ≤ 8
        · exact absurd ⟨rfl, by rw [h1.2 h8, h2.2 h8]⟩ hne
        · omega, fun q => hne ⟨rfl, q⟩⟩
    · exact absurd ⟨rfl, by rw [h1.2 he, h2.2 he]⟩ hne
  · left
    omega
theorem xq_wf_r {s : xq_S} {c e : Nat} {v : Option Nat} (h : xq_wf s) (hb : ∀ k, v = some k → (c = 906 ∨ c = 300 → k < s.2.1) ∧ (c = 1005 ∨ c = 1100 ∨ c = 1200 ∨ c = 500 → k < s.1)) : xq_wf (xu_r s c e v) := by
  obtain ⟨h1, h2, h3, h4, h5, h6, h7⟩ := h
  refine ⟨fun k b hk q => ?_, fun b k hk q => ?_, fun b k hk q => ?_, fun b k hk q => ?_, fun b k q => ?_, fun b k q => ?_, h7⟩
  · rw [xq_r_r] at q
    split at q
    · next z => exact (hb _ q).1 (Or.inl z.1.symm)
    · exact h1 k b hk q
  · rw [xq_r_r] at q
    split at q
    · next z => exact (hb _ q).2 (Or.inl z.1.symm)
    · exact h2 b k hk q
  · rw [xq_r_r] at q
    split at q
    · next z => exact (hb _ q).2 (Or.inr (Or.inl z.1.symm))
    · exact h3 b k hk q
  · rw [xq_r_r] at q
    split at q
    · next z => exact (hb _ q).2 (Or.inr (Or.inr (Or.inl z.1.symm)))
    · exact h4 b k hk q
  · rw [xq_r_r] at q
    split at q
    · next z => exact (hb _ q).1 (Or.inr z.1.symm)
    · exact h5 b k q
  · rw [xq_r_r] at q
    split at q
    · next z => exact (hb _ q).2 (Or.inr (Or.inr (Or.inr z.1.symm)))
    · exact h6 b k q
theorem xq_rp_r {Y : xw_Y} {ad : Nat → Nat → Nat} {s : xq_S} {w : xw_W} {t i c e : Nat} {v : Option Nat} (h : xq_rp Y ad s w) (hv : xq_vl ad s t i) (hc : c / 100 = t) (he : e = i ∨ t ≤ 8) (hb : ∀ k, v = some k → (c = 906 ∨ c = 300 → k < s.2.1) ∧ (c = 1005 ∨ c = 1100 ∨ c = 1200 ∨ c = 500 → k < s.1)) {x : va_E} (hx : xq_en Y ad (xu_r s c e v) t i = x) : xq_rp Y ad (xu_r s c e v) (w.1, va_up w.2 (ad t i) x) := by
  refine xq_rp_up (s' := xu_r s c e v) h hv (fun _ _ q => q) (fun t' i' hv' hne => xq_en_r (xq_vl_le hv').1 ?_) (xq_wf_r h.2.2.1 hb) h.2.2.2 hx
  by_cases ht : t' = t
  · right
    have h1 := xq_vl_le hv
    have h2 := xq_vl_le hv'
    subst ht
    rcases he with rfl | he
    · exact ⟨by
        by_cases h8 : t' ≤ 8
        · exact absurd ⟨rfl, by rw [h1.2 h8, h2.2 h8]⟩ hne
        · omega, fun q => hne ⟨rfl, q⟩⟩
    · exact absurd ⟨rfl, by rw [h1.2 he, h2.2 he]⟩ hne
  · left
    omega
end XST
/-! rows of a run over the picture -/
section XSR
variable {tb : List (Nat × xw_T)} {Rt : xw_R} {pc : Nat} {lv : xw_L} {st r : List Value} {w : xw_W} {k n : Nat} {Y : xw_Y} {ad : Nat → Nat → Nat} {s : xq_S} {t i : Nat}
theorem rp_getf {nx ci kf : Nat} {fs : List Value} {u : Value} (hR : xq_rp Y ad s w) (h : xw_lk tb pc = some (tr_getf nx ci kf)) (hv : xq_vl ad s t i) (he : xq_en Y ad s t i = .inr (ci, fs)) (hu : fs[kf]? = some u) (hk : xw_Run tb Rt nx lv (u :: r) w k n) : xw_Run tb Rt pc lv (.ref (ad t i) :: r) w k n :=
  rn_getf h (hR.1 t i hv).1 ((hR.1 t i hv).2.trans he) hu hk
theorem rp_cast {nx ci : Nat} {fs : List Value} (hR : xq_rp Y ad s w) (h : xw_lk tb pc = some (tr_cast nx ci)) (hv : xq_vl ad s t i) (he : xq_en Y ad s t i = .inr (ci, fs)) (hk : xw_Run tb Rt nx lv (.ref (ad t i) :: r) w k n) : xw_Run tb Rt pc lv (.ref (ad t i) :: r) w k n :=
  rn_cast h (hR.1 t i hv).1 ((hR.1 t i hv).2.trans he) hk
theorem rp_puti {nx ci kf c : Nat} {ty : FieldType} {fs : List Value} {x : Int32} (hR : xq_rp Y ad s w) (h : xw_lk tb pc = some (tr_putf nx ci kf ty)) (hv : xq_vl ad s t i) (he : xq_en Y ad s t i = .inr (ci, fs)) (hl : kf < fs.length) (hf : xw_fit ty (.int x)) (hc : c / 100 = t) (hb : c = 905 → x = 0 ∨ x = 1) (hs : xq_en Y ad (xu_i s c i x) t i = .inr (ci, fs.set kf (.int x))) (hk : ∀ w', xq_rp Y ad (xu_i s c i x) w' → xw_Run tb Rt nx lv r w' k n) : xw_Run tb Rt pc lv (.int x :: .ref (ad t i) :: r) w k n :=
  rn_putf h (hR.1 t i hv).1 ((hR.1 t i hv).2.trans he) hl hf (hk _ (xq_rp_i hR hv hc (Or.inl rfl) hb hs))
theorem rp_putr {nx ci kf c : Nat} {ty : FieldType} {fs : List Value} {x : Value} {v : Option Nat} (hR : xq_rp Y ad s w) (h : xw_lk tb pc = some (tr_putf nx ci kf ty)) (hv : xq_vl ad s t i) (he : xq_en Y ad s t i = .inr (ci, fs)) (hl : kf < fs.length) (hf : xw_fit ty x) (hc : c / 100 = t) (hb : ∀ k, v = some k → (c = 906 ∨ c = 300 → k < s.2.1) ∧ (c = 1005 ∨ c = 1100 ∨ c = 1200 ∨ c = 500 → k < s.1)) (hs : xq_en Y ad (xu_r s c i v) t i = .inr (ci, fs.set kf x)) (hk : ∀ w', xq_rp Y ad (xu_r s c i v) w' → xw_Run tb Rt nx lv r w' k n) : xw_Run tb Rt pc lv (x :: .ref (ad t i) :: r) w k n :=
  rn_putf h (hR.1 t i hv).1 ((hR.1 t i hv).2.trans he) hl hf (hk _ (xq_rp_r hR hv hc (Or.inl rfl) hb hs))
theorem rp_callV {nx na ci mc ms MC MS : Nat} {PT : xw_PT} {fs : List Value} (hR : xq_rp Y ad s w) (h : xw_lk tb pc = some (tr_callV nx na ci PT mc ms MC MS)) (hs : st.drop na = .ref (ad t i) :: r) (hv : xq_vl ad s t i) (he : xq_en Y ad s t i = .inr (ci, fs)) (hc : (r.map fun v => v.category).sum ≤ 8) (h1 : k + mc ≤ MC) (h2 : n + ms ≤ MS) (hk : PT (.ref (ad t i) :: (st.take na).reverse) w (fun v w' => xw_Run tb Rt nx lv (v.toList ++ r) w' (k + mc) (n + ms))) : xw_Run tb Rt pc lv st w k n :=
  rn_callV h hs (hR.1 t i hv).1 ((hR.1 t i hv).2.trans he) hc h1 h2 hk
end XSR
