/-! PURE: the order and the places of the fencers -/
section PU2
variable {s : xq_S}
def pu_mx (m : Nat) : Nat := if m < 1 then 1 else m
theorem pu_mxI : ∀ m, m < 201 → mo_max (nI m) 1 = nI (pu_mx m) := by decide +kernel
theorem pu_mx_pos (m : Nat) : 0 < pu_mx m := by unfold pu_mx; split <;> omega
theorem pu_iI {a b : Int32} : (if a ≤ b then (0 : Int32) else 1) = 1 ↔ b.toInt < a.toInt := by
  by_cases h : a.toInt ≤ b.toInt
  · rw [if_pos (Int32.le_iff_toInt_le.mpr h)]
    constructor
    · intro q; exact absurd q (by decide)
    · intro q; omega
  · rw [if_neg (fun z => h (Int32.le_iff_toInt_le.mp z))]
    exact ⟨fun _ => by omega, fun _ => rfl⟩
/-- numbers, and the counts W (won), M (met) -/
def pu_ok (s : xq_S) (W M : Nat → Nat) : Prop := s.1 ≤ 16 ∧ (∀ k, k < s.1 → xq_i s 900 k = nI k) ∧ (∀ k, k < s.1 → xq_i s 905 k = 0 ∨ xq_i s 905 k = 1) ∧ ∀ k, k < s.1 → xq_i s 909 k = nI (W k) ∧ xq_i s 908 k = nI (M k) ∧ W k ≤ M k ∧ M k ≤ 200
def pu_o (s : xq_S) (k : Nat) : Int := (xq_i s 905 k).toInt
def pu_l5 (s : xq_S) (M W : Nat → Nat) : Nat → Nat → Prop :=
  pu_lt (fun a b => W b * pu_mx (M a) < W a * pu_mx (M b)) (fun a b => W b * pu_mx (M a) = W a * pu_mx (M b))
  (pu_lt (fun a b => -(mo_diff s a).toInt < -(mo_diff s b).toInt) (fun a b => -(mo_diff s a).toInt = -(mo_diff s b).toInt)
  (pu_lt (fun a b => -(xq_i s 910 a).toInt < -(xq_i s 910 b).toInt) (fun a b => -(xq_i s 910 a).toInt = -(xq_i s 910 b).toInt)
  (pu_lt (fun a b => (xq_i s 901 a).toInt < (xq_i s 901 b).toInt) (fun a b => (xq_i s 901 a).toInt = (xq_i s 901 b).toInt)
  (fun a b => (xq_i s 900 a).toInt < (xq_i s 900 b).toInt))))
def pu_e5 (s : xq_S) (M W : Nat → Nat) : Nat → Nat → Prop :=
  pu_eq (fun a b => W b * pu_mx (M a) = W a * pu_mx (M b))
  (pu_eq (fun a b => -(mo_diff s a).toInt = -(mo_diff s b).toInt)
  (pu_eq (fun a b => -(xq_i s 910 a).toInt = -(xq_i s 910 b).toInt)
  (pu_eq (fun a b => (xq_i s 901 a).toInt = (xq_i s 901 b).toInt)
  (fun a b => (xq_i s 900 a).toInt = (xq_i s 900 b).toInt))))
theorem pu_sw5 (D : Nat → Prop) (M W : Nat → Nat) : pu_sw D (pu_l5 s M W) (pu_e5 s M W) :=
  pu_lex (pu_share D W (fun a => pu_mx (M a)) (fun a => pu_mx_pos _)) (pu_lex (pu_keyI D _) (pu_lex (pu_keyI D _) (pu_lex (pu_keyI D _) (pu_keyI D _))))
def pu_lA (s : xq_S) (M W : Nat → Nat) : Nat → Nat → Prop := pu_lt (fun a b => pu_o s a < pu_o s b) (fun a b => pu_o s a = pu_o s b) (pu_l5 s M W)
def pu_eA (s : xq_S) (M W : Nat → Nat) : Nat → Nat → Prop := pu_eq (fun a b => pu_o s a = pu_o s b) (pu_e5 s M W)
theorem pu_swA (D : Nat → Prop) (M W : Nat → Nat) : pu_sw D (pu_lA s M W) (pu_eA s M W) := pu_lex (pu_keyI D _) (pu_sw5 D M W)
def pu_st (s : xq_S) (k : Nat) : Int := if xq_i s 905 k = 0 then -(xq_i s 913 k).toInt else 0
def pu_lP (s : xq_S) (M W : Nat → Nat) : Nat → Nat → Prop := pu_lt (fun a b => pu_o s a < pu_o s b) (fun a b => pu_o s a = pu_o s b) (pu_lt (fun a b => pu_st s a < pu_st s b) (fun a b => pu_st s a = pu_st s b) (pu_l5 s M W))
def pu_eP (s : xq_S) (M W : Nat → Nat) : Nat → Nat → Prop := pu_eq (fun a b => pu_o s a = pu_o s b) (pu_eq (fun a b => pu_st s a = pu_st s b) (pu_e5 s M W))
theorem pu_swP (D : Nat → Prop) (M W : Nat → Nat) : pu_sw D (pu_lP s M W) (pu_eP s M W) := pu_lex (pu_keyI D _) (pu_lex (pu_keyI D _) (pu_sw5 D M W))
theorem pu_sh {M W : Nat → Nat} (h : pu_ok s W M) {k j : Nat} (hk : k < s.1) (hj : j < s.1) : mo_share s k j = nI (W k * pu_mx (M j)) ∧ W k * pu_mx (M j) < 2 ^ 31 := by
  obtain ⟨_, _, _, h4⟩ := h
  obtain ⟨x1, x2, x3, x4⟩ := h4 k hk
  obtain ⟨y1, y2, y3, y4⟩ := h4 j hj
  unfold mo_share
  rw [x1, y2, pu_mxI _ (by omega), pk_mul]
  have : pu_mx (M j) ≤ 200 := by unfold pu_mx; split <;> omega
  exact ⟨rfl, Nat.lt_of_le_of_lt (Nat.mul_le_mul (by omega : W k ≤ 200) this) (by decide)⟩
theorem pu_x5 {M W : Nat → Nat} (h : pu_ok s W M) {k j : Nat} (hk : k < s.1) (hj : j < s.1) : (if mo_share s k j = mo_share s j k then
      if mo_diff s k = mo_diff s j then
        if xq_i s 910 k = xq_i s 910 j then
          if xq_i s 901 k = xq_i s 901 j then (if xq_i s 900 j ≤ xq_i s 900 k then 0 else 1)
          else (if xq_i s 901 j ≤ xq_i s 901 k then 0 else 1)
        else (if xq_i s 910 k ≤ xq_i s 910 j then 0 else 1)
      else (if mo_diff s k ≤ mo_diff s j then 0 else 1)
    else (if mo_share s k j ≤ mo_share s j k then (0 : Int32) else 1)) = 1 ↔ pu_l5 s M W k j := by
  obtain ⟨u1, u2⟩ := pu_sh h hk hj
  obtain ⟨v1, v2⟩ := pu_sh h hj hk
  unfold pu_l5 pu_lt
  have i32 : ∀ {a b : Int32}, a = b ↔ a.toInt = b.toInt := fun {a b} => Int32.toInt_inj.symm
  by_cases e1 : mo_share s k j = mo_share s j k
  · have e1' : W j * pu_mx (M k) = W k * pu_mx (M j) := by rw [u1, v1, nI_eq u2 v2] at e1; exact e1.symm
    rw [if_pos e1]
    by_cases e2 : mo_diff s k = mo_diff s j
    · rw [if_pos e2]
      by_cases e3 : xq_i s 910 k = xq_i s 910 j
      · rw [if_pos e3]
        by_cases e4 : xq_i s 901 k = xq_i s 901 j
        · rw [if_pos e4, pu_iI]
          rw [i32] at e2 e3 e4
          omega
        · rw [if_neg e4, pu_iI]
          rw [i32] at e2 e3 e4
          omega
      · rw [if_neg e3, pu_iI]
        rw [i32] at e2 e3
        omega
    · rw [if_neg e2, pu_iI]
      rw [i32] at e2
      omega
  · have e1' : ¬ W j * pu_mx (M k) = W k * pu_mx (M j) := fun z => e1 (by rw [u1, v1, z])
    rw [if_neg e1, pu_iI, u1, v1, nI_toInt u2, nI_toInt v2]
    omega
theorem pu_xA {M W : Nat → Nat} (h : pu_ok s W M) {k j : Nat} (hk : k < s.1) (hj : j < s.1) : mo_ahead s k j = 1 ↔ pu_lA s M W k j := by
  unfold mo_ahead pu_lA pu_lt pu_o
  dsimp only
  by_cases e : xq_i s 905 k = xq_i s 905 j
  · rw [if_pos e, pu_x5 h hk hj, e]
    constructor
    · intro q; exact Or.inr ⟨rfl, q⟩
    · rintro (q | q)
      · omega
      · exact q.2
  · rw [if_neg e]
    rcases h.2.2.1 k hk with hk0 | hk1 <;> rcases h.2.2.1 j hj with hj0 | hj1
    · exact absurd (hk0.trans hj0.symm) e
    · rw [hk0, hj1]
      exact ⟨fun _ => Or.inl (by decide), fun _ => rfl⟩
    · rw [hk1, hj0]
      constructor
      · intro q; exact absurd q (by decide)
      · rintro (q | q)
        · exact absurd q (by decide)
        · exact absurd q.1 (by decide)
    · exact absurd (hk1.trans hj1.symm) e
theorem pu_xP {M W : Nat → Nat} (h : pu_ok s W M) {k j : Nat} (hk : k < s.1) (hj : j < s.1) : mo_placed s k j = 1 ↔ pu_lP s M W k j := by
  have hA := pu_xA h hk hj
  have i32 : ∀ {a b : Int32}, a = b ↔ a.toInt = b.toInt := fun {a b} => Int32.toInt_inj.symm
  unfold mo_placed pu_lP
  unfold pu_lA at hA
  unfold pu_lt at hA ⊢
  dsimp only at hA ⊢
  rcases h.2.2.1 k hk with hk0 | hk1 <;> rcases h.2.2.1 j hj with hj0 | hj1
  · have eo : pu_o s k = pu_o s j := by unfold pu_o; rw [hk0, hj0]
    have s1 : pu_st s k = -(xq_i s 913 k).toInt := by unfold pu_st; rw [if_pos hk0]
    have s2 : pu_st s j = -(xq_i s 913 j).toInt := by unfold pu_st; rw [if_pos hj0]
    by_cases e : xq_i s 913 k = xq_i s 913 j
    · rw [if_neg (fun z => z.2.2 e), hA, s1, s2]
      rw [i32] at e
      constructor
      · rintro (q | q)
        · omega
        · exact Or.inr ⟨q.1, Or.inr ⟨by omega, q.2⟩⟩
      · rintro (q | ⟨q, (r | r)⟩)
        · omega
        · omega
        · exact Or.inr ⟨q, r.2⟩
    · rw [if_pos ⟨hk0, hj0, e⟩, pu_iI, s1, s2]
      rw [i32] at e
      omega
  all_goals
    have e : ¬ (xq_i s 905 k = 0 ∧ xq_i s 905 j = 0 ∧ ¬ xq_i s 913 k = xq_i s 913 j) := fun z => by
      first
        | exact absurd (hj1.symm.trans z.2.1) (by decide)
        | exact absurd (hk1.symm.trans z.1) (by decide)
    rw [if_neg e, hA]
    have es : pu_o s k = pu_o s j → pu_st s k = pu_st s j := fun z => by
      unfold pu_o at z
      unfold pu_st
      rw [← i32] at z
      rw [z]
      first
        | rw [if_neg (by rw [hj1]; decide), if_neg (by rw [hj1]; decide)]
        | exact absurd (hk1.symm.trans (z.trans hj0)) (by decide)
    constructor
    · rintro (q | q)
      · exact Or.inl q
      · exact Or.inr ⟨q.1, Or.inr ⟨es q.1, q.2⟩⟩
    · rintro (q | ⟨q, (r | r)⟩)
      · exact Or.inl q
      · have := es q
        omega
      · exact Or.inr ⟨q, r.2⟩
theorem pu_num {M W : Nat → Nat} (h : pu_ok s W M) {a b : Nat} (ha : a < s.1) (hb : b < s.1) (e : pu_e5 s M W a b) : a = b := by
  have e := e.2.2.2.2
  have e : (xq_i s 900 a).toInt = (xq_i s 900 b).toInt := e
  have h1 := h.1
  rw [h.2.1 a ha, h.2.1 b hb, nI_toInt (by omega), nI_toInt (by omega)] at e
  omega
theorem pu_ranks {M W : Nat → Nat} (h : pu_ok s W M) : (∀ a, a < s.1 → mo_rank s a < s.1) ∧ (∀ a b, a < s.1 → b < s.1 → pu_lA s M W a b → mo_rank s a < mo_rank s b) ∧ (∀ a b, a < s.1 → b < s.1 → mo_rank s a = mo_rank s b → a = b) :=
  pu_rank (pu_swA _ M W) (fun a b ha hb e => pu_num h ha hb e.2) (fun j a => decide (mo_ahead s j a = 1)) (fun a b ha hb => by rw [decide_eq_true_iff]; exact pu_xA h ha hb)
theorem pu_plcs {M W : Nat → Nat} (h : pu_ok s W M) : (∀ a, a < s.1 → mo_plc s a < s.1) ∧ (∀ a b, a < s.1 → b < s.1 → pu_lP s M W a b → mo_plc s a < mo_plc s b) ∧ (∀ a b, a < s.1 → b < s.1 → mo_plc s a = mo_plc s b → a = b) :=
  pu_rank (pu_swP _ M W) (fun a b ha hb e => pu_num h ha hb e.2.2) (fun j a => decide (mo_placed s j a = 1)) (fun a b ha hb => by rw [decide_eq_true_iff]; exact pu_xP h ha hb)
theorem pu_oL {a b : Nat} (ha : xq_i s 905 a = 0) (hb : xq_i s 905 b = 1) : pu_o s a < pu_o s b := by
  unfold pu_o
  rw [ha, hb]
  decide
/-- seeds -/
theorem pu_seed {M W : Nat → Nat} (h : pu_ok s W M) {i : Nat} (hi : i < s.1) : ∃ k, k < s.1 ∧ mo_inOrder s (nI i) = some k ∧ mo_rank s k = i := by
  obtain ⟨h1, h2, h3⟩ := pu_ranks h
  obtain ⟨k, hk, e⟩ := pu_pg s.1 (mo_rank s) h1 (fun a b ha hb q => h3 a b ha hb q) i hi
  have h16 := h.1
  cases hf : mo_inOrder s (nI i) with
  | some j =>
    obtain ⟨q1, q2⟩ := xq_fd_lt hf
    rw [decide_eq_true_iff, nI_eq (by have := h1 j q1; omega) (by omega)] at q2
    exact ⟨j, q1, rfl, q2⟩
  | none =>
    exfalso
    have : ∀ n, k < n → xq_fd (fun k => decide (nI (mo_rank s k) = nI i)) n = none → False := by
      intro n
      induction n with
      | zero => intro q; omega
      | succ n ih =>
        intro q1 q2
        rw [xq_fd] at q2
        cases h5 : xq_fd (fun k => decide (nI (mo_rank s k) = nI i)) n with
        | some j => rw [h5] at q2; cases q2
        | none =>
          by_cases e2 : k = n
          · subst e2
            rw [h5] at q2
            simp [e] at q2
          · exact ih (by omega) h5
    exact this s.1 hk hf
theorem pu_seedIn {M W : Nat → Nat} (h : pu_ok s W M) {L k : Nat} (hL : s.1 = mo_outs s + L) (hk : k < s.1) (hr : mo_rank s k < L) : xq_i s 905 k = 0 := by
  rcases h.2.2.1 k hk with q | q
  · exact q
  · exfalso
    have key : xq_ct (fun j => !decide (¬ xq_i s 905 j = 0)) s.1 ≤ mo_rank s k := pu_ct_le (fun j hj z => by
      have hj0 : xq_i s 905 j = 0 := by
        by_cases e : xq_i s 905 j = 0
        · exact e
        · simp [e] at z
      exact decide_eq_true ((pu_xA h hj hk).mpr (Or.inl (pu_oL hj0 q))))
    have := pu_ct_not (fun j => decide (¬ xq_i s 905 j = 0)) s.1
    unfold mo_outs at hL
    omega
end PU2
