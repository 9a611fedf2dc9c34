/-! PURE: counts, orders, ranks -/
section PU1
theorem pu_ct_le {p q : Nat → Bool} {n : Nat} (h : ∀ i, i < n → p i = true → q i = true) : xq_ct p n ≤ xq_ct q n := by
  induction n with
  | zero => exact Nat.le_refl _
  | succ n ih =>
    have h1 := ih (fun i hi => h i (by omega))
    rw [xq_ct, xq_ct]
    by_cases hp : p n = true
    · rw [if_pos hp, if_pos (h n (by omega) hp)]
      omega
    · rw [if_neg hp]
      split <;> omega
theorem pu_ct_lt {p q : Nat → Bool} {n : Nat} (h : ∀ i, i < n → p i = true → q i = true) {j : Nat} (hj : j < n) (hp : ¬ p j = true) (hq : q j = true) : xq_ct p n < xq_ct q n := by
  induction n with
  | zero => omega
  | succ n ih =>
    rw [xq_ct, xq_ct]
    by_cases e : j = n
    · subst e
      have h1 := pu_ct_le (p := p) (q := q) (n := j) (fun i hi => h i (by omega))
      rw [if_neg hp, if_pos hq]
      omega
    · have h1 := ih (fun i hi => h i (by omega)) (by omega)
      by_cases hpn : p n = true
      · rw [if_pos hpn, if_pos (h n (by omega) hpn)]
        omega
      · rw [if_neg hpn]
        split <;> omega
theorem pu_ct_eq {p q : Nat → Bool} {n : Nat} (h : ∀ i, i < n → p i = q i) : xq_ct p n = xq_ct q n := by
  induction n with
  | zero => rfl
  | succ n ih => rw [xq_ct, xq_ct, ih (fun i hi => h i (by omega)), h n (by omega)]
theorem pu_ct_up {p q : Nat → Bool} {n b : Nat} (hb : b < n) (hp : p b = false) (hq : q b = true) (h : ∀ i, i < n → ¬ i = b → p i = q i) : xq_ct q n = xq_ct p n + 1 := by
  induction n with
  | zero => omega
  | succ n ih =>
    rw [xq_ct, xq_ct]
    by_cases e : b = n
    · subst e
      rw [pu_ct_eq (p := p) (q := q) (fun i hi => h i (by omega) (by omega)), hp, hq]
      rfl
    · rw [ih (by omega) (fun i hi => h i (by omega)), h n (by omega) (by omega)]
      split <;> omega
theorem pu_ct_n {p : Nat → Bool} {n : Nat} (h : ∀ i, i < n → p i = true) : xq_ct p n = n := by
  induction n with
  | zero => rfl
  | succ n ih => rw [xq_ct, ih (fun i hi => h i (by omega)), if_pos (h n (by omega))]
theorem pu_ct_0 {p : Nat → Bool} {n : Nat} (h : xq_ct p n = 0) : ∀ i, i < n → p i = false := by
  induction n with
  | zero => intro i hi; omega
  | succ n ih =>
    rw [xq_ct] at h
    intro i hi
    by_cases e : i = n
    · subst e
      cases hp : p i with
      | false => rfl
      | true => rw [hp] at h; simp at h
    · exact ih (by omega) i (by omega)
theorem pu_ct_not (p : Nat → Bool) (n : Nat) : xq_ct p n + xq_ct (fun i => !p i) n = n := by
  induction n with
  | zero => rfl
  | succ n ih =>
    rw [xq_ct, xq_ct]
    cases hp : p n <;> simp <;> omega
/-- from n onto n -/
theorem pu_pg : ∀ (n : Nat) (f : Nat → Nat), (∀ i, i < n → f i < n) → (∀ i j, i < n → j < n → f i = f j → i = j) → ∀ j, j < n → ∃ i, i < n ∧ f i = j
  | 0, _, _, _, j, hj => absurd hj (by omega)
  | n + 1, f, h1, h2, j, hj => by
    by_cases hv : f n = n
    · by_cases e : j = n
      · exact ⟨n, by omega, by omega⟩
      · obtain ⟨i, hi, q⟩ := pu_pg n f (fun i hi => by
          have h3 := h1 i (by omega)
          by_cases e3 : f i = n
          · have := h2 i n (by omega) (by omega) (by omega)
            omega
          · omega) (fun i j hi hj q => h2 i j (by omega) (by omega) q) j (by omega)
        exact ⟨i, by omega, q⟩
    · have hn := h1 n (by omega)
      have key := pu_pg n (fun i => if f i = n then f n else f i) (fun i hi => by
          show (if f i = n then f n else f i) < n
          have h3 := h1 i (by omega)
          split <;> omega) (fun i j hi hj q => by
          have q : (if f i = n then f n else f i) = (if f j = n then f n else f j) := q
          by_cases e1 : f i = n
          · by_cases e2 : f j = n
            · exact h2 i j (by omega) (by omega) (by omega)
            · rw [if_pos e1, if_neg e2] at q
              have := h2 n j (by omega) (by omega) q
              omega
          · by_cases e2 : f j = n
            · rw [if_neg e1, if_pos e2] at q
              have := h2 i n (by omega) (by omega) q
              omega
            · rw [if_neg e1, if_neg e2] at q
              exact h2 i j (by omega) (by omega) q)
      by_cases e : j = f n
      · exact ⟨n, by omega, e.symm⟩
      · by_cases e4 : j = n
        · obtain ⟨i, hi, q⟩ := key (f n) (by omega)
          have q : (if f i = n then f n else f i) = f n := q
          by_cases e1 : f i = n
          · exact ⟨i, by omega, by omega⟩
          · rw [if_neg e1] at q
            have := h2 i n (by omega) (by omega) q
            omega
        · obtain ⟨i, hi, q⟩ := key j (by omega)
          have q : (if f i = n then f n else f i) = j := q
          by_cases e1 : f i = n
          · rw [if_pos e1] at q
            omega
          · rw [if_neg e1] at q
            exact ⟨i, by omega, q⟩
/-- bits -/
def pu_or (f : Nat → Nat) : Nat → Nat
  | 0 => 0
  | k + 1 => pu_or f k ||| 2 ^ f k
theorem pu_or_bit (f : Nat → Nat) (j : Nat) : ∀ k, (pu_or f k).testBit j = true ↔ ∃ i, i < k ∧ f i = j
  | 0 => by
    rw [pu_or, Nat.zero_testBit]
    constructor
    · intro q; cases q
    · rintro ⟨i, hi, _⟩; omega
  | k + 1 => by
    rw [pu_or, Nat.testBit_or, Bool.or_eq_true, pu_or_bit f j k, Nat.testBit_two_pow, decide_eq_true_iff]
    constructor
    · rintro (⟨i, hi, q⟩ | q)
      · exact ⟨i, by omega, q⟩
      · exact ⟨k, by omega, q⟩
    · rintro ⟨i, hi, q⟩
      by_cases e : i = k
      · subst e; exact Or.inr q
      · exact Or.inl ⟨i, by omega, q⟩
theorem pu_or_all {n : Nat} {f : Nat → Nat} (h1 : ∀ i, i < n → f i < n) (h2 : ∀ i j, i < n → j < n → f i = f j → i = j) : pu_or f n = 2 ^ n - 1 := by
  apply Nat.eq_of_testBit_eq
  intro j
  rw [Nat.testBit_two_pow_sub_one, Bool.eq_iff_iff, pu_or_bit, decide_eq_true_iff]
  constructor
  · rintro ⟨i, hi, rfl⟩; exact h1 i hi
  · intro hj; exact pu_pg n f h1 h2 j hj
theorem pu_or_lt {n : Nat} {f : Nat → Nat} (h1 : ∀ i, i < n → f i < n) : ∀ k, k ≤ n → pu_or f k < 2 ^ n
  | 0, _ => Nat.two_pow_pos n
  | k + 1, hk => Nat.or_lt_two_pow (pu_or_lt h1 k (by omega)) (Nat.pow_lt_pow_right (by decide) (h1 k (by omega)))
theorem pu_orI : ∀ m, m < 256 → ∀ r, r < 8 → nI m ||| ((1 : Int32) <<< (nI r &&& 31)) = nI (m ||| 2 ^ r) := by decide +kernel
theorem pu_allI : ∀ n, n < 9 → ((1 : Int32) <<< (nI n &&& 31)) - 1 = nI (2 ^ n - 1) := by decide +kernel
/-- an order with ties, by what is ahead and what is the same -/
def pu_sw (D : Nat → Prop) (lt eq : Nat → Nat → Prop) : Prop := (∀ a b c, D a → D b → D c → lt a b → lt b c → lt a c) ∧ (∀ a b c, D a → D b → D c → lt a b → eq b c → lt a c) ∧ (∀ a b c, D a → D b → D c → eq a b → lt b c → lt a c) ∧ (∀ a b c, D a → D b → D c → eq a b → eq b c → eq a c) ∧ (∀ a, D a → ¬ lt a a) ∧ (∀ a b, D a → D b → lt a b ∨ eq a b ∨ lt b a) ∧ (∀ a b, D a → D b → eq a b → eq b a)
def pu_lt (l1 e1 l2 : Nat → Nat → Prop) (a b : Nat) : Prop := l1 a b ∨ (e1 a b ∧ l2 a b)
def pu_eq (e1 e2 : Nat → Nat → Prop) (a b : Nat) : Prop := e1 a b ∧ e2 a b
theorem pu_lex {D : Nat → Prop} {l1 e1 l2 e2 : Nat → Nat → Prop} (h1 : pu_sw D l1 e1) (h2 : pu_sw D l2 e2) : pu_sw D (pu_lt l1 e1 l2) (pu_eq e1 e2) := by
  obtain ⟨a1, a2, a3, a4, a5, a6, a7⟩ := h1
  obtain ⟨b1, b2, b3, b4, b5, b6, b7⟩ := h2
  refine ⟨fun a b c ha hb hc p q => ?_, fun a b c ha hb hc p q => ?_, fun a b c ha hb hc p q => ?_, fun a b c ha hb hc p q => ⟨a4 a b c ha hb hc p.1 q.1, b4 a b c ha hb hc p.2 q.2⟩, fun a ha p => ?_, fun a b ha hb => ?_, fun a b ha hb p => ⟨a7 a b ha hb p.1, b7 a b ha hb p.2⟩⟩
  · rcases p with p | p <;> rcases q with q | q
    · exact Or.inl (a1 a b c ha hb hc p q)
    · exact Or.inl (a2 a b c ha hb hc p q.1)
    · exact Or.inl (a3 a b c ha hb hc p.1 q)
    · exact Or.inr ⟨a4 a b c ha hb hc p.1 q.1, b1 a b c ha hb hc p.2 q.2⟩
  · rcases p with p | p
    · exact Or.inl (a2 a b c ha hb hc p q.1)
    · exact Or.inr ⟨a4 a b c ha hb hc p.1 q.1, b2 a b c ha hb hc p.2 q.2⟩
  · rcases q with q | q
    · exact Or.inl (a3 a b c ha hb hc p.1 q)
    · exact Or.inr ⟨a4 a b c ha hb hc p.1 q.1, b3 a b c ha hb hc p.2 q.2⟩
  · rcases p with p | p
    · exact a5 a ha p
    · exact b5 a ha p.2
  · rcases a6 a b ha hb with q | q | q
    · exact Or.inl (Or.inl q)
    · rcases b6 a b ha hb with r | r | r
      · exact Or.inl (Or.inr ⟨q, r⟩)
      · exact Or.inr (Or.inl ⟨q, r⟩)
      · exact Or.inr (Or.inr (Or.inr ⟨a7 a b ha hb q, r⟩))
    · exact Or.inr (Or.inr (Or.inl q))
theorem pu_keyI (D : Nat → Prop) (f : Nat → Int) : pu_sw D (fun a b => f a < f b) (fun a b => f a = f b) :=
  ⟨fun a b c _ _ _ p q => by omega, fun a b c _ _ _ p q => by omega, fun a b c _ _ _ p q => by omega, fun a b c _ _ _ p q => by omega, fun a _ => by omega, fun a b _ _ => by omega, fun a b _ _ p => by omega⟩
theorem pu_mulc {a b c d e f : Nat} (hb : 0 < b) (hd : 0 < d) (hf : 0 < f) (h1 : c * b ≤ a * d) (h2 : e * d ≤ c * f) : e * b ≤ a * f ∧ (c * b < a * d → e * b < a * f) ∧ (e * d < c * f → e * b < a * f) := by
  have k1 : c * b * f ≤ a * d * f := Nat.mul_le_mul_right f h1
  have k2 : e * d * b ≤ c * f * b := Nat.mul_le_mul_right b h2
  have x1 : c * b * f = c * f * b := by rw [Nat.mul_assoc, Nat.mul_comm b f, ← Nat.mul_assoc]
  have x2 : a * d * f = d * (a * f) := by rw [Nat.mul_comm a d, Nat.mul_assoc]
  have x3 : e * d * b = d * (e * b) := by rw [Nat.mul_comm e d, Nat.mul_assoc]
  refine ⟨Nat.le_of_mul_le_mul_left (by omega : d * (e * b) ≤ d * (a * f)) hd, fun h => ?_, fun h => ?_⟩
  · have k3 : c * b * f < a * d * f := Nat.mul_lt_mul_of_pos_right h hf
    exact Nat.lt_of_mul_lt_mul_left (by omega : d * (e * b) < d * (a * f))
  · have k3 : e * d * b < c * f * b := Nat.mul_lt_mul_of_pos_right h hb
    exact Nat.lt_of_mul_lt_mul_left (by omega : d * (e * b) < d * (a * f))
theorem pu_share (D : Nat → Prop) (W M : Nat → Nat) (hM : ∀ a, 0 < M a) : pu_sw D (fun a b => W b * M a < W a * M b) (fun a b => W b * M a = W a * M b) := by
  refine ⟨fun a b c _ _ _ p q => ?_, fun a b c _ _ _ p q => ?_, fun a b c _ _ _ p q => ?_, fun a b c _ _ _ p q => ?_, fun a _ => by omega, fun a b _ _ => by omega, fun a b _ _ p => by omega⟩
  · exact (pu_mulc (hM a) (hM b) (hM c) (Nat.le_of_lt p) (Nat.le_of_lt q)).2.1 p
  · have q : W c * M b = W b * M c := q
    exact (pu_mulc (hM a) (hM b) (hM c) (Nat.le_of_lt p) (Nat.le_of_eq q)).2.1 p
  · have p : W b * M a = W a * M b := p
    exact (pu_mulc (hM a) (hM b) (hM c) (Nat.le_of_eq p) (Nat.le_of_lt q)).2.2 q
  · have p : W b * M a = W a * M b := p
    have q : W c * M b = W b * M c := q
    exact Nat.le_antisymm (pu_mulc (hM a) (hM b) (hM c) (Nat.le_of_eq p) (Nat.le_of_eq q)).1 (pu_mulc (hM c) (hM b) (hM a) (Nat.le_of_eq q.symm) (Nat.le_of_eq p.symm)).1
/-- ranks in an order without ties -/
theorem pu_rank {n : Nat} {lt eq : Nat → Nat → Prop} (h : pu_sw (fun a => a < n) lt eq) (he : ∀ a b, a < n → b < n → eq a b → a = b) (p : Nat → Nat → Bool) (hp : ∀ a b, a < n → b < n → (p a b = true ↔ lt a b)) : (∀ a, a < n → xq_ct (fun j => p j a) n < n) ∧ (∀ a b, a < n → b < n → lt a b → xq_ct (fun j => p j a) n < xq_ct (fun j => p j b) n) ∧ (∀ a b, a < n → b < n → xq_ct (fun j => p j a) n = xq_ct (fun j => p j b) n → a = b) := by
  obtain ⟨a1, a2, a3, a4, a5, a6, a7⟩ := h
  have hlt : ∀ a b, a < n → b < n → lt a b → xq_ct (fun j => p j a) n < xq_ct (fun j => p j b) n := fun a b ha hb q =>
    pu_ct_lt (p := fun j => p j a) (q := fun j => p j b) (fun i hi z => (hp i b hi hb).mpr (a1 i a b hi ha hb ((hp i a hi ha).mp z) q)) ha (fun z => a5 a ha ((hp a a ha ha).mp z)) ((hp a b ha hb).mpr q)
  refine ⟨fun a ha => ?_, hlt, fun a b ha hb q => ?_⟩
  · have := pu_ct_lt (p := fun j => p j a) (q := fun _ => true) (n := n) (fun _ _ _ => rfl) ha (fun z => a5 a ha ((hp a a ha ha).mp z)) rfl
    rwa [pu_ct_n (fun _ _ => rfl)] at this
  · rcases a6 a b ha hb with r | r | r
    · have := hlt a b ha hb r
      omega
    · exact he a b ha hb r
    · have := hlt b a hb ha r
      omega
end PU1
