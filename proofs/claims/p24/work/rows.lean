section
/-! A WORLD IS A LIST OF ADDRESSES AND WHAT EACH HOLDS; an instruction is a step over such worlds; a method is a table of steps; what a run of a table gives (xw_Run) holds of the machine (xw_met). -/
section XW
abbrev xw_W : Type := List Nat × (Nat → va_E)
abbrev xw_L : Type := List (Nat × Value)
abbrev xw_K : Type := Nat → xw_L → List Value → xw_W → Nat → Nat → Prop
abbrev xw_R : Type := Option Value → xw_W → Nat → Nat → Prop
abbrev xw_T : Type := xw_R → xw_L → List Value → xw_W → Nat → Nat → xw_K → Prop
abbrev xw_PT : Type := List Value → xw_W → (Option Value → xw_W → Prop) → Prop
/-- what lies outside: the empty row of ArrayList, the mirror of Object[], the script's address, its length, its ints -/
abbrev xw_E : Type := (Nat × Nat) × Nat × Nat × (Nat → Int32)
def xw_lk {α : Type _} : List (Nat × α) → Nat → Option α
  | [], _ => none
  | q :: t, j => if j = q.1 then some q.2 else xw_lk t j
theorem xw_lk_mem {α : Type _} {t : List (Nat × α)} {j : Nat} {x : α} (h : xw_lk t j = some x) : (j, x) ∈ t := by
  induction t with
  | nil => cases h
  | cons q t ih =>
    unfold xw_lk at h
    split at h
    · next e =>
      cases h
      rw [e]
      exact List.mem_cons_self
    · exact List.mem_cons_of_mem _ (ih h)
theorem xw_lk_at {ls : Array Slot} {nL i : Nat} {lv : xw_L} {v : Value} (h : lv_has ls nL lv) (hk : xw_lk lv i = some v) : ls[i]? = some (.val v) := h.2.2 (i, v) (xw_lk_mem hk)
/-- locals behind a store of one word, of two -/
def xw_s1 (i : Nat) (v : Value) (lv : xw_L) : xw_L := (i, v) :: lv.filter (fun q => !(q.1 == i) && !(q.1 + 1 == i && q.2.category == 2))
def xw_s2 (i : Nat) (v : Value) (lv : xw_L) : xw_L := (i, v) :: lv.filter (fun q => !(q.1 == i) && (!(q.1 == i + 1) && !(q.1 + 1 == i && q.2.category == 2)))
def xw_isR (v : Value) : Prop := ∃ r : Option Nat, v = va_rf r
theorem xw_isR_ref (a : Nat) : xw_isR (.ref a) := ⟨some a, rfl⟩
theorem xw_isR_null : xw_isR .null := ⟨none, rfl⟩
theorem xw_isR_rf (o : Option Nat) : xw_isR (va_rf o) := ⟨o, rfl⟩
def xw_fit (ty : FieldType) (v : Value) : Prop := narrow ty v = v ∧ fits ty v = true
/-! the steps -/
def tr_push (nx : Nat) (v : Value) : xw_T := fun _ lv st w k n K => K nx lv (v :: st) w k n
def tr_ild (nx i : Nat) : xw_T := fun _ lv st w k n K => ∃ x : Int32, xw_lk lv i = some (.int x) ∧ K nx lv (.int x :: st) w k n
def tr_lld (nx i : Nat) : xw_T := fun _ lv st w k n K => ∃ x : Int64, xw_lk lv i = some (.long x) ∧ K nx lv (.long x :: st) w k n
def tr_ald (nx i : Nat) : xw_T := fun _ lv st w k n K => ∃ v : Value, xw_lk lv i = some v ∧ xw_isR v ∧ K nx lv (v :: st) w k n
def tr_ist (nx i : Nat) : xw_T := fun _ lv st w k n K => ∃ (x : Int32) (r : List Value), st = .int x :: r ∧ K nx (xw_s1 i (.int x) lv) r w k n
def tr_ast (nx i : Nat) : xw_T := fun _ lv st w k n K => ∃ (v : Value) (r : List Value), st = v :: r ∧ xw_isR v ∧ K nx (xw_s1 i v lv) r w k n
def tr_lst (nx i : Nat) : xw_T := fun _ lv st w k n K => ∃ (x : Int64) (r : List Value), st = .long x :: r ∧ K nx (xw_s2 i (.long x) lv) r w k n
def tr_inc (nx i : Nat) (d : Int32) : xw_T := fun _ lv st w k n K => ∃ x : Int32, xw_lk lv i = some (.int x) ∧ K nx (xw_s1 i (.int (x + d)) lv) st w k n
def tr_i2 (nx : Nat) (f : Int32 → Int32 → Int32) : xw_T := fun _ lv st w k n K => ∃ (x y : Int32) (r : List Value), st = .int y :: .int x :: r ∧ K nx lv (.int (f x y) :: r) w k n
def tr_i2z (nx : Nat) (f : Int32 → Int32 → Int32) : xw_T := fun _ lv st w k n K => ∃ (x y : Int32) (r : List Value), st = .int y :: .int x :: r ∧ ¬ y = 0 ∧ K nx lv (.int (f x y) :: r) w k n
def tr_l2 (nx : Nat) (f : Int64 → Int64 → Int64) : xw_T := fun _ lv st w k n K => ∃ (x y : Int64) (r : List Value), st = .long y :: .long x :: r ∧ K nx lv (.long (f x y) :: r) w k n
def tr_lcmp (nx : Nat) : xw_T := fun _ lv st w k n K => ∃ (x y : Int64) (r : List Value), st = .long y :: .long x :: r ∧ ((x < y → K nx lv (.int (-1) :: r) w k n) ∧ (x = y → K nx lv (.int 0 :: r) w k n) ∧ (y < x → K nx lv (.int 1 :: r) w k n))
def tr_i2l (nx : Nat) : xw_T := fun _ lv st w k n K => ∃ (x : Int32) (r : List Value), st = .int x :: r ∧ K nx lv (.long x.toInt64 :: r) w k n
def tr_ineg (nx : Nat) : xw_T := fun _ lv st w k n K => ∃ (x : Int32) (r : List Value), st = .int x :: r ∧ K nx lv (.int (-x) :: r) w k n
def tr_dup (nx : Nat) : xw_T := fun _ lv st w k n K => ∃ (v : Value) (r : List Value), st = v :: r ∧ v.category = 1 ∧ K nx lv (v :: v :: r) w k n
def tr_pop (nx : Nat) : xw_T := fun _ lv st w k n K => ∃ (v : Value) (r : List Value), st = v :: r ∧ v.category = 1 ∧ K nx lv r w k n
def tr_dup2 (nx : Nat) : xw_T := fun _ lv st w k n K => ∃ (u v : Value) (r : List Value), st = u :: v :: r ∧ u.category = 1 ∧ v.category = 1 ∧ K nx lv (u :: v :: u :: v :: r) w k n
def tr_dupx1 (nx : Nat) : xw_T := fun _ lv st w k n K => ∃ (u v : Value) (r : List Value), st = u :: v :: r ∧ u.category = 1 ∧ v.category = 1 ∧ K nx lv (u :: v :: u :: r) w k n
def tr_ifz (nx tg : Nat) (P : Int32 → Prop) : xw_T := fun _ lv st w k n K => ∃ (x : Int32) (r : List Value), st = .int x :: r ∧ (P x → K tg lv r w k n) ∧ (¬ P x → K nx lv r w k n)
def tr_ifc (nx tg : Nat) (P : Int32 → Int32 → Prop) : xw_T := fun _ lv st w k n K => ∃ (x y : Int32) (r : List Value), st = .int y :: .int x :: r ∧ (P x y → K tg lv r w k n) ∧ (¬ P x y → K nx lv r w k n)
def tr_ifa (t f : Nat) : xw_T := fun _ lv st w k n K => ∃ (u v : Value) (r : List Value), st = v :: u :: r ∧ xw_isR u ∧ xw_isR v ∧ (u = v → K t lv r w k n) ∧ (¬ u = v → K f lv r w k n)
def tr_ifn (t f : Nat) : xw_T := fun _ lv st w k n K => ∃ (v : Value) (r : List Value), st = v :: r ∧ xw_isR v ∧ (v = .null → K t lv r w k n) ∧ (¬ v = .null → K f lv r w k n)
def tr_goto (tg : Nat) : xw_T := fun _ lv st w k n K => K tg lv st w k n
def tr_sw (lo hi : Int) (ts : List Nat) (d : Nat) : xw_T := fun _ lv st w k n K => ∃ (x : Int32) (r : List Value), st = .int x :: r ∧ ((x.toInt < lo ∨ hi < x.toInt) → K d lv r w k n) ∧ (∀ (j t : Nat), x.toInt = lo + (j : Int) → ts[j]? = some t → K t lv r w k n)
def tr_getf (nx ci kf : Nat) : xw_T := fun _ lv st w k n K => ∃ (a : Nat) (r fs : List Value) (u : Value), st = .ref a :: r ∧ a ∈ w.1 ∧ w.2 a = .inr (ci, fs) ∧ fs[kf]? = some u ∧ K nx lv (u :: r) w k n
def tr_putf (nx ci kf : Nat) (ty : FieldType) : xw_T := fun _ lv st w k n K => ∃ (a : Nat) (u : Value) (r fs : List Value), st = u :: .ref a :: r ∧ a ∈ w.1 ∧ w.2 a = .inr (ci, fs) ∧ kf < fs.length ∧ xw_fit ty u ∧ K nx lv r (w.1, va_up w.2 a (.inr (ci, fs.set kf u))) k n
def tr_gets (nx z : Nat) : xw_T := fun _ lv st w k n K => K nx lv (.ref z :: st) w k n
def tr_new (nx ci N : Nat) (fs : List Value) (MC MS : Nat) : xw_T := fun _ lv st w k n K => k + 1 ≤ MC ∧ n + N ≤ MS ∧ ∀ q : Nat, q ∉ w.1 → K nx lv (.ref q :: st) (w.1 ++ [q], va_up w.2 q (.inr (ci, fs))) (k + 1) (n + N)
def tr_newi (nx cI : Nat) (MC MS : Nat) : xw_T := fun _ lv st w k n K => ∃ (x : Int32) (r : List Value), st = .int x :: r ∧ ¬ x < 0 ∧ x.toNatClampNeg ≤ 1000000 ∧ k + 1 ≤ MC ∧ n + x.toNatClampNeg ≤ MS ∧ ∀ q : Nat, q ∉ w.1 → K nx lv (.ref q :: r) (w.1 ++ [q], va_up w.2 q (.inl (cI, x.toNatClampNeg, .inl (fun _ => 0)))) (k + 1) (n + x.toNatClampNeg)
def tr_newq (nx cA : Nat) (MC MS : Nat) : xw_T := fun _ lv st w k n K => ∃ (x : Int32) (r : List Value), st = .int x :: r ∧ ¬ x < 0 ∧ x.toNatClampNeg ≤ 1000000 ∧ k + 1 ≤ MC ∧ n + x.toNatClampNeg ≤ MS ∧ ∀ q : Nat, q ∉ w.1 → K nx lv (.ref q :: r) (w.1 ++ [q], va_up w.2 q (.inl (cA, x.toNatClampNeg, .inr (.inr (.inr (.inr (fun _ => none))))))) (k + 1) (n + x.toNatClampNeg)
def tr_iald (nx cI : Nat) : xw_T := fun _ lv st w k n K => ∃ (i : Int32) (a N : Nat) (f : Nat → Int32) (r : List Value), st = .int i :: .ref a :: r ∧ a ∈ w.1 ∧ w.2 a = .inl (cI, N, .inl f) ∧ vp_in i N ∧ K nx lv (.int (f i.toNatClampNeg) :: r) w k n
def tr_iast (nx cI : Nat) : xw_T := fun _ lv st w k n K => ∃ (i x : Int32) (a N : Nat) (f : Nat → Int32) (r : List Value), st = .int x :: .int i :: .ref a :: r ∧ a ∈ w.1 ∧ w.2 a = .inl (cI, N, .inl f) ∧ vp_in i N ∧ K nx lv r (w.1, va_up w.2 a (.inl (cI, N, .inl (upd f i.toNatClampNeg x)))) k n
def tr_aald (nx cA : Nat) : xw_T := fun _ lv st w k n K => ∃ (i : Int32) (a N : Nat) (f : Nat → Option Nat) (r : List Value), st = .int i :: .ref a :: r ∧ a ∈ w.1 ∧ w.2 a = .inl (cA, N, .inr (.inr (.inr (.inr f)))) ∧ vp_in i N ∧ K nx lv (va_rf (f i.toNatClampNeg) :: r) w k n
def tr_aast (nx cA : Nat) (cs : List Nat) : xw_T := fun _ lv st w k n K => ∃ (i : Int32) (u : Option Nat) (a N : Nat) (f : Nat → Option Nat) (r : List Value), st = va_rf u :: .int i :: .ref a :: r ∧ a ∈ w.1 ∧ w.2 a = .inl (cA, N, .inr (.inr (.inr (.inr f)))) ∧ vp_in i N ∧ (∀ v, u = some v → v ∈ w.1 ∧ ∃ (ci : Nat) (fs : List Value), ci ∈ cs ∧ w.2 v = .inr (ci, fs)) ∧ K nx lv r (w.1, va_up w.2 a (.inl (cA, N, .inr (.inr (.inr (.inr (va_up f i.toNatClampNeg u))))))) k n
def tr_alen (nx : Nat) (cs : List Nat) : xw_T := fun _ lv st w k n K => ∃ (a N cA : Nat) (x : (Nat → Int32) ⊕ (Nat → Int64) ⊕ (Nat → UInt32) ⊕ (Nat → UInt64) ⊕ (Nat → Option Nat)) (r : List Value), st = .ref a :: r ∧ a ∈ w.1 ∧ w.2 a = .inl (cA, N, x) ∧ cA ∈ cs ∧ K nx lv (.int (Int32.ofNat N) :: r) w k n
def tr_zlen (nx z : Nat) : xw_T := fun _ lv st w k n K => ∃ r : List Value, st = .ref z :: r ∧ K nx lv (.int 0 :: r) w k n
def tr_xlen (nx : Nat) (E : xw_E) : xw_T := fun _ lv st w k n K => ∃ r : List Value, st = .ref E.2.1 :: r ∧ K nx lv (.int (Int32.ofNat E.2.2.1) :: r) w k n
def tr_xald (nx : Nat) (E : xw_E) : xw_T := fun _ lv st w k n K => ∃ (i : Int32) (r : List Value), st = .int i :: .ref E.2.1 :: r ∧ vp_in i E.2.2.1 ∧ K nx lv (.int (E.2.2.2 i.toNatClampNeg) :: r) w k n
def tr_or (T1 T2 : xw_T) : xw_T := fun Rt lv st w k n K => T1 Rt lv st w k n K ∨ T2 Rt lv st w k n K
def tr_cast (nx ci : Nat) : xw_T := fun _ lv st w k n K => ∃ (v : Value) (r : List Value), st = v :: r ∧ (v = .null ∨ ∃ (a : Nat) (fs : List Value), v = .ref a ∧ a ∈ w.1 ∧ w.2 a = .inr (ci, fs)) ∧ K nx lv (v :: r) w k n
def tr_obj (nx : Nat) : xw_T := fun _ lv st w k n K => ∃ (a : Nat) (r : List Value), st = .ref a :: r ∧ (r.map fun v => v.category).sum ≤ 8 ∧ K nx lv r w k n
def tr_max (nx MC MS : Nat) : xw_T := fun _ lv st w k n K => ∃ (x y : Int32) (r : List Value), st = .int y :: .int x :: r ∧ (r.map fun v => v.category).sum ≤ 8 ∧ k ≤ MC ∧ n ≤ MS ∧ K nx lv (.int (if x < y then y else x) :: r) w k n
def tr_min (nx MC MS : Nat) : xw_T := fun _ lv st w k n K => ∃ (x y : Int32) (r : List Value), st = .int y :: .int x :: r ∧ (r.map fun v => v.category).sum ≤ 8 ∧ k ≤ MC ∧ n ≤ MS ∧ K nx lv (.int (if y < x then y else x) :: r) w k n
def tr_getc (nx cO mi : Nat) : xw_T := fun _ lv st w k n K => ∃ (a N : Nat) (f : Nat → Option Nat) (r : List Value), st = .ref a :: r ∧ a ∈ w.1 ∧ w.2 a = .inl (cO, N, .inr (.inr (.inr (.inr f)))) ∧ (r.map fun v => v.category).sum ≤ 8 ∧ K nx lv (.ref mi :: r) w k n
def tr_copy (nx cO : Nat) (cs : List Nat) : xw_T := fun _ lv st w k n K => ∃ (sp dp c : Int32) (a b N M : Nat) (f g : Nat → Option Nat) (r : List Value), st = .int c :: .int dp :: .ref b :: .int sp :: .ref a :: r ∧ a ∈ w.1 ∧ w.2 a = .inl (cO, N, .inr (.inr (.inr (.inr f)))) ∧ b ∈ w.1 ∧ w.2 b = .inl (cO, M, .inr (.inr (.inr (.inr g)))) ∧ ¬ sp < 0 ∧ ¬ dp < 0 ∧ ¬ c < 0 ∧ sp.toNatClampNeg + c.toNatClampNeg ≤ N ∧ dp.toNatClampNeg + c.toNatClampNeg ≤ M ∧ (∀ i y : Nat, i < c.toNatClampNeg → f (sp.toNatClampNeg + i) = some y → y ∈ w.1 ∧ ∃ (ci : Nat) (fs : List Value), ci ∈ cs ∧ w.2 y = .inr (ci, fs)) ∧ (r.map fun v => v.category).sum ≤ 8 ∧ K nx lv r (w.1, va_up w.2 b (.inl (cO, M, .inr (.inr (.inr (.inr (va_cpy f g sp.toNatClampNeg dp.toNatClampNeg c.toNatClampNeg))))))) k n
def tr_callV (nx na ci : Nat) (PT : xw_PT) (mc ms MC MS : Nat) : xw_T := fun _ lv st w k n K => ∃ (a : Nat) (fs r : List Value), st.drop na = .ref a :: r ∧ a ∈ w.1 ∧ w.2 a = .inr (ci, fs) ∧ (r.map fun v => v.category).sum ≤ 8 ∧ k + mc ≤ MC ∧ n + ms ≤ MS ∧ PT (.ref a :: (st.take na).reverse) w (fun v w' => K nx lv (v.toList ++ r) w' (k + mc) (n + ms))
def tr_callI (nx na : Nat) (PT : xw_PT) (mc ms MC MS : Nat) : xw_T := fun _ lv st w k n K => ∃ (a : Nat) (r : List Value), st.drop na = .ref a :: r ∧ (r.map fun v => v.category).sum ≤ 8 ∧ k + mc ≤ MC ∧ n + ms ≤ MS ∧ PT (.ref a :: (st.take na).reverse) w (fun v w' => K nx lv (v.toList ++ r) w' (k + mc) (n + ms))
def tr_callS (nx na : Nat) (PT : xw_PT) (mc ms MC MS : Nat) : xw_T := fun _ lv st w k n K => na ≤ st.length ∧ ((st.drop na).map fun v => v.category).sum ≤ 8 ∧ k + mc ≤ MC ∧ n + ms ≤ MS ∧ PT (st.take na).reverse w (fun v w' => K nx lv (v.toList ++ st.drop na) w' (k + mc) (n + ms))
def tr_iret (ty : FieldType) : xw_T := fun Rt _ st w k n _ => ∃ x : Int32, st = [.int x] ∧ narrow ty (.int x) = .int x ∧ Rt (some (.int x)) w k n
def tr_lret : xw_T := fun Rt _ st w k n _ => ∃ x : Int64, st = [.long x] ∧ Rt (some (.long x)) w k n
def tr_aret : xw_T := fun Rt _ st w k n _ => ∃ v : Value, st = [v] ∧ xw_isR v ∧ Rt (some v) w k n
def tr_vret : xw_T := fun Rt _ st w k n _ => st = [] ∧ Rt none w k n
def tr_no : xw_T := fun _ _ _ _ _ _ _ => False
/-! runs of a table -/
def xw_Run (tb : List (Nat × xw_T)) (Rt : xw_R) : xw_K := fun pc lv st w k n => ∀ OK : xw_K, (∀ (pc : Nat) (lv : xw_L) (st : List Value) (w : xw_W) (k n : Nat) (T : xw_T) (K : xw_K), xw_lk tb pc = some T → (∀ pc lv st w k n, K pc lv st w k n → OK pc lv st w k n) → T Rt lv st w k n K → OK pc lv st w k n) → OK pc lv st w k n
theorem xw_Run.st {tb : List (Nat × xw_T)} {Rt : xw_R} {pc : Nat} {lv : xw_L} {st : List Value} {w : xw_W} {k n : Nat} {T : xw_T} (h : xw_lk tb pc = some T) (hT : T Rt lv st w k n (xw_Run tb Rt)) : xw_Run tb Rt pc lv st w k n :=
  fun OK cl => cl pc lv st w k n T (xw_Run tb Rt) h (fun _ _ _ _ _ _ hr => hr OK cl) hT
/-- some steps of a run, till a place of S -/
def xw_go (tb : List (Nat × xw_T)) (Rt : xw_R) (S : Nat → Bool) : Nat → xw_K
  | 0 => xw_Run tb Rt
  | f + 1 => fun pc lv st w k n => match xw_lk tb pc with
    | none => False
    | some T => T Rt lv st w k n (fun pc' lv' st' w' k' n' => bif S pc' then xw_Run tb Rt pc' lv' st' w' k' n' else xw_go tb Rt S f pc' lv' st' w' k' n')
theorem xw_go_run {tb : List (Nat × xw_T)} {Rt : xw_R} {S : Nat → Bool} (f : Nat) : ∀ {pc : Nat} {lv : xw_L} {st : List Value} {w : xw_W} {k n : Nat}, xw_go tb Rt S f pc lv st w k n → xw_Run tb Rt pc lv st w k n := by
  induction f with
  | zero => exact fun h => h
  | succ f ih =>
    intro pc lv st w k n h OK cl
    unfold xw_go at h
    split at h
    · exact h.elim
    · next T hT =>
      refine cl pc lv st w k n T _ hT (fun pc lv st w k n hk => ?_) h
      cases hS : S pc
      · rw [hS] at hk
        exact ih hk OK cl
      · rw [hS] at hk
        exact hk OK cl
/-- what a method's table gives, from its arguments -/
def xw_pt (tb : List (Nat × xw_T)) (nL mc ms : Nat) : xw_PT := fun av w post => (lg_sl av).length ≤ nL ∧ xw_Run tb (fun v w' k n => post v w' ∧ k ≤ mc ∧ n ≤ ms) 0 (lv_args 0 av) [] w 0 0
end XW
/-! the machine -/
section XM
/-- what the tables say that a world's rows need -/
def xw_V (E : xw_E) (U : State) : Prop := (va_Nw (.castable "Pommel$Bout" "java/lang/Object") U ∧ va_Nw (.castable "Pommel$Fencer" "java/lang/Object") U ∧ va_Nw (.methodLinkNest "Pommel$Bout" 11 ⟨"Pommel$Side", "<init>", "()V"⟩ "Pommel") U) ∧ va_AO "Pommel$Bout" U ∧ va_AO "Pommel$Fencer" U ∧ va_AO "java/lang/Object" U ∧ va_Mi "[Ljava/lang/Object;" E.1.2 U ∧ va_Dc U
theorem xw_V.same {E : xw_E} {u U : State} (hvm : u.vm = U.vm) (h : xw_V E u) : xw_V E U := by
  have ha : u.vm.Alike U.vm := by rw [hvm]; exact Vm.Alike.refl U.vm
  exact ⟨⟨h.1.1.same rfl hvm, h.1.2.1.same rfl hvm, h.1.2.2.same rfl hvm⟩, h.2.1.moved ha, h.2.2.1.moved ha, h.2.2.2.1.moved ha, h.2.2.2.2.1.moved ha, h.2.2.2.2.2.moved ha⟩
theorem xw_V.warm {E : xw_E} {u U : State} (hW : u.WarmedH U.vm) (h : xw_V E u) : xw_V E U :=
  ⟨⟨va_Nw.warmC hW h.1.1, va_Nw.warmC hW h.1.2.1, va_Nw.warmM hW h.1.2.2⟩, h.2.1.moved hW.alike, h.2.2.1.moved hW.alike, h.2.2.2.1.moved hW.alike, h.2.2.2.2.1.moved hW.alike, h.2.2.2.2.2.moved hW.alike⟩
def xw_Zh (E : xw_E) (A : Nat → Prop) (U : State) (H : Heap) : Prop := va_Z "java/util/ArrayList" "DEFAULTCAPACITY_EMPTY_ELEMENTDATA" "[Ljava/lang/Object;" (.ref E.1.1) A U H ∧ va_T (.object "java/lang/Object") E.1.1 0 (fun _ => .null) A U H ∧ va_X E.2.1 E.2.2.1 E.2.2.2 U H ∧ E.2.1 < H.size ∧ ¬ A E.2.1
theorem xw_Zh.moved {E : xw_E} {A : Nat → Prop} {u U : State} {H : Heap} (hvm : u.vm.Alike U.vm) (h : xw_Zh E A u H) : xw_Zh E A U H :=
  ⟨h.1.moved hvm, h.2.1.moved hvm, h.2.2.1.moved hvm, h.2.2.2.1, h.2.2.2.2⟩
def xw_Z (E : xw_E) (A : Nat → Prop) (U : State) (H : Heap) : Prop := xw_Zh E A U H ∧ xw_V E U
theorem xw_Z.kept {E : xw_E} {A : Nat → Prop} {U : State} {H H1 : Heap} (h : xw_Z E A U H) (hz : H.size ≤ H1.size) (hq : ∀ a : Nat, a < H.size → ¬ A a → H1[a]? = H[a]?) : xw_Z E A U H1 :=
  ⟨⟨h.1.1.kept hq, h.1.2.1.kept hq, h.1.2.2.1.kept (hq _ h.1.2.2.2.1 h.1.2.2.2.2), Nat.lt_of_lt_of_le h.1.2.2.2.1 hz, h.1.2.2.2.2⟩, h.2⟩
theorem xw_Z.narrow {E : xw_E} {A B : Nat → Prop} {U : State} {H : Heap} (h : xw_Z E A U H) (hAB : ∀ q, B q → A q) : xw_Z E B U H :=
  ⟨⟨h.1.1.narrow hAB, h.1.2.1.narrow hAB, h.1.2.2.1, h.1.2.2.2.1, fun q => h.1.2.2.2.2 (hAB _ q)⟩, h.2⟩
def xw_P (D : va_G) (cl : List vw_C) (tys : List (ClassId × FieldType)) (E : xw_E) (av : List Value) (w : xw_W) (sz : Nat) : Array Value → State → Prop := va_Pc av (fun U => U.heap.size = sz ∧ va_P D cl (va_pl w.1 w.2) U.heap ∧ va_K D cl tys U ∧ va_D (fun _ => True) (va_pl w.1 w.2) ∧ xw_Z E (va_A (va_pl w.1 w.2) sz) U U.heap)
def xw_Qp (D : va_G) (cl : List vw_C) (w : xw_W) (sz : Nat) (post : Option Value → xw_W → Prop) : Array Value → State → Outcome → State → Prop := fun _ st oc t => (∃ (v : Option Value) (w' : xw_W), oc = .returned v ∧ post v w' ∧ va_P D cl (va_pl w'.1 w'.2) t.heap ∧ va_D (va_A (va_pl w.1 w.2) sz) (va_pl w'.1 w'.2)) ∧ va_F (va_A (va_pl w.1 w.2) sz) st t
/-- a method's contract by what its table gives -/
def xw_MP (l : Launch) (D : va_G) (cl : List vw_C) (tys : List (ClassId × FieldType)) (E : xw_E) (y : MethodName) (ws : List Cond) (rm : Room) (PT : xw_PT) (mc ms : Nat) : Prop :=
  ∀ (av : List Value) (w : xw_W) (sz : Nat) (post : Option Value → xw_W → Prop), PT av w post → Met l y ws rm (xw_P D cl tys E av w sz) (xw_Qp D cl w sz post) mc ms (va_A (va_pl w.1 w.2) sz)
theorem xw_blind (D : va_G) (cl : List vw_C) (tys : List (ClassId × FieldType)) (E : xw_E) (av : List Value) (w : xw_W) (sz : Nat) : FrameBlind (xw_P D cl tys E av w sz) := fun a U g mk q => by
  obtain ⟨q0, q1, qP, qK, qD, qZ⟩ := q
  exact ⟨q0, q1, qP, va_K.moved (u := U) (U := U.calling g mk a) (Vm.Alike.refl U.vm) qK, qD, ⟨xw_Zh.moved (u := U) (U := U.calling g mk a) (Vm.Alike.refl U.vm) qZ.1, xw_V.same (u := U) (U := U.calling g mk a) rfl qZ.2⟩⟩
variable {p : Program} {l : Launch} {e : Env} {R : Room} {s : State} {m : MethodId} {args : Array Value} {below : List Frame} {meth : Method} {c : Code} {Q : State → Prop}
variable {cc : ByteArray} {nL : Nat} {own : String} {Ts : List Cond} {D : va_G} {cl : List vw_C} {tys : List (ClassId × FieldType)} {E : xw_E} {A : Nat → Prop} {Rt : xw_R} {pc : Nat}
def xw_G (p : Program) (l : Launch) (e : Env) (R : Room) (s : State) (m : MethodId) (args : Array Value) (below : List Frame) (meth : Method) (c : Code) (nL : Nat) (D : va_G) (cl : List vw_C) (A : Nat → Prop) (Q : State → Prop) : xw_K := fun pc lv st w k n =>
  ∀ (ls : Array Slot) (H : Heap) (locs : List Loc), lv_has ls nL lv → va_P D cl (va_pl w.1 w.2) H → va_D A (va_pl w.1 w.2) → va_S A s.heap H locs → W p l e R s m args below meth c H locs k n Q (F0 m pc ls st)
def xw_X (p : Program) (s : State) (m : MethodId) (args : Array Value) (c : Code) (cc : ByteArray) (nL : Nat) (own : String) (Ts : List Cond) (D : va_G) (cl : List vw_C) (tys : List (ClassId × FieldType)) (E : xw_E) (A : Nat → Prop) : Prop :=
  CallFix p m c cc nL s args Ts own ∧ va_K D cl tys s ∧ (∀ q, s.heap.size ≤ q → A q) ∧ xw_Z E A s s.heap
def xw_Snd (p : Program) (l : Launch) (e : Env) (R : Room) (s : State) (m : MethodId) (args : Array Value) (below : List Frame) (meth : Method) (c : Code) (nL : Nat) (D : va_G) (cl : List vw_C) (A : Nat → Prop) (Q : State → Prop) (Rt : xw_R) (pc : Nat) (T : xw_T) : Prop :=
  ∀ (lv : xw_L) (st : List Value) (w : xw_W) (k n : Nat) (K : xw_K), (∀ pc lv st w k n, K pc lv st w k n → xw_G p l e R s m args below meth c nL D cl A Q pc lv st w k n) → T Rt lv st w k n K → xw_G p l e R s m args below meth c nL D cl A Q pc lv st w k n
theorem xw_closed {tb : List (Nat × xw_T)} (hs : ∀ q ∈ tb, xw_Snd p l e R s m args below meth c nL D cl A Q Rt q.1 q.2) {lv : xw_L} {st : List Value} {w : xw_W} {k n : Nat} (h : xw_Run tb Rt pc lv st w k n) : xw_G p l e R s m args below meth c nL D cl A Q pc lv st w k n :=
  h _ (fun pc lv st w k n T K hT hK hh => hs (pc, T) (xw_lk_mem hT) lv st w k n K hK hh)
theorem xs_push {v : Value} {nx : Nat} (h : ∀ (ls : Array Slot) (H : Heap) (locs : List Loc) (k n : Nat) (st : List Value), W p l e R s m args below meth c H locs k n Q (F0 m nx ls (v :: st)) → W p l e R s m args below meth c H locs k n Q (F0 m pc ls st)) : xw_Snd p l e R s m args below meth c nL D cl A Q Rt pc (tr_push nx v) :=
  fun lv st w k n K hK hT ls H locs hl hP hD hS => h ls H locs k n st (hK _ _ _ _ _ _ hT ls H locs hl hP hD hS)
theorem xs_iconst (X : xw_X p s m args c cc nL own Ts D cl tys E A) {n0 : Int} {v : Int32} (d : decode cc pc = .ok (.iconst n0, 1)) (hv : Int32.ofInt n0 = v) : xw_Snd p l e R s m args below meth c nL D cl A Q Rt pc (tr_push (pc + 1) (.int v)) :=
  xs_push fun _ _ _ _ _ _ h => lv_iconst X.1.1 X.1.2.1 d hv h
theorem xs_bipush (X : xw_X p s m args c cc nL own Ts D cl tys E A) {n0 : Int} {v : Int32} (d : decode cc pc = .ok (.bipush n0, 2)) (hv : (Int8.ofInt n0).toInt32 = v) : xw_Snd p l e R s m args below meth c nL D cl A Q Rt pc (tr_push (pc + 2) (.int v)) :=
  xs_push fun _ _ _ _ _ _ h => lv_bipush X.1.1 X.1.2.1 d hv h
theorem xs_sipush (X : xw_X p s m args c cc nL own Ts D cl tys E A) {n0 : Int} {v : Int32} (d : decode cc pc = .ok (.sipush n0, 3)) (hv : (Int16.ofInt n0).toInt32 = v) : xw_Snd p l e R s m args below meth c nL D cl A Q Rt pc (tr_push (pc + 3) (.int v)) :=
  xs_push fun _ _ _ _ _ _ h => lv_sipush X.1.1 X.1.2.1 d hv h
theorem xs_lconst (X : xw_X p s m args c cc nL own Ts D cl tys E A) {n0 : Fin 2} {v : Int64} (d : decode cc pc = .ok (.lconst n0, 1)) (hv : Int64.ofNat (n0 : Nat) = v) : xw_Snd p l e R s m args below meth c nL D cl A Q Rt pc (tr_push (pc + 1) (.long v)) :=
  xs_push fun _ _ _ _ _ _ h => lv_lconst X.1.1 X.1.2.1 d hv h
theorem xs_null (X : xw_X p s m args c cc nL own Ts D cl tys E A) (d : decode cc pc = .ok (.aconst_null, 1)) : xw_Snd p l e R s m args below meth c nL D cl A Q Rt pc (tr_push (pc + 1) .null) :=
  xs_push fun _ _ _ _ _ _ h => lv_null X.1.1 X.1.2.1 d h
theorem xs_ldc (X : xw_X p s m args c cc nL own Ts D cl tys E A) {index : Nat} {v : Int32} (hc : Jvm.Cond.constant own index v ∈ Ts) (d : decode cc pc = .ok (.ldc index, 2)) : xw_Snd p l e R s m args below meth c nL D cl A Q Rt pc (tr_push (pc + 2) (.int v)) :=
  xs_push fun _ _ _ _ _ _ h => lv_ldc X.1.1 X.1.2.1 X.1.2.2.2.1 (X.1.2.2.2.2 _ hc) d h
theorem xs_ldc2 (X : xw_X p s m args c cc nL own Ts D cl tys E A) {index : Nat} {v : Int64} (hc : Jvm.Cond.constantLong own index v ∈ Ts) (d : decode cc pc = .ok (.ldc2_w index, 3)) : xw_Snd p l e R s m args below meth c nL D cl A Q Rt pc (tr_push (pc + 3) (.long v)) :=
  xs_push fun _ _ _ _ _ _ h => lv_ldc2 X.1.1 X.1.2.1 X.1.2.2.2.1 (X.1.2.2.2.2 _ hc) d h
theorem xs_iload_n (X : xw_X p s m args c cc nL own Ts D cl tys E A) {j : Fin 4} {i : Nat} (d : decode cc pc = .ok (.iload_n j, 1)) (hi : (j : Nat) = i) : xw_Snd p l e R s m args below meth c nL D cl A Q Rt pc (tr_ild (pc + 1) i) := by
  intro lv st w k n K hK ⟨x, hx, hT⟩ ls H locs hl hP hD hS
  exact lv_iload_n X.1.1 X.1.2.1 d hi (xw_lk_at hl hx) (hK _ _ _ _ _ _ hT ls H locs hl hP hD hS)
theorem xs_iload (X : xw_X p s m args c cc nL own Ts D cl tys E A) {i : Nat} (d : decode cc pc = .ok (.iload i, 2)) : xw_Snd p l e R s m args below meth c nL D cl A Q Rt pc (tr_ild (pc + 2) i) := by
  intro lv st w k n K hK ⟨x, hx, hT⟩ ls H locs hl hP hD hS
  exact lv_iload X.1.1 X.1.2.1 d (xw_lk_at hl hx) (hK _ _ _ _ _ _ hT ls H locs hl hP hD hS)
theorem xs_lload_n (X : xw_X p s m args c cc nL own Ts D cl tys E A) {j : Fin 4} {i : Nat} (d : decode cc pc = .ok (.lload_n j, 1)) (hi : (j : Nat) = i) : xw_Snd p l e R s m args below meth c nL D cl A Q Rt pc (tr_lld (pc + 1) i) := by
  intro lv st w k n K hK ⟨x, hx, hT⟩ ls H locs hl hP hD hS
  exact lv_lload_n X.1.1 X.1.2.1 d hi (xw_lk_at hl hx) (hK _ _ _ _ _ _ hT ls H locs hl hP hD hS)
theorem xs_lload (X : xw_X p s m args c cc nL own Ts D cl tys E A) {i : Nat} (d : decode cc pc = .ok (.lload i, 2)) : xw_Snd p l e R s m args below meth c nL D cl A Q Rt pc (tr_lld (pc + 2) i) := by
  intro lv st w k n K hK ⟨x, hx, hT⟩ ls H locs hl hP hD hS
  exact lv_lload X.1.1 X.1.2.1 d (xw_lk_at hl hx) (hK _ _ _ _ _ _ hT ls H locs hl hP hD hS)
theorem xs_aload_n (X : xw_X p s m args c cc nL own Ts D cl tys E A) {j : Fin 4} {i : Nat} (d : decode cc pc = .ok (.aload_n j, 1)) (hi : (j : Nat) = i) : xw_Snd p l e R s m args below meth c nL D cl A Q Rt pc (tr_ald (pc + 1) i) := by
  intro lv st w k n K hK ⟨v, hx, ⟨r, hr⟩, hT⟩ ls H locs hl hP hD hS
  subst hr
  have h9 := xw_lk_at hl hx
  cases r with
  | none => exact lv_aload_nN X.1.1 X.1.2.1 d hi h9 (hK _ _ _ _ _ _ hT ls H locs hl hP hD hS)
  | some a => exact lv_aload_n X.1.1 X.1.2.1 d hi h9 (hK _ _ _ _ _ _ hT ls H locs hl hP hD hS)
theorem xs_aload (X : xw_X p s m args c cc nL own Ts D cl tys E A) {i : Nat} (d : decode cc pc = .ok (.aload i, 2)) : xw_Snd p l e R s m args below meth c nL D cl A Q Rt pc (tr_ald (pc + 2) i) := by
  intro lv st w k n K hK ⟨v, hx, ⟨r, hr⟩, hT⟩ ls H locs hl hP hD hS
  subst hr
  have h9 := xw_lk_at hl hx
  cases r with
  | none => exact lv_aloadN X.1.1 X.1.2.1 d h9 (hK _ _ _ _ _ _ hT ls H locs hl hP hD hS)
  | some a => exact lv_aload X.1.1 X.1.2.1 d h9 (hK _ _ _ _ _ _ hT ls H locs hl hP hD hS)
theorem xs_istore_n (X : xw_X p s m args c cc nL own Ts D cl tys E A) {j : Fin 4} {i : Nat} (d : decode cc pc = .ok (.istore_n j, 1)) (hi : (j : Nat) = i) (hn : i < nL) : xw_Snd p l e R s m args below meth c nL D cl A Q Rt pc (tr_ist (pc + 1) i) := by
  intro lv st w k n K hK ⟨x, r, hst, hT⟩ ls H locs hl hP hD hS
  subst hst
  exact lv_istore_n X.1.1 X.1.2.1 d hi hl hn rfl (fun ls' hl' => hK _ _ _ _ _ _ hT ls' H locs hl' hP hD hS)
theorem xs_istore (X : xw_X p s m args c cc nL own Ts D cl tys E A) {i : Nat} (d : decode cc pc = .ok (.istore i, 2)) (hn : i < nL) : xw_Snd p l e R s m args below meth c nL D cl A Q Rt pc (tr_ist (pc + 2) i) := by
  intro lv st w k n K hK ⟨x, r, hst, hT⟩ ls H locs hl hP hD hS
  subst hst
  exact lv_istore X.1.1 X.1.2.1 d hl hn rfl (fun ls' hl' => hK _ _ _ _ _ _ hT ls' H locs hl' hP hD hS)
theorem xs_lstore_n (X : xw_X p s m args c cc nL own Ts D cl tys E A) {j : Fin 4} {i : Nat} (d : decode cc pc = .ok (.lstore_n j, 1)) (hi : (j : Nat) = i) (hn : i + 1 < nL) : xw_Snd p l e R s m args below meth c nL D cl A Q Rt pc (tr_lst (pc + 1) i) := by
  intro lv st w k n K hK ⟨x, r, hst, hT⟩ ls H locs hl hP hD hS
  subst hst
  exact lv_lstore_n X.1.1 X.1.2.1 d hi hl hn rfl (fun ls' hl' => hK _ _ _ _ _ _ hT ls' H locs hl' hP hD hS)
theorem xs_lstore (X : xw_X p s m args c cc nL own Ts D cl tys E A) {i : Nat} (d : decode cc pc = .ok (.lstore i, 2)) (hn : i + 1 < nL) : xw_Snd p l e R s m args below meth c nL D cl A Q Rt pc (tr_lst (pc + 2) i) := by
  intro lv st w k n K hK ⟨x, r, hst, hT⟩ ls H locs hl hP hD hS
  subst hst
  exact lv_lstore X.1.1 X.1.2.1 d hl hn rfl (fun ls' hl' => hK _ _ _ _ _ _ hT ls' H locs hl' hP hD hS)
theorem xs_astore_n (X : xw_X p s m args c cc nL own Ts D cl tys E A) {j : Fin 4} {i : Nat} (d : decode cc pc = .ok (.astore_n j, 1)) (hi : (j : Nat) = i) (hn : i < nL) : xw_Snd p l e R s m args below meth c nL D cl A Q Rt pc (tr_ast (pc + 1) i) := by
  intro lv st w k n K hK ⟨v, r, hst, ⟨o, ho⟩, hT⟩ ls H locs hl hP hD hS
  subst hst
  subst ho
  cases o with
  | none => exact lv_astore_nN X.1.1 X.1.2.1 d hi hl hn rfl (fun ls' hl' => hK _ _ _ _ _ _ hT ls' H locs hl' hP hD hS)
  | some a => exact lv_astore_n X.1.1 X.1.2.1 d hi hl hn rfl (fun ls' hl' => hK _ _ _ _ _ _ hT ls' H locs hl' hP hD hS)
theorem xs_astore (X : xw_X p s m args c cc nL own Ts D cl tys E A) {i : Nat} (d : decode cc pc = .ok (.astore i, 2)) (hn : i < nL) : xw_Snd p l e R s m args below meth c nL D cl A Q Rt pc (tr_ast (pc + 2) i) := by
  intro lv st w k n K hK ⟨v, r, hst, ⟨o, ho⟩, hT⟩ ls H locs hl hP hD hS
  subst hst
  subst ho
  cases o with
  | none => exact lv_astoreN X.1.1 X.1.2.1 d hl hn rfl (fun ls' hl' => hK _ _ _ _ _ _ hT ls' H locs hl' hP hD hS)
  | some a => exact lv_astore X.1.1 X.1.2.1 d hl hn rfl (fun ls' hl' => hK _ _ _ _ _ _ hT ls' H locs hl' hP hD hS)
theorem xs_iinc (X : xw_X p s m args c cc nL own Ts D cl tys E A) {i : Nat} {n0 : Int} {v : Int32} (d : decode cc pc = .ok (.iinc i n0, 3)) (hv : Int32.ofInt n0 = v) (hn : i < nL) : xw_Snd p l e R s m args below meth c nL D cl A Q Rt pc (tr_inc (pc + 3) i v) := by
  intro lv st w k n K hK ⟨x, hx, hT⟩ ls H locs hl hP hD hS
  subst hv
  obtain ⟨j, hj⟩ := List.getElem?_of_mem (xw_lk_mem hx)
  exact lv_iinc X.1.1 X.1.2.1 d hl hj rfl hn rfl (fun ls' hl' => hK _ _ _ _ _ _ hT ls' H locs hl' hP hD hS)
theorem xs_i2 {f : Int32 → Int32 → Int32} (h : ∀ (ls : Array Slot) (H : Heap) (locs : List Loc) (k n : Nat) (x y : Int32) (st : List Value), W p l e R s m args below meth c H locs k n Q (F0 m (pc + 1) ls (.int (f x y) :: st)) → W p l e R s m args below meth c H locs k n Q (F0 m pc ls (.int y :: .int x :: st))) : xw_Snd p l e R s m args below meth c nL D cl A Q Rt pc (tr_i2 (pc + 1) f) := by
  intro lv st w k n K hK ⟨x, y, r, hst, hT⟩ ls H locs hl hP hD hS
  subst hst
  exact h _ _ _ _ _ _ _ _ (hK _ _ _ _ _ _ hT ls H locs hl hP hD hS)
theorem xs_iadd (X : xw_X p s m args c cc nL own Ts D cl tys E A) (d : decode cc pc = .ok (.iadd, 1)) : xw_Snd p l e R s m args below meth c nL D cl A Q Rt pc (tr_i2 (pc + 1) (fun x y => x + y)) := xs_i2 fun _ _ _ _ _ _ _ _ h => lv_iadd X.1.1 X.1.2.1 d h
theorem xs_isub (X : xw_X p s m args c cc nL own Ts D cl tys E A) (d : decode cc pc = .ok (.isub, 1)) : xw_Snd p l e R s m args below meth c nL D cl A Q Rt pc (tr_i2 (pc + 1) (fun x y => x - y)) := xs_i2 fun _ _ _ _ _ _ _ _ h => lv_isub X.1.1 X.1.2.1 d h
theorem xs_imul (X : xw_X p s m args c cc nL own Ts D cl tys E A) (d : decode cc pc = .ok (.imul, 1)) : xw_Snd p l e R s m args below meth c nL D cl A Q Rt pc (tr_i2 (pc + 1) (fun x y => x * y)) := xs_i2 fun _ _ _ _ _ _ _ _ h => lv_imul X.1.1 X.1.2.1 d h
theorem xs_iand (X : xw_X p s m args c cc nL own Ts D cl tys E A) (d : decode cc pc = .ok (.iand, 1)) : xw_Snd p l e R s m args below meth c nL D cl A Q Rt pc (tr_i2 (pc + 1) (fun x y => x &&& y)) := xs_i2 fun _ _ _ _ _ _ _ _ h => lv_iand X.1.1 X.1.2.1 d h
theorem xs_ior (X : xw_X p s m args c cc nL own Ts D cl tys E A) (d : decode cc pc = .ok (.ior, 1)) : xw_Snd p l e R s m args below meth c nL D cl A Q Rt pc (tr_i2 (pc + 1) (fun x y => x ||| y)) := xs_i2 fun _ _ _ _ _ _ _ _ h => lv_ior X.1.1 X.1.2.1 d h
theorem xs_ishl (X : xw_X p s m args c cc nL own Ts D cl tys E A) (d : decode cc pc = .ok (.ishl, 1)) : xw_Snd p l e R s m args below meth c nL D cl A Q Rt pc (tr_i2 (pc + 1) (fun x y => x <<< (y &&& 31))) := xs_i2 fun _ _ _ _ _ _ _ _ h => lv_ishl X.1.1 X.1.2.1 d h
theorem xs_ishr (X : xw_X p s m args c cc nL own Ts D cl tys E A) (d : decode cc pc = .ok (.ishr, 1)) : xw_Snd p l e R s m args below meth c nL D cl A Q Rt pc (tr_i2 (pc + 1) (fun x y => x >>> (y &&& 31))) := xs_i2 fun _ _ _ _ _ _ _ _ h => lv_ishr X.1.1 X.1.2.1 d h
theorem xs_idiv (X : xw_X p s m args c cc nL own Ts D cl tys E A) (d : decode cc pc = .ok (.idiv, 1)) : xw_Snd p l e R s m args below meth c nL D cl A Q Rt pc (tr_i2z (pc + 1) (fun x y => x / y)) := by
  intro lv st w k n K hK ⟨x, y, r, hst, hne, hT⟩ ls H locs hl hP hD hS
  subst hst
  exact lv_idiv X.1.1 X.1.2.1 d hne (hK _ _ _ _ _ _ hT ls H locs hl hP hD hS)
theorem xs_irem (X : xw_X p s m args c cc nL own Ts D cl tys E A) (d : decode cc pc = .ok (.irem, 1)) : xw_Snd p l e R s m args below meth c nL D cl A Q Rt pc (tr_i2z (pc + 1) (fun x y => x - x / y * y)) := by
  intro lv st w k n K hK ⟨x, y, r, hst, hne, hT⟩ ls H locs hl hP hD hS
  subst hst
  exact lv_irem X.1.1 X.1.2.1 d hne (hK _ _ _ _ _ _ hT ls H locs hl hP hD hS)
theorem xs_ladd (X : xw_X p s m args c cc nL own Ts D cl tys E A) (d : decode cc pc = .ok (.ladd, 1)) : xw_Snd p l e R s m args below meth c nL D cl A Q Rt pc (tr_l2 (pc + 1) (fun x y => x + y)) := by
  intro lv st w k n K hK ⟨x, y, r, hst, hT⟩ ls H locs hl hP hD hS
  subst hst
  exact lv_ladd X.1.1 X.1.2.1 d (hK _ _ _ _ _ _ hT ls H locs hl hP hD hS)
theorem xs_lmul (X : xw_X p s m args c cc nL own Ts D cl tys E A) (d : decode cc pc = .ok (.lmul, 1)) : xw_Snd p l e R s m args below meth c nL D cl A Q Rt pc (tr_l2 (pc + 1) (fun x y => x * y)) := by
  intro lv st w k n K hK ⟨x, y, r, hst, hT⟩ ls H locs hl hP hD hS
  subst hst
  exact lv_lmul X.1.1 X.1.2.1 d (hK _ _ _ _ _ _ hT ls H locs hl hP hD hS)
theorem xs_i2l (X : xw_X p s m args c cc nL own Ts D cl tys E A) (d : decode cc pc = .ok (.i2l, 1)) : xw_Snd p l e R s m args below meth c nL D cl A Q Rt pc (tr_i2l (pc + 1)) := by
  intro lv st w k n K hK ⟨x, r, hst, hT⟩ ls H locs hl hP hD hS
  subst hst
  exact lv_i2l X.1.1 X.1.2.1 d rfl (hK _ _ _ _ _ _ hT ls H locs hl hP hD hS)
theorem xs_dup (X : xw_X p s m args c cc nL own Ts D cl tys E A) (d : decode cc pc = .ok (.dup, 1)) : xw_Snd p l e R s m args below meth c nL D cl A Q Rt pc (tr_dup (pc + 1)) := by
  intro lv st w k n K hK ⟨v, r, hst, hc, hT⟩ ls H locs hl hP hD hS
  subst hst
  exact lv_dup X.1.1 X.1.2.1 d hc (hK _ _ _ _ _ _ hT ls H locs hl hP hD hS)
theorem xs_pop (X : xw_X p s m args c cc nL own Ts D cl tys E A) (d : decode cc pc = .ok (.pop, 1)) : xw_Snd p l e R s m args below meth c nL D cl A Q Rt pc (tr_pop (pc + 1)) := by
  intro lv st w k n K hK ⟨v, r, hst, hc, hT⟩ ls H locs hl hP hD hS
  subst hst
  exact lv_pop X.1.1 X.1.2.1 d hc (hK _ _ _ _ _ _ hT ls H locs hl hP hD hS)
theorem xs_dup2 (X : xw_X p s m args c cc nL own Ts D cl tys E A) (d : decode cc pc = .ok (.dup2, 1)) : xw_Snd p l e R s m args below meth c nL D cl A Q Rt pc (tr_dup2 (pc + 1)) := by
  intro lv st w k n K hK ⟨u, v, r, hst, hu, hv, hT⟩ ls H locs hl hP hD hS
  subst hst
  exact lv_dup2_11 X.1.1 X.1.2.1 d hu hv (hK _ _ _ _ _ _ hT ls H locs hl hP hD hS)
theorem xs_dupx1 (X : xw_X p s m args c cc nL own Ts D cl tys E A) (d : decode cc pc = .ok (.dup_x1, 1)) : xw_Snd p l e R s m args below meth c nL D cl A Q Rt pc (tr_dupx1 (pc + 1)) := by
  intro lv st w k n K hK ⟨u, v, r, hst, hu, hv, hT⟩ ls H locs hl hP hD hS
  subst hst
  exact lv_dup_x1 X.1.1 X.1.2.1 d hu hv (hK _ _ _ _ _ _ hT ls H locs hl hP hD hS)
theorem xs_ifz {tg : Nat} {P : Int32 → Prop} (h : ∀ (ls : Array Slot) (H : Heap) (locs : List Loc) (k n : Nat) (x : Int32) (st : List Value), (P x → W p l e R s m args below meth c H locs k n Q (F0 m tg ls st)) → (¬ P x → W p l e R s m args below meth c H locs k n Q (F0 m (pc + 3) ls st)) → W p l e R s m args below meth c H locs k n Q (F0 m pc ls (.int x :: st))) : xw_Snd p l e R s m args below meth c nL D cl A Q Rt pc (tr_ifz (pc + 3) tg P) := by
  intro lv st w k n K hK ⟨x, r, hst, h1, h2⟩ ls H locs hl hP hD hS
  subst hst
  exact h _ _ _ _ _ _ _ (fun q => hK _ _ _ _ _ _ (h1 q) ls H locs hl hP hD hS) (fun q => hK _ _ _ _ _ _ (h2 q) ls H locs hl hP hD hS)
theorem xs_ifeq (X : xw_X p s m args c cc nL own Ts D cl tys E A) {off : Int} {tg : Nat} (d : decode cc pc = .ok (.ifCond .eq off, 3)) (ht : (pc : Int) + off = (tg : Int)) : xw_Snd p l e R s m args below meth c nL D cl A Q Rt pc (tr_ifz (pc + 3) tg (fun x => x = 0)) := xs_ifz fun _ _ _ _ _ _ _ h1 h2 => lv_if_eq X.1.1 X.1.2.1 d ht h1 h2
theorem xs_ifne (X : xw_X p s m args c cc nL own Ts D cl tys E A) {off : Int} {tg : Nat} (d : decode cc pc = .ok (.ifCond .ne off, 3)) (ht : (pc : Int) + off = (tg : Int)) : xw_Snd p l e R s m args below meth c nL D cl A Q Rt pc (tr_ifz (pc + 3) tg (fun x => ¬ x = 0)) := xs_ifz fun _ _ _ _ _ _ _ h1 h2 => lv_if_ne X.1.1 X.1.2.1 d ht h1 (fun q => h2 (fun z => z q))
theorem xs_iflt (X : xw_X p s m args c cc nL own Ts D cl tys E A) {off : Int} {tg : Nat} (d : decode cc pc = .ok (.ifCond .lt off, 3)) (ht : (pc : Int) + off = (tg : Int)) : xw_Snd p l e R s m args below meth c nL D cl A Q Rt pc (tr_ifz (pc + 3) tg (fun x => x < 0)) := xs_ifz fun _ _ _ _ _ _ _ h1 h2 => lv_if_lt X.1.1 X.1.2.1 d ht h1 h2
theorem xs_icmplt (X : xw_X p s m args c cc nL own Ts D cl tys E A) {off : Int} {tg : Nat} (d : decode cc pc = .ok (.if_icmp .lt off, 3)) (ht : (pc : Int) + off = (tg : Int)) : xw_Snd p l e R s m args below meth c nL D cl A Q Rt pc (tr_ifc (pc + 3) tg (fun x y => x < y)) := by
  intro lv st w k n K hK ⟨x, y, r, hst, h1, h2⟩ ls H locs hl hP hD hS
  subst hst
  exact lv_icmp_lt X.1.1 X.1.2.1 d ht (fun q => hK _ _ _ _ _ _ (h1 q) ls H locs hl hP hD hS) (fun q => hK _ _ _ _ _ _ (h2 q) ls H locs hl hP hD hS)
theorem xs_ifge (X : xw_X p s m args c cc nL own Ts D cl tys E A) {off : Int} {tg : Nat} (d : decode cc pc = .ok (.ifCond .ge off, 3)) (ht : (pc : Int) + off = (tg : Int)) : xw_Snd p l e R s m args below meth c nL D cl A Q Rt pc (tr_ifz (pc + 3) tg (fun x => 0 ≤ x)) := xs_ifz fun _ _ _ _ _ _ _ h1 h2 => lv_if_ge X.1.1 X.1.2.1 d ht h1 h2
theorem xs_ifgt (X : xw_X p s m args c cc nL own Ts D cl tys E A) {off : Int} {tg : Nat} (d : decode cc pc = .ok (.ifCond .gt off, 3)) (ht : (pc : Int) + off = (tg : Int)) : xw_Snd p l e R s m args below meth c nL D cl A Q Rt pc (tr_ifz (pc + 3) tg (fun x => 0 < x)) := xs_ifz fun _ _ _ _ _ _ _ h1 h2 => lv_if_gt X.1.1 X.1.2.1 d ht h1 h2
theorem xs_ifle (X : xw_X p s m args c cc nL own Ts D cl tys E A) {off : Int} {tg : Nat} (d : decode cc pc = .ok (.ifCond .le off, 3)) (ht : (pc : Int) + off = (tg : Int)) : xw_Snd p l e R s m args below meth c nL D cl A Q Rt pc (tr_ifz (pc + 3) tg (fun x => x ≤ 0)) := xs_ifz fun _ _ _ _ _ _ _ h1 h2 => lv_if_le X.1.1 X.1.2.1 d ht h1 h2
theorem xs_icmpge (X : xw_X p s m args c cc nL own Ts D cl tys E A) {off : Int} {tg : Nat} (d : decode cc pc = .ok (.if_icmp .ge off, 3)) (ht : (pc : Int) + off = (tg : Int)) : xw_Snd p l e R s m args below meth c nL D cl A Q Rt pc (tr_ifc (pc + 3) tg (fun x y => y ≤ x)) := by
  intro lv st w k n K hK ⟨x, y, r, hst, h1, h2⟩ ls H locs hl hP hD hS
  subst hst
  exact lv_icmp_ge X.1.1 X.1.2.1 d ht (fun q => hK _ _ _ _ _ _ (h1 q) ls H locs hl hP hD hS) (fun q => hK _ _ _ _ _ _ (h2 q) ls H locs hl hP hD hS)
theorem xs_icmpgt (X : xw_X p s m args c cc nL own Ts D cl tys E A) {off : Int} {tg : Nat} (d : decode cc pc = .ok (.if_icmp .gt off, 3)) (ht : (pc : Int) + off = (tg : Int)) : xw_Snd p l e R s m args below meth c nL D cl A Q Rt pc (tr_ifc (pc + 3) tg (fun x y => y < x)) := by
  intro lv st w k n K hK ⟨x, y, r, hst, h1, h2⟩ ls H locs hl hP hD hS
  subst hst
  exact lv_icmp_gt X.1.1 X.1.2.1 d ht (fun q => hK _ _ _ _ _ _ (h1 q) ls H locs hl hP hD hS) (fun q => hK _ _ _ _ _ _ (h2 q) ls H locs hl hP hD hS)
theorem xs_icmple (X : xw_X p s m args c cc nL own Ts D cl tys E A) {off : Int} {tg : Nat} (d : decode cc pc = .ok (.if_icmp .le off, 3)) (ht : (pc : Int) + off = (tg : Int)) : xw_Snd p l e R s m args below meth c nL D cl A Q Rt pc (tr_ifc (pc + 3) tg (fun x y => x ≤ y)) := by
  intro lv st w k n K hK ⟨x, y, r, hst, h1, h2⟩ ls H locs hl hP hD hS
  subst hst
  exact lv_icmp_le X.1.1 X.1.2.1 d ht (fun q => hK _ _ _ _ _ _ (h1 q) ls H locs hl hP hD hS) (fun q => hK _ _ _ _ _ _ (h2 q) ls H locs hl hP hD hS)
theorem xs_icmpeq (X : xw_X p s m args c cc nL own Ts D cl tys E A) {off : Int} {tg : Nat} (d : decode cc pc = .ok (.if_icmp .eq off, 3)) (ht : (pc : Int) + off = (tg : Int)) : xw_Snd p l e R s m args below meth c nL D cl A Q Rt pc (tr_ifc (pc + 3) tg (fun x y => x = y)) := by
  intro lv st w k n K hK ⟨x, y, r, hst, h1, h2⟩ ls H locs hl hP hD hS
  subst hst
  exact lv_icmp_eq X.1.1 X.1.2.1 d ht (fun q => hK _ _ _ _ _ _ (h1 q) ls H locs hl hP hD hS) (fun q => hK _ _ _ _ _ _ (h2 q) ls H locs hl hP hD hS)
theorem xs_icmpne (X : xw_X p s m args c cc nL own Ts D cl tys E A) {off : Int} {tg : Nat} (d : decode cc pc = .ok (.if_icmp .ne off, 3)) (ht : (pc : Int) + off = (tg : Int)) : xw_Snd p l e R s m args below meth c nL D cl A Q Rt pc (tr_ifc (pc + 3) tg (fun x y => ¬ x = y)) := by
  intro lv st w k n K hK ⟨x, y, r, hst, h1, h2⟩ ls H locs hl hP hD hS
  subst hst
  exact lv_icmp_ne X.1.1 X.1.2.1 d ht (fun q => hK _ _ _ _ _ _ (h1 q) ls H locs hl hP hD hS) (fun q => hK _ _ _ _ _ _ (h2 (fun z => z q)) ls H locs hl hP hD hS)
theorem xw_rf_inj {r q : Option Nat} (h : va_rf r = va_rf q) : r = q := by
  cases r <;> cases q <;> simp [va_rf] at h ⊢
  exact h
theorem xs_acmpeq (X : xw_X p s m args c cc nL own Ts D cl tys E A) {off : Int} {tg : Nat} (d : decode cc pc = .ok (.if_acmp .eq off, 3)) (ht : (pc : Int) + off = (tg : Int)) : xw_Snd p l e R s m args below meth c nL D cl A Q Rt pc (tr_ifa tg (pc + 3)) := by
  intro lv st w k n K hK ⟨u, v, r, hst, ⟨ru, hu⟩, ⟨rv, hv⟩, h1, h2⟩ ls H locs hl hP hD hS
  subst hst hu hv
  exact lv_acmp_eq X.1.1 X.1.2.1 d ht (fun q => hK _ _ _ _ _ _ (h1 (by rw [q])) ls H locs hl hP hD hS) (fun q => hK _ _ _ _ _ _ (h2 (fun z => q (xw_rf_inj z))) ls H locs hl hP hD hS)
theorem xs_acmpne (X : xw_X p s m args c cc nL own Ts D cl tys E A) {off : Int} {tg : Nat} (d : decode cc pc = .ok (.if_acmp .ne off, 3)) (ht : (pc : Int) + off = (tg : Int)) : xw_Snd p l e R s m args below meth c nL D cl A Q Rt pc (tr_ifa (pc + 3) tg) := by
  intro lv st w k n K hK ⟨u, v, r, hst, ⟨ru, hu⟩, ⟨rv, hv⟩, h1, h2⟩ ls H locs hl hP hD hS
  subst hst hu hv
  exact lv_acmp_ne X.1.1 X.1.2.1 d ht (fun q => hK _ _ _ _ _ _ (h2 (fun z => q (xw_rf_inj z))) ls H locs hl hP hD hS) (fun q => hK _ _ _ _ _ _ (h1 (by rw [q])) ls H locs hl hP hD hS)
theorem xs_ifnull (X : xw_X p s m args c cc nL own Ts D cl tys E A) {off : Int} {tg : Nat} (d : decode cc pc = .ok (.ifnull off, 3)) (ht : (pc : Int) + off = (tg : Int)) : xw_Snd p l e R s m args below meth c nL D cl A Q Rt pc (tr_ifn tg (pc + 3)) := by
  intro lv st w k n K hK ⟨v, r, hst, ⟨o, hv⟩, h1, h2⟩ ls H locs hl hP hD hS
  subst hst hv
  cases o with
  | none => exact lv_ifnullN X.1.1 X.1.2.1 d ht (hK _ _ _ _ _ _ (h1 rfl) ls H locs hl hP hD hS)
  | some a => exact lv_ifnull X.1.1 X.1.2.1 d (hK _ _ _ _ _ _ (h2 (fun z => by cases z)) ls H locs hl hP hD hS)
theorem xs_ifnonnull (X : xw_X p s m args c cc nL own Ts D cl tys E A) {off : Int} {tg : Nat} (d : decode cc pc = .ok (.ifnonnull off, 3)) (ht : (pc : Int) + off = (tg : Int)) : xw_Snd p l e R s m args below meth c nL D cl A Q Rt pc (tr_ifn (pc + 3) tg) := by
  intro lv st w k n K hK ⟨v, r, hst, ⟨o, hv⟩, h1, h2⟩ ls H locs hl hP hD hS
  subst hst hv
  cases o with
  | none => exact lv_ifnonnullN X.1.1 X.1.2.1 d (hK _ _ _ _ _ _ (h1 rfl) ls H locs hl hP hD hS)
  | some a => exact lv_ifnonnull X.1.1 X.1.2.1 d ht (hK _ _ _ _ _ _ (h2 (fun z => by cases z)) ls H locs hl hP hD hS)
theorem xs_goto (X : xw_X p s m args c cc nL own Ts D cl tys E A) {off : Int} {tg : Nat} (d : decode cc pc = .ok (.goto off, 3)) (ht : (pc : Int) + off = (tg : Int)) : xw_Snd p l e R s m args below meth c nL D cl A Q Rt pc (tr_goto tg) := by
  intro lv st w k n K hK hT ls H locs hl hP hD hS
  exact lv_goto X.1.1 X.1.2.1 d ht (hK _ _ _ _ _ _ hT ls H locs hl hP hD hS)
theorem xs_sw (X : xw_X p s m args c cc nL own Ts D cl tys E A) {dflt lo hi : Int} {offs : Array Int} {len dt : Nat} {ts : List Nat} (d : decode cc pc = .ok (.tableswitch dflt lo hi offs, len)) (hd : (pc : Int) + dflt = (dt : Int)) (hlh : lo ≤ hi) (hsz : (ts.length : Int) = hi - lo + 1) (ho : ∀ j t : Nat, ts[j]? = some t → ∃ off : Int, offs[j]? = some off ∧ (pc : Int) + off = (t : Int)) : xw_Snd p l e R s m args below meth c nL D cl A Q Rt pc (tr_sw lo hi ts dt) := by
  intro lv st w k n K hK ⟨x, r, hst, h1, h2⟩ ls H locs hl hP hD hS
  subst hst
  by_cases hx : x.toInt < lo ∨ hi < x.toInt
  · exact lv_tableOut X.1.1 X.1.2.1 d hx hd (hK _ _ _ _ _ _ (h1 hx) ls H locs hl hP hD hS)
  · have a1 : ¬ x.toInt < lo := fun z => hx (Or.inl z)
    have a2 : ¬ hi < x.toInt := fun z => hx (Or.inr z)
    have a3 : (x.toInt - lo).toNat < ts.length := by omega
    have a4 : ts[(x.toInt - lo).toNat]? = some ts[(x.toInt - lo).toNat] := List.getElem?_eq_getElem a3
    obtain ⟨off, o1, o2⟩ := ho _ _ a4
    exact lv_tableIn X.1.1 X.1.2.1 d a1 a2 o1 o2 (hK _ _ _ _ _ _ (h2 _ _ (by omega) a4) ls H locs hl hP hD hS)
theorem xw_at {w : xw_W} {a : Nat} {x : va_E} (h : a ∈ w.1) (hw : w.2 a = x) : ∃ j : Nat, (va_pl w.1 w.2)[j]? = some (a, x) := by
  obtain ⟨j, hj⟩ := va_pl_get (X := []) (f := w.2) h
  exact ⟨j, by rw [← hw]; exact hj⟩
theorem xw_set {A : Nat → Prop} {w : xw_W} {a j : Nat} {x y : va_E} (hD : va_D A (va_pl w.1 w.2)) (h : a ∈ w.1) (hw : w.2 a = x) (hj : (va_pl w.1 w.2)[j]? = some (a, x)) : (va_pl w.1 w.2).set j (a, y) = va_pl w.1 (va_up w.2 a y) := by
  rw [← hw] at hj
  exact va_pl_set (X := []) hD h hj
theorem xs_getf (X : xw_X p s m args c cc nL own Ts D cl tys E A) {ref C : String} {T : u_T} {N ci index kf : Nat} (hin : ∀ w ∈ u_ws C T N, w ∈ Ts) (hc : cl[ci]? = some (C, T, N)) (hk : kf < N) (hlink : Cond.fieldLink own index ref (T kf).2.1 (T kf).2.2.1 ∈ Ts) (hsame : ∀ x, s.fieldFound? (T kf).1 (T kf).2.1 (T kf).2.2.1 = some x → s.fieldFound? ref (T kf).2.1 (T kf).2.2.1 = some x) (d : decode cc pc = .ok (.getfield index, 3)) : xw_Snd p l e R s m args below meth c nL D cl A Q Rt pc (tr_getf (pc + 3) ci kf) := by
  intro lv st w k n K hK ⟨a, r, fs, u, hst, ha, hw, hu, hT⟩ ls H locs hl hP hD hS
  subst hst
  obtain ⟨j, hj⟩ := xw_at ha hw
  exact va_get X.1.1 X.1.2.1 X.1.2.2.2.2 hin X.1.2.2.2.1 X.2.1 hP j hj hc kf hk (X.1.2.2.2.2 _ hlink) hsame hu d (hK _ _ _ _ _ _ hT ls H locs hl hP hD hS)
theorem xs_putf (X : xw_X p s m args c cc nL own Ts D cl tys E A) {ref C : String} {T : u_T} {N ci index kf : Nat} (hin : ∀ w ∈ u_ws C T N, w ∈ Ts) (ty0 : Nat → FieldType) (hty : ∀ k, k < N → parseFieldDescriptor (T k).2.2.1 = some (ty0 k)) (hnm : ∀ a, a < N → ∀ b, b < N → a ≠ b → (T a).2.1 ≠ (T b).2.1) (hc : cl[ci]? = some (C, T, N)) (hk : kf < N) (hlink : Cond.fieldLink own index ref (T kf).2.1 (T kf).2.2.1 ∈ Ts) (hsame : ∀ x, s.fieldFound? (T kf).1 (T kf).2.1 (T kf).2.2.1 = some x → s.fieldFound? ref (T kf).2.1 (T kf).2.2.1 = some x) (hfin : (T kf).2.2.2 = false) {ty : FieldType} (hd : ty0 kf = ty) (d : decode cc pc = .ok (.putfield index, 3)) : xw_Snd p l e R s m args below meth c nL D cl A Q Rt pc (tr_putf (pc + 3) ci kf ty) := by
  intro lv st w k n K hK ⟨a, u, r, fs, hst, ha, hw, hu, hfit, hT⟩ ls H locs hl hP hD hS
  subst hst
  obtain ⟨j, hj⟩ := xw_at ha hw
  refine va_put X.1.1 X.1.2.1 X.1.2.2.2.2 hin ty0 hty hnm X.1.2.2.2.1 X.2.1 hP hD hS j hj hc kf hk (X.1.2.2.2.2 _ hlink) hsame hfin (by rw [hty kf hk, hd]) hfit.1 hfit.2 hu d (fun H1 locs1 hP1 hD1 hS1 => ?_)
  rw [xw_set hD ha hw hj] at hP1 hD1
  exact hK _ _ _ _ _ _ hT ls H1 locs1 hl hP1 hD1 hS1
theorem xs_putF (X : xw_X p s m args c cc nL own Ts D cl tys E A) {ref C : String} {T : u_T} {N ci index kf : Nat} (hin : ∀ w ∈ u_ws C T N, w ∈ Ts) (ty0 : Nat → FieldType) (hty : ∀ k, k < N → parseFieldDescriptor (T k).2.2.1 = some (ty0 k)) (hnm : ∀ a, a < N → ∀ b, b < N → a ≠ b → (T a).2.1 ≠ (T b).2.1) (hc : cl[ci]? = some (C, T, N)) (hk : kf < N) (hlink : Cond.fieldLink own index ref (T kf).2.1 (T kf).2.2.1 ∈ Ts) (hsame : ∀ x, s.fieldFound? (T kf).1 (T kf).2.1 (T kf).2.2.1 = some x → s.fieldFound? ref (T kf).2.1 (T kf).2.2.1 = some x) (hfin : (T kf).2.2.2 = true) (hin2 : meth.name = "<init>") (hdecl : (T kf).1 = own) {ty : FieldType} (hd : ty0 kf = ty) (d : decode cc pc = .ok (.putfield index, 3)) : xw_Snd p l e R s m args below meth c nL D cl A Q Rt pc (tr_putf (pc + 3) ci kf ty) := by
  intro lv st w k n K hK ⟨a, u, r, fs, hst, ha, hw, hu, hfit, hT⟩ ls H locs hl hP hD hS
  subst hst
  obtain ⟨j, hj⟩ := xw_at ha hw
  refine va_putF X.1.1 X.1.2.1 X.1.2.2.2.2 hin ty0 hty hnm X.1.2.2.2.1 X.2.1 hP hD hS j hj hc kf hk (X.1.2.2.2.2 _ hlink) hsame hfin hin2 hdecl (by rw [hty kf hk, hd]) hfit.1 hfit.2 hu d (fun H1 locs1 hP1 hD1 hS1 => ?_)
  rw [xw_set hD ha hw hj] at hP1 hD1
  exact hK _ _ _ _ _ _ hT ls H1 locs1 hl hP1 hD1 hS1
theorem xs_gets (X : xw_X p s m args c cc nL own Ts D cl tys E A) {ref : String} {index : Nat} (hlink : Cond.fieldLink own index ref "DEFAULTCAPACITY_EMPTY_ELEMENTDATA" "[Ljava/lang/Object;" ∈ Ts) (hr : ref = "java/util/ArrayList") (d : decode cc pc = .ok (.getstatic index, 3)) : xw_Snd p l e R s m args below meth c nL D cl A Q Rt pc (tr_gets (pc + 3) E.1.1) := by
  intro lv st w k n K hK hT ls H locs hl hP hD hS
  exact va_gets X.1.1 X.1.2.1 X.2.2.2.1.1 hS X.1.2.2.2.1 (X.1.2.2.2.2 _ hlink) (fun _ h => by rw [hr]; exact h) d (hK _ _ _ _ _ _ hT ls H locs hl hP hD hS)
theorem xw_push {A : Nat → Prop} {w : xw_W} {q : Nat} {x : va_E} (hD : va_D A (va_pl w.1 w.2 ++ [(q, x)])) : q ∉ w.1 ∧ va_pl w.1 w.2 ++ [(q, x)] = va_pl (w.1 ++ [q]) (va_up w.2 q x) := by
  have h : q ∉ w.1 := va_pl_fresh2 (X := []) hD
  exact ⟨h, va_pl_push h⟩
theorem xs_new (X : xw_X p s m args c cc nL own Ts D cl tys E A) {C : String} {T : u_T} {N ci index MC MS : Nat} {fs : List Value} (hin : ∀ w ∈ u_ws C T N, w ∈ Ts) (ty0 : Nat → FieldType) (hty : ∀ k, k < N → parseFieldDescriptor (T k).2.2.1 = some (ty0 k)) (hc : cl[ci]? = some (C, T, N)) (hcl : Cond.classLink own index C ∈ Ts) (hinst : Cond.instantiable C N ∈ Ts) (hini : Cond.initialized C ∈ Ts) (hfs : ∀ j, j < N → defaultValue (ty0 j) = vp_V fs j) (hRc : R.cells = MC) (hRs : R.slots = MS) (d : decode cc pc = .ok (.new index, 3)) : xw_Snd p l e R s m args below meth c nL D cl A Q Rt pc (tr_new (pc + 3) ci N fs MC MS) := by
  intro lv st w k n K hK ⟨h1, h2, hT⟩ ls H locs hl hP hD hS
  refine va_new X.1.1 X.1.2.1 X.1.2.2.2.2 hin ty0 hty X.1.2.2.2.1 (X.1.2.2.2.2 _ hcl) (X.1.2.2.2.2 _ hinst) (X.1.2.2.2.2 _ hini) X.2.1 hP hD hS X.2.2.1 hc hfs (by rw [hRc]; exact h1) (by rw [hRs]; exact h2) d (fun q H1 hP1 hD1 hS1 => ?_)
  obtain ⟨hq, he⟩ := xw_push hD1
  rw [he] at hP1 hD1
  exact hK _ _ _ _ _ _ (hT q hq) ls H1 locs hl hP1 hD1 hS1
theorem xs_newi (X : xw_X p s m args c cc nL own Ts D cl tys E A) {cI t0 MC MS : Nat} (ht : tys[t0]? = some (cI, .int)) (harr : Cond.arrayClass .int ∈ Ts) (hRc : R.cells = MC) (hRs : R.slots = MS) (d : decode cc pc = .ok (.newarray .int, 2)) : xw_Snd p l e R s m args below meth c nL D cl A Q Rt pc (tr_newi (pc + 2) cI MC MS) := by
  intro lv st w k n K hK ⟨x, r, hst, hx, hb, h1, h2, hT⟩ ls H locs hl hP hD hS
  subst hst
  refine va_newa (atype := .int) (ty := .int) (a0 := (x.toNatClampNeg, .inl (fun _ => 0))) X.1.1 X.1.2.1 (X.1.2.2.2.2 _ harr) rfl X.2.1 hP hD hS X.2.2.1 (fun _ => rfl) hx rfl (by have h4 : componentBytes .int = 4 := rfl; rw [h4]; omega) (by rw [hRc]; exact h1) (by rw [hRs]; exact h2) d (fun q cA H1 hK1 hP1 hD1 hS1 => ?_)
  have e1 : s.vm.findClass ("[" ++ FieldType.int.toString) = some cI := (X.2.1.2 t0 _ ht).2
  have e2 : s.vm.findClass ("[" ++ FieldType.int.toString) = some cA := (hK1.2 tys.length (cA, .int) (by simp)).2
  have e3 : cA = cI := Option.some.inj (e2.symm.trans e1)
  subst e3
  obtain ⟨hq, he⟩ := xw_push hD1
  rw [he] at hP1 hD1
  exact hK _ _ _ _ _ _ (hT q hq) ls H1 locs hl hP1 hD1 hS1
theorem xs_newq (X : xw_X p s m args c cc nL own Ts D cl tys E A) {C : String} {cA t0 index MC MS : Nat} (ht : tys[t0]? = some (cA, .object C)) (hcl : Cond.classLink own index C ∈ Ts) (hover : va_AO C s) (hRc : R.cells = MC) (hRs : R.slots = MS) (d : decode cc pc = .ok (.anewarray index, 3)) : xw_Snd p l e R s m args below meth c nL D cl A Q Rt pc (tr_newq (pc + 3) cA MC MS) := by
  intro lv st w k n K hK ⟨x, r, hst, hx, hb, h1, h2, hT⟩ ls H locs hl hP hD hS
  subst hst
  refine va_newq X.1.1 X.1.2.1 X.1.2.2.2.1 (X.1.2.2.2.2 _ hcl) hover X.2.1 hP hD hS X.2.2.1 hx rfl (by omega) (by rw [hRc]; exact h1) (by rw [hRs]; exact h2) d (fun q cB H1 hK1 hP1 hD1 hS1 => ?_)
  obtain ⟨k1, c1, -, -, -, e1⟩ := (X.2.1.2 t0 _ ht).2
  obtain ⟨k2, c2, -, -, -, e2⟩ := (hK1.2 tys.length (cB, .object C) (by simp)).2
  have e3 : cB = cA := Option.some.inj (e2.symm.trans e1)
  subst e3
  obtain ⟨hq, he⟩ := xw_push hD1
  rw [he] at hP1 hD1
  exact hK _ _ _ _ _ _ (hT q hq) ls H1 locs hl hP1 hD1 hS1
theorem xs_iald (X : xw_X p s m args c cc nL own Ts D cl tys E A) {cI t0 : Nat} (ht : tys[t0]? = some (cI, .int)) (d : decode cc pc = .ok (.iaload, 1)) : xw_Snd p l e R s m args below meth c nL D cl A Q Rt pc (tr_iald (pc + 1) cI) := by
  intro lv st w k n K hK ⟨i, a, N, f, r, hst, ha, hw, hi, hT⟩ ls H locs hl hP hD hS
  subst hst
  obtain ⟨j, hj⟩ := xw_at ha hw
  exact va_iald X.1.1 X.1.2.1 X.2.1 hP j t0 hj ht hi d (hK _ _ _ _ _ _ hT ls H locs hl hP hD hS)
theorem xs_iast (X : xw_X p s m args c cc nL own Ts D cl tys E A) {cI t0 : Nat} (ht : tys[t0]? = some (cI, .int)) (d : decode cc pc = .ok (.iastore, 1)) : xw_Snd p l e R s m args below meth c nL D cl A Q Rt pc (tr_iast (pc + 1) cI) := by
  intro lv st w k n K hK ⟨i, x, a, N, f, r, hst, ha, hw, hi, hT⟩ ls H locs hl hP hD hS
  subst hst
  obtain ⟨j, hj⟩ := xw_at ha hw
  refine va_iast X.1.1 X.1.2.1 X.2.1 hP hD hS j t0 hj ht hi d (fun H1 locs1 hP1 hD1 hS1 => ?_)
  rw [xw_set hD ha hw hj] at hP1 hD1
  exact hK _ _ _ _ _ _ hT ls H1 locs1 hl hP1 hD1 hS1
theorem xs_aald (X : xw_X p s m args c cc nL own Ts D cl tys E A) {C : String} {cA t0 : Nat} (ht : tys[t0]? = some (cA, .object C)) (d : decode cc pc = .ok (.aaload, 1)) : xw_Snd p l e R s m args below meth c nL D cl A Q Rt pc (tr_aald (pc + 1) cA) := by
  intro lv st w k n K hK ⟨i, a, N, f, r, hst, ha, hw, hi, hT⟩ ls H locs hl hP hD hS
  subst hst
  obtain ⟨j, hj⟩ := xw_at ha hw
  exact va_aldq X.1.1 X.1.2.1 X.2.1 hP j t0 hj ht hi d (hK _ _ _ _ _ _ hT ls H locs hl hP hD hS)
theorem xs_aast (X : xw_X p s m args c cc nL own Ts D cl tys E A) {C : String} {cA t0 : Nat} {cs : List Nat} (ht : tys[t0]? = some (cA, .object C)) (hcs : ∀ ci ∈ cs, ∃ r : vw_C, cl[ci]? = some r ∧ (r.1 = C ∨ va_Nw (.castable r.1 C) s)) (d : decode cc pc = .ok (.aastore, 1)) : xw_Snd p l e R s m args below meth c nL D cl A Q Rt pc (tr_aast (pc + 1) cA cs) := by
  intro lv st w k n K hK ⟨i, u, a, N, f, r, hst, ha, hw, hi, hu, hT⟩ ls H locs hl hP hD hS
  subst hst
  obtain ⟨j, hj⟩ := xw_at ha hw
  cases u with
  | none =>
    refine va_astqN X.1.1 X.1.2.1 X.2.1 hP hD hS j t0 hj ht hi d (fun H1 locs1 hP1 hD1 hS1 => ?_)
    rw [xw_set hD ha hw hj] at hP1 hD1
    exact hK _ _ _ _ _ _ hT ls H1 locs1 hl hP1 hD1 hS1
  | some v =>
    obtain ⟨hv, ci, fs, hci, hwv⟩ := hu v rfl
    obtain ⟨r9, hr9, hca⟩ := hcs ci hci
    obtain ⟨j2, hj2⟩ := xw_at hv hwv
    rcases hca with hca | hca
    · subst hca
      refine va_astq X.1.1 X.1.2.1 X.2.1 hP hD hS j t0 j2 ci hj ht hj2 hr9 hi d (fun H1 locs1 hP1 hD1 hS1 => ?_)
      rw [xw_set hD ha hw hj] at hP1 hD1
      exact hK _ _ _ _ _ _ hT ls H1 locs1 hl hP1 hD1 hS1
    · refine va_astqO X.1.1 X.1.2.1 X.2.1 hP hD hS j t0 j2 ci hj ht hca hj2 hr9 hi d (fun H1 locs1 hP1 hD1 hS1 => ?_)
      rw [xw_set hD ha hw hj] at hP1 hD1
      exact hK _ _ _ _ _ _ hT ls H1 locs1 hl hP1 hD1 hS1
theorem xs_alen (X : xw_X p s m args c cc nL own Ts D cl tys E A) {cs : List Nat} (hcs : ∀ cA ∈ cs, ∃ (t0 : Nat) (ty : FieldType), tys[t0]? = some (cA, ty)) (d : decode cc pc = .ok (.arraylength, 1)) : xw_Snd p l e R s m args below meth c nL D cl A Q Rt pc (tr_alen (pc + 1) cs) := by
  intro lv st w k n K hK ⟨a, N, cA, x, r, hst, ha, hw, hcA, hT⟩ ls H locs hl hP hD hS
  subst hst
  obtain ⟨j, hj⟩ := xw_at ha hw
  obtain ⟨t0, ty, ht⟩ := hcs cA hcA
  exact va_alen X.1.1 X.1.2.1 X.2.1 hP j t0 hj ht rfl d (hK _ _ _ _ _ _ hT ls H locs hl hP hD hS)
theorem xs_zlen (X : xw_X p s m args c cc nL own Ts D cl tys E A) (d : decode cc pc = .ok (.arraylength, 1)) : xw_Snd p l e R s m args below meth c nL D cl A Q Rt pc (tr_zlen (pc + 1) E.1.1) := by
  intro lv st w k n K hK ⟨r, hst, hT⟩ ls H locs hl hP hD hS
  subst hst
  exact va_tlen X.1.1 X.1.2.1 X.2.2.2.1.2.1 hS rfl d (hK _ _ _ _ _ _ hT ls H locs hl hP hD hS)
theorem xs_xlen (X : xw_X p s m args c cc nL own Ts D cl tys E A) (d : decode cc pc = .ok (.arraylength, 1)) : xw_Snd p l e R s m args below meth c nL D cl A Q Rt pc (tr_xlen (pc + 1) E) := by
  intro lv st w k n K hK ⟨r, hst, hT⟩ ls H locs hl hP hD hS
  subst hst
  exact va_slen X.1.1 X.1.2.1 X.2.2.2.1.2.2.1 X.2.2.2.1.2.2.2.1 X.2.2.2.1.2.2.2.2 hS d (hK _ _ _ _ _ _ hT ls H locs hl hP hD hS)
theorem xs_xald (X : xw_X p s m args c cc nL own Ts D cl tys E A) (d : decode cc pc = .ok (.iaload, 1)) : xw_Snd p l e R s m args below meth c nL D cl A Q Rt pc (tr_xald (pc + 1) E) := by
  intro lv st w k n K hK ⟨i, r, hst, hi, hT⟩ ls H locs hl hP hD hS
  subst hst
  exact va_sld X.1.1 X.1.2.1 X.2.2.2.1.2.2.1 X.2.2.2.1.2.2.2.1 X.2.2.2.1.2.2.2.2 hS hi d (hK _ _ _ _ _ _ hT ls H locs hl hP hD hS)
theorem xs_or {T1 T2 : xw_T} (h1 : xw_Snd p l e R s m args below meth c nL D cl A Q Rt pc T1) (h2 : xw_Snd p l e R s m args below meth c nL D cl A Q Rt pc T2) : xw_Snd p l e R s m args below meth c nL D cl A Q Rt pc (tr_or T1 T2) :=
  fun lv st w k n K hK hT => hT.elim (fun q => h1 lv st w k n K hK q) (fun q => h2 lv st w k n K hK q)
theorem xs_no : xw_Snd p l e R s m args below meth c nL D cl A Q Rt pc tr_no := fun _ _ _ _ _ _ _ hT => hT.elim
theorem xs_cast (X : xw_X p s m args c cc nL own Ts D cl tys E A) {C : String} {T : u_T} {N ci index : Nat} (hc : cl[ci]? = some (C, T, N)) (hlink : Cond.classLink own index C ∈ Ts) (d : decode cc pc = .ok (.checkcast index, 3)) : xw_Snd p l e R s m args below meth c nL D cl A Q Rt pc (tr_cast (pc + 3) ci) := by
  intro lv st w k n K hK ⟨v, r, hst, hv, hT⟩ ls H locs hl hP hD hS
  subst hst
  rcases hv with rfl | ⟨a, fs, rfl, ha, hw⟩
  · exact lv_castN X.1.1 X.1.2.1 d (hK _ _ _ _ _ _ hT ls H locs hl hP hD hS)
  · obtain ⟨j, hj⟩ := xw_at ha hw
    exact va_castS X.1.1 X.1.2.1 X.1.2.2.2.1 (X.1.2.2.2.2 _ hlink) (X.2.1.1 ci _ hc).2 (va_recv X.2.1 hP hc hj) d (hK _ _ _ _ _ _ hT ls H locs hl hP hD hS)
theorem xs_obj (X : xw_X p s m args c cc nL own Ts D cl tys E A) {index : Nat} (hlink : Cond.methodLink own index objectInit ∈ Ts) (hinst : Cond.instanceMethod objectInit ∈ Ts) (hcode : Cond.code objectInit ⟨#[0xb1]⟩ 1 none ∈ Ts) (hRf : 1 ≤ R.frames) (hRl : 20 ≤ R.locals) (d : decode cc pc = .ok (.invokespecial index, 3)) : xw_Snd p l e R s m args below meth c nL D cl A Q Rt pc (tr_obj (pc + 3)) := by
  intro lv st w k n K hK ⟨a, r, hst, hr, hT⟩ ls H locs hl hP hD hS
  subst hst
  exact W.objInit X.1.1 X.1.2.1 X.1.2.2.2.1 (X.1.2.2.2.2 _ hlink) (X.1.2.2.2.2 _ hinst) (X.1.2.2.2.2 _ hcode) rfl (by rw [X.1.2.2.1]; exact hl.1) rfl d hRf (by show 2 * 0 + _ + 12 ≤ _; omega) (hK _ _ _ _ _ _ hT ls H locs hl hP hD hS)
theorem xs_max (X : xw_X p s m args c cc nL own Ts D cl tys E A) {index MC MS : Nat} (hlink : Cond.methodLink own index Lib.Math.max.name ∈ Ts) (hstat : Cond.static Lib.Math.max.name ∈ Ts) (hini : Cond.initialized "java/lang/Math" ∈ Ts) (hcode : Cond.code Lib.Math.max.name Lib.Math.max.code 2 (some .int) ∈ Ts) (hRf : 1 ≤ R.frames) (hRl : 21 ≤ R.locals) (hRc : R.cells = MC) (hRs : R.slots = MS) (d : decode cc pc = .ok (.invokestatic index, 3)) : xw_Snd p l e R s m args below meth c nL D cl A Q Rt pc (tr_max (pc + 3) MC MS) := by
  intro lv st w k n K hK ⟨x, y, r, hst, hr, hk, hn, hT⟩ ls H locs hl hP hD hS
  subst hst
  exact va_mmax X.1.1 X.1.2.1 (by rw [X.1.2.2.1]; exact hl.1.symm) X.1.2.2.2.1 (X.1.2.2.2.2 _ hlink) (X.1.2.2.2.2 _ hstat) (X.1.2.2.2.2 _ hini) (X.1.2.2.2.2 _ hcode) hRf (by omega) (by rw [hRc]; exact hk) (by rw [hRs]; exact hn) d (hK _ _ _ _ _ _ hT ls H locs hl hP hD hS)
theorem xs_min (X : xw_X p s m args c cc nL own Ts D cl tys E A) {index MC MS : Nat} (hlink : Cond.methodLink own index Lib.Math.min.name ∈ Ts) (hstat : Cond.static Lib.Math.min.name ∈ Ts) (hini : Cond.initialized "java/lang/Math" ∈ Ts) (hcode : Cond.code Lib.Math.min.name Lib.Math.min.code 2 (some .int) ∈ Ts) (hRf : 1 ≤ R.frames) (hRl : 21 ≤ R.locals) (hRc : R.cells = MC) (hRs : R.slots = MS) (d : decode cc pc = .ok (.invokestatic index, 3)) : xw_Snd p l e R s m args below meth c nL D cl A Q Rt pc (tr_min (pc + 3) MC MS) := by
  intro lv st w k n K hK ⟨x, y, r, hst, hr, hk, hn, hT⟩ ls H locs hl hP hD hS
  subst hst
  exact va_mmin X.1.1 X.1.2.1 (by rw [X.1.2.2.1]; exact hl.1.symm) X.1.2.2.2.1 (X.1.2.2.2.2 _ hlink) (X.1.2.2.2.2 _ hstat) (X.1.2.2.2.2 _ hini) (X.1.2.2.2.2 _ hcode) hRf (by omega) (by rw [hRc]; exact hk) (by rw [hRs]; exact hn) d (hK _ _ _ _ _ _ hT ls H locs hl hP hD hS)
theorem xs_ldcM (X : xw_X p s m args c cc nL own Ts D cl tys E A) {index : Nat} (hlink : Cond.classLink own index "[Ljava/lang/Object;" ∈ Ts) (d : decode cc pc = .ok (.ldc index, 2)) : xw_Snd p l e R s m args below meth c nL D cl A Q Rt pc (tr_push (pc + 2) (.ref E.1.2)) :=
  xs_push fun _ _ _ _ _ _ h => va_ldcM X.1.1 X.1.2.1 X.1.2.2.2.1 (X.1.2.2.2.2 _ hlink) X.2.2.2.2.2.2.2.2.1 d h
theorem xs_getc (X : xw_X p s m args c cc nL own Ts D cl tys E A) {index cO t0 : Nat} (ht : tys[t0]? = some (cO, .object "java/lang/Object")) (hlink : Cond.methodLink own index ⟨"java/lang/Object", "getClass", "()Ljava/lang/Class;"⟩ ∈ Ts) (hsel : Cond.selects "[Ljava/lang/Object;" ⟨"java/lang/Object", "getClass", "()Ljava/lang/Class;"⟩ ⟨"java/lang/Object", "getClass", "()Ljava/lang/Class;"⟩ ∈ Ts) (hinst : Cond.instanceMethod ⟨"java/lang/Object", "getClass", "()Ljava/lang/Class;"⟩ ∈ Ts) (hnat : Cond.native ⟨"java/lang/Object", "getClass", "()Ljava/lang/Class;"⟩ ∈ Ts) (hRf : 1 ≤ R.frames) (hRl : 22 ≤ R.locals) (d : decode cc pc = .ok (.invokevirtual index, 3)) : xw_Snd p l e R s m args below meth c nL D cl A Q Rt pc (tr_getc (pc + 3) cO E.1.2) := by
  intro lv st w k n K hK ⟨a, N, f, r, hst, ha, hw, hr, hT⟩ ls H locs hl hP hD hS
  subst hst
  obtain ⟨j, hj⟩ := xw_at ha hw
  obtain ⟨k1, c1, -, -, -, e1⟩ := (X.2.1.2 t0 _ ht).2
  exact va_getC X.1.1 X.1.2.1 (by rw [X.1.2.2.1]; exact hl.1.symm) X.1.2.2.2.1 (X.1.2.2.2.2 _ hlink) (va_Dc.use X.2.2.2.2.2.2.2.2.2) (X.1.2.2.2.2 _ hsel) (X.1.2.2.2.2 _ hinst) (X.1.2.2.2.2 _ hnat) X.2.2.2.2.2.2.2.2.1 ⟨_, hP j _ hj, rfl, e1⟩ hRf (by omega) d (hK _ _ _ _ _ _ hT ls H locs hl hP hD hS)
theorem xs_copy (X : xw_X p s m args c cc nL own Ts D cl tys E A) {index cO t0 : Nat} {cs : List Nat} (ht : tys[t0]? = some (cO, .object "java/lang/Object")) (hcs : ∀ ci ∈ cs, ∃ r : vw_C, cl[ci]? = some r ∧ va_Nw (.castable r.1 "java/lang/Object") s) (hlink : Cond.methodLink own index arraycopyName ∈ Ts) (hnat : Cond.native arraycopyName ∈ Ts) (hstat : Cond.static arraycopyName ∈ Ts) (hini : Cond.initialized "java/lang/System" ∈ Ts) (hRf : 1 ≤ R.frames) (hRl : 8 + (nativeFrameWords "java/lang/System" "arraycopy" 5 + 11) ≤ R.locals) (d : decode cc pc = .ok (.invokestatic index, 3)) : xw_Snd p l e R s m args below meth c nL D cl A Q Rt pc (tr_copy (pc + 3) cO cs) := by
  intro lv st w k n K hK ⟨sp, dp, cn, a, b, N, M, f, g, r, hst, ha, hwa, hb, hwb, h1, h2, h3, h4, h5, hel, hr, hT⟩ ls H locs hl hP hD hS
  subst hst
  obtain ⟨j, hj⟩ := xw_at ha hwa
  obtain ⟨j2, hj2⟩ := xw_at hb hwb
  refine va_copyM X.1.1 X.1.2.1 (by rw [X.1.2.2.1]; exact hl.1.symm) X.1.2.2.2.1 (X.1.2.2.2.2 _ hlink) (X.1.2.2.2.2 _ hnat) (X.1.2.2.2.2 _ hstat) (X.1.2.2.2.2 _ hini) X.2.1 hP hD hS j j2 t0 t0 hj hj2 ht ht h1 h2 h3 h4 h5 (fun i hi y hy => ?_) hRf (by omega) d (fun H1 locs1 hP1 hD1 hS1 => ?_)
  · obtain ⟨hyw, ci, fs, hci, hwy⟩ := hel i y hi hy
    obtain ⟨r9, hr9, hca⟩ := hcs ci hci
    obtain ⟨j3, hj3⟩ := xw_at hyw hwy
    refine va_rAny X.2.1 hP hj3 hr9 (fun comp c0 f1 f2 => ?_)
    obtain ⟨c9, t9, g1, g2, g3⟩ := Cond.castable_spec (va_Nw.use (A := args) rfl hca)
    cases f1.symm.trans g2
    cases f2.symm.trans g1
    exact g3
  · rw [xw_set hD hb hwb hj2] at hP1 hD1
    exact hK _ _ _ _ _ _ hT ls H1 locs1 hl hP1 hD1 hS1
/-- behind a call: the world that the callee's post tells -/
theorem xw_after {lv : xw_L} {w : xw_W} {k n mc ms : Nat} {ls : Array Slot} {H : Heap} {locs : List Loc} {st0 rest : List Value} {a : Array Value} {post : Option Value → xw_W → Prop} (X : xw_X p s m args c cc nL own Ts D cl tys E A) (hl : lv_has ls nL lv) (hP : va_P D cl (va_pl w.1 w.2) H) (hD : va_D A (va_pl w.1 w.2)) (hS : va_S A s.heap H locs)
    (run : va_Run p l e R s m args below meth c H locs k n mc ms (F0 m pc ls st0) rest (xw_Qp D cl w H.size post a) (va_A (va_pl w.1 w.2) H.size))
    (hpost : ∀ (v : Option Value) (w' : xw_W), post v w' → xw_G p l e R s m args below meth c nL D cl A Q (pc + 3) lv (v.toList ++ rest) w' (k + mc) (n + ms)) : W p l e R s m args below meth c H locs k n Q (F0 m pc ls st0) := by
  have hAA : ∀ q, va_A (va_pl w.1 w.2) H.size q → A q := by
    intro q h
    rcases h with ⟨j, x, h⟩ | h
    · exact hD.2 j (q, x) h
    · exact X.2.2.1 q (Nat.le_trans hS.1 h)
  intro T hT Xs
  obtain ⟨v, st₀, t, T', L, h0, X', hL, e1, e2, ⟨⟨v', w', hv, hp, hP1, hD1⟩, hz, hk⟩, stp⟩ := run T hT Xs
  cases hv
  rw [h0] at hz hk
  rw [← e1] at hP1 hz hk
  have hS1 : va_S A s.heap T'.heap (locs ++ L) := ⟨Nat.le_trans hS.1 hz, fun q h1 h2 => by rw [hk q (Nat.lt_of_lt_of_le h1 hS.1) (fun z => h2 (hAA q z))]; exact hS.2.1 q h1 h2, fun q hq => by
    rcases List.mem_append.mp hq with h | h
    · exact hS.2.2 q h
    · exact hAA _ (hL q h)⟩
  obtain ⟨t2, a1, b1⟩ := hpost _ _ hp ls T'.heap (locs ++ L) hl hP1 (hD1.weaken (fun _ q _ h => hAA q.1 h)) hS1 T' rfl X'
  exact ⟨t2, stp t2 a1, b1⟩
theorem xw_pre (X : xw_X p s m args c cc nL own Ts D cl tys E A) {w : xw_W} {H : Heap} {locs : List Loc} (hP : va_P D cl (va_pl w.1 w.2) H) (hD : va_D A (va_pl w.1 w.2)) (hS : va_S A s.heap H locs) (av : List Value) : ∀ U : State, U.heap = H → s.WarmedH U.vm → xw_P D cl tys E av w H.size av.toArray U := by
  intro U hU hW
  have hAA : ∀ q, va_A (va_pl w.1 w.2) H.size q → A q := by
    intro q h
    rcases h with ⟨j, x, h⟩ | h
    · exact hD.2 j (q, x) h
    · exact X.2.2.1 q (Nat.le_trans hS.1 h)
  refine ⟨rfl, by rw [hU], by rw [hU]; exact hP, va_K.moved hW.alike X.2.1, hD.weaken (fun _ _ _ _ => trivial), ?_⟩
  rw [hU]
  have h9 := (X.2.2.2.kept hS.1 (fun a h1 h2 => hS.2.1 a h1 h2)).narrow hAA
  exact ⟨h9.1.moved hW.alike, h9.2.warm hW⟩
theorem xs_callV (X : xw_X p s m args c cc nL own Ts D cl tys E A) {C : String} {y : MethodName} {bytes : ByteArray} {maxL index na mc ms MC MS ci : Nat} {ret : Option FieldType} {ws : List Cond} {rm : Room} {PT : xw_PT} {r9 : vw_C} (hM : xw_MP l D cl tys E y ws rm PT mc ms) (cw : CallW R s args own C index y bytes maxL ret ws rm mc ms na) (hc : cl[ci]? = some r9) (hC : r9.1 = C) (hRc : R.cells = MC) (hRs : R.slots = MS) (d : decode cc pc = .ok (.invokevirtual index, 3)) : xw_Snd p l e R s m args below meth c nL D cl A Q Rt pc (tr_callV (pc + 3) na ci PT mc ms MC MS) := by
  intro lv st w k n K hK ⟨a, fs, r, hst, ha, hw, hcat, hk, hn, hT⟩ ls H locs hl hP hD hS
  have hstk : st = ((st.take na).reverse).reverse ++ .ref a :: r := by rw [List.reverse_reverse, ← hst, List.take_append_drop]
  have hlen : ((st.take na).reverse).length = na := by
    have h2 : (st.drop na).length = r.length + 1 := by rw [hst]; rfl
    rw [List.length_drop] at h2
    rw [List.length_reverse, List.length_take]
    omega
  obtain ⟨j, hj⟩ := xw_at ha hw
  refine xw_after X hl hP hD hS (va_runV (As := (st.take na).reverse) (rest := r) X.1 (hM _ w H.size _ hT) cw ⟨xw_blind D cl tys E _ w H.size, by rw [← hC]; exact va_recv X.2.1 hP hc hj, xw_pre X hP hD hS _⟩ rfl hlen hl.1 hstk (lv_room hcat) d ⟨by rw [hRc]; exact hk, by rw [hRs]; exact hn⟩) (fun v w' hp => hK _ _ _ _ _ _ hp)
theorem xs_callI (X : xw_X p s m args c cc nL own Ts D cl tys E A) {y : MethodName} {bytes : ByteArray} {maxL index na mc ms MC MS : Nat} {ws : List Cond} {rm : Room} {PT : xw_PT} (hM : xw_MP l D cl tys E y ws rm PT mc ms) (cw : CallB R s args own index y bytes maxL none ws rm mc ms na ∧ y.name = "<init>" ∧ (Cond.instanceMethod y).before args s = true) (hRc : R.cells = MC) (hRs : R.slots = MS) (d : decode cc pc = .ok (.invokespecial index, 3)) : xw_Snd p l e R s m args below meth c nL D cl A Q Rt pc (tr_callI (pc + 3) na PT mc ms MC MS) := by
  intro lv st w k n K hK ⟨a, r, hst, hcat, hk, hn, hT⟩ ls H locs hl hP hD hS
  have hstk : st = ((st.take na).reverse).reverse ++ .ref a :: r := by rw [List.reverse_reverse, ← hst, List.take_append_drop]
  have hlen : ((st.take na).reverse).length = na := by
    have h2 : (st.drop na).length = r.length + 1 := by rw [hst]; rfl
    rw [List.length_drop] at h2
    rw [List.length_reverse, List.length_take]
    omega
  refine xw_after X hl hP hD hS (va_runI (As := (st.take na).reverse) (rest := r) X.1 (hM _ w H.size _ hT) cw ⟨xw_blind D cl tys E _ w H.size, xw_pre X hP hD hS _⟩ rfl hlen hl.1 hstk (lv_room hcat) d ⟨by rw [hRc]; exact hk, by rw [hRs]; exact hn⟩) (fun v w' hp => hK _ _ _ _ _ _ hp)
theorem xs_callIN (X : xw_X p s m args c cc nL own Ts D cl tys E A) {host : String} {y : MethodName} {bytes : ByteArray} {maxL index na mc ms MC MS : Nat} {ws : List Cond} {rm : Room} {PT : xw_PT} (hM : xw_MP l D cl tys E y ws rm PT mc ms) (cw : va_CN R s args own index y host bytes maxL none ws rm mc ms na ∧ y.name = "<init>" ∧ (Cond.instanceMethod y).before args s = true) (hRc : R.cells = MC) (hRs : R.slots = MS) (d : decode cc pc = .ok (.invokespecial index, 3)) : xw_Snd p l e R s m args below meth c nL D cl A Q Rt pc (tr_callI (pc + 3) na PT mc ms MC MS) := by
  intro lv st w k n K hK ⟨a, r, hst, hcat, hk, hn, hT⟩ ls H locs hl hP hD hS
  have hstk : st = ((st.take na).reverse).reverse ++ .ref a :: r := by rw [List.reverse_reverse, ← hst, List.take_append_drop]
  have hlen : ((st.take na).reverse).length = na := by
    have h2 : (st.drop na).length = r.length + 1 := by rw [hst]; rfl
    rw [List.length_drop] at h2
    rw [List.length_reverse, List.length_take]
    omega
  refine xw_after X hl hP hD hS (va_runIN (As := (st.take na).reverse) (rest := r) X.1 (hM _ w H.size _ hT) cw ⟨xw_blind D cl tys E _ w H.size, xw_pre X hP hD hS _⟩ rfl hlen hl.1 hstk (lv_room hcat) d ⟨by rw [hRc]; exact hk, by rw [hRs]; exact hn⟩) (fun v w' hp => hK _ _ _ _ _ _ hp)
theorem xs_callS (X : xw_X p s m args c cc nL own Ts D cl tys E A) {y : MethodName} {bytes : ByteArray} {maxL index na mc ms MC MS : Nat} {ret : Option FieldType} {ws : List Cond} {rm : Room} {PT : xw_PT} (hM : xw_MP l D cl tys E y ws rm PT mc ms) (cw : CallB R s args own index y bytes maxL ret ws rm mc ms na ∧ (Cond.static y).before args s = true) (hRc : R.cells = MC) (hRs : R.slots = MS) (d : decode cc pc = .ok (.invokestatic index, 3)) : xw_Snd p l e R s m args below meth c nL D cl A Q Rt pc (tr_callS (pc + 3) na PT mc ms MC MS) := by
  intro lv st w k n K hK ⟨hna, hcat, hk, hn, hT⟩ ls H locs hl hP hD hS
  have hstk : st = ((st.take na).reverse).reverse ++ st.drop na := by rw [List.reverse_reverse, List.take_append_drop]
  have hlen : ((st.take na).reverse).length = na := by rw [List.length_reverse, List.length_take]; omega
  refine xw_after X hl hP hD hS (va_runS (As := (st.take na).reverse) (rest := st.drop na) X.1 (hM _ w H.size _ hT) cw ⟨xw_blind D cl tys E _ w H.size, xw_pre X hP hD hS _⟩ rfl hlen hl.1 hstk (lv_room hcat) d ⟨by rw [hRc]; exact hk, by rw [hRs]; exact hn⟩) (fun v w' hp => hK _ _ _ _ _ _ hp)
end XM
section XQ
variable {p : Program} {l : Launch} {e : Env} {R : Room} {s : State} {m : MethodId} {args : Array Value} {below : List Frame} {meth : Method} {c : Code}
variable {cc : ByteArray} {nL : Nat} {own : String} {Ts : List Cond} {D : va_G} {cl : List vw_C} {tys : List (ClassId × FieldType)} {E : xw_E} {pc : Nat}
def xw_Rt (post : Option Value → xw_W → Prop) (mc ms : Nat) : xw_R := fun v w' k n => post v w' ∧ k ≤ mc ∧ n ≤ ms
/-- a method's sound table, at one start of it -/
def xw_M (p : Program) (l : Launch) (e : Env) (R : Room) (s : State) (m : MethodId) (args : Array Value) (below : List Frame) (meth : Method) (c : Code) (nL : Nat) (D : va_G) (cl : List vw_C) (w0 : xw_W) (post : Option Value → xw_W → Prop) (mc ms : Nat) (pc : Nat) (T : xw_T) : Prop :=
  xw_Snd p l e R s m args below meth c nL D cl (va_A (va_pl w0.1 w0.2) s.heap.size) (MQ below (xw_Qp D cl w0 s.heap.size post) args s mc ms (va_A (va_pl w0.1 w0.2) s.heap.size)) (xw_Rt post mc ms) pc T
variable {w0 : xw_W} {post : Option Value → xw_W → Prop} {mc ms : Nat}
theorem xs_iret {A : Nat → Prop} (X : xw_X p s m args c cc nL own Ts D cl tys E A) {ty : FieldType} (hr : meth.sig.returnType = some ty) (hlocks : meth.locks = false) (d : decode cc pc = .ok (.ireturn, 1)) : xw_M p l e R s m args below meth c nL D cl w0 post mc ms pc (tr_iret ty) := by
  intro lv st w k n K hK ⟨x, hst, hn, hpost, hk, hms⟩ ls H locs hl hP hD hS
  subst hst
  refine W.widen hk hms ?_
  exact W.zret X.1.1 X.1.2.1 hr hn (fun t ht hW => ⟨⟨_, w, rfl, hpost, by rw [ht]; exact hP, hD⟩, hS.F ht⟩) hS.2.2 d hlocks
theorem xs_lret {A : Nat → Prop} (X : xw_X p s m args c cc nL own Ts D cl tys E A) (hr : meth.sig.returnType = some .long) (hlocks : meth.locks = false) (d : decode cc pc = .ok (.lreturn, 1)) : xw_M p l e R s m args below meth c nL D cl w0 post mc ms pc tr_lret := by
  intro lv st w k n K hK ⟨x, hst, hpost, hk, hms⟩ ls H locs hl hP hD hS
  subst hst
  refine W.widen hk hms ?_
  exact W.lret X.1.1 X.1.2.1 hr (fun t ht hW => ⟨⟨_, w, rfl, hpost, by rw [ht]; exact hP, hD⟩, hS.F ht⟩) hS.2.2 d hlocks
theorem xs_aret {A : Nat → Prop} (X : xw_X p s m args c cc nL own Ts D cl tys E A) {rt : FieldType} (hr : meth.sig.returnType = some rt) (hrt : (∃ n, rt = .object n) ∨ ∃ t, rt = .array t) (hlocks : meth.locks = false) (d : decode cc pc = .ok (.areturn, 1)) : xw_M p l e R s m args below meth c nL D cl w0 post mc ms pc tr_aret := by
  intro lv st w k n K hK ⟨v, hst, ⟨o, ho⟩, hpost, hk, hms⟩ ls H locs hl hP hD hS
  subst hst
  refine W.widen hk hms ?_
  exact W.aret X.1.1 X.1.2.1 hr hrt (by subst ho; cases o with
    | none => exact Or.inl rfl
    | some a => exact Or.inr ⟨a, rfl⟩) (fun t ht hW => ⟨⟨_, w, rfl, hpost, by rw [ht]; exact hP, hD⟩, hS.F ht⟩) hS.2.2 d hlocks
theorem xs_vret {A : Nat → Prop} (X : xw_X p s m args c cc nL own Ts D cl tys E A) (hr : meth.sig.returnType = none) (hlocks : meth.locks = false) (d : decode cc pc = .ok (.return_, 1)) : xw_M p l e R s m args below meth c nL D cl w0 post mc ms pc tr_vret := by
  intro lv st w k n K hK ⟨hst, hpost, hk, hms⟩ ls H locs hl hP hD hS
  subst hst
  refine W.widen hk hms ?_
  exact W.vret X.1.1 X.1.2.1 hr (fun t ht hW => ⟨⟨_, w, rfl, hpost, by rw [ht]; exact hP, hD⟩, hS.F ht⟩) hS.2.2 d hlocks
/-- A METHOD'S CONTRACT out of its table -/
theorem xw_met {y : MethodName} {ws ws' : List Cond} {rm : Room} {tb : List (Nat × xw_T)} {ret : Option FieldType} (hy : plainName y.cls = true) (hw : ws = .code y cc nL ret :: ws')
    (hsnd : ∀ (p : Program) (e : Env) (s : State) (m : MethodId) (args : Array Value) (below : List Frame) (meth : Method) (c : Code) (w0 : xw_W) (post : Option Value → xw_W → Prop), xw_X p s m args c cc nL y.cls ws D cl tys E (va_A (va_pl w0.1 w0.2) s.heap.size) → meth.sig.returnType = ret → meth.locks = false → meth.name = y.name → ∀ q ∈ tb, xw_M p l e rm s m args below meth c nL D cl w0 post mc ms q.1 q.2) :
    xw_MP l D cl tys E y ws rm (xw_pt tb nL mc ms) mc ms := by
  intro av w sz post hPT
  obtain ⟨hlen, hrun⟩ := hPT
  refine Met.ofW (cc := cc) (maxL := nL) (ret := ret) hy hw ?_
  intro p e s m args below meth c s₁ B hml hv
  obtain ⟨rfl, hsz, hP, hK, hD0, hZ⟩ := hv
  have hts := atoms_spec (ws := ws) B.pre
  have hown : s.vm.findClass y.cls = some m.cls := findClass_of_methodNamed B.named
  have hin : meth.name = y.name := (name_of_methodNamed B.named B.method).1
  subst hsz
  have hD := hD0.self (sz := s.heap.size)
  have hl := lv_entry av (n := nL) hlen
  rw [lg_entry_eq]
  exact xw_closed (hsnd p e s m _ below meth c w post ⟨⟨B.exec, B.bytes, hml, hown, hts⟩, hK, fun q h => Or.inr h, hZ⟩ B.returns B.notSynchronized hin) hrun _ s.heap [] hl hP hD va_S.rf
end XQ
/-- the four rows of the tables' arrays: ints, objects, bouts, fencers -/
abbrev xw_Y : Type := xw_E × Nat × Nat × Nat × Nat
def xw_ty (Y : xw_Y) : List (ClassId × FieldType) := [(Y.2.1, .int), (Y.2.2.1, .object "java/lang/Object"), (Y.2.2.2.1, .object "Pommel$Bout"), (Y.2.2.2.2, .object "Pommel$Fencer")]
end
section
/-! rows of a run: a row an instruction -/
section XRN
variable {tb : List (Nat × xw_T)} {Rt : xw_R} {pc : Nat} {lv : xw_L} {st r : List Value} {w : xw_W} {k n : Nat}
theorem xw_cat_rf (o : Option Nat) : (va_rf o).category = 1 := by cases o <;> rfl
theorem rn_push {nx : Nat} {v : Value} (h : xw_lk tb pc = some (tr_push nx v)) (hk : xw_Run tb Rt nx lv (v :: st) w k n) : xw_Run tb Rt pc lv st w k n := xw_Run.st h hk
theorem rn_ild {nx i : Nat} {x : Int32} (h : xw_lk tb pc = some (tr_ild nx i)) (hl : xw_lk lv i = some (.int x)) (hk : xw_Run tb Rt nx lv (.int x :: st) w k n) : xw_Run tb Rt pc lv st w k n := xw_Run.st h ⟨x, hl, hk⟩
theorem rn_lld {nx i : Nat} {x : Int64} (h : xw_lk tb pc = some (tr_lld nx i)) (hl : xw_lk lv i = some (.long x)) (hk : xw_Run tb Rt nx lv (.long x :: st) w k n) : xw_Run tb Rt pc lv st w k n := xw_Run.st h ⟨x, hl, hk⟩
theorem rn_ald {nx i a : Nat} (h : xw_lk tb pc = some (tr_ald nx i)) (hl : xw_lk lv i = some (.ref a)) (hk : xw_Run tb Rt nx lv (.ref a :: st) w k n) : xw_Run tb Rt pc lv st w k n := xw_Run.st h ⟨_, hl, xw_isR_ref a, hk⟩
theorem rn_aldN {nx i : Nat} (h : xw_lk tb pc = some (tr_ald nx i)) (hl : xw_lk lv i = some .null) (hk : xw_Run tb Rt nx lv (.null :: st) w k n) : xw_Run tb Rt pc lv st w k n := xw_Run.st h ⟨_, hl, xw_isR_null, hk⟩
theorem rn_aldO {nx i : Nat} {o : Option Nat} (h : xw_lk tb pc = some (tr_ald nx i)) (hl : xw_lk lv i = some (va_rf o)) (hk : xw_Run tb Rt nx lv (va_rf o :: st) w k n) : xw_Run tb Rt pc lv st w k n := xw_Run.st h ⟨_, hl, xw_isR_rf o, hk⟩
theorem rn_ist {nx i : Nat} {x : Int32} {lv' : xw_L} (h : xw_lk tb pc = some (tr_ist nx i)) (hl : xw_s1 i (.int x) lv = lv') (hk : xw_Run tb Rt nx lv' r w k n) : xw_Run tb Rt pc lv (.int x :: r) w k n := xw_Run.st h ⟨x, r, rfl, by rw [hl]; exact hk⟩
theorem rn_lst {nx i : Nat} {x : Int64} {lv' : xw_L} (h : xw_lk tb pc = some (tr_lst nx i)) (hl : xw_s2 i (.long x) lv = lv') (hk : xw_Run tb Rt nx lv' r w k n) : xw_Run tb Rt pc lv (.long x :: r) w k n := xw_Run.st h ⟨x, r, rfl, by rw [hl]; exact hk⟩
theorem rn_ast {nx i a : Nat} {lv' : xw_L} (h : xw_lk tb pc = some (tr_ast nx i)) (hl : xw_s1 i (.ref a) lv = lv') (hk : xw_Run tb Rt nx lv' r w k n) : xw_Run tb Rt pc lv (.ref a :: r) w k n := xw_Run.st h ⟨_, r, rfl, xw_isR_ref a, by rw [hl]; exact hk⟩
theorem rn_astO {nx i : Nat} {o : Option Nat} {lv' : xw_L} (h : xw_lk tb pc = some (tr_ast nx i)) (hl : xw_s1 i (va_rf o) lv = lv') (hk : xw_Run tb Rt nx lv' r w k n) : xw_Run tb Rt pc lv (va_rf o :: r) w k n := xw_Run.st h ⟨_, r, rfl, xw_isR_rf o, by rw [hl]; exact hk⟩
theorem rn_inc {nx i : Nat} {d x : Int32} {lv' : xw_L} (h : xw_lk tb pc = some (tr_inc nx i d)) (hx : xw_lk lv i = some (.int x)) (hl : xw_s1 i (.int (x + d)) lv = lv') (hk : xw_Run tb Rt nx lv' st w k n) : xw_Run tb Rt pc lv st w k n := xw_Run.st h ⟨x, hx, by rw [hl]; exact hk⟩
theorem rn_i2 {nx : Nat} {f : Int32 → Int32 → Int32} {x y : Int32} (h : xw_lk tb pc = some (tr_i2 nx f)) (hk : xw_Run tb Rt nx lv (.int (f x y) :: r) w k n) : xw_Run tb Rt pc lv (.int y :: .int x :: r) w k n := xw_Run.st h ⟨x, y, r, rfl, hk⟩
theorem rn_i2z {nx : Nat} {f : Int32 → Int32 → Int32} {x y : Int32} (h : xw_lk tb pc = some (tr_i2z nx f)) (hz : ¬ y = 0) (hk : xw_Run tb Rt nx lv (.int (f x y) :: r) w k n) : xw_Run tb Rt pc lv (.int y :: .int x :: r) w k n := xw_Run.st h ⟨x, y, r, rfl, hz, hk⟩
theorem rn_l2 {nx : Nat} {f : Int64 → Int64 → Int64} {x y : Int64} (h : xw_lk tb pc = some (tr_l2 nx f)) (hk : xw_Run tb Rt nx lv (.long (f x y) :: r) w k n) : xw_Run tb Rt pc lv (.long y :: .long x :: r) w k n := xw_Run.st h ⟨x, y, r, rfl, hk⟩
theorem rn_lcmp {nx : Nat} {x y : Int64} (h : xw_lk tb pc = some (tr_lcmp nx)) (h1 : x < y → xw_Run tb Rt nx lv (.int (-1) :: r) w k n) (h2 : x = y → xw_Run tb Rt nx lv (.int 0 :: r) w k n) (h3 : y < x → xw_Run tb Rt nx lv (.int 1 :: r) w k n) : xw_Run tb Rt pc lv (.long y :: .long x :: r) w k n := xw_Run.st h ⟨x, y, r, rfl, h1, h2, h3⟩
theorem rn_i2l {nx : Nat} {x : Int32} (h : xw_lk tb pc = some (tr_i2l nx)) (hk : xw_Run tb Rt nx lv (.long x.toInt64 :: r) w k n) : xw_Run tb Rt pc lv (.int x :: r) w k n := xw_Run.st h ⟨x, r, rfl, hk⟩
theorem rn_dup {nx : Nat} {v : Value} (h : xw_lk tb pc = some (tr_dup nx)) (hv : v.category = 1) (hk : xw_Run tb Rt nx lv (v :: v :: r) w k n) : xw_Run tb Rt pc lv (v :: r) w k n := xw_Run.st h ⟨v, r, rfl, hv, hk⟩
theorem rn_pop {nx : Nat} {v : Value} (h : xw_lk tb pc = some (tr_pop nx)) (hv : v.category = 1) (hk : xw_Run tb Rt nx lv r w k n) : xw_Run tb Rt pc lv (v :: r) w k n := xw_Run.st h ⟨v, r, rfl, hv, hk⟩
theorem rn_dup2 {nx : Nat} {u v : Value} (h : xw_lk tb pc = some (tr_dup2 nx)) (hu : u.category = 1) (hv : v.category = 1) (hk : xw_Run tb Rt nx lv (u :: v :: u :: v :: r) w k n) : xw_Run tb Rt pc lv (u :: v :: r) w k n := xw_Run.st h ⟨u, v, r, rfl, hu, hv, hk⟩
theorem rn_dupx1 {nx : Nat} {u v : Value} (h : xw_lk tb pc = some (tr_dupx1 nx)) (hu : u.category = 1) (hv : v.category = 1) (hk : xw_Run tb Rt nx lv (u :: v :: u :: r) w k n) : xw_Run tb Rt pc lv (u :: v :: r) w k n := xw_Run.st h ⟨u, v, r, rfl, hu, hv, hk⟩
theorem rn_ifz {nx tg : Nat} {P : Int32 → Prop} {x : Int32} (h : xw_lk tb pc = some (tr_ifz nx tg P)) (h1 : P x → xw_Run tb Rt tg lv r w k n) (h2 : ¬ P x → xw_Run tb Rt nx lv r w k n) : xw_Run tb Rt pc lv (.int x :: r) w k n := xw_Run.st h ⟨x, r, rfl, h1, h2⟩
theorem rn_ifc {nx tg : Nat} {P : Int32 → Int32 → Prop} {x y : Int32} (h : xw_lk tb pc = some (tr_ifc nx tg P)) (h1 : P x y → xw_Run tb Rt tg lv r w k n) (h2 : ¬ P x y → xw_Run tb Rt nx lv r w k n) : xw_Run tb Rt pc lv (.int y :: .int x :: r) w k n := xw_Run.st h ⟨x, y, r, rfl, h1, h2⟩
theorem rn_ifa {t f : Nat} {a b : Option Nat} (h : xw_lk tb pc = some (tr_ifa t f)) (h1 : a = b → xw_Run tb Rt t lv r w k n) (h2 : ¬ a = b → xw_Run tb Rt f lv r w k n) : xw_Run tb Rt pc lv (va_rf b :: va_rf a :: r) w k n := xw_Run.st h ⟨va_rf a, va_rf b, r, rfl, xw_isR_rf a, xw_isR_rf b, fun q => h1 (xw_rf_inj q), fun q => h2 (fun z => q (by rw [z]))⟩
theorem rn_ifaR {t f : Nat} {a b : Nat} (h : xw_lk tb pc = some (tr_ifa t f)) (h1 : a = b → xw_Run tb Rt t lv r w k n) (h2 : ¬ a = b → xw_Run tb Rt f lv r w k n) : xw_Run tb Rt pc lv (.ref b :: .ref a :: r) w k n := xw_Run.st h ⟨.ref a, .ref b, r, rfl, xw_isR_ref a, xw_isR_ref b, fun q => h1 (by cases q; rfl), fun q => h2 (fun z => q (by rw [z]))⟩
theorem rn_ifn {t f : Nat} {o : Option Nat} (h : xw_lk tb pc = some (tr_ifn t f)) (h1 : o = none → xw_Run tb Rt t lv r w k n) (h2 : ∀ a, o = some a → xw_Run tb Rt f lv r w k n) : xw_Run tb Rt pc lv (va_rf o :: r) w k n := xw_Run.st h ⟨va_rf o, r, rfl, xw_isR_rf o, fun q => h1 (xw_rf_inj (q := none) q), fun q => by
  cases o with
  | none => exact absurd rfl q
  | some a => exact h2 a rfl⟩
theorem rn_ifnR {t f a : Nat} (h : xw_lk tb pc = some (tr_ifn t f)) (h2 : xw_Run tb Rt f lv r w k n) : xw_Run tb Rt pc lv (.ref a :: r) w k n := xw_Run.st h ⟨.ref a, r, rfl, xw_isR_ref a, (fun q => by cases q), fun _ => h2⟩
theorem rn_ifnN {t f : Nat} (h : xw_lk tb pc = some (tr_ifn t f)) (h1 : xw_Run tb Rt t lv r w k n) : xw_Run tb Rt pc lv (.null :: r) w k n := xw_Run.st h ⟨.null, r, rfl, xw_isR_null, fun _ => h1, fun q => absurd rfl q⟩
theorem rn_goto {tg : Nat} (h : xw_lk tb pc = some (tr_goto tg)) (hk : xw_Run tb Rt tg lv st w k n) : xw_Run tb Rt pc lv st w k n := xw_Run.st h hk
theorem rn_sw {lo hi : Int} {ts : List Nat} {d : Nat} {x : Int32} (h : xw_lk tb pc = some (tr_sw lo hi ts d)) (h1 : (x.toInt < lo ∨ hi < x.toInt) → xw_Run tb Rt d lv r w k n) (h2 : ∀ (j t : Nat), x.toInt = lo + (j : Int) → ts[j]? = some t → xw_Run tb Rt t lv r w k n) : xw_Run tb Rt pc lv (.int x :: r) w k n := xw_Run.st h ⟨x, r, rfl, h1, h2⟩
theorem rn_getf {nx ci kf a : Nat} {fs : List Value} {u : Value} (h : xw_lk tb pc = some (tr_getf nx ci kf)) (ha : a ∈ w.1) (hw : w.2 a = .inr (ci, fs)) (hu : fs[kf]? = some u) (hk : xw_Run tb Rt nx lv (u :: r) w k n) : xw_Run tb Rt pc lv (.ref a :: r) w k n := xw_Run.st h ⟨a, r, fs, u, rfl, ha, hw, hu, hk⟩
theorem rn_putf {nx ci kf a : Nat} {ty : FieldType} {fs : List Value} {u : Value} (h : xw_lk tb pc = some (tr_putf nx ci kf ty)) (ha : a ∈ w.1) (hw : w.2 a = .inr (ci, fs)) (hl : kf < fs.length) (hf : xw_fit ty u) (hk : xw_Run tb Rt nx lv r (w.1, va_up w.2 a (.inr (ci, fs.set kf u))) k n) : xw_Run tb Rt pc lv (u :: .ref a :: r) w k n := xw_Run.st h ⟨a, u, r, fs, rfl, ha, hw, hl, hf, hk⟩
theorem rn_gets {nx z : Nat} (h : xw_lk tb pc = some (tr_gets nx z)) (hk : xw_Run tb Rt nx lv (.ref z :: st) w k n) : xw_Run tb Rt pc lv st w k n := xw_Run.st h hk
theorem rn_new {nx ci N MC MS : Nat} {fs : List Value} (h : xw_lk tb pc = some (tr_new nx ci N fs MC MS)) (h1 : k + 1 ≤ MC) (h2 : n + N ≤ MS) (hk : ∀ q : Nat, q ∉ w.1 → xw_Run tb Rt nx lv (.ref q :: st) (w.1 ++ [q], va_up w.2 q (.inr (ci, fs))) (k + 1) (n + N)) : xw_Run tb Rt pc lv st w k n := xw_Run.st h ⟨h1, h2, hk⟩
theorem rn_newi {nx cI MC MS : Nat} {x : Int32} (h : xw_lk tb pc = some (tr_newi nx cI MC MS)) (hx : ¬ x < 0) (hb : x.toNatClampNeg ≤ 1000000) (h1 : k + 1 ≤ MC) (h2 : n + x.toNatClampNeg ≤ MS) (hk : ∀ q : Nat, q ∉ w.1 → xw_Run tb Rt nx lv (.ref q :: r) (w.1 ++ [q], va_up w.2 q (.inl (cI, x.toNatClampNeg, .inl (fun _ => 0)))) (k + 1) (n + x.toNatClampNeg)) : xw_Run tb Rt pc lv (.int x :: r) w k n := xw_Run.st h ⟨x, r, rfl, hx, hb, h1, h2, hk⟩
theorem rn_newq {nx cA MC MS : Nat} {x : Int32} (h : xw_lk tb pc = some (tr_newq nx cA MC MS)) (hx : ¬ x < 0) (hb : x.toNatClampNeg ≤ 1000000) (h1 : k + 1 ≤ MC) (h2 : n + x.toNatClampNeg ≤ MS) (hk : ∀ q : Nat, q ∉ w.1 → xw_Run tb Rt nx lv (.ref q :: r) (w.1 ++ [q], va_up w.2 q (.inl (cA, x.toNatClampNeg, .inr (.inr (.inr (.inr (fun _ => none))))))) (k + 1) (n + x.toNatClampNeg)) : xw_Run tb Rt pc lv (.int x :: r) w k n := xw_Run.st h ⟨x, r, rfl, hx, hb, h1, h2, hk⟩
theorem rn_iald {nx cI a N : Nat} {i : Int32} {f : Nat → Int32} (h : xw_lk tb pc = some (tr_iald nx cI)) (ha : a ∈ w.1) (hw : w.2 a = .inl (cI, N, .inl f)) (hi : vp_in i N) (hk : xw_Run tb Rt nx lv (.int (f i.toNatClampNeg) :: r) w k n) : xw_Run tb Rt pc lv (.int i :: .ref a :: r) w k n := xw_Run.st h ⟨i, a, N, f, r, rfl, ha, hw, hi, hk⟩
theorem rn_iast {nx cI a N : Nat} {i x : Int32} {f : Nat → Int32} (h : xw_lk tb pc = some (tr_iast nx cI)) (ha : a ∈ w.1) (hw : w.2 a = .inl (cI, N, .inl f)) (hi : vp_in i N) (hk : xw_Run tb Rt nx lv r (w.1, va_up w.2 a (.inl (cI, N, .inl (upd f i.toNatClampNeg x)))) k n) : xw_Run tb Rt pc lv (.int x :: .int i :: .ref a :: r) w k n := xw_Run.st h ⟨i, x, a, N, f, r, rfl, ha, hw, hi, hk⟩
theorem rn_aald {nx cA a N : Nat} {i : Int32} {f : Nat → Option Nat} (h : xw_lk tb pc = some (tr_aald nx cA)) (ha : a ∈ w.1) (hw : w.2 a = .inl (cA, N, .inr (.inr (.inr (.inr f))))) (hi : vp_in i N) (hk : xw_Run tb Rt nx lv (va_rf (f i.toNatClampNeg) :: r) w k n) : xw_Run tb Rt pc lv (.int i :: .ref a :: r) w k n := xw_Run.st h ⟨i, a, N, f, r, rfl, ha, hw, hi, hk⟩
theorem rn_aast {nx cA a N : Nat} {cs : List Nat} {i : Int32} {u : Option Nat} {f : Nat → Option Nat} (h : xw_lk tb pc = some (tr_aast nx cA cs)) (ha : a ∈ w.1) (hw : w.2 a = .inl (cA, N, .inr (.inr (.inr (.inr f))))) (hi : vp_in i N) (hu : ∀ v, u = some v → v ∈ w.1 ∧ ∃ (ci : Nat) (fs : List Value), ci ∈ cs ∧ w.2 v = .inr (ci, fs)) (hk : xw_Run tb Rt nx lv r (w.1, va_up w.2 a (.inl (cA, N, .inr (.inr (.inr (.inr (va_up f i.toNatClampNeg u))))))) k n) : xw_Run tb Rt pc lv (va_rf u :: .int i :: .ref a :: r) w k n := xw_Run.st h ⟨i, u, a, N, f, r, rfl, ha, hw, hi, hu, hk⟩
theorem rn_alen {nx z a N cA : Nat} {cs : List Nat} {x : (Nat → Int32) ⊕ (Nat → Int64) ⊕ (Nat → UInt32) ⊕ (Nat → UInt64) ⊕ (Nat → Option Nat)} (h : xw_lk tb pc = some (tr_or (tr_alen nx cs) (tr_zlen nx z))) (ha : a ∈ w.1) (hw : w.2 a = .inl (cA, N, x)) (hc : cA ∈ cs) (hk : xw_Run tb Rt nx lv (.int (Int32.ofNat N) :: r) w k n) : xw_Run tb Rt pc lv (.ref a :: r) w k n := xw_Run.st h (Or.inl ⟨a, N, cA, x, r, rfl, ha, hw, hc, hk⟩)
theorem rn_zlen {nx z : Nat} {cs : List Nat} (h : xw_lk tb pc = some (tr_or (tr_alen nx cs) (tr_zlen nx z))) (hk : xw_Run tb Rt nx lv (.int 0 :: r) w k n) : xw_Run tb Rt pc lv (.ref z :: r) w k n := xw_Run.st h (Or.inr ⟨r, rfl, hk⟩)
theorem rn_xlen {nx : Nat} {E : xw_E} (h : xw_lk tb pc = some (tr_xlen nx E)) (hk : xw_Run tb Rt nx lv (.int (Int32.ofNat E.2.2.1) :: r) w k n) : xw_Run tb Rt pc lv (.ref E.2.1 :: r) w k n := xw_Run.st h ⟨r, rfl, hk⟩
theorem rn_xald {nx : Nat} {E : xw_E} {i : Int32} (h : xw_lk tb pc = some (tr_xald nx E)) (hi : vp_in i E.2.2.1) (hk : xw_Run tb Rt nx lv (.int (E.2.2.2 i.toNatClampNeg) :: r) w k n) : xw_Run tb Rt pc lv (.int i :: .ref E.2.1 :: r) w k n := xw_Run.st h ⟨i, r, rfl, hi, hk⟩
theorem rn_castN {nx ci : Nat} (h : xw_lk tb pc = some (tr_cast nx ci)) (hk : xw_Run tb Rt nx lv (.null :: r) w k n) : xw_Run tb Rt pc lv (.null :: r) w k n := xw_Run.st h ⟨_, r, rfl, Or.inl rfl, hk⟩
theorem rn_cast {nx ci a : Nat} {fs : List Value} (h : xw_lk tb pc = some (tr_cast nx ci)) (ha : a ∈ w.1) (hw : w.2 a = .inr (ci, fs)) (hk : xw_Run tb Rt nx lv (.ref a :: r) w k n) : xw_Run tb Rt pc lv (.ref a :: r) w k n := xw_Run.st h ⟨_, r, rfl, Or.inr ⟨a, fs, rfl, ha, hw⟩, hk⟩
theorem rn_obj {nx a : Nat} (h : xw_lk tb pc = some (tr_obj nx)) (hc : (r.map fun v => v.category).sum ≤ 8) (hk : xw_Run tb Rt nx lv r w k n) : xw_Run tb Rt pc lv (.ref a :: r) w k n := xw_Run.st h ⟨a, r, rfl, hc, hk⟩
theorem rn_max {nx MC MS : Nat} {x y : Int32} (h : xw_lk tb pc = some (tr_max nx MC MS)) (hc : (r.map fun v => v.category).sum ≤ 8) (h1 : k ≤ MC) (h2 : n ≤ MS) (hk : xw_Run tb Rt nx lv (.int (if x < y then y else x) :: r) w k n) : xw_Run tb Rt pc lv (.int y :: .int x :: r) w k n := xw_Run.st h ⟨x, y, r, rfl, hc, h1, h2, hk⟩
theorem rn_min {nx MC MS : Nat} {x y : Int32} (h : xw_lk tb pc = some (tr_min nx MC MS)) (hc : (r.map fun v => v.category).sum ≤ 8) (h1 : k ≤ MC) (h2 : n ≤ MS) (hk : xw_Run tb Rt nx lv (.int (if y < x then y else x) :: r) w k n) : xw_Run tb Rt pc lv (.int y :: .int x :: r) w k n := xw_Run.st h ⟨x, y, r, rfl, hc, h1, h2, hk⟩
theorem rn_callV {nx na ci mc ms MC MS a : Nat} {PT : xw_PT} {fs : List Value} (h : xw_lk tb pc = some (tr_callV nx na ci PT mc ms MC MS)) (hs : st.drop na = .ref a :: r) (ha : a ∈ w.1) (hw : w.2 a = .inr (ci, fs)) (hc : (r.map fun v => v.category).sum ≤ 8) (h1 : k + mc ≤ MC) (h2 : n + ms ≤ MS) (hk : PT (.ref a :: (st.take na).reverse) w (fun v w' => xw_Run tb Rt nx lv (v.toList ++ r) w' (k + mc) (n + ms))) : xw_Run tb Rt pc lv st w k n := xw_Run.st h ⟨a, fs, r, hs, ha, hw, hc, h1, h2, hk⟩
theorem rn_callI {nx na mc ms MC MS a : Nat} {PT : xw_PT} (h : xw_lk tb pc = some (tr_callI nx na PT mc ms MC MS)) (hs : st.drop na = .ref a :: r) (hc : (r.map fun v => v.category).sum ≤ 8) (h1 : k + mc ≤ MC) (h2 : n + ms ≤ MS) (hk : PT (.ref a :: (st.take na).reverse) w (fun v w' => xw_Run tb Rt nx lv (v.toList ++ r) w' (k + mc) (n + ms))) : xw_Run tb Rt pc lv st w k n := xw_Run.st h ⟨a, r, hs, hc, h1, h2, hk⟩
theorem rn_callS {nx na mc ms MC MS : Nat} {PT : xw_PT} (h : xw_lk tb pc = some (tr_callS nx na PT mc ms MC MS)) (hn : na ≤ st.length) (hs : st.drop na = r) (hc : (r.map fun v => v.category).sum ≤ 8) (h1 : k + mc ≤ MC) (h2 : n + ms ≤ MS) (hk : PT (st.take na).reverse w (fun v w' => xw_Run tb Rt nx lv (v.toList ++ r) w' (k + mc) (n + ms))) : xw_Run tb Rt pc lv st w k n := xw_Run.st h (by subst hs; exact ⟨hn, hc, h1, h2, hk⟩)
theorem rn_iret {x : Int32} (h : xw_lk tb pc = some (tr_iret .int)) (hk : Rt (some (.int x)) w k n) : xw_Run tb Rt pc lv [.int x] w k n := xw_Run.st h ⟨x, rfl, rfl, hk⟩
theorem rn_zret {x : Int32} (h : xw_lk tb pc = some (tr_iret .boolean)) (hx : x = 0 ∨ x = 1) (hk : Rt (some (.int x)) w k n) : xw_Run tb Rt pc lv [.int x] w k n := xw_Run.st h ⟨x, rfl, by rcases hx with rfl | rfl <;> rfl, hk⟩
theorem rn_lret {x : Int64} (h : xw_lk tb pc = some tr_lret) (hk : Rt (some (.long x)) w k n) : xw_Run tb Rt pc lv [.long x] w k n := xw_Run.st h ⟨x, rfl, hk⟩
theorem rn_aret {v : Value} (h : xw_lk tb pc = some tr_aret) (hv : xw_isR v) (hk : Rt (some v) w k n) : xw_Run tb Rt pc lv [v] w k n := xw_Run.st h ⟨v, rfl, hv, hk⟩
theorem rn_vret (h : xw_lk tb pc = some tr_vret) (hk : Rt none w k n) : xw_Run tb Rt pc lv [] w k n := xw_Run.st h ⟨rfl, hk⟩
theorem xw_fit_i (x : Int32) : xw_fit .int (.int x) := ⟨rfl, rfl⟩
theorem xw_fit_z0 : xw_fit .boolean (.int 0) := ⟨rfl, rfl⟩
theorem xw_fit_z1 : xw_fit .boolean (.int 1) := ⟨rfl, rfl⟩
theorem xw_fit_o (C : String) (o : Option Nat) : xw_fit (.object C) (va_rf o) := by cases o <;> exact ⟨rfl, rfl⟩
theorem xw_fit_a (t : FieldType) (o : Option Nat) : xw_fit (.array t) (va_rf o) := by cases o <;> exact ⟨rfl, rfl⟩
end XRN
end
section
/-! THE STATE of a tournament: how many fencers, how many bouts, a table of ints, a table of references (by numbers). A code is 100 * (the kind of cell) + (the slot). Kinds: 0 the object, 1 2 its lists, 3 pistes, 4 poolSizes, 5 seeded, 6 seedsOfLines, 7 8 the lists' rows, 9 a fencer, 10 a bout, 11 12 its sides. -/
section XST
abbrev xq_S : Type := Nat × Nat × (Nat → Nat → Int32) × (Nat → Nat → Option Nat)
def xq_i (s : xq_S) (c i : Nat) : Int32 := s.2.2.1 c i
def xq_r (s : xq_S) (c i : Nat) : Option Nat := s.2.2.2 c i
def xu_i (s : xq_S) (c i : Nat) (v : Int32) : xq_S := (s.1, s.2.1, (fun c' i' => if c' = c ∧ i' = i then v else s.2.2.1 c' i'), s.2.2.2)
def xu_r (s : xq_S) (c i : Nat) (v : Option Nat) : xq_S := (s.1, s.2.1, s.2.2.1, (fun c' i' => if c' = c ∧ i' = i then v else s.2.2.2 c' i'))
theorem xu_i_1 (s : xq_S) (c i : Nat) (v : Int32) : (xu_i s c i v).1 = s.1 := rfl
theorem xu_i_2 (s : xq_S) (c i : Nat) (v : Int32) : (xu_i s c i v).2.1 = s.2.1 := rfl
theorem xu_r_1 (s : xq_S) (c i : Nat) (v : Option Nat) : (xu_r s c i v).1 = s.1 := rfl
theorem xu_r_2 (s : xq_S) (c i : Nat) (v : Option Nat) : (xu_r s c i v).2.1 = s.2.1 := rfl
theorem xq_i_i (s : xq_S) (c i c' i' : Nat) (v : Int32) : xq_i (xu_i s c i v) c' i' = if c' = c ∧ i' = i then v else xq_i s c' i' := rfl
theorem xq_i_r (s : xq_S) (c i c' i' : Nat) (v : Option Nat) : xq_i (xu_r s c i v) c' i' = xq_i s c' i' := rfl
theorem xq_r_i (s : xq_S) (c i c' i' : Nat) (v : Int32) : xq_r (xu_i s c i v) c' i' = xq_r s c' i' := rfl
theorem xq_r_r (s : xq_S) (c i c' i' : Nat) (v : Option Nat) : xq_r (xu_r s c i v) c' i' = if c' = c ∧ i' = i then v else xq_r s c' i' := rfl
abbrev xq_rs (f : Nat → Option Nat) : (Nat → Int32) ⊕ (Nat → Int64) ⊕ (Nat → UInt32) ⊕ (Nat → UInt64) ⊕ (Nat → Option Nat) := .inr (.inr (.inr (.inr f)))
/-- what the cell of kind t, number i holds; ad: where the cells lie (ad 13 0, ad 14 0: how many places the lists' rows have) -/
def xq_en (Y : xw_Y) (ad : Nat → Nat → Nat) (s : xq_S) (t i : Nat) : va_E := match t with
  | 0 => .inr (4, [.ref (ad 1 0), .ref (ad 2 0), .ref (ad 3 0), .ref (ad 4 0), .ref (ad 5 0), .ref (ad 6 0), .int (xq_i s 6 0), .int (xq_i s 7 0), .int (xq_i s 8 0), .int (xq_i s 9 0)])
  | 1 => .inr (0, [.int (xq_i s 100 0), .ref (ad 7 0), .int (nI s.1)])
  | 2 => .inr (0, [.int (xq_i s 200 0), .ref (ad 8 0), .int (nI s.2.1)])
  | 3 => .inl (Y.2.2.2.1, 3, xq_rs (fun j => (xq_r s 300 j).map (ad 10)))
  | 4 => .inl (Y.2.1, 4, .inl (fun j => xq_i s 400 j))
  | 5 => .inl (Y.2.2.2.2, 16, xq_rs (fun j => (xq_r s 500 j).map (ad 9)))
  | 6 => .inl (Y.2.1, 16, .inl (fun j => xq_i s 600 j))
  | 7 => .inl (Y.2.2.1, ad 13 0, xq_rs (fun j => if j < s.1 then some (ad 9 j) else none))
  | 8 => .inl (Y.2.2.1, ad 14 0, xq_rs (fun j => if j < s.2.1 then some (ad 10 j) else none))
  | 9 => .inr (2, [.int (xq_i s 900 i), .int (xq_i s 901 i), .int (xq_i s 902 i), .int (xq_i s 903 i), .int (xq_i s 904 i), .int (xq_i s 905 i), va_rf ((xq_r s 906 i).map (ad 10)), .int (xq_i s 907 i), .int (xq_i s 908 i), .int (xq_i s 909 i), .int (xq_i s 910 i), .int (xq_i s 911 i), .int (xq_i s 912 i), .int (xq_i s 913 i)])
  | 10 => .inr (1, [.int (xq_i s 1000 i), .int (xq_i s 1001 i), .ref (ad 11 i), .ref (ad 12 i), .int (xq_i s 1004 i), va_rf ((xq_r s 1005 i).map (ad 9)), .int (xq_i s 1006 i), .int (xq_i s 1007 i), .int (xq_i s 1008 i)])
  | 11 => .inr (3, [va_rf ((xq_r s 1100 i).map (ad 9)), .int (xq_i s 1101 i), .int (xq_i s 1102 i)])
  | _ => .inr (3, [va_rf ((xq_r s 1200 i).map (ad 9)), .int (xq_i s 1201 i), .int (xq_i s 1202 i)])
/-- which cells there are -/
def xq_vl (ad : Nat → Nat → Nat) (s : xq_S) (t i : Nat) : Prop := (t ≤ 6 ∧ i = 0) ∨ (t = 7 ∧ i = 0 ∧ 0 < ad 13 0) ∨ (t = 8 ∧ i = 0 ∧ 0 < ad 14 0) ∨ (t = 9 ∧ i < s.1) ∨ (10 ≤ t ∧ t ≤ 12 ∧ i < s.2.1)
/-- references go to what there is -/
def xq_wf (s : xq_S) : Prop := (∀ k b, k < s.1 → xq_r s 906 k = some b → b < s.2.1) ∧ (∀ b k, b < s.2.1 → xq_r s 1005 b = some k → k < s.1) ∧ (∀ b k, b < s.2.1 → xq_r s 1100 b = some k → k < s.1) ∧ (∀ b k, b < s.2.1 → xq_r s 1200 b = some k → k < s.1) ∧ (∀ j b, j < 3 → xq_r s 300 j = some b → b < s.2.1) ∧ (∀ j k, j < 16 → xq_r s 500 j = some k → k < s.1) ∧ (∀ k, k < s.1 → xq_i s 905 k = 0 ∨ xq_i s 905 k = 1)
/-- the lists' rows: none at first (then the empty one), and never much larger than what they hold -/
def xq_cp (Y : xw_Y) (ad : Nat → Nat → Nat) (s : xq_S) : Prop := (ad 13 0 = 0 → ad 7 0 = Y.1.1.1) ∧ (ad 14 0 = 0 → ad 8 0 = Y.1.1.1) ∧ s.1 ≤ ad 13 0 ∧ s.2.1 ≤ ad 14 0 ∧ s.1 ≤ 1000 ∧ s.2.1 ≤ 1000
/-- THE PICTURE: the world w holds the state s, its cells at ad -/
def xq_rp (Y : xw_Y) (ad : Nat → Nat → Nat) (s : xq_S) (w : xw_W) : Prop := (∀ t i, xq_vl ad s t i → ad t i ∈ w.1 ∧ w.2 (ad t i) = xq_en Y ad s t i) ∧ (∀ t i t' i', xq_vl ad s t i → xq_vl ad s t' i' → ad t i = ad t' i' → t = t' ∧ i = i') ∧ xq_wf s ∧ xq_cp Y ad s
theorem xq_en_i {Y : xw_Y} {ad : Nat → Nat → Nat} {s : xq_S} {c e t i : Nat} {v : Int32} (ht : t ≤ 12) (h : ¬ c / 100 = t ∨ (9 ≤ t ∧ ¬ i = e)) : xq_en Y ad (xu_i s c e v) t i = xq_en Y ad s t i := by
  have key : ∀ c' : Nat, c' / 100 = t → xq_i (xu_i s c e v) c' i = xq_i s c' i := by
    intro c' hc'
    rw [xq_i_i, if_neg]
    rintro ⟨h1, h2⟩
    rcases h with h | ⟨-, h⟩
    · exact h (by rw [← h1]; exact hc')
    · exact h h2
  have key2 : ∀ c' j : Nat, c' / 100 = t → t < 9 → xq_i (xu_i s c e v) c' j = xq_i s c' j := by
    intro c' j hc' h9
    rw [xq_i_i, if_neg]
    rintro ⟨h1, h2⟩
    rcases h with h | ⟨h, -⟩
    · exact h (by rw [← h1]; exact hc')
    · omega
  rcases (show t = 0 ∨ t = 1 ∨ t = 2 ∨ t = 3 ∨ t = 4 ∨ t = 5 ∨ t = 6 ∨ t = 7 ∨ t = 8 ∨ t = 9 ∨ t = 10 ∨ t = 11 ∨ t = 12 by omega) with rfl | rfl | rfl | rfl | rfl | rfl | rfl | rfl | rfl | rfl | rfl | rfl | rfl
  · simp only [xq_en, key2 6 0 rfl (by decide), key2 7 0 rfl (by decide), key2 8 0 rfl (by decide), key2 9 0 rfl (by decide)]
  · simp only [xq_en, xu_i_1, key2 100 0 rfl (by decide)]
  · simp only [xq_en, xu_i_2, key2 200 0 rfl (by decide)]
  · rfl
  · simp only [xq_en, key2 400 _ rfl (by decide)]
  · rfl
  · simp only [xq_en, key2 600 _ rfl (by decide)]
  · rfl
  · rfl
  · simp only [xq_en, xq_r_i, key 900 rfl, key 901 rfl, key 902 rfl, key 903 rfl, key 904 rfl, key 905 rfl, key 907 rfl, key 908 rfl, key 909 rfl, key 910 rfl, key 911 rfl, key 912 rfl, key 913 rfl]
  · simp only [xq_en, xq_r_i, key 1000 rfl, key 1001 rfl, key 1004 rfl, key 1006 rfl, key 1007 rfl, key 1008 rfl]
  · simp only [xq_en, xq_r_i, key 1101 rfl, key 1102 rfl]
  · simp only [xq_en, xq_r_i, key 1201 rfl, key 1202 rfl]
theorem xq_en_r {Y : xw_Y} {ad : Nat → Nat → Nat} {s : xq_S} {c e t i : Nat} {v : Option Nat} (ht : t ≤ 12) (h : ¬ c / 100 = t ∨ (9 ≤ t ∧ ¬ i = e)) : xq_en Y ad (xu_r s c e v) t i = xq_en Y ad s t i := by
  have key : ∀ c' : Nat, c' / 100 = t → xq_r (xu_r s c e v) c' i = xq_r s c' i := by
    intro c' hc'
    rw [xq_r_r, if_neg]
    rintro ⟨h1, h2⟩
    rcases h with h | ⟨-, h⟩
    · exact h (by rw [← h1]; exact hc')
    · exact h h2
  have key2 : ∀ c' j : Nat, c' / 100 = t → t < 9 → xq_r (xu_r s c e v) c' j = xq_r s c' j := by
    intro c' j hc' h9
    rw [xq_r_r, if_neg]
    rintro ⟨h1, h2⟩
    rcases h with h | ⟨h, -⟩
    · exact h (by rw [← h1]; exact hc')
    · omega
  rcases (show t = 0 ∨ t = 1 ∨ t = 2 ∨ t = 3 ∨ t = 4 ∨ t = 5 ∨ t = 6 ∨ t = 7 ∨ t = 8 ∨ t = 9 ∨ t = 10 ∨ t = 11 ∨ t = 12 by omega) with rfl | rfl | rfl | rfl | rfl | rfl | rfl | rfl | rfl | rfl | rfl | rfl | rfl
  · rfl
  · rfl
  · rfl
  · simp only [xq_en, key2 300 _ rfl (by decide)]
  · rfl
  · simp only [xq_en, key2 500 _ rfl (by decide)]
  · rfl
  · rfl
  · rfl
  · simp only [xq_en, xq_i_r, key 906 rfl]
  · simp only [xq_en, xq_i_r, key 1005 rfl]
  · simp only [xq_en, xq_i_r, key 1100 rfl]
  · simp only [xq_en, xq_i_r, key 1200 rfl]
theorem xq_vl_le {ad : Nat → Nat → Nat} {s : xq_S} {t i : Nat} (h : xq_vl ad s t i) : t ≤ 12 ∧ (t ≤ 8 → i = 0) := by unfold xq_vl at h; omega
/-- one cell changes: the others' pictures stay -/
theorem xq_rp_up {Y : xw_Y} {ad : Nat → Nat → Nat} {s s' : xq_S} {w : xw_W} {t i : Nat} (h : xq_rp Y ad s w) (hv : xq_vl ad s t i) (hvl : ∀ t' i', xq_vl ad s' t' i' → xq_vl ad s t' i') (hen : ∀ t' i', xq_vl ad s t' i' → ¬ (t' = t ∧ i' = i) → xq_en Y ad s' t' i' = xq_en Y ad s t' i') (hwf : xq_wf s') (hcp : xq_cp Y ad s') {x : va_E} (hx : xq_en Y ad s' t i = x) : xq_rp Y ad s' (w.1, va_up w.2 (ad t i) x) := by
  refine ⟨fun t' i' hv' => ?_, fun t1 i1 t2 i2 h1 h2 e => h.2.1 t1 i1 t2 i2 (hvl _ _ h1) (hvl _ _ h2) e, hwf, hcp⟩
  have hv0 := hvl _ _ hv'
  obtain ⟨h1, h2⟩ := h.1 t' i' hv0
  refine ⟨h1, ?_⟩
  by_cases he : t' = t ∧ i' = i
  · obtain ⟨rfl, rfl⟩ := he
    show va_up w.2 _ _ _ = _
    rw [va_up_self, hx]
  · show va_up w.2 _ _ _ = _
    rw [va_up_ne _ _ (fun q => he (h.2.1 _ _ _ _ hv0 hv q)), h2, hen _ _ hv0 he]
theorem xq_wf_i {s : xq_S} {c e : Nat} {v : Int32} (h : xq_wf s) (hb : c = 905 → v = 0 ∨ v = 1) : xq_wf (xu_i s c e v) := by
  obtain ⟨h1, h2, h3, h4, h5, h6, h7⟩ := h
  refine ⟨h1, h2, h3, h4, h5, h6, fun k hk => ?_⟩
  rw [xq_i_i]
  split
  · next z => exact hb z.1.symm
  · exact h7 k hk
theorem xq_rp_i {Y : xw_Y} {ad : Nat → Nat → Nat} {s : xq_S} {w : xw_W} {t i c e : Nat} {v : Int32} (h : xq_rp Y ad s w) (hv : xq_vl ad s t i) (hc : c / 100 = t) (he : e = i ∨ t ≤ 8) (hb : c = 905 → v = 0 ∨ v = 1) {x : va_E} (hx : xq_en Y ad (xu_i s c e v) t i = x) : xq_rp Y ad (xu_i s c e v) (w.1, va_up w.2 (ad t i) x) := by
  refine xq_rp_up (s' := xu_i s c e v) h hv (fun _ _ q => q) (fun t' i' hv' hne => xq_en_i (xq_vl_le hv').1 ?_) (xq_wf_i h.2.2.1 hb) h.2.2.2 hx
  by_cases ht : t' = t
  · right
    have h1 := xq_vl_le hv
    have h2 := xq_vl_le hv'
    subst ht
    rcases he with rfl | he
    · exact ⟨by
        by_cases h8 : t' ≤ 8
        · exact absurd ⟨rfl, by rw [h1.2 h8, h2.2 h8]⟩ hne
        · omega, fun q => hne ⟨rfl, q⟩⟩
    · exact absurd ⟨rfl, by rw [h1.2 he, h2.2 he]⟩ hne
  · left
    omega
theorem xq_wf_r {s : xq_S} {c e : Nat} {v : Option Nat} (h : xq_wf s) (hb : ∀ k, v = some k → (c = 906 ∨ c = 300 → k < s.2.1) ∧ (c = 1005 ∨ c = 1100 ∨ c = 1200 ∨ c = 500 → k < s.1)) : xq_wf (xu_r s c e v) := by
  obtain ⟨h1, h2, h3, h4, h5, h6, h7⟩ := h
  refine ⟨fun k b hk q => ?_, fun b k hk q => ?_, fun b k hk q => ?_, fun b k hk q => ?_, fun b k hk q => ?_, fun b k hk q => ?_, h7⟩
  · rw [xq_r_r] at q
    split at q
    · next z => exact (hb _ q).1 (Or.inl z.1.symm)
    · exact h1 k b hk q
  · rw [xq_r_r] at q
    split at q
    · next z => exact (hb _ q).2 (Or.inl z.1.symm)
    · exact h2 b k hk q
  · rw [xq_r_r] at q
    split at q
    · next z => exact (hb _ q).2 (Or.inr (Or.inl z.1.symm))
    · exact h3 b k hk q
  · rw [xq_r_r] at q
    split at q
    · next z => exact (hb _ q).2 (Or.inr (Or.inr (Or.inl z.1.symm)))
    · exact h4 b k hk q
  · rw [xq_r_r] at q
    split at q
    · next z => exact (hb _ q).1 (Or.inr z.1.symm)
    · exact h5 b k hk q
  · rw [xq_r_r] at q
    split at q
    · next z => exact (hb _ q).2 (Or.inr (Or.inr (Or.inr z.1.symm)))
    · exact h6 b k hk q
theorem xq_rp_r {Y : xw_Y} {ad : Nat → Nat → Nat} {s : xq_S} {w : xw_W} {t i c e : Nat} {v : Option Nat} (h : xq_rp Y ad s w) (hv : xq_vl ad s t i) (hc : c / 100 = t) (he : e = i ∨ t ≤ 8) (hb : ∀ k, v = some k → (c = 906 ∨ c = 300 → k < s.2.1) ∧ (c = 1005 ∨ c = 1100 ∨ c = 1200 ∨ c = 500 → k < s.1)) {x : va_E} (hx : xq_en Y ad (xu_r s c e v) t i = x) : xq_rp Y ad (xu_r s c e v) (w.1, va_up w.2 (ad t i) x) := by
  refine xq_rp_up (s' := xu_r s c e v) h hv (fun _ _ q => q) (fun t' i' hv' hne => xq_en_r (xq_vl_le hv').1 ?_) (xq_wf_r h.2.2.1 hb) h.2.2.2 hx
  by_cases ht : t' = t
  · right
    have h1 := xq_vl_le hv
    have h2 := xq_vl_le hv'
    subst ht
    rcases he with rfl | he
    · exact ⟨by
        by_cases h8 : t' ≤ 8
        · exact absurd ⟨rfl, by rw [h1.2 h8, h2.2 h8]⟩ hne
        · omega, fun q => hne ⟨rfl, q⟩⟩
    · exact absurd ⟨rfl, by rw [h1.2 he, h2.2 he]⟩ hne
  · left
    omega
end XST
/-! rows of a run over the picture -/
section XSR
variable {tb : List (Nat × xw_T)} {Rt : xw_R} {pc : Nat} {lv : xw_L} {st r : List Value} {w : xw_W} {k n : Nat} {Y : xw_Y} {ad : Nat → Nat → Nat} {s : xq_S} {t i : Nat}
theorem rp_getf {nx ci kf : Nat} {fs : List Value} {u : Value} (hR : xq_rp Y ad s w) (h : xw_lk tb pc = some (tr_getf nx ci kf)) (hv : xq_vl ad s t i) (he : xq_en Y ad s t i = .inr (ci, fs)) (hu : fs[kf]? = some u) (hk : xw_Run tb Rt nx lv (u :: r) w k n) : xw_Run tb Rt pc lv (.ref (ad t i) :: r) w k n :=
  rn_getf h (hR.1 t i hv).1 ((hR.1 t i hv).2.trans he) hu hk
theorem rp_cast {nx ci : Nat} {fs : List Value} (hR : xq_rp Y ad s w) (h : xw_lk tb pc = some (tr_cast nx ci)) (hv : xq_vl ad s t i) (he : xq_en Y ad s t i = .inr (ci, fs)) (hk : xw_Run tb Rt nx lv (.ref (ad t i) :: r) w k n) : xw_Run tb Rt pc lv (.ref (ad t i) :: r) w k n :=
  rn_cast h (hR.1 t i hv).1 ((hR.1 t i hv).2.trans he) hk
theorem rp_puti {nx ci kf c : Nat} {ty : FieldType} {fs : List Value} {x : Int32} (hR : xq_rp Y ad s w) (h : xw_lk tb pc = some (tr_putf nx ci kf ty)) (hv : xq_vl ad s t i) (he : xq_en Y ad s t i = .inr (ci, fs)) (hl : kf < fs.length) (hf : xw_fit ty (.int x)) (hc : c / 100 = t) (hb : c = 905 → x = 0 ∨ x = 1) (hs : xq_en Y ad (xu_i s c i x) t i = .inr (ci, fs.set kf (.int x))) (hk : ∀ w', xq_rp Y ad (xu_i s c i x) w' → xw_Run tb Rt nx lv r w' k n) : xw_Run tb Rt pc lv (.int x :: .ref (ad t i) :: r) w k n :=
  rn_putf h (hR.1 t i hv).1 ((hR.1 t i hv).2.trans he) hl hf (hk _ (xq_rp_i hR hv hc (Or.inl rfl) hb hs))
theorem rp_putr {nx ci kf c : Nat} {ty : FieldType} {fs : List Value} {x : Value} {v : Option Nat} (hR : xq_rp Y ad s w) (h : xw_lk tb pc = some (tr_putf nx ci kf ty)) (hv : xq_vl ad s t i) (he : xq_en Y ad s t i = .inr (ci, fs)) (hl : kf < fs.length) (hf : xw_fit ty x) (hc : c / 100 = t) (hb : ∀ k, v = some k → (c = 906 ∨ c = 300 → k < s.2.1) ∧ (c = 1005 ∨ c = 1100 ∨ c = 1200 ∨ c = 500 → k < s.1)) (hs : xq_en Y ad (xu_r s c i v) t i = .inr (ci, fs.set kf x)) (hk : ∀ w', xq_rp Y ad (xu_r s c i v) w' → xw_Run tb Rt nx lv r w' k n) : xw_Run tb Rt pc lv (x :: .ref (ad t i) :: r) w k n :=
  rn_putf h (hR.1 t i hv).1 ((hR.1 t i hv).2.trans he) hl hf (hk _ (xq_rp_r hR hv hc (Or.inl rfl) hb hs))
theorem rp_callV {nx na ci mc ms MC MS : Nat} {PT : xw_PT} {fs : List Value} (hR : xq_rp Y ad s w) (h : xw_lk tb pc = some (tr_callV nx na ci PT mc ms MC MS)) (hs : st.drop na = .ref (ad t i) :: r) (hv : xq_vl ad s t i) (he : xq_en Y ad s t i = .inr (ci, fs)) (hc : (r.map fun v => v.category).sum ≤ 8) (h1 : k + mc ≤ MC) (h2 : n + ms ≤ MS) (hk : PT (.ref (ad t i) :: (st.take na).reverse) w (fun v w' => xw_Run tb Rt nx lv (v.toList ++ r) w' (k + mc) (n + ms))) : xw_Run tb Rt pc lv st w k n :=
  rn_callV h hs (hR.1 t i hv).1 ((hR.1 t i hv).2.trans he) hc h1 h2 hk
end XSR
end
section
-- ===== PART A: goes FIRST, ahead of the names: the tables' words, and 'selects' of the private methods out of them =====
/-- a private method of a class that the tables say can be made, by its rows of tables_1 -/
def lw_okq (q : MethodName × Nat) : Prop := (q.1.cls ≠ "java/lang/invoke/MethodHandle" ∧ q.1.cls ≠ "java/lang/invoke/VarHandle") ∧ Cond.instantiable q.1.cls q.2 ∈ tables_1 ∧ Cond.privateMethod q.1 ∈ tables_1 ∧ Cond.instanceMethod q.1 ∈ tables_1
theorem lw_p0 : lw_okq (⟨"java/lang/Throwable", "fillInStackTrace", "(I)Ljava/lang/Throwable;"⟩, 6) := ⟨⟨by decide +kernel, by decide +kernel⟩, List.mem_of_getElem? (i := 136) (by decide +kernel), List.mem_of_getElem? (i := 134) (by decide +kernel), List.mem_of_getElem? (i := 135) (by decide +kernel)⟩
theorem lw_p1 : lw_okq (⟨"java/util/ArrayList", "add", "(Ljava/lang/Object;[Ljava/lang/Object;I)V"⟩, 3) := ⟨⟨by decide +kernel, by decide +kernel⟩, List.mem_of_getElem? (i := 29) (by decide +kernel), List.mem_of_getElem? (i := 252) (by decide +kernel), List.mem_of_getElem? (i := 253) (by decide +kernel)⟩
theorem lw_p2 : lw_okq (⟨"java/util/ArrayList", "grow", "()[Ljava/lang/Object;"⟩, 3) := ⟨⟨by decide +kernel, by decide +kernel⟩, List.mem_of_getElem? (i := 29) (by decide +kernel), List.mem_of_getElem? (i := 256) (by decide +kernel), List.mem_of_getElem? (i := 257) (by decide +kernel)⟩
theorem lw_p3 : lw_okq (⟨"java/util/ArrayList", "grow", "(I)[Ljava/lang/Object;"⟩, 3) := ⟨⟨by decide +kernel, by decide +kernel⟩, List.mem_of_getElem? (i := 29) (by decide +kernel), List.mem_of_getElem? (i := 260) (by decide +kernel), List.mem_of_getElem? (i := 261) (by decide +kernel)⟩
theorem lw_p4 : lw_okq (⟨"Pommel", "fencerInOrder", "(I)LPommel$Fencer;"⟩, 10) := ⟨⟨by decide +kernel, by decide +kernel⟩, List.mem_of_getElem? (i := 21) (by decide +kernel), List.mem_of_getElem? (i := 309) (by decide +kernel), List.mem_of_getElem? (i := 310) (by decide +kernel)⟩
theorem lw_p5 : lw_okq (⟨"Pommel", "aheadInOrder", "(LPommel$Fencer;)I"⟩, 10) := ⟨⟨by decide +kernel, by decide +kernel⟩, List.mem_of_getElem? (i := 21) (by decide +kernel), List.mem_of_getElem? (i := 327) (by decide +kernel), List.mem_of_getElem? (i := 328) (by decide +kernel)⟩
theorem lw_p6 : lw_okq (⟨"Pommel", "putIntoPool", "(LPommel$Fencer;I)V"⟩, 10) := ⟨⟨by decide +kernel, by decide +kernel⟩, List.mem_of_getElem? (i := 21) (by decide +kernel), List.mem_of_getElem? (i := 336) (by decide +kernel), List.mem_of_getElem? (i := 337) (by decide +kernel)⟩
theorem lw_p7 : lw_okq (⟨"Pommel", "poolInRow", "(II)I"⟩, 10) := ⟨⟨by decide +kernel, by decide +kernel⟩, List.mem_of_getElem? (i := 21) (by decide +kernel), List.mem_of_getElem? (i := 340) (by decide +kernel), List.mem_of_getElem? (i := 341) (by decide +kernel)⟩
theorem lw_p8 : lw_okq (⟨"Pommel", "hasClub", "(II)Z"⟩, 10) := ⟨⟨by decide +kernel, by decide +kernel⟩, List.mem_of_getElem? (i := 21) (by decide +kernel), List.mem_of_getElem? (i := 344) (by decide +kernel), List.mem_of_getElem? (i := 345) (by decide +kernel)⟩
theorem lw_p9 : lw_okq (⟨"Pommel", "addPoolBouts", "(I)V"⟩, 10) := ⟨⟨by decide +kernel, by decide +kernel⟩, List.mem_of_getElem? (i := 21) (by decide +kernel), List.mem_of_getElem? (i := 348) (by decide +kernel), List.mem_of_getElem? (i := 349) (by decide +kernel)⟩
theorem lw_p10 : lw_okq (⟨"Pommel", "fencerOnSpot", "(II)LPommel$Fencer;"⟩, 10) := ⟨⟨by decide +kernel, by decide +kernel⟩, List.mem_of_getElem? (i := 21) (by decide +kernel), List.mem_of_getElem? (i := 352) (by decide +kernel), List.mem_of_getElem? (i := 353) (by decide +kernel)⟩
theorem lw_p11 : lw_okq (⟨"Pommel", "fencerAt", "(I)LPommel$Fencer;"⟩, 10) := ⟨⟨by decide +kernel, by decide +kernel⟩, List.mem_of_getElem? (i := 21) (by decide +kernel), List.mem_of_getElem? (i := 420) (by decide +kernel), List.mem_of_getElem? (i := 421) (by decide +kernel)⟩
theorem lw_p12 : lw_okq (⟨"Pommel", "boutAt", "(I)LPommel$Bout;"⟩, 10) := ⟨⟨by decide +kernel, by decide +kernel⟩, List.mem_of_getElem? (i := 21) (by decide +kernel), List.mem_of_getElem? (i := 445) (by decide +kernel), List.mem_of_getElem? (i := 446) (by decide +kernel)⟩
theorem lw_p13 : lw_okq (⟨"Pommel", "whyNotReady", "(LPommel$Bout;)I"⟩, 10) := ⟨⟨by decide +kernel, by decide +kernel⟩, List.mem_of_getElem? (i := 21) (by decide +kernel), List.mem_of_getElem? (i := 454) (by decide +kernel), List.mem_of_getElem? (i := 455) (by decide +kernel)⟩
theorem lw_p14 : lw_okq (⟨"Pommel", "isOverAfter", "(LPommel$Bout;I)Z"⟩, 10) := ⟨⟨by decide +kernel, by decide +kernel⟩, List.mem_of_getElem? (i := 21) (by decide +kernel), List.mem_of_getElem? (i := 489) (by decide +kernel), List.mem_of_getElem? (i := 490) (by decide +kernel)⟩
theorem lw_p15 : lw_okq (⟨"Pommel", "finish", "(LPommel$Bout;LPommel$Fencer;I)V"⟩, 10) := ⟨⟨by decide +kernel, by decide +kernel⟩, List.mem_of_getElem? (i := 21) (by decide +kernel), List.mem_of_getElem? (i := 521) (by decide +kernel), List.mem_of_getElem? (i := 522) (by decide +kernel)⟩
def lw_privs_1 : List (MethodName × Nat) := [(⟨"java/lang/Throwable", "fillInStackTrace", "(I)Ljava/lang/Throwable;"⟩, 6), (⟨"java/util/ArrayList", "add", "(Ljava/lang/Object;[Ljava/lang/Object;I)V"⟩, 3), (⟨"java/util/ArrayList", "grow", "()[Ljava/lang/Object;"⟩, 3), (⟨"java/util/ArrayList", "grow", "(I)[Ljava/lang/Object;"⟩, 3), (⟨"Pommel", "fencerInOrder", "(I)LPommel$Fencer;"⟩, 10), (⟨"Pommel", "aheadInOrder", "(LPommel$Fencer;)I"⟩, 10), (⟨"Pommel", "putIntoPool", "(LPommel$Fencer;I)V"⟩, 10), (⟨"Pommel", "poolInRow", "(II)I"⟩, 10), (⟨"Pommel", "hasClub", "(II)Z"⟩, 10), (⟨"Pommel", "addPoolBouts", "(I)V"⟩, 10), (⟨"Pommel", "fencerOnSpot", "(II)LPommel$Fencer;"⟩, 10), (⟨"Pommel", "fencerAt", "(I)LPommel$Fencer;"⟩, 10), (⟨"Pommel", "boutAt", "(I)LPommel$Bout;"⟩, 10), (⟨"Pommel", "whyNotReady", "(LPommel$Bout;)I"⟩, 10), (⟨"Pommel", "isOverAfter", "(LPommel$Bout;I)Z"⟩, 10), (⟨"Pommel", "finish", "(LPommel$Bout;LPommel$Fencer;I)V"⟩, 10)]
theorem lw_r1 : ∀ q ∈ lw_privs_1, lw_okq q := List.forall_mem_cons.mpr ⟨lw_p0, List.forall_mem_cons.mpr ⟨lw_p1, List.forall_mem_cons.mpr ⟨lw_p2, List.forall_mem_cons.mpr ⟨lw_p3, List.forall_mem_cons.mpr ⟨lw_p4, List.forall_mem_cons.mpr ⟨lw_p5, List.forall_mem_cons.mpr ⟨lw_p6, List.forall_mem_cons.mpr ⟨lw_p7, List.forall_mem_cons.mpr ⟨lw_p8, List.forall_mem_cons.mpr ⟨lw_p9, List.forall_mem_cons.mpr ⟨lw_p10, List.forall_mem_cons.mpr ⟨lw_p11, List.forall_mem_cons.mpr ⟨lw_p12, List.forall_mem_cons.mpr ⟨lw_p13, List.forall_mem_cons.mpr ⟨lw_p14, List.forall_mem_cons.mpr ⟨lw_p15, fun _ h => absurd h List.not_mem_nil⟩⟩⟩⟩⟩⟩⟩⟩⟩⟩⟩⟩⟩⟩⟩⟩
theorem lw_p16 : lw_okq (⟨"Pommel", "leavePiste", "(LPommel$Bout;I)V"⟩, 10) := ⟨⟨by decide +kernel, by decide +kernel⟩, List.mem_of_getElem? (i := 21) (by decide +kernel), List.mem_of_getElem? (i := 525) (by decide +kernel), List.mem_of_getElem? (i := 526) (by decide +kernel)⟩
theorem lw_p17 : lw_okq (⟨"Pommel", "decide", "(LPommel$Bout;LPommel$Fencer;)V"⟩, 10) := ⟨⟨by decide +kernel, by decide +kernel⟩, List.mem_of_getElem? (i := 21) (by decide +kernel), List.mem_of_getElem? (i := 537) (by decide +kernel), List.mem_of_getElem? (i := 538) (by decide +kernel)⟩
theorem lw_p18 : lw_okq (⟨"Pommel", "goOnInTable", "(LPommel$Bout;)V"⟩, 10) := ⟨⟨by decide +kernel, by decide +kernel⟩, List.mem_of_getElem? (i := 21) (by decide +kernel), List.mem_of_getElem? (i := 554) (by decide +kernel), List.mem_of_getElem? (i := 555) (by decide +kernel)⟩
theorem lw_p19 : lw_okq (⟨"Pommel", "liveBoutOn", "(I)LPommel$Bout;"⟩, 10) := ⟨⟨by decide +kernel, by decide +kernel⟩, List.mem_of_getElem? (i := 21) (by decide +kernel), List.mem_of_getElem? (i := 567) (by decide +kernel), List.mem_of_getElem? (i := 568) (by decide +kernel)⟩
theorem lw_p20 : lw_okq (⟨"Pommel", "isOverByHit", "(LPommel$Bout;)Z"⟩, 10) := ⟨⟨by decide +kernel, by decide +kernel⟩, List.mem_of_getElem? (i := 21) (by decide +kernel), List.mem_of_getElem? (i := 580) (by decide +kernel), List.mem_of_getElem? (i := 581) (by decide +kernel)⟩
theorem lw_p21 : lw_okq (⟨"Pommel", "putOut", "(LPommel$Bout;LPommel$Fencer;LPommel$Fencer;)V"⟩, 10) := ⟨⟨by decide +kernel, by decide +kernel⟩, List.mem_of_getElem? (i := 21) (by decide +kernel), List.mem_of_getElem? (i := 594) (by decide +kernel), List.mem_of_getElem? (i := 595) (by decide +kernel)⟩
theorem lw_p22 : lw_okq (⟨"Pommel", "makeVoid", "(LPommel$Bout;)V"⟩, 10) := ⟨⟨by decide +kernel, by decide +kernel⟩, List.mem_of_getElem? (i := 21) (by decide +kernel), List.mem_of_getElem? (i := 598) (by decide +kernel), List.mem_of_getElem? (i := 599) (by decide +kernel)⟩
theorem lw_p23 : lw_okq (⟨"Pommel", "boutsIn", "(I)I"⟩, 10) := ⟨⟨by decide +kernel, by decide +kernel⟩, List.mem_of_getElem? (i := 21) (by decide +kernel), List.mem_of_getElem? (i := 624) (by decide +kernel), List.mem_of_getElem? (i := 625) (by decide +kernel)⟩
theorem lw_p24 : lw_okq (⟨"Pommel", "fencersOut", "()I"⟩, 10) := ⟨⟨by decide +kernel, by decide +kernel⟩, List.mem_of_getElem? (i := 21) (by decide +kernel), List.mem_of_getElem? (i := 628) (by decide +kernel), List.mem_of_getElem? (i := 629) (by decide +kernel)⟩
theorem lw_p25 : lw_okq (⟨"Pommel", "winnerOfTable", "()LPommel$Fencer;"⟩, 10) := ⟨⟨by decide +kernel, by decide +kernel⟩, List.mem_of_getElem? (i := 21) (by decide +kernel), List.mem_of_getElem? (i := 632) (by decide +kernel), List.mem_of_getElem? (i := 633) (by decide +kernel)⟩
theorem lw_p26 : lw_okq (⟨"Pommel", "seed", "(I)V"⟩, 10) := ⟨⟨by decide +kernel, by decide +kernel⟩, List.mem_of_getElem? (i := 21) (by decide +kernel), List.mem_of_getElem? (i := 644) (by decide +kernel), List.mem_of_getElem? (i := 645) (by decide +kernel)⟩
theorem lw_p27 : lw_okq (⟨"Pommel", "setLines", "(I)V"⟩, 10) := ⟨⟨by decide +kernel, by decide +kernel⟩, List.mem_of_getElem? (i := 21) (by decide +kernel), List.mem_of_getElem? (i := 648) (by decide +kernel), List.mem_of_getElem? (i := 649) (by decide +kernel)⟩
theorem lw_p28 : lw_okq (⟨"Pommel", "addTableBouts", "()V"⟩, 10) := ⟨⟨by decide +kernel, by decide +kernel⟩, List.mem_of_getElem? (i := 21) (by decide +kernel), List.mem_of_getElem? (i := 652) (by decide +kernel), List.mem_of_getElem? (i := 653) (by decide +kernel)⟩
theorem lw_p29 : lw_okq (⟨"Pommel", "enteredOnLine", "(I)LPommel$Fencer;"⟩, 10) := ⟨⟨by decide +kernel, by decide +kernel⟩, List.mem_of_getElem? (i := 21) (by decide +kernel), List.mem_of_getElem? (i := 656) (by decide +kernel), List.mem_of_getElem? (i := 657) (by decide +kernel)⟩
theorem lw_p30 : lw_okq (⟨"Pommel", "fencerOnLine", "(I)LPommel$Fencer;"⟩, 10) := ⟨⟨by decide +kernel, by decide +kernel⟩, List.mem_of_getElem? (i := 21) (by decide +kernel), List.mem_of_getElem? (i := 660) (by decide +kernel), List.mem_of_getElem? (i := 661) (by decide +kernel)⟩
theorem lw_p31 : lw_okq (⟨"Pommel", "decideWithoutOther", "()V"⟩, 10) := ⟨⟨by decide +kernel, by decide +kernel⟩, List.mem_of_getElem? (i := 21) (by decide +kernel), List.mem_of_getElem? (i := 664) (by decide +kernel), List.mem_of_getElem? (i := 665) (by decide +kernel)⟩
def lw_privs_2 : List (MethodName × Nat) := [(⟨"Pommel", "leavePiste", "(LPommel$Bout;I)V"⟩, 10), (⟨"Pommel", "decide", "(LPommel$Bout;LPommel$Fencer;)V"⟩, 10), (⟨"Pommel", "goOnInTable", "(LPommel$Bout;)V"⟩, 10), (⟨"Pommel", "liveBoutOn", "(I)LPommel$Bout;"⟩, 10), (⟨"Pommel", "isOverByHit", "(LPommel$Bout;)Z"⟩, 10), (⟨"Pommel", "putOut", "(LPommel$Bout;LPommel$Fencer;LPommel$Fencer;)V"⟩, 10), (⟨"Pommel", "makeVoid", "(LPommel$Bout;)V"⟩, 10), (⟨"Pommel", "boutsIn", "(I)I"⟩, 10), (⟨"Pommel", "fencersOut", "()I"⟩, 10), (⟨"Pommel", "winnerOfTable", "()LPommel$Fencer;"⟩, 10), (⟨"Pommel", "seed", "(I)V"⟩, 10), (⟨"Pommel", "setLines", "(I)V"⟩, 10), (⟨"Pommel", "addTableBouts", "()V"⟩, 10), (⟨"Pommel", "enteredOnLine", "(I)LPommel$Fencer;"⟩, 10), (⟨"Pommel", "fencerOnLine", "(I)LPommel$Fencer;"⟩, 10), (⟨"Pommel", "decideWithoutOther", "()V"⟩, 10)]
theorem lw_r2 : ∀ q ∈ lw_privs_2, lw_okq q := List.forall_mem_cons.mpr ⟨lw_p16, List.forall_mem_cons.mpr ⟨lw_p17, List.forall_mem_cons.mpr ⟨lw_p18, List.forall_mem_cons.mpr ⟨lw_p19, List.forall_mem_cons.mpr ⟨lw_p20, List.forall_mem_cons.mpr ⟨lw_p21, List.forall_mem_cons.mpr ⟨lw_p22, List.forall_mem_cons.mpr ⟨lw_p23, List.forall_mem_cons.mpr ⟨lw_p24, List.forall_mem_cons.mpr ⟨lw_p25, List.forall_mem_cons.mpr ⟨lw_p26, List.forall_mem_cons.mpr ⟨lw_p27, List.forall_mem_cons.mpr ⟨lw_p28, List.forall_mem_cons.mpr ⟨lw_p29, List.forall_mem_cons.mpr ⟨lw_p30, List.forall_mem_cons.mpr ⟨lw_p31, fun _ h => absurd h List.not_mem_nil⟩⟩⟩⟩⟩⟩⟩⟩⟩⟩⟩⟩⟩⟩⟩⟩
theorem lw_p32 : lw_okq (⟨"Pommel", "withFencer", "(JI)J"⟩, 10) := ⟨⟨by decide +kernel, by decide +kernel⟩, List.mem_of_getElem? (i := 21) (by decide +kernel), List.mem_of_getElem? (i := 680) (by decide +kernel), List.mem_of_getElem? (i := 681) (by decide +kernel)⟩
theorem lw_p33 : lw_okq (⟨"Pommel", "withBout", "(JI)J"⟩, 10) := ⟨⟨by decide +kernel, by decide +kernel⟩, List.mem_of_getElem? (i := 21) (by decide +kernel), List.mem_of_getElem? (i := 703) (by decide +kernel), List.mem_of_getElem? (i := 704) (by decide +kernel)⟩
def lw_privs_3 : List (MethodName × Nat) := [(⟨"Pommel", "withFencer", "(JI)J"⟩, 10), (⟨"Pommel", "withBout", "(JI)J"⟩, 10)]
theorem lw_r3 : ∀ q ∈ lw_privs_3, lw_okq q := List.forall_mem_cons.mpr ⟨lw_p32, List.forall_mem_cons.mpr ⟨lw_p33, fun _ h => absurd h List.not_mem_nil⟩⟩
def lw_privs : List (MethodName × Nat) := lw_privs_1 ++ (lw_privs_2 ++ (lw_privs_3))
def lw_tbl : List Cond := k2_sels lw_privs ++ tables_1
theorem lw_privs_ok : ∀ q ∈ lw_privs, lw_okq q := by
  show ∀ q ∈ lw_privs_1 ++ (lw_privs_2 ++ (lw_privs_3)), lw_okq q
  exact List.forall_mem_append.mpr ⟨lw_r1, List.forall_mem_append.mpr ⟨lw_r2, lw_r3⟩⟩

/-! ===== BEGIN words of one list among another's, by their places ===== -/
theorem goodIn_r {big : List Cond} (ws : List Cond) (ps : List Nat) (hp : ws = ps.filterMap (fun i => big[i]?)) (h : ws.all goodWord = true) : GoodIn big ws := by
  intro w hw
  have h1 := List.all_eq_true.mp h w hw
  rw [hp] at hw
  obtain ⟨i, -, hi⟩ := List.mem_filterMap.mp hw
  have hm : w ∈ big := by first | exact List.mem_of_getElem? hi | exact List.getElem?_mem hi
  exact ⟨hm, good_of_word h1⟩
theorem goodIn_app {big a b : List Cond} (ha : GoodIn big a) (hb : GoodIn big b) : GoodIn big (a ++ b) := fun w h => (List.mem_append.mp h).elim (ha w) (hb w)
theorem goodIn_ca {big a b : List Cond} {c : Cond} (ha : GoodIn big (c :: a)) (hb : GoodIn big b) : GoodIn big (c :: (a ++ b)) := fun w h => (List.mem_cons.mp h).elim (fun e => ha w (List.mem_cons.mpr (Or.inl e))) (fun h => (List.mem_append.mp h).elim (fun h => ha w (List.mem_cons.mpr (Or.inr h))) (hb w))
theorem goodIn_sub {big ws : List Cond} (hm : ∀ w ∈ ws, w ∈ big) (h : ws.all goodWord = true) : GoodIn big ws := fun w hw => ⟨hm w hw, good_of_word (List.all_eq_true.mp h w hw)⟩
/-! ===== END ===== -/

/-! ===== BEGIN exceptions that leave a method, and their catching by the caller (launches without stack traces) ===== -/
section VXA
/-! The laws vx_back, vx_callV, vx_callS, vx_callSW, vx_throw0, vx_throwS follow proofs of the library, with one case more: JvmDerived/Free/Laws.lean (Back.of_free), Shelf42/LK1.lean (callV, callS), Shelf/KitTraced.lean (throwNew0V, throwNewS). -/
/-- where a method has thrown q: the class by its name, the cell, what was written, the world -/
def vx_T (XC : String → State → State → Prop) (st : State) (q : Addr) (t : State) (mc ms : Nat) (free : Addr → Prop) : Prop :=
  ∃ (E : String) (ce : Cell) (L : List Loc), XC E st t ∧ t.heap[q]? = some ce ∧ ce.vm = .none ∧ st.vm.findClass E = some ce.cls ∧ st.WarmedH t.vm ∧ st.sameButNew ({ t with vm := st.vm } : State) L mc ms ∧ ∀ z ∈ L, free z.base
def vx_Q (Qc : Array Value → State → Outcome → State → Prop) (XC : String → State → State → Prop) (mc ms : Nat) (free : Addr → Prop) : Array Value → State → Outcome → State → Prop := fun a st o t =>
  (Qc a st o t ∧ ∃ L, FrameEnd st o t L mc ms ∧ ∀ q ∈ L, free q.base) ∨ ∃ q, o = .threw q ∧ vx_T XC st q t mc ms free
/-- a callee that returns or throws -/
def vx_Met (l : Launch) (y : MethodName) (ws : List Cond) (rm : Room) (Pc : Array Value → State → Prop) (Qc : Array Value → State → Outcome → State → Prop) (XC : String → State → State → Prop) (mc ms : Nat) (free : Addr → Prop) : Prop :=
  MetFree l y (headSpec ws rm) Pc (fun _ _ _ _ _ => True) (vx_Q Qc XC mc ms free)
def vx_Post (XC : String → State → State → Prop) (mc ms : Nat) (free : Addr → Prop) : Pt → Array Value → Addr → Pt → Prop := fun A a q B =>
  ∃ (g : JFrame) (mk : MethodId) (t : State) (L : List Loc) (E : String) (ce : Cell), B.U.heap = t.heap ∧ B.U.vm = t.vm ∧ XC E (A.U.calling g mk a) t ∧ t.heap[q]? = some ce ∧ ce.vm = .none ∧ A.U.vm.findClass E = some ce.cls ∧ B.locs = A.locs ++ L ∧ (∀ z ∈ L, free z.base) ∧ B.cells = A.cells + mc ∧ B.slots = A.slots + ms
def vx_Back (l : Launch) (R : Room) (p : Program) (e : Env) (below : List Frame) (s : State) (sargs : Array Value) (y : MethodName) (len W9 : Nat)
    (Pre : Pt → Array Value → Prop) (Post : Pt → Array Value → Option Value → Pt → Prop) (PostX : Pt → Array Value → Addr → Pt → Prop) : Prop :=
  ∀ (m : MethodId) (meth : Method) (c : Code) (A : Pt) (g : JFrame) (ig : Instr) (mk : MethodId) (a : Array Value),
    Stand p l e R s m sargs below meth c A.U A.locs A.cells A.slots → g.method = m → g.locals.size = c.maxLocals → decode c.code g.pc = .ok (ig, len) →
    2 * g.monitorRoom + (g.stack.map fun v => v.category).sum ≤ W9 → A.U.methodNamed? y = some mk → Pre A a →
    (∃ (v : Option Value) (B : Pt), Stand p l e R s m sargs below meth c B.U B.locs B.cells B.slots ∧ Post A a v B ∧
      Steps p.tables e below (doInvoke e (A.U.setTop g) [] mk a).1 (B.U.setTop { g with pc := g.pc + len, stack := v.toList ++ g.stack })) ∨
    (∃ (q : Addr) (B : Pt), Stand p l e R s m sargs below meth c B.U B.locs B.cells B.slots ∧ PostX A a q B ∧
      Steps p.tables e below (doInvoke e (A.U.setTop g) [] mk a).1 ((B.U.setTop g).pushFrame (.throwing q)))
section Payer
variable {l : Launch} {R : Room} {p : Program} {e : Env} {below : List Frame} {s : State} {sargs : Array Value} {y : MethodName} {len W9 : Nat}
theorem vx_back {ws : List Cond} {rm : Room} {Pc : Array Value → State → Prop} {Qc : Array Value → State → Outcome → State → Prop} {XC : String → State → State → Prop} {mc ms : Nat} {free : Addr → Prop} {bytes : ByteArray} {maxL : Nat} {ret : Option FieldType}
    (hM : vx_Met l y ws rm Pc Qc XC mc ms free) (hblind : FrameBlind Pc) (hrc : rm.cells = mc) (hrs : rm.slots = ms)
    (hframes : rm.frames + 1 ≤ R.frames) (hlocals : W9 + (maxL + 11) + rm.locals ≤ R.locals)
    (hws : ∀ w ∈ ws, ∀ a' U, s.WarmedH U.vm → w.before a' U = true) (hcode : Cond.code y bytes maxL ret ∈ ws) (hinit : ∀ a' U, s.WarmedH U.vm → (Cond.initialized y.cls).before a' U = true) :
    vx_Back l R p e below s sargs y len W9 (PreOf R mc ms Pc) (PostOf Qc mc ms free) (vx_Post XC mc ms free) := by
  intro m meth c A g ig mk a X hg hsize hdg hW hn hp
  have h1 : (headSpec ws rm).pre.before a A.U = true := atoms_intro fun w hw => hws w hw _ _ X.warmed
  have h2 : (Cond.code y bytes maxL ret).before a A.U = true := hws _ hcode _ _ X.warmed
  have h3 : (Cond.initialized y.cls).before a A.U = true := hinit _ _ X.warmed
  have h4 : A.cells + (headSpec ws rm).room.cells ≤ R.cells := by rw [show (headSpec ws rm).room.cells = mc from hrc]; exact hp.1
  have h5 : A.slots + (headSpec ws rm).room.slots ≤ R.slots := by rw [show (headSpec ws rm).room.slots = ms from hrs]; exact hp.2.1
  have hPc : Pc a (A.U.calling g mk a) := hblind _ _ _ _ hp.2.2
  obtain ⟨U, Ls, c0, s0⟩ := A
  dsimp only [Pt.U, Pt.locs, Pt.cells, Pt.slots] at h1 h2 h3 h4 h5 X hn hPc ⊢
  obtain ⟨methY, cY, hmY, hcY, -, hlY, -, -, -, -⟩ := Cond.code_spec hn h2
  obtain ⟨kY, hkY, -⟩ := className_of_methodNamed hn
  have hinitY : kY.init = .initialized := Cond.initialized_spec (findClass_of_methodNamed hn) hkY h3
  have h : At U g.method c below := by rw [hg]; exact X.here
  have hlocals9 : W9 + (maxL + 11) + (headSpec ws rm).room.locals ≤ R.locals := hlocals
  have happ : (headSpec ws rm).appliesLoose y e.platform (U.calling g mk a) = true :=
    Spec.appliesLoose_calling (g := g) h hdg hn hkY hinitY
      (X.room_calling (g := g) (R' := (headSpec ws rm).room) hsize hmY hcY hframes (by rw [hlY]; omega) h4 h5) h1
  obtain ⟨mid, hmid⟩ := h.above
  have hfr : (U.setTop g).frames = (.java g :: mid) ++ below := by rw [State.frames_setTop' g h.top, hmid]; rfl
  obtain ⟨o, s₂, hsteps, -, hend, hq⟩ := Steps.callFree hM p X.admits X.cas X.clock (acts := []) hfr happ hPc trivial
  have hq' : vx_Q Qc XC mc ms free a (U.calling g mk a) o s₂ := hq
  rw [State.frames_setTop' g h.top] at hend
  obtain ⟨g₀, hg0⟩ := Option.isSome_iff_exists.mp h.top
  obtain ⟨r, hr⟩ := State.topJava?_eq_some.mp hg0
  have hr' : (({ U with heap := s₂.heap, slotsUsed := s₂.slotsUsed } : State).setVm s₂.vm).frames = .java g₀ :: r := hr
  rcases hq' with ⟨hqc, L, hfe, hL⟩ | ⟨q, rfl, E, ce, L, hx, hce, hcv, hcl, hW₂, hsm, hL⟩
  · obtain ⟨⟨v, rfl⟩, hW₂, e2, q2, q3, q4, q5, q6⟩ := id hfe
    have e3 : s₂ = ({ (U.calling g mk a).setFrames s₂.frames with heap := s₂.heap, slotsUsed := s₂.slotsUsed } : State).setVm s₂.vm := by
      have : s₂ = ({ s₂ with vm := (U.calling g mk a).vm } : State).setVm s₂.vm := rfl
      rw [e2] at this
      exact this
    obtain ⟨c₂, i₂, len₂, hc₂, hd₂, hf₂⟩ := hend
    have hW' : U.WarmedH s₂.vm := hW₂
    have hcc : c₂ = c := by
      have h1 : s₂.code? g.method = U.code? g.method := by
        rw [State.code?_eq, State.code?_eq, hW'.alike.method?]
      exact Option.some.inj (hc₂.symm.trans (h1.trans h.code))
    subst hcc
    have hlen : len₂ = len := by rw [hdg] at hd₂; cases hd₂; rfl
    subst hlen
    have hs₂ : s₂ = (({ U with heap := s₂.heap, slotsUsed := s₂.slotsUsed } : State).setVm s₂.vm).setTop { g with pc := g.pc + len₂, stack := v.toList ++ g.stack } := by
      refine e3.trans ?_
      rw [hf₂, State.calling_eq h.top, State.setFrames_setFrames, State.setTop_of_frames _ hr', hr]
      rfl
    have hsame : U.sameButNew ({ U with heap := s₂.heap, slotsUsed := s₂.slotsUsed } : State) L mc ms := by
      refine ⟨?_, q2, q3, q4, q5, q6⟩
      obtain ⟨t, ht, -⟩ := State.frames_cons hr
      show ({ U with heap := s₂.heap, slotsUsed := s₂.slotsUsed } : State) = { U.setFrames U.frames with heap := s₂.heap, slotsUsed := s₂.slotsUsed }
      rw [State.setFrames_self ht]
    subst hg
    refine Or.inl ⟨v, ⟨(({ U with heap := s₂.heap, slotsUsed := s₂.slotsUsed } : State).setVm s₂.vm), Ls ++ L, c0 + mc, s0 + ms⟩,
      ⟨X.admits, X.cas, X.clock, X.frames, X.room, X.hears, X.method, X.code, (X.here.setHeapUsed s₂.heap s₂.slotsUsed).setVm hW'.alike, X.tail, State.WarmedH.trans X.warmed hW', X.limits, X.bytes, X.same.trans (hsame.setVm s.vm)⟩,
      ⟨g, mk, s₂, L, rfl, rfl, hqc, rfl, hL, rfl, rfl⟩, ?_⟩
    show Steps p.tables e below _ ((({ U with heap := s₂.heap, slotsUsed := s₂.slotsUsed } : State).setVm s₂.vm).setTop { g with pc := g.pc + len₂, stack := v.toList ++ g.stack })
    rw [← hs₂]
    exact hsteps
  · obtain ⟨e2, q2, q3, q4, q5, q6⟩ := id hsm
    have e3 : s₂ = ({ (U.calling g mk a).setFrames s₂.frames with heap := s₂.heap, slotsUsed := s₂.slotsUsed } : State).setVm s₂.vm := by
      have : s₂ = ({ s₂ with vm := (U.calling g mk a).vm } : State).setVm s₂.vm := rfl
      rw [e2] at this
      exact this
    have hf₂ : s₂.frames = .throwing q :: .java g :: U.frames.tail := hend
    have hW' : U.WarmedH s₂.vm := hW₂
    have hs₂ : s₂ = ((({ U with heap := s₂.heap, slotsUsed := s₂.slotsUsed } : State).setVm s₂.vm).setTop g).pushFrame (.throwing q) := by
      refine e3.trans ?_
      rw [hf₂, State.calling_eq h.top, State.setFrames_setFrames, State.pushFrame, State.frames_setTop _ hr', State.setTop_of_frames _ hr', State.setFrames_setFrames, hr]
      rfl
    have hsame : U.sameButNew ({ U with heap := s₂.heap, slotsUsed := s₂.slotsUsed } : State) L mc ms := by
      refine ⟨?_, q2, q3, q4, q5, q6⟩
      obtain ⟨t, ht, -⟩ := State.frames_cons hr
      show ({ U with heap := s₂.heap, slotsUsed := s₂.slotsUsed } : State) = { U.setFrames U.frames with heap := s₂.heap, slotsUsed := s₂.slotsUsed }
      rw [State.setFrames_self ht]
    subst hg
    refine Or.inr ⟨q, ⟨(({ U with heap := s₂.heap, slotsUsed := s₂.slotsUsed } : State).setVm s₂.vm), Ls ++ L, c0 + mc, s0 + ms⟩,
      ⟨X.admits, X.cas, X.clock, X.frames, X.room, X.hears, X.method, X.code, (X.here.setHeapUsed s₂.heap s₂.slotsUsed).setVm hW'.alike, X.tail, State.WarmedH.trans X.warmed hW', X.limits, X.bytes, X.same.trans (hsame.setVm s.vm)⟩,
      ⟨g, mk, s₂, L, E, ce, rfl, rfl, hx, hce, hcv, hcl, rfl, hL, rfl, rfl⟩, ?_⟩
    show Steps p.tables e below _ (((({ U with heap := s₂.heap, slotsUsed := s₂.slotsUsed } : State).setVm s₂.vm).setTop g).pushFrame (.throwing q))
    rw [← hs₂]
    exact hsteps
end Payer
section Calls
variable {p : Program} {l : Launch} {e : Env} {R : Room} {s : State} {m : MethodId} {args : Array Value} {below : List Frame} {meth : Method} {c : Code} {T : State} {locs : List Loc} {cells slots : Nat}
theorem vx_callV (X : Stand p l e R s m args below meth c T locs cells slots) (hexec : p.tables.exec = Jvm.exec) {own C : String} {index : Nat} {y : MethodName} {bytes : ByteArray} {maxL : Nat} {ret : Option FieldType}
    (hown : s.vm.findClass own = some m.cls) (hlink : (Cond.methodLink own index y).before args s = true) (hinst : (Cond.instanceMethod y).before args s = true) (hsel : (Cond.selects C y y).before args s = true)
    (hcode : (Cond.code y bytes maxL ret).before args s = true) (hy : y.cls ≠ "java/lang/invoke/MethodHandle" ∧ y.cls ≠ "java/lang/invoke/VarHandle")
    {W9 : Nat} {Pre : Pt → Array Value → Prop} {Post : Pt → Array Value → Option Value → Pt → Prop} {PostX : Pt → Array Value → Addr → Pt → Prop} (hK : vx_Back l R p e below s args y 3 W9 Pre Post PostX)
    {b : Addr} {cellB : Cell} (hcell : T.heap[b]? = some cellB) (hobj : cellB.vm.isStatics = false) (hcls : s.vm.findClass C = some cellB.cls)
    {g : JFrame} (hg : g.method = m) (hsize : g.locals.size = c.maxLocals) {argsL rest : List Value} (hlen : ∀ sig, parseMethodDescriptor y.desc = some sig → argsL.length = sig.parameters.length)
    (hstack : g.stack = argsL.reverse ++ .ref b :: rest) (hW : 2 * g.monitorRoom + (rest.map fun v => v.category).sum ≤ W9) (hdg : decode c.code g.pc = .ok (.invokevirtual index, 3))
    (hpre : ∀ vm₁, s.WarmedH vm₁ → Pre ⟨T.setVm vm₁, locs, cells, slots⟩ (Value.ref b :: argsL).toArray) :
    (∃ (v : Option Value) (vm₁ : Vm) (B : Pt), s.WarmedH vm₁ ∧ Stand p l e R s m args below meth c B.U B.locs B.cells B.slots ∧ Post ⟨T.setVm vm₁, locs, cells, slots⟩ (Value.ref b :: argsL).toArray v B ∧
      ∀ target, Steps p.tables e below (B.U.setTop { g with pc := g.pc + 3, stack := v.toList ++ rest }) target → Steps p.tables e below (T.setTop g) target) ∨
    (∃ (q : Addr) (vm₁ : Vm) (B : Pt), s.WarmedH vm₁ ∧ Stand p l e R s m args below meth c B.U B.locs B.cells B.slots ∧ PostX ⟨T.setVm vm₁, locs, cells, slots⟩ (Value.ref b :: argsL).toArray q B ∧
      Steps p.tables e below (T.setTop g) ((B.U.setTop { g with stack := rest }).pushFrame (.throwing q))) := by
  obtain ⟨mk, methM, hnamed, hmethM, hstM, habM⟩ := Cond.instanceMethod_spec hinst
  obtain ⟨methM', cM, hmethM', -, -, -, -, -, -, hsigM⟩ := Cond.code_spec hnamed hcode
  cases hmethM.symm.trans hmethM'
  obtain ⟨c2, r2, m2, q1, q2, q3, q4, kP, hkP, hkPi⟩ := Cond.selects_spec hsel
  cases hcls.symm.trans q1
  cases (State.methodFound?_of_named hnamed hy).symm.trans q2
  cases hnamed.symm.trans q3
  have hselP : selectMethod e.platform s.vm cellB.cls mk = .method mk := by rw [Launch.admits_selectMethod X.admits]; exact q4
  obtain ⟨vm₁, X₁, hstep₁⟩ := X.invokevirtual hexec hown hlink hnamed hmethM hstM hkP hkPi hy (a := b) (cell := cellB) hcell
    (fun z h => by rw [h] at hobj; cases hobj) hselP hmethM habM hkP hkPi (g := g) hg (argsL := argsL) (rest := rest) (hlen _ hsigM) hstack hdg
  rcases hK m meth c ⟨T.setVm vm₁, locs, cells, slots⟩ { g with stack := rest } (.invokevirtual index) mk (Value.ref b :: argsL).toArray X₁ hg hsize hdg hW (X₁.named hnamed) (hpre vm₁ X₁.warmed) with ⟨v, B, X', hpost, hsteps⟩ | ⟨q, B, X', hpost, hsteps⟩
  · exact Or.inl ⟨v, vm₁, B, X₁.warmed, X', hpost, fun target h => hstep₁ _ fun acts => by rw [doInvoke_state]; exact hsteps.trans h⟩
  · exact Or.inr ⟨q, vm₁, B, X₁.warmed, X', hpost, hstep₁ _ fun acts => by rw [doInvoke_state]; exact hsteps⟩
theorem vx_callS (X : Stand p l e R s m args below meth c T locs cells slots) (hexec : p.tables.exec = Jvm.exec) {own : String} {index : Nat} {y : MethodName} {bytes : ByteArray} {maxL : Nat} {ret : Option FieldType}
    (hown : s.vm.findClass own = some m.cls) (hlink : (Cond.methodLink own index y).before args s = true) (hstat : (Cond.static y).before args s = true) (hinit : (Cond.initialized y.cls).before args s = true)
    (hcode : (Cond.code y bytes maxL ret).before args s = true) (hy : y.cls ≠ "java/lang/invoke/MethodHandle" ∧ y.cls ≠ "java/lang/invoke/VarHandle")
    {W9 : Nat} {Pre : Pt → Array Value → Prop} {Post : Pt → Array Value → Option Value → Pt → Prop} {PostX : Pt → Array Value → Addr → Pt → Prop} (hK : vx_Back l R p e below s args y 3 W9 Pre Post PostX)
    {g : JFrame} (hg : g.method = m) (hsize : g.locals.size = c.maxLocals) {argsL rest : List Value} (hlen : ∀ sig, parseMethodDescriptor y.desc = some sig → argsL.length = sig.parameters.length)
    (hstack : g.stack = argsL.reverse ++ rest) (hW : 2 * g.monitorRoom + (rest.map fun v => v.category).sum ≤ W9) (hdg : decode c.code g.pc = .ok (.invokestatic index, 3))
    (hpre : ∀ vm₁, s.WarmedH vm₁ → Pre ⟨T.setVm vm₁, locs, cells, slots⟩ argsL.toArray) :
    (∃ (v : Option Value) (vm₁ : Vm) (B : Pt), s.WarmedH vm₁ ∧ Stand p l e R s m args below meth c B.U B.locs B.cells B.slots ∧ Post ⟨T.setVm vm₁, locs, cells, slots⟩ argsL.toArray v B ∧
      ∀ target, Steps p.tables e below (B.U.setTop { g with pc := g.pc + 3, stack := v.toList ++ rest }) target → Steps p.tables e below (T.setTop g) target) ∨
    (∃ (q : Addr) (vm₁ : Vm) (B : Pt), s.WarmedH vm₁ ∧ Stand p l e R s m args below meth c B.U B.locs B.cells B.slots ∧ PostX ⟨T.setVm vm₁, locs, cells, slots⟩ argsL.toArray q B ∧
      Steps p.tables e below (T.setTop g) ((B.U.setTop { g with stack := rest }).pushFrame (.throwing q))) := by
  obtain ⟨mk, hnamed⟩ := Cond.code_named hcode
  obtain ⟨methM, cM, hmethM, -, -, -, -, -, -, hsigM⟩ := Cond.code_spec hnamed hcode
  have hstatic : methM.isStatic = true := Cond.static_spec hnamed hmethM hstat
  obtain ⟨kP, hkP, -⟩ := className_of_methodNamed hnamed
  have hinitP : kP.init = .initialized := Cond.initialized_spec (findClass_of_methodNamed hnamed) hkP hinit
  obtain ⟨vm₁, X₁, hstep₁⟩ := X.invokestatic hexec hown hlink hnamed hmethM hstatic hkP hinitP hy (g := g) hg (argsL := argsL) (rest := rest) (hlen _ hsigM) hstack hdg
  rcases hK m meth c ⟨T.setVm vm₁, locs, cells, slots⟩ { g with stack := rest } (.invokestatic index) mk argsL.toArray X₁ hg hsize hdg hW (X₁.named hnamed) (hpre vm₁ X₁.warmed) with ⟨v, B, X', hpost, hsteps⟩ | ⟨q, B, X', hpost, hsteps⟩
  · exact Or.inl ⟨v, vm₁, B, X₁.warmed, X', hpost, fun target h => hstep₁ _ fun acts => by rw [doInvoke_state]; exact hsteps.trans h⟩
  · exact Or.inr ⟨q, vm₁, B, X₁.warmed, X', hpost, hstep₁ _ fun acts => by rw [doInvoke_state]; exact hsteps⟩
end Calls
theorem vx_cls {s : State} {T : State} {vm₁ : Vm} {E : String} {k : ClassId} (hW : s.WarmedH vm₁) (h : (T.setVm vm₁).vm.findClass E = some k) : s.vm.findClass E = some k := by
  have h1 : vm₁.findClass E = some k := h
  rw [hW.alike.findClass] at h1
  exact h1
/-- the method's frame g, with q thrown over it -/
def vx_W (p : Program) (l : Launch) (e : Env) (R : Room) (s : State) (m : MethodId) (args : Array Value) (below : List Frame) (meth : Method) (c : Code) (H : Heap) (locs : List Loc) (cells slots : Nat) (Q : State → Prop) (g : JFrame) (q : Addr) : Prop :=
  ∀ T : State, T.heap = H → Stand p l e R s m args below meth c T locs cells slots → ∃ t, Steps p.tables e below ((T.setTop g).pushFrame (.throwing q)) t ∧ Q t
def vx_Run (p : Program) (l : Launch) (e : Env) (R : Room) (s : State) (m : MethodId) (args : Array Value) (below : List Frame) (meth : Method) (c : Code) (H : Heap) (locs : List Loc) (cells slots mc ms : Nat) (g : JFrame) (rest : List Value) (Qa : State → Outcome → State → Prop) (XC : String → State → State → Prop) (free : Addr → Prop) : Prop :=
  ∀ T : State, T.heap = H → Stand p l e R s m args below meth c T locs cells slots →
    (∃ (v : Option Value) (st₀ t T' : State) (L : List Loc), st₀.heap = H ∧ Stand p l e R s m args below meth c T' (locs ++ L) (cells + mc) (slots + ms) ∧ (∀ q ∈ L, free q.base) ∧ T'.heap = t.heap ∧ T'.vm = t.vm ∧ Qa st₀ (.returned v) t ∧
      Goes p e below T g T' { g with pc := g.pc + 3, stack := v.toList ++ rest }) ∨
    (∃ (q : Addr) (st₀ t T' : State) (L : List Loc) (E : String) (ce : Cell), st₀.heap = H ∧ Stand p l e R s m args below meth c T' (locs ++ L) (cells + mc) (slots + ms) ∧ (∀ z ∈ L, free z.base) ∧ T'.heap = t.heap ∧ T'.vm = t.vm ∧ XC E st₀ t ∧ t.heap[q]? = some ce ∧ ce.vm = .none ∧ s.vm.findClass E = some ce.cls ∧
      Steps p.tables e below (T.setTop g) ((T'.setTop { g with stack := rest }).pushFrame (.throwing q)))
def vx_X {S : Type} (px : S → Prop) (B : String → S → State → Prop) (A : Nat → Prop) : String → State → State → Prop := fun E st t => ∃ u : S, px u ∧ B E u t ∧ va_F A st t
section Runs
variable {p : Program} {l : Launch} {e : Env} {R : Room} {s : State} {m : MethodId} {args : Array Value} {below : List Frame} {meth : Method} {c : Code} {H : Heap} {locs : List Loc} {cells slots : Nat}
variable {y : MethodName} {bytes cc : ByteArray} {maxL nL mc ms n index : Nat} {ret : Option FieldType} {ws : List Cond} {rm : Room} {Pc : Array Value → State → Prop} {Qc : Array Value → State → Outcome → State → Prop} {XC : String → State → State → Prop} {free : Addr → Prop} {Ts : List Cond} {own C : String} {b : Addr} {As rest : List Value} {g : JFrame}
theorem vx_callBack (cb : CallB R s args own index y bytes maxL ret ws rm mc ms n) (hM : vx_Met l y ws rm Pc Qc XC mc ms free) (hbl : FrameBlind Pc) : vx_Back l R p e below s args y 3 8 (PreOf R mc ms Pc) (PostOf Qc mc ms free) (vx_Post XC mc ms free) := by
  obtain ⟨hrc, hrs, hfr, hlo, hws, hcw, -, hini, -⟩ := cb
  exact vx_back (bytes := bytes) (maxL := maxL) (ret := ret) hM hbl hrc hrs hfr hlo hws hcw (fun a' U hW => word_at hW (Or.inl (by first | rfl | simp [Cond.onTables, Cond.keeps, Cond.steady])) hini)
theorem vx_runV (S : CallFix p m c cc nL s args Ts own) (hM : vx_Met l y ws rm Pc Qc XC mc ms free) (cw : CallW R s args own C index y bytes maxL ret ws rm mc ms n) (hp : PreV s H C b Pc As)
    (hg : g.method = m) (hn : As.length = n) (hsize : g.locals.size = nL) (hstack : g.stack = As.reverse ++ .ref b :: rest) (hW : 2 * g.monitorRoom + (rest.map fun v => v.category).sum ≤ 8) (hdg : decode cc g.pc = .ok (.invokevirtual index, 3)) (hf : cells + mc ≤ R.cells ∧ slots + ms ≤ R.slots) :
    vx_Run p l e R s m args below meth c H locs cells slots mc ms g rest (Qc (Value.ref b :: As).toArray) XC free := by
  have hK : vx_Back l R p e below s args y 3 8 (PreOf R mc ms Pc) (PostOf Qc mc ms free) (vx_Post XC mc ms free) := vx_callBack cw.1 hM hp.1
  obtain ⟨⟨-, -, -, -, -, -, hcode, -, hy, hlen, hl⟩, hin, hse⟩ := cw
  obtain ⟨hx, hb, hml, ho, -⟩ := S
  obtain ⟨-, ⟨cellB, hcB, hoB, hclB⟩, hPc⟩ := hp
  intro T hT X
  rcases vx_callV X hx (C := C) (bytes := bytes) (maxL := maxL) (ret := ret) ho hl hin hse hcode hy hK (by rw [hT]; exact hcB) hoB hclB hg (hsize.trans hml.symm) (argsL := As) (rest := rest) (fun sig h => hn.trans (hlen sig h)) hstack hW (by rw [hb]; exact hdg)
    (fun vm₁ hW₁ => ⟨hf.1, hf.2, hPc (T.setVm vm₁) hT hW₁⟩) with ⟨v, vm₁, ⟨U', l2, c2, s2⟩, hW₁, X', ⟨g', mk, t, L, e1, e2, hq, h1, hL, h2, h3⟩, st⟩ | ⟨q, vm₁, ⟨U', l2, c2, s2⟩, hW₁, X', ⟨g', mk, t, L, E, ce, e1, e2, hq, hce, hcv, hcl, h1, hL, h2, h3⟩, st⟩
  · dsimp only [Pt.U, Pt.locs, Pt.cells, Pt.slots] at X' e1 e2 h1 h2 h3 st
    subst h1; subst h2; subst h3
    exact Or.inl ⟨v, (T.setVm vm₁).calling g' mk (Value.ref b :: As).toArray, t, U', L, hT, X', hL, e1, e2, hq, st⟩
  · dsimp only [Pt.U, Pt.locs, Pt.cells, Pt.slots] at X' e1 e2 h1 h2 h3 st hcl
    subst h1; subst h2; subst h3
    exact Or.inr ⟨q, (T.setVm vm₁).calling g' mk (Value.ref b :: As).toArray, t, U', L, E, ce, hT, X', hL, e1, e2, hq, hce, hcv, vx_cls hW₁ hcl, st⟩
theorem vx_runS (S : CallFix p m c cc nL s args Ts own) (hM : vx_Met l y ws rm Pc Qc XC mc ms free) (cw : CallB R s args own index y bytes maxL ret ws rm mc ms n ∧ (Cond.static y).before args s = true) (hp : PreS s H Pc As)
    (hg : g.method = m) (hn : As.length = n) (hsize : g.locals.size = nL) (hstack : g.stack = As.reverse ++ rest) (hW : 2 * g.monitorRoom + (rest.map fun v => v.category).sum ≤ 8) (hdg : decode cc g.pc = .ok (.invokestatic index, 3)) (hf : cells + mc ≤ R.cells ∧ slots + ms ≤ R.slots) :
    vx_Run p l e R s m args below meth c H locs cells slots mc ms g rest (Qc As.toArray) XC free := by
  have hK : vx_Back l R p e below s args y 3 8 (PreOf R mc ms Pc) (PostOf Qc mc ms free) (vx_Post XC mc ms free) := vx_callBack cw.1 hM hp.1
  obtain ⟨⟨-, -, -, -, -, -, hcode, hini, hy, hlen, hl⟩, hstt⟩ := cw
  obtain ⟨hx, hb, hml, ho, -⟩ := S
  intro T hT X
  rcases vx_callS X hx (bytes := bytes) (maxL := maxL) (ret := ret) ho hl hstt hini hcode hy hK hg (hsize.trans hml.symm) (argsL := As) (rest := rest) (fun sig h => hn.trans (hlen sig h)) hstack hW (by rw [hb]; exact hdg)
    (fun vm₁ hW₁ => ⟨hf.1, hf.2, hp.2 (T.setVm vm₁) hT hW₁⟩) with ⟨v, vm₁, ⟨U', l2, c2, s2⟩, hW₁, X', ⟨g', mk, t, L, e1, e2, hq, h1, hL, h2, h3⟩, st⟩ | ⟨q, vm₁, ⟨U', l2, c2, s2⟩, hW₁, X', ⟨g', mk, t, L, E, ce, e1, e2, hq, hce, hcv, hcl, h1, hL, h2, h3⟩, st⟩
  · dsimp only [Pt.U, Pt.locs, Pt.cells, Pt.slots] at X' e1 e2 h1 h2 h3 st
    subst h1; subst h2; subst h3
    exact Or.inl ⟨v, (T.setVm vm₁).calling g' mk As.toArray, t, U', L, hT, X', hL, e1, e2, hq, st⟩
  · dsimp only [Pt.U, Pt.locs, Pt.cells, Pt.slots] at X' e1 e2 h1 h2 h3 st hcl
    subst h1; subst h2; subst h3
    exact Or.inr ⟨q, (T.setVm vm₁).calling g' mk As.toArray, t, U', L, E, ce, hT, X', hL, e1, e2, hq, hce, hcv, vx_cls hW₁ hcl, st⟩
end Runs
section Rows
variable {p : Program} {l : Launch} {e : Env} {R : Room} {s : State} {m : MethodId} {args : Array Value} {below : List Frame} {meth : Method} {c : Code} {H : Heap} {locs : List Loc} {cells slots : Nat} {Q : State → Prop}
variable {mc ms : Nat} {free : Addr → Prop} {A0 A1 : Nat → Prop} {H0 : Heap} {a : Array Value} {pc : Nat} {ls : Array Slot} {st0 rest : List Value}
theorem vx_keep {st₀ t T' : State} {L : List Loc} (h0 : st₀.heap = H) (e1 : T'.heap = t.heap) (hS : va_S A0 H0 H locs) (hA : ∀ q, q < H.size → A1 q → A0 q) (hf : ∀ q, free q → A0 q) (hL : ∀ q ∈ L, free q.base) (hF : va_F A1 st₀ t) :
    H.size ≤ T'.heap.size ∧ (∀ q : Nat, q < H.size → ¬ A1 q → T'.heap[q]? = H[q]?) ∧ va_S A0 H0 T'.heap (locs ++ L) := by
  obtain ⟨hz, hk⟩ := hF
  rw [h0] at hz hk
  exact ⟨by rw [e1]; exact hz, fun q h1 h2 => by rw [e1]; exact hk q h1 h2,
    ⟨Nat.le_trans hS.1 (by rw [e1]; exact hz), fun q h1 h2 => by rw [e1, hk q (Nat.lt_of_lt_of_le h1 hS.1) (fun z => h2 (hA q (Nat.lt_of_lt_of_le h1 hS.1) z))]; exact hS.2.1 q h1 h2, fun q hq => by
      rcases List.mem_append.mp hq with h | h
      · exact hS.2.2 q h
      · exact hf _ (hL q h)⟩⟩
theorem vx_calli {S SX : Type} {post : Int32 → S → Prop} {px : SX → Prop} {B : S → State → Prop} {BX : String → SX → State → Prop} {AX : Nat → Prop} (hr : vx_Run p l e R s m args below meth c H locs cells slots mc ms (F0 m pc ls st0) rest (va_Qi post B A1 a) (vx_X px BX AX) free) (hS : va_S A0 H0 H locs) (hA : ∀ q, q < H.size → A1 q → A0 q) (hf : ∀ q, free q → A0 q) (hAX : ∀ q, q < H.size → AX q → A0 q)
    (kx : ∀ (E : String) (ce : Cell) (q9 : Addr) (u : SX) (t : State) (H1 : Heap) (locs1 : List Loc), t.heap = H1 → s.vm.Alike t.vm → px u → BX E u t → H.size ≤ H1.size → (∀ q : Nat, q < H.size → ¬ AX q → H1[q]? = H[q]?) → va_S A0 H0 H1 locs1 → H1[q9]? = some ce → ce.vm = .none → s.vm.findClass E = some ce.cls → vx_W p l e R s m args below meth c H1 locs1 (cells + mc) (slots + ms) Q (F0 m pc ls rest) q9)
    (kk : ∀ (r : Int32) (u : S) (t : State) (H1 : Heap) (locs1 : List Loc), t.heap = H1 → s.vm.Alike t.vm → post r u → B u t → H.size ≤ H1.size → (∀ q : Nat, q < H.size → ¬ A1 q → H1[q]? = H[q]?) → va_S A0 H0 H1 locs1 → W p l e R s m args below meth c H1 locs1 (cells + mc) (slots + ms) Q (F0 m (pc + 3) ls (.int r :: rest))) : W p l e R s m args below meth c H locs cells slots Q (F0 m pc ls st0) := by
  intro T hT X
  rcases hr T hT X with ⟨v, st₀, t, T', L, h0, X', hL, e1, e2, ⟨⟨r, u, hv, hp, hb⟩, hF⟩, st⟩ | ⟨q, st₀, t, T', L, E, ce, h0, X', hL, e1, e2, ⟨u, hp, hb, hF⟩, hce, hcv, hcl, st⟩
  · cases hv
    obtain ⟨k1, k2, k3⟩ := vx_keep h0 e1 hS hA hf hL hF
    obtain ⟨t2, a1, b1⟩ := kk r u t T'.heap (locs ++ L) e1.symm (by rw [← e2]; exact X'.warmed.alike) hp hb k1 k2 k3 T' rfl X'
    exact ⟨t2, st t2 a1, b1⟩
  · obtain ⟨k1, k2, k3⟩ := vx_keep h0 e1 hS hAX hf hL hF
    obtain ⟨t2, a1, b1⟩ := kx E ce q u t T'.heap (locs ++ L) e1.symm (by rw [← e2]; exact X'.warmed.alike) hp hb k1 k2 k3 (by rw [e1]; exact hce) hcv hcl T' rfl X'
    exact ⟨t2, st.trans a1, b1⟩
theorem vx_calll {S SX : Type} {post : Int64 → S → Prop} {px : SX → Prop} {B : S → State → Prop} {BX : String → SX → State → Prop} {AX : Nat → Prop} (hr : vx_Run p l e R s m args below meth c H locs cells slots mc ms (F0 m pc ls st0) rest (va_Ql post B A1 a) (vx_X px BX AX) free) (hS : va_S A0 H0 H locs) (hA : ∀ q, q < H.size → A1 q → A0 q) (hf : ∀ q, free q → A0 q) (hAX : ∀ q, q < H.size → AX q → A0 q)
    (kx : ∀ (E : String) (ce : Cell) (q9 : Addr) (u : SX) (t : State) (H1 : Heap) (locs1 : List Loc), t.heap = H1 → s.vm.Alike t.vm → px u → BX E u t → H.size ≤ H1.size → (∀ q : Nat, q < H.size → ¬ AX q → H1[q]? = H[q]?) → va_S A0 H0 H1 locs1 → H1[q9]? = some ce → ce.vm = .none → s.vm.findClass E = some ce.cls → vx_W p l e R s m args below meth c H1 locs1 (cells + mc) (slots + ms) Q (F0 m pc ls rest) q9)
    (kk : ∀ (r : Int64) (u : S) (t : State) (H1 : Heap) (locs1 : List Loc), t.heap = H1 → s.vm.Alike t.vm → post r u → B u t → H.size ≤ H1.size → (∀ q : Nat, q < H.size → ¬ A1 q → H1[q]? = H[q]?) → va_S A0 H0 H1 locs1 → W p l e R s m args below meth c H1 locs1 (cells + mc) (slots + ms) Q (F0 m (pc + 3) ls (.long r :: rest))) : W p l e R s m args below meth c H locs cells slots Q (F0 m pc ls st0) := by
  intro T hT X
  rcases hr T hT X with ⟨v, st₀, t, T', L, h0, X', hL, e1, e2, ⟨⟨r, u, hv, hp, hb⟩, hF⟩, st⟩ | ⟨q, st₀, t, T', L, E, ce, h0, X', hL, e1, e2, ⟨u, hp, hb, hF⟩, hce, hcv, hcl, st⟩
  · cases hv
    obtain ⟨k1, k2, k3⟩ := vx_keep h0 e1 hS hA hf hL hF
    obtain ⟨t2, a1, b1⟩ := kk r u t T'.heap (locs ++ L) e1.symm (by rw [← e2]; exact X'.warmed.alike) hp hb k1 k2 k3 T' rfl X'
    exact ⟨t2, st t2 a1, b1⟩
  · obtain ⟨k1, k2, k3⟩ := vx_keep h0 e1 hS hAX hf hL hF
    obtain ⟨t2, a1, b1⟩ := kx E ce q u t T'.heap (locs ++ L) e1.symm (by rw [← e2]; exact X'.warmed.alike) hp hb k1 k2 k3 (by rw [e1]; exact hce) hcv hcl T' rfl X'
    exact ⟨t2, st.trans a1, b1⟩
theorem vx_callf {S SX : Type} {post : UInt32 → S → Prop} {px : SX → Prop} {B : S → State → Prop} {BX : String → SX → State → Prop} {AX : Nat → Prop} (hr : vx_Run p l e R s m args below meth c H locs cells slots mc ms (F0 m pc ls st0) rest (va_Qf post B A1 a) (vx_X px BX AX) free) (hS : va_S A0 H0 H locs) (hA : ∀ q, q < H.size → A1 q → A0 q) (hf : ∀ q, free q → A0 q) (hAX : ∀ q, q < H.size → AX q → A0 q)
    (kx : ∀ (E : String) (ce : Cell) (q9 : Addr) (u : SX) (t : State) (H1 : Heap) (locs1 : List Loc), t.heap = H1 → s.vm.Alike t.vm → px u → BX E u t → H.size ≤ H1.size → (∀ q : Nat, q < H.size → ¬ AX q → H1[q]? = H[q]?) → va_S A0 H0 H1 locs1 → H1[q9]? = some ce → ce.vm = .none → s.vm.findClass E = some ce.cls → vx_W p l e R s m args below meth c H1 locs1 (cells + mc) (slots + ms) Q (F0 m pc ls rest) q9)
    (kk : ∀ (r : UInt32) (u : S) (t : State) (H1 : Heap) (locs1 : List Loc), t.heap = H1 → s.vm.Alike t.vm → post r u → B u t → H.size ≤ H1.size → (∀ q : Nat, q < H.size → ¬ A1 q → H1[q]? = H[q]?) → va_S A0 H0 H1 locs1 → W p l e R s m args below meth c H1 locs1 (cells + mc) (slots + ms) Q (F0 m (pc + 3) ls (.float r :: rest))) : W p l e R s m args below meth c H locs cells slots Q (F0 m pc ls st0) := by
  intro T hT X
  rcases hr T hT X with ⟨v, st₀, t, T', L, h0, X', hL, e1, e2, ⟨⟨r, u, hv, hp, hb⟩, hF⟩, st⟩ | ⟨q, st₀, t, T', L, E, ce, h0, X', hL, e1, e2, ⟨u, hp, hb, hF⟩, hce, hcv, hcl, st⟩
  · cases hv
    obtain ⟨k1, k2, k3⟩ := vx_keep h0 e1 hS hA hf hL hF
    obtain ⟨t2, a1, b1⟩ := kk r u t T'.heap (locs ++ L) e1.symm (by rw [← e2]; exact X'.warmed.alike) hp hb k1 k2 k3 T' rfl X'
    exact ⟨t2, st t2 a1, b1⟩
  · obtain ⟨k1, k2, k3⟩ := vx_keep h0 e1 hS hAX hf hL hF
    obtain ⟨t2, a1, b1⟩ := kx E ce q u t T'.heap (locs ++ L) e1.symm (by rw [← e2]; exact X'.warmed.alike) hp hb k1 k2 k3 (by rw [e1]; exact hce) hcv hcl T' rfl X'
    exact ⟨t2, st.trans a1, b1⟩
theorem vx_calld {S SX : Type} {post : UInt64 → S → Prop} {px : SX → Prop} {B : S → State → Prop} {BX : String → SX → State → Prop} {AX : Nat → Prop} (hr : vx_Run p l e R s m args below meth c H locs cells slots mc ms (F0 m pc ls st0) rest (va_Qd post B A1 a) (vx_X px BX AX) free) (hS : va_S A0 H0 H locs) (hA : ∀ q, q < H.size → A1 q → A0 q) (hf : ∀ q, free q → A0 q) (hAX : ∀ q, q < H.size → AX q → A0 q)
    (kx : ∀ (E : String) (ce : Cell) (q9 : Addr) (u : SX) (t : State) (H1 : Heap) (locs1 : List Loc), t.heap = H1 → s.vm.Alike t.vm → px u → BX E u t → H.size ≤ H1.size → (∀ q : Nat, q < H.size → ¬ AX q → H1[q]? = H[q]?) → va_S A0 H0 H1 locs1 → H1[q9]? = some ce → ce.vm = .none → s.vm.findClass E = some ce.cls → vx_W p l e R s m args below meth c H1 locs1 (cells + mc) (slots + ms) Q (F0 m pc ls rest) q9)
    (kk : ∀ (r : UInt64) (u : S) (t : State) (H1 : Heap) (locs1 : List Loc), t.heap = H1 → s.vm.Alike t.vm → post r u → B u t → H.size ≤ H1.size → (∀ q : Nat, q < H.size → ¬ A1 q → H1[q]? = H[q]?) → va_S A0 H0 H1 locs1 → W p l e R s m args below meth c H1 locs1 (cells + mc) (slots + ms) Q (F0 m (pc + 3) ls (.double r :: rest))) : W p l e R s m args below meth c H locs cells slots Q (F0 m pc ls st0) := by
  intro T hT X
  rcases hr T hT X with ⟨v, st₀, t, T', L, h0, X', hL, e1, e2, ⟨⟨r, u, hv, hp, hb⟩, hF⟩, st⟩ | ⟨q, st₀, t, T', L, E, ce, h0, X', hL, e1, e2, ⟨u, hp, hb, hF⟩, hce, hcv, hcl, st⟩
  · cases hv
    obtain ⟨k1, k2, k3⟩ := vx_keep h0 e1 hS hA hf hL hF
    obtain ⟨t2, a1, b1⟩ := kk r u t T'.heap (locs ++ L) e1.symm (by rw [← e2]; exact X'.warmed.alike) hp hb k1 k2 k3 T' rfl X'
    exact ⟨t2, st t2 a1, b1⟩
  · obtain ⟨k1, k2, k3⟩ := vx_keep h0 e1 hS hAX hf hL hF
    obtain ⟨t2, a1, b1⟩ := kx E ce q u t T'.heap (locs ++ L) e1.symm (by rw [← e2]; exact X'.warmed.alike) hp hb k1 k2 k3 (by rw [e1]; exact hce) hcv hcl T' rfl X'
    exact ⟨t2, st.trans a1, b1⟩
theorem vx_callv {S SX : Type} {post : S → Prop} {px : SX → Prop} {B : S → State → Prop} {BX : String → SX → State → Prop} {AX : Nat → Prop} (hr : vx_Run p l e R s m args below meth c H locs cells slots mc ms (F0 m pc ls st0) rest (va_Qv post B A1 a) (vx_X px BX AX) free) (hS : va_S A0 H0 H locs) (hA : ∀ q, q < H.size → A1 q → A0 q) (hf : ∀ q, free q → A0 q) (hAX : ∀ q, q < H.size → AX q → A0 q)
    (kx : ∀ (E : String) (ce : Cell) (q9 : Addr) (u : SX) (t : State) (H1 : Heap) (locs1 : List Loc), t.heap = H1 → s.vm.Alike t.vm → px u → BX E u t → H.size ≤ H1.size → (∀ q : Nat, q < H.size → ¬ AX q → H1[q]? = H[q]?) → va_S A0 H0 H1 locs1 → H1[q9]? = some ce → ce.vm = .none → s.vm.findClass E = some ce.cls → vx_W p l e R s m args below meth c H1 locs1 (cells + mc) (slots + ms) Q (F0 m pc ls rest) q9)
    (kk : ∀ (u : S) (t : State) (H1 : Heap) (locs1 : List Loc), t.heap = H1 → s.vm.Alike t.vm → post u → B u t → H.size ≤ H1.size → (∀ q : Nat, q < H.size → ¬ A1 q → H1[q]? = H[q]?) → va_S A0 H0 H1 locs1 → W p l e R s m args below meth c H1 locs1 (cells + mc) (slots + ms) Q (F0 m (pc + 3) ls (rest))) : W p l e R s m args below meth c H locs cells slots Q (F0 m pc ls st0) := by
  intro T hT X
  rcases hr T hT X with ⟨v, st₀, t, T', L, h0, X', hL, e1, e2, ⟨⟨u, hv, hp, hb⟩, hF⟩, st⟩ | ⟨q, st₀, t, T', L, E, ce, h0, X', hL, e1, e2, ⟨u, hp, hb, hF⟩, hce, hcv, hcl, st⟩
  · cases hv
    obtain ⟨k1, k2, k3⟩ := vx_keep h0 e1 hS hA hf hL hF
    obtain ⟨t2, a1, b1⟩ := kk u t T'.heap (locs ++ L) e1.symm (by rw [← e2]; exact X'.warmed.alike) hp hb k1 k2 k3 T' rfl X'
    exact ⟨t2, st t2 a1, b1⟩
  · obtain ⟨k1, k2, k3⟩ := vx_keep h0 e1 hS hAX hf hL hF
    obtain ⟨t2, a1, b1⟩ := kx E ce q u t T'.heap (locs ++ L) e1.symm (by rw [← e2]; exact X'.warmed.alike) hp hb k1 k2 k3 (by rw [e1]; exact hce) hcv hcl T' rfl X'
    exact ⟨t2, st.trans a1, b1⟩
/-- caught by the row x of this method's table; the rows ahead don't take it -/
theorem vx_catch {own name : String} {E : String} {ce : Cell} {q : Addr} (hown : s.vm.findClass own = some m.cls) (pre : List ExceptionTableEntry) (x : ExceptionTableEntry) (suf : List ExceptionTableEntry) (hsplit : c.exceptionTable.toList = pre ++ x :: suf)
    (hpass : ∀ z ∈ pre, covers z pc = false ∨ (z.catchType ≠ 0 ∧ ∃ nm : String, (Cond.classLink own z.catchType nm).before args s = true ∧ va_Nc E nm s)) (hx : covers x pc = true) (h0 : x.catchType ≠ 0)
    (hlink : (Cond.classLink own x.catchType name).before args s = true) (hcast : (Cond.castable E name).before args s = true) (hcell : H[q]? = some ce) (hv : ce.vm = .none) (hcl : s.vm.findClass E = some ce.cls)
    (kk : W p l e R s m args below meth c H locs cells slots Q (F0 m x.handlerPc ls [.ref q])) : vx_W p l e R s m args below meth c H locs cells slots Q (F0 m pc ls rest) q := by
  intro T hT X
  have hpl : e.platform.magicAccessors = ({} : Platform).magicAccessors := by rw [X.admits.platform]
  obtain ⟨c3, c4, hc3, hc4, hasg⟩ := Cond.castable_spec hcast
  cases Option.some.inj (hc3.symm.trans hcl)
  obtain ⟨c5, hc5, hcl5⟩ := Cond.classLink_spec hown hlink e.platform hpl
  cases Option.some.inj (hc4.symm.trans hc5)
  obtain ⟨vm', X', st⟩ := X.thenCaughtThrough q (g := F0 m pc ls rest) rfl (Steps.refl _) (by rw [hT]; exact hcell) (by rw [hv]; rfl) (by obtain ⟨k9, h9, -⟩ := Vm.findClass_spec hcl; exact ⟨k9, h9⟩) pre x suf hsplit
    (fun z hz => by
      rcases hpass z hz with h | ⟨hz0, nm, hl1, hn1⟩
      · exact Or.inl h
      · obtain ⟨c6, hc6, hcl6⟩ := Cond.classLink_spec hown hl1 e.platform hpl
        obtain ⟨a8, b8, h1, h2, h3⟩ := hn1
        cases Option.some.inj (h1.symm.trans hcl)
        cases Option.some.inj (h2.symm.trans hc6)
        exact Or.inr ⟨hz0, _, hcl6, h3⟩) hx (Or.inr ⟨h0, c4, hcl5, hasg⟩)
  obtain ⟨t, a1, b1⟩ := kk (T.setVm vm') hT X'
  exact ⟨t, st.trans a1, b1⟩
end Rows
section Ends
variable {p : Program} {l : Launch} {e : Env} {R : Room} {s : State} {m : MethodId} {args : Array Value} {below : List Frame} {meth : Method} {c : Code} {H : Heap} {locs : List Loc} {cells slots : Nat} {Q : State → Prop}
variable {mc ms : Nat} {free : Addr → Prop} {A0 A1 : Nat → Prop} {H0 : Heap} {a : Array Value} {ls : Array Slot} {st0 rest : List Value}
variable {Qc : Array Value → State → Outcome → State → Prop} {XC : String → State → State → Prop}
/-- what a body that may throw owes at its end -/
def vx_MQ (below : List Frame) (Qc : Array Value → State → Outcome → State → Prop) (XC : String → State → State → Prop) (a : Array Value) (s : State) (mc ms : Nat) (free : Addr → Prop) : State → Prop := fun t =>
  ∃ o, t.status = .running ∧ Ended t below o ∧ vx_Q Qc XC mc ms free a s o t
theorem vx_ret {g : JFrame} {mc ms : Nat} (k : W p l e R s m args below meth c H locs cells slots (MQ below Qc args s mc ms free) g) : W p l e R s m args below meth c H locs cells slots (vx_MQ below Qc XC args s mc ms free) g := by
  intro T hT X
  obtain ⟨t, a1, o, b1, b2, b3, b4⟩ := k T hT X
  exact ⟨t, a1, o, b1, b2, Or.inl ⟨b3, b4⟩⟩
/-- not caught here: it goes on to the caller -/
theorem vx_widen {g : JFrame} {q : Addr} {k n : Nat} (h1 : cells ≤ k) (h2 : slots ≤ n) (kk : vx_W p l e R s m args below meth c H locs k n Q g q) : vx_W p l e R s m args below meth c H locs cells slots Q g q := fun T hT X => kk T hT (stand_widen X h1 h2)
theorem vx_out {pc : Nat} {E : String} {ce : Cell} {q : Addr} {mc ms : Nat} (hout : ∀ x ∈ c.exceptionTable.toList, covers x pc = false) (hlocks : meth.locks = false) (hcell : H[q]? = some ce) (hv : ce.vm = .none) (hcl : s.vm.findClass E = some ce.cls)
    (hx : ∀ t : State, t.heap = H → s.vm.Alike t.vm → XC E s t) (hf : ∀ z ∈ locs, free z.base) (hc : cells ≤ mc) (hs : slots ≤ ms) :
    vx_W p l e R s m args below meth c H locs cells slots (vx_MQ below Qc XC args s mc ms free) (F0 m pc ls rest) q := by
  intro T hT X
  obtain ⟨st1, hrun, hend, hW, hsm⟩ := X.leaveThrown q (g := F0 m pc ls rest) rfl rfl rfl hout hlocks
  have hcell9 : (T.setFrames (.throwing q :: below)).heap[q]? = some ce := by
    show T.heap[q]? = some ce
    rw [hT]; exact hcell
  exact ⟨_, st1, .threw q, hrun, hend, Or.inr ⟨q, rfl, E, ce, locs, hx _ hT hW.alike, hcell9, hv, hcl, hW, hsm.mono hc hs, hf⟩⟩
theorem vx_frame {U : State} {k n : Nat} (h : s.sameButNew ({ U with vm := s.vm } : State) locs k n) : s.heap.size ≤ U.heap.size ∧ ∀ q : Nat, q < s.heap.size → (∀ z ∈ locs, z.base ≠ q) → U.heap[q]? = s.heap[q]? := by
  obtain ⟨-, h2, -, -, -, h6⟩ := h
  refine ⟨h2, fun q hq hz => ?_⟩
  obtain ⟨c9, e1, e2, e3, e4⟩ := h6 q _ (Array.getElem?_eq_getElem hq)
  have hs : c9.slots = (s.heap[q]).slots := Array.ext_getElem? fun i => e4 i fun hm => hz _ hm rfl
  have h9 : c9 = s.heap[q] := by
    rw [hs] at e2
    exact e2
  have e5 : U.heap[q]? = some c9 := e1
  rw [e5, h9, Array.getElem?_eq_getElem hq]
/-- the words of a throw but the four that speak of the heap -/
def vx_no (w : Cond) : Bool := decide (w ≠ .isRef (.static Bundle.tN "UNASSIGNED_STACK" Bundle.steD)) && decide (w ≠ .isRef (.static Bundle.tN "SUPPRESSED_SENTINEL" Bundle.listD)) && decide (w ≠ .laysStatic Bundle.tN "UNASSIGNED_STACK" Bundle.steD) && decide (w ≠ .laysStatic Bundle.tN "SUPPRESSED_SENTINEL" Bundle.listD)
def vx_at0 (own : String) (ic : Nat) (X : String) (names : List String) : List Cond := (Bundle.ownAtoms0 own ic X names).filter vx_no
def vx_atS (own : String) (ic : Nat) (X : String) (names : List String) : List Cond := (Bundle.ownAtoms own ic X names).filter vx_no
/-- a word that the tables alone decide, or a good one -/
def vx_ot (w : Cond) : Bool := w.onTables || goodWord w
theorem vx_ot_at {args a' : Array Value} {s U : State} {w : Cond} (hW : s.WarmedH U.vm) (hvm : s.vm = U.vm) (hg : vx_ot w = true) (h : w.before args s = true) : w.before a' U = true := by
  simp only [vx_ot, Bool.or_eq_true] at hg
  rcases hg with hg | hg
  · exact va_tabs hg hvm h
  · exact word_at hW (good_of_word hg) h
/-- a list's words: the good ones out of the method's own list, the others by premises of their own -/
theorem vx_hat {args : Array Value} {s : State} {L B : List Cond} (h1 : ∀ w ∈ L.filter goodWord, w.before args s = true) (h2 : ∀ w ∈ L.filter (fun w => !goodWord w), w ∈ B) (h3 : ∀ w ∈ B, w.before args s = true) : ∀ w ∈ L, w.before args s = true := by
  intro w hw
  by_cases g : goodWord w = true
  · exact h1 w (List.mem_filter.mpr ⟨hw, g⟩)
  · refine h3 w (h2 w (List.mem_filter.mpr ⟨hw, ?_⟩))
    show (!goodWord w) = true
    cases hgw : goodWord w
    · rfl
    · exact absurd hgw g
theorem vx_c {args : Array Value} {s : State} {w : Cond} {B : List Cond} (h : w.before args s = true) (t : ∀ w ∈ B, w.before args s = true) : ∀ w' ∈ w :: B, w'.before args s = true := fun w' h' => (List.mem_cons.mp h').elim (fun e => by rw [e]; exact h) (t w')
theorem vx_n {args : Array Value} {s : State} : ∀ w ∈ ([] : List Cond), w.before args s = true := fun _ h => nomatch h
theorem vx_own {args : Array Value} {s : State} {L : List Cond} (h1 : ∀ w ∈ L.filter vx_no, w.before args s = true)
    (hU : (Cond.isRef (.static Bundle.tN "UNASSIGNED_STACK" Bundle.steD)).before args s = true) (hN : (Cond.isRef (.static Bundle.tN "SUPPRESSED_SENTINEL" Bundle.listD)).before args s = true)
    (lU : (Cond.laysStatic Bundle.tN "UNASSIGNED_STACK" Bundle.steD).before args s = true) (lN : (Cond.laysStatic Bundle.tN "SUPPRESSED_SENTINEL" Bundle.listD).before args s = true) : ∀ w ∈ L, w.before args s = true := by
  intro w hw
  by_cases e1 : w = .isRef (.static Bundle.tN "UNASSIGNED_STACK" Bundle.steD)
  · rw [e1]; exact hU
  · by_cases e2 : w = .isRef (.static Bundle.tN "SUPPRESSED_SENTINEL" Bundle.listD)
    · rw [e2]; exact hN
    · by_cases e3 : w = .laysStatic Bundle.tN "UNASSIGNED_STACK" Bundle.steD
      · rw [e3]; exact lU
      · by_cases e4 : w = .laysStatic Bundle.tN "SUPPRESSED_SENTINEL" Bundle.listD
        · rw [e4]; exact lN
        · exact h1 w (List.mem_filter.mpr ⟨hw, by unfold vx_no; rw [decide_eq_true e1, decide_eq_true e2, decide_eq_true e3, decide_eq_true e4]; rfl⟩)
/-- where a static field lies, its class's statics cell in H -/
def vx_L (C n d : String) (A : Nat → Prop) (U : State) (H : Heap) : Prop := ∃ (c : ClassId) (k : Class) (i : Nat) (f : Field) (a : Nat) (cell : Cell), U.vm.findClass C = some c ∧ U.fieldFound? C n d = some (c, k, i, f) ∧ f.isStatic = true ∧ k.statics = some a ∧ H[a]? = some cell ∧ cell.vm.isStatics = true ∧ cell.cls = c ∧ f.slot < cell.slots.size ∧ k.staticTypes[f.slot]? = some f.type ∧ ¬ A a
theorem vx_L.moved {C n d : String} {A : Nat → Prop} {u U : State} {H : Heap} (hvm : u.vm.Alike U.vm) (h : vx_L C n d A u H) : vx_L C n d A U H := by
  obtain ⟨c, k, i, f, a, cell, h1, h2, h3, h4, h5, h6, h7, h8, h9, h10⟩ := h
  obtain ⟨k', hi', he⟩ := State.fieldFound?_setVm hvm h2
  exact ⟨c, k', i, f, a, cell, by rw [hvm.findClass]; exact h1, hi', h3, by rw [he]; exact h4, h5, h6, h7, h8, by rw [he]; exact h9, h10⟩
theorem vx_L.kept {C n d : String} {A : Nat → Prop} {U : State} {H H1 : Heap} (h : vx_L C n d A U H) (hq : ∀ a : Nat, a < H.size → ¬ A a → H1[a]? = H[a]?) : vx_L C n d A U H1 := by
  obtain ⟨c, k, i, f, a, cell, h1, h2, h3, h4, h5, h6, h7, h8, h9, h10⟩ := h
  exact ⟨c, k, i, f, a, cell, h1, h2, h3, h4, by rw [hq a (Array.getElem?_eq_some_iff.mp h5).1 h10]; exact h5, h6, h7, h8, h9, h10⟩
theorem vx_L.narrow {C n d : String} {A B : Nat → Prop} {U : State} {H : Heap} (h : vx_L C n d A U H) (hAB : ∀ q, B q → A q) : vx_L C n d B U H := by
  obtain ⟨c, k, i, f, a, cell, h1, h2, h3, h4, h5, h6, h7, h8, h9, h10⟩ := h
  exact ⟨c, k, i, f, a, cell, h1, h2, h3, h4, h5, h6, h7, h8, h9, fun z => h10 (hAB _ z)⟩
theorem vx_L.word {C n d : String} {A : Nat → Prop} {s : State} {args : Array Value} (h : vx_L C n d A s s.heap) : (Cond.laysStatic C n d).before args s = true := by
  obtain ⟨c, k, i, f, a, cell, h1, h2, h3, h4, h5, h6, h7, h8, h9, -⟩ := h
  show (Cond.laysStatic C n d).holds args s none s [] = true
  exact Cond.laysStatic_of h1 h2 h3 h4 h5 h6 h7 h8 h9
/-- .. and what it holds: null or some reference -/
def vx_Zq (C n d : String) (A : Nat → Prop) (U : State) (H : Heap) : Prop := va_Zq C n d A U H ∧ vx_L C n d A U H
theorem vx_Zq.moved {C n d : String} {A : Nat → Prop} {u U : State} {H : Heap} (hvm : u.vm.Alike U.vm) (h : vx_Zq C n d A u H) : vx_Zq C n d A U H := ⟨va_Zq.moved hvm h.1, vx_L.moved hvm h.2⟩
theorem vx_Zq.kept {C n d : String} {A : Nat → Prop} {U : State} {H H1 : Heap} (h : vx_Zq C n d A U H) (hq : ∀ a : Nat, a < H.size → ¬ A a → H1[a]? = H[a]?) : vx_Zq C n d A U H1 := ⟨va_Zq.kept h.1 hq, vx_L.kept h.2 hq⟩
theorem vx_Zq.narrow {C n d : String} {A B : Nat → Prop} {U : State} {H : Heap} (h : vx_Zq C n d A U H) (hAB : ∀ q, B q → A q) : vx_Zq C n d B U H := ⟨va_Zq.narrow h.1 hAB, vx_L.narrow h.2 hAB⟩
theorem vx_Zqof {args : Array Value} {s : State} {C n d : String} {A : Nat → Prop} (hl : (Cond.laysStatic C n d).before args s = true) (hini : (Cond.initialized C).before args s = true) (h : (Cond.isRef (.static C n d)).before args s = true) (hA : ∀ a : Nat, a < s.heap.size → ¬ A a) : vx_Zq C n d A s s.heap := by
  refine ⟨va_Zqof hl hini h hA, ?_⟩
  obtain ⟨c, k, i, f, a, cell, h1, h2, h3, h4, h5, h6, h7, h8, h9⟩ := Cond.laysStatic_spec hl
  exact ⟨c, k, i, f, a, cell, h1, h2, h3, h4, h5, h6, h7, h8, h9, hA a (Array.getElem?_eq_some_iff.mp h5).1⟩
theorem vx_isRef {C n d : String} {v : Value} {A : Nat → Prop} {s : State} {args : Array Value} (h : va_Z C n d v A s s.heap) (hv : v.isRef = true) : (Cond.isRef (.static C n d)).before args s = true := by
  obtain ⟨cf, kf, fi, f, a, cell, h1, h2, h3, h4, h5, h6, h7, -⟩ := h
  have he : (Term.static C n d).eval args s none [] s = some v := by
    simp [Term.eval, State.fieldNamed?, h1, h2, h4, h5, h6, h7]
  simp only [Cond.before, Cond.holds, Cond.value, he]
  cases v <;> simp_all [Value.isRef]
theorem vx_isRefq {C n d : String} {A : Nat → Prop} {s : State} {args : Array Value} (h : va_Zq C n d A s s.heap) : (Cond.isRef (.static C n d)).before args s = true := by
  rcases h with h | ⟨t, h⟩
  · exact vx_isRef h rfl
  · exact vx_isRef h rfl
/-- the same frame, seen from here: as if the method were called anew in this heap -/
theorem vx_rebase {T : State} (X : Stand p l e R s m args below meth c T locs cells slots) {R' : Room} (hf : R'.frames ≤ R.frames) (hl : R'.locals ≤ R.locals) (hc : cells + R'.cells ≤ R.cells) (hs : slots + R'.slots ≤ R.slots) :
    Stand p l e R' ((T.setVm s.vm).setFrames (.invoking m args :: below)) m args below meth c T [] 0 0 := by
  have htop : (T.setVm s.vm).topJava?.isSome := X.here.top
  have hF : ((T.setVm s.vm).setFrames (.invoking m args :: below)).frames = .invoking m args :: below := State.frames_setFrames _ (State.cur_lt_of_top htop)
  obtain ⟨g₀, hg0⟩ := Option.isSome_iff_exists.mp htop
  obtain ⟨r, hr⟩ := State.topJava?_eq_some.mp hg0
  have hl9 : e.platform.stackLimits (T.setVm s.vm).me = e.platform.stackLimits s.me := X.limits
  have hb9 : (T.setVm s.vm).me.stackBytes = s.me.stackBytes := X.bytes
  refine ⟨X.admits, X.cas, X.clock, hF, ?_, X.hears, X.method, X.code, X.here, X.tail, X.warmed, ?_, ?_, ?_⟩
  · have h := X.room
    have hU : ((T.setVm s.vm).setFrames (.invoking m args :: below)).localsInUse = s.localsInUse := by
      rw [State.localsInUse_invoking hF (meth := meth) (c := c) X.method X.code, State.localsInUse_invoking X.frames X.method X.code]
    simp only [State.hasRoom, Bool.and_eq_true, decide_eq_true_eq] at h ⊢
    obtain ⟨⟨⟨⟨h1, h2, h3, h4, h5, h6⟩, h7⟩, h8⟩, h9⟩ := h
    rw [X.frames, List.length_cons] at h2 h3
    have q1 := X.heapSize
    have q2 := X.used
    simp only [hF, hU, List.length_cons, State.stackLimits_setFrames, State.stackBytes_setFrames, hl9, hb9]
    refine ⟨⟨⟨⟨by omega, by omega, by omega, by omega, by omega, h6⟩, ?_⟩, ?_⟩, X.book⟩
    · show T.heap.size + R'.cells ≤ e.platform.maxCells
      omega
    · show T.slotsUsed + R'.slots ≤ e.platform.maxSlots
      omega
  · rw [State.stackLimits_setFrames]; rfl
  · rw [State.stackBytes_setFrames]; rfl
  · refine ⟨?_, Nat.le_refl _, Nat.le_refl _, ?_, ?_, fun a c9 h9 => ⟨c9, h9, rfl, rfl, fun _ _ => rfl⟩⟩
    · obtain ⟨t, ht, -⟩ := State.frames_cons hr
      show T.setVm s.vm = { ((T.setVm s.vm).setFrames (.invoking m args :: below)).setFrames (T.setVm s.vm).frames with heap := T.heap, slotsUsed := T.slotsUsed }
      rw [State.setFrames_setFrames, State.setFrames_self ht]
      rfl
    · show T.slotsUsed = T.slotsUsed + ((T.heap.toList.drop T.heap.size).map (·.slots.size)).sum
      rw [List.drop_eq_nil_of_le (Nat.le_of_eq Array.length_toList)]
      rfl
    · show ((T.heap.toList.drop T.heap.size).map (·.slots.size)).sum ≤ 0
      rw [List.drop_eq_nil_of_le (Nat.le_of_eq Array.length_toList)]
      exact Nat.le_refl _
/-- 'throw new E()': new; dup; invokespecial; athrow -/
theorem vx_throw0 {cc : ByteArray} {pc : Nat} (hexec : p.tables.exec = Jvm.exec) (hb : c.code = cc) (hl : l.stackTraces = false) {own cls : String} {names : List String} {ik ic mc ms : Nat} {A : Nat → Prop}
    (hown : s.vm.findClass own = some m.cls) (hcls : Bundle.fit cls = true) (hnames : ∀ n ∈ names, Bundle.fit n = true)
    (hk : (Cond.classLink own ik cls).before args s = true) (hini : (Cond.initialized cls).before args s = true) (hat : ∀ w ∈ vx_at0 own ic cls names, w.before args s = true)
    (hgood : ∀ w ∈ Cond.classLink own ik cls :: Cond.initialized cls :: vx_at0 own ic cls names, vx_ot w = true)
    (hU : vx_Zq Bundle.tN "UNASSIGNED_STACK" Bundle.steD A s s.heap) (hN : vx_Zq Bundle.tN "SUPPRESSED_SENTINEL" Bundle.listD A s s.heap) (hS : va_S A s.heap H locs) (hsize : ls.size = c.maxLocals)
    (d0 : decode cc pc = .ok (.new ik, 3)) (d3 : decode cc (pc + 3) = .ok (.dup, 1)) (d4 : decode cc (pc + 4) = .ok (.invokespecial ic, 3)) (d7 : decode cc (pc + 7) = .ok (.athrow, 1))
    (hout : ∀ x ∈ c.exceptionTable.toList, covers x (pc + 7) = false)
    (hRframes : names.length + 3 < R.frames) (hRlocals : (rest.map fun v => v.category).sum + (13 * (names.length + 1) + 42) ≤ R.locals) (hRcells : cells + 1 ≤ R.cells) (hRslots : slots + 6 ≤ R.slots) (hlocks : meth.locks = false)
    (hx : ∀ t : State, s.vm.Alike t.vm → H.size ≤ t.heap.size → (∀ q : Nat, q < H.size → t.heap[q]? = H[q]?) → XC cls s t)
    (hf : ∀ z ∈ locs, free z.base) (hc : cells + 1 ≤ mc) (hs : slots + 6 ≤ ms) :
    W p l e R s m args below meth c H locs cells slots (vx_MQ below Qc XC args s mc ms free) (F0 m pc ls rest) := by
  intro T hT X
  have htr : e.platform.stackTraces = false := (show e.platform.stackTraces = l.stackTraces by rw [X.admits.platform]).trans hl
  have Y := vx_rebase X (R' := { frames := R.frames, locals := R.locals, cells := 1, slots := 6 }) (Nat.le_refl _) (Nat.le_refl _) hRcells hRslots
  obtain ⟨s', hA⟩ : ∃ z, z = (T.setVm s.vm).setFrames (.invoking m args :: below) := ⟨_, rfl⟩
  rw [← hA] at Y
  have hvm : s'.vm = s.vm := by rw [hA]; rfl
  have hhp : s'.heap = H := by rw [hA]; exact hT
  have hW0 : s.WarmedH s'.vm := by rw [hvm]; exact State.WarmedH.refl s
  have hat' : ∀ w ∈ vx_at0 own ic cls names, w.before args s' = true := fun w hw => vx_ot_at hW0 hvm.symm (hgood w (List.mem_cons_of_mem _ (List.mem_cons_of_mem _ hw))) (hat w hw)
  have hk' : (Cond.classLink own ik cls).before args s' = true := vx_ot_at hW0 hvm.symm (hgood _ List.mem_cons_self) hk
  have hini' : (Cond.initialized cls).before args s' = true := vx_ot_at hW0 hvm.symm (hgood _ (List.mem_cons_of_mem _ List.mem_cons_self)) hini
  have hU' : vx_Zq Bundle.tN "UNASSIGNED_STACK" Bundle.steD A s' s'.heap := by rw [hhp]; exact vx_Zq.moved hW0.alike (hU.kept hS.2.1)
  have hN' : vx_Zq Bundle.tN "SUPPRESSED_SENTINEL" Bundle.listD A s' s'.heap := by rw [hhp]; exact vx_Zq.moved hW0.alike (hN.kept hS.2.1)
  have h : ∀ w ∈ Bundle.ownAtoms0 own ic cls names, w.before args s' = true := vx_own hat' (vx_isRefq hU'.1) (vx_isRefq hN'.1) hU'.2.word hN'.2.word
  have hown' : s'.vm.findClass own = some m.cls := by rw [hvm]; exact hown
  have hins : (Cond.instantiable cls 6).before args s' = true := h _ (by simp [Bundle.ownAtoms0])
  obtain ⟨vm₁, cX, kX, hfX, hkX, -, -, X₁, st1⟩ := Y.newCold hexec (own := own) (C := cls) (index := ik) (n := 6) hown' hk' hins hini'
    (g := F0 m pc ls rest) rfl (by rw [hb]; exact d0) (Nat.le_refl _) (Nat.le_refl _)
  generalize hT1 : (T.setVm vm₁).pushCell { cls := cX, slots := kX.instanceTypes.map defaultValue, vm := .none } = T1 at X₁ st1
  have hcat : (Value.ref T.heap.size).category = 1 := rfl
  have hcellA : T1.heap[T.heap.size]? = some (freshCell cX kX) := by rw [← hT1]; exact State.heap_pushCell_size _ _
  have d3' : decode c.code (pc + 3) = .ok (.dup, 1) := by rw [hb]; exact d3
  obtain ⟨U, hsteps, hrun, hend, hW, hsame, ce, hce, hO⟩ := X₁.ctorThrow0 hexec htr (own := own) (cls := cls) (names := names) (ic := ic) hown' hcls hnames h (fun x hx => nomatch hx) hfX hkX hcellA (by rw [hhp, hT]; exact Nat.le_refl _)
    (g := { method := m, pc := pc + 4, locals := ls, stack := .ref T.heap.size :: .ref T.heap.size :: rest, locked := none }) rfl hsize rfl rfl (rest := rest) rfl
    (by rw [hb]; exact d4) (by rw [hb]; exact d7) hout hRframes (by simp only [List.map_cons, List.sum_cons, hcat]; omega) hlocks
  obtain ⟨f1, f2⟩ := vx_frame hsame
  rw [hhp] at f1 f2
  have hWs : s.WarmedH U.vm := State.WarmedH.trans hW0 hW
  have hcl : s.vm.findClass cls = some ce.cls := by
    have h9 := hO.cls
    rw [hvm] at h9
    exact h9
  have hall : s.sameButNew ({ U with vm := s.vm } : State) locs mc ms := by
    subst hA
    obtain ⟨e1, e2⟩ := hsame
    rw [State.setFrames_setFrames] at e1
    have h2 : (T.setVm s.vm).sameButNew ({ U with vm := s.vm } : State) [] (0 + 1) (0 + 6) := ⟨e1, e2⟩
    have h3 := X.same.trans h2
    rw [List.append_nil] at h3
    exact h3.mono hc hs
  refine ⟨U, ?_, .threw T.heap.size, hrun, hend, Or.inr ⟨T.heap.size, rfl, cls, ce, locs, hx U hWs.alike f1 (fun q hq => f2 q hq (fun z hz => nomatch hz)), hce, hO.vm, hcl, hWs, hall, hf⟩⟩
  refine st1 _ ?_
  show Steps p.tables e below (T1.setTop { method := m, pc := pc + 3, locals := ls, stack := .ref T.heap.size :: rest, locked := none }) _
  jvm_step X₁.here [X₁.here.top, hexec, d3', Value.category]
  exact hsteps
/-- 'throw new E("text")': new; dup; ldc; invokespecial; athrow -/
theorem vx_throwS {cc : ByteArray} {pc : Nat} (hexec : p.tables.exec = Jvm.exec) (hb : c.code = cc) (hl : l.stackTraces = false) {own cls text : String} {names : List String} {ik is ic mc ms sa : Nat} {A : Nat → Prop}
    (hown : s.vm.findClass own = some m.cls) (hcls : Bundle.fit cls = true) (hnames : ∀ n ∈ names, Bundle.fit n = true)
    (hk : (Cond.classLink own ik cls).before args s = true) (hini : (Cond.initialized cls).before args s = true) (hstr : vk_R own is text sa s) (hat : ∀ w ∈ vx_atS own ic cls names, w.before args s = true)
    (hgood : ∀ w ∈ Cond.classLink own ik cls :: Cond.initialized cls :: vx_atS own ic cls names, vx_ot w = true)
    (hU : vx_Zq Bundle.tN "UNASSIGNED_STACK" Bundle.steD A s s.heap) (hN : vx_Zq Bundle.tN "SUPPRESSED_SENTINEL" Bundle.listD A s s.heap) (hS : va_S A s.heap H locs) (hsize : ls.size = c.maxLocals)
    (d0 : decode cc pc = .ok (.new ik, 3)) (d3 : decode cc (pc + 3) = .ok (.dup, 1)) (d4 : decode cc (pc + 4) = .ok (.ldc is, 2)) (d6 : decode cc (pc + 6) = .ok (.invokespecial ic, 3)) (d9 : decode cc (pc + 9) = .ok (.athrow, 1))
    (hout : ∀ x ∈ c.exceptionTable.toList, covers x (pc + 9) = false)
    (hRframes : names.length + 3 < R.frames) (hRlocals : (rest.map fun v => v.category).sum + (13 * (names.length + 1) + 43) ≤ R.locals) (hRcells : cells + 1 ≤ R.cells) (hRslots : slots + 6 ≤ R.slots) (hlocks : meth.locks = false)
    (hx : ∀ t : State, s.vm.Alike t.vm → H.size ≤ t.heap.size → (∀ q : Nat, q < H.size → t.heap[q]? = H[q]?) → XC cls s t)
    (hf : ∀ z ∈ locs, free z.base) (hc : cells + 1 ≤ mc) (hs : slots + 6 ≤ ms) :
    W p l e R s m args below meth c H locs cells slots (vx_MQ below Qc XC args s mc ms free) (F0 m pc ls rest) := by
  intro T hT X
  have htr : e.platform.stackTraces = false := (show e.platform.stackTraces = l.stackTraces by rw [X.admits.platform]).trans hl
  have Y := vx_rebase X (R' := { frames := R.frames, locals := R.locals, cells := 1, slots := 6 }) (Nat.le_refl _) (Nat.le_refl _) hRcells hRslots
  obtain ⟨s', hA⟩ : ∃ z, z = (T.setVm s.vm).setFrames (.invoking m args :: below) := ⟨_, rfl⟩
  rw [← hA] at Y
  have hvm : s'.vm = s.vm := by rw [hA]; rfl
  have hhp : s'.heap = H := by rw [hA]; exact hT
  have hW0 : s.WarmedH s'.vm := by rw [hvm]; exact State.WarmedH.refl s
  have hat' : ∀ w ∈ vx_atS own ic cls names, w.before args s' = true := fun w hw => vx_ot_at hW0 hvm.symm (hgood w (List.mem_cons_of_mem _ (List.mem_cons_of_mem _ hw))) (hat w hw)
  have hk' : (Cond.classLink own ik cls).before args s' = true := vx_ot_at hW0 hvm.symm (hgood _ List.mem_cons_self) hk
  have hini' : (Cond.initialized cls).before args s' = true := vx_ot_at hW0 hvm.symm (hgood _ (List.mem_cons_of_mem _ List.mem_cons_self)) hini
  have hU' : vx_Zq Bundle.tN "UNASSIGNED_STACK" Bundle.steD A s' s'.heap := by rw [hhp]; exact vx_Zq.moved hW0.alike (hU.kept hS.2.1)
  have hN' : vx_Zq Bundle.tN "SUPPRESSED_SENTINEL" Bundle.listD A s' s'.heap := by rw [hhp]; exact vx_Zq.moved hW0.alike (hN.kept hS.2.1)
  have h : ∀ w ∈ Bundle.ownAtoms own ic cls names, w.before args s' = true := vx_own hat' (vx_isRefq hU'.1) (vx_isRefq hN'.1) hU'.2.word hN'.2.word
  have hown' : s'.vm.findClass own = some m.cls := by rw [hvm]; exact hown
  have hins : (Cond.instantiable cls 6).before args s' = true := h _ (by simp [Bundle.ownAtoms])
  obtain ⟨vm₁, cX, kX, hfX, hkX, -, -, X₁, st1⟩ := Y.newCold hexec (own := own) (C := cls) (index := ik) (n := 6) hown' hk' hins hini'
    (g := F0 m pc ls rest) rfl (by rw [hb]; exact d0) (Nat.le_refl _) (Nat.le_refl _)
  generalize hT1 : (T.setVm vm₁).pushCell { cls := cX, slots := kX.instanceTypes.map defaultValue, vm := .none } = T1 at X₁ st1
  have hcat : (Value.ref T.heap.size).category = 1 := rfl
  have hcellA : T1.heap[T.heap.size]? = some (freshCell cX kX) := by rw [← hT1]; exact State.heap_pushCell_size _ _
  have d3' : decode c.code (pc + 3) = .ok (.dup, 1) := by rw [hb]; exact d3
  have d4' : decode c.code (pc + 4) = .ok (.ldc is, 2) := by rw [hb]; exact d4
  have hstr' : vk_R own is text sa s' := vk_R.warm hW0 hstr
  obtain ⟨U, hsteps, hrun, hend, hW, hsame, ce, hce, hO⟩ := X₁.ctorThrowS hexec htr (own := own) (cls := cls) (names := names) (ic := ic) hown' hcls hnames h (fun x hx => nomatch hx) hfX hkX hcellA (by rw [hhp, hT]; exact Nat.le_refl _) (msg := .ref sa) rfl
    (g := { method := m, pc := pc + 6, locals := ls, stack := .ref sa :: .ref T.heap.size :: .ref T.heap.size :: rest, locked := none }) rfl hsize rfl rfl (rest := rest) rfl
    (by rw [hb]; exact d6) (by rw [hb]; exact d9) hout hRframes (by simp only [List.map_cons, List.sum_cons, hcat]; omega) hlocks
  obtain ⟨f1, f2⟩ := vx_frame hsame
  rw [hhp] at f1 f2
  have hWs : s.WarmedH U.vm := State.WarmedH.trans hW0 hW
  have hcl : s.vm.findClass cls = some ce.cls := by
    have h9 := hO.cls
    rw [hvm] at h9
    exact h9
  have hall : s.sameButNew ({ U with vm := s.vm } : State) locs mc ms := by
    subst hA
    obtain ⟨e1, e2⟩ := hsame
    rw [State.setFrames_setFrames] at e1
    have h2 : (T.setVm s.vm).sameButNew ({ U with vm := s.vm } : State) [] (0 + 1) (0 + 6) := ⟨e1, e2⟩
    have h3 := X.same.trans h2
    rw [List.append_nil] at h3
    exact h3.mono hc hs
  refine ⟨U, ?_, .threw T.heap.size, hrun, hend, Or.inr ⟨T.heap.size, rfl, cls, ce, locs, hx U hWs.alike f1 (fun q hq => f2 q hq (fun z hz => nomatch hz)), hce, hO.vm, hcl, hWs, hall, hf⟩⟩
  refine st1 _ ?_
  show Steps p.tables e below (T1.setTop { method := m, pc := pc + 3, locals := ls, stack := .ref T.heap.size :: rest, locked := none }) _
  jvm_step X₁.here [X₁.here.top, hexec, d3', Value.category]
  exact X₁.ldcString hexec (own := own) (text := text) (index := is) (a := sa) hown' hstr'.1 hstr'.2
    (g := { method := m, pc := pc + 4, locals := ls, stack := .ref T.heap.size :: .ref T.heap.size :: rest, locked := none }) rfl d4' _ hsteps
/-- 'throw new E("text")', the text by a wide index -/
theorem vx_throwSW {cc : ByteArray} {pc : Nat} (hexec : p.tables.exec = Jvm.exec) (hb : c.code = cc) (hl : l.stackTraces = false) {own cls text : String} {names : List String} {ik is ic mc ms sa : Nat} {A : Nat → Prop}
    (hown : s.vm.findClass own = some m.cls) (hcls : Bundle.fit cls = true) (hnames : ∀ n ∈ names, Bundle.fit n = true)
    (hk : (Cond.classLink own ik cls).before args s = true) (hini : (Cond.initialized cls).before args s = true) (hstr : vk_R own is text sa s) (hat : ∀ w ∈ vx_atS own ic cls names, w.before args s = true)
    (hgood : ∀ w ∈ Cond.classLink own ik cls :: Cond.initialized cls :: vx_atS own ic cls names, vx_ot w = true)
    (hU : vx_Zq Bundle.tN "UNASSIGNED_STACK" Bundle.steD A s s.heap) (hN : vx_Zq Bundle.tN "SUPPRESSED_SENTINEL" Bundle.listD A s s.heap) (hS : va_S A s.heap H locs) (hsize : ls.size = c.maxLocals)
    (d0 : decode cc pc = .ok (.new ik, 3)) (d3 : decode cc (pc + 3) = .ok (.dup, 1)) (d4 : decode cc (pc + 4) = .ok (.ldc_w is, 3)) (d7 : decode cc (pc + 7) = .ok (.invokespecial ic, 3)) (d10 : decode cc (pc + 10) = .ok (.athrow, 1))
    (hout : ∀ x ∈ c.exceptionTable.toList, covers x (pc + 10) = false)
    (hRframes : names.length + 3 < R.frames) (hRlocals : (rest.map fun v => v.category).sum + (13 * (names.length + 1) + 43) ≤ R.locals) (hRcells : cells + 1 ≤ R.cells) (hRslots : slots + 6 ≤ R.slots) (hlocks : meth.locks = false)
    (hx : ∀ t : State, s.vm.Alike t.vm → H.size ≤ t.heap.size → (∀ q : Nat, q < H.size → t.heap[q]? = H[q]?) → XC cls s t)
    (hf : ∀ z ∈ locs, free z.base) (hc : cells + 1 ≤ mc) (hs : slots + 6 ≤ ms) :
    W p l e R s m args below meth c H locs cells slots (vx_MQ below Qc XC args s mc ms free) (F0 m pc ls rest) := by
  intro T hT X
  have htr : e.platform.stackTraces = false := (show e.platform.stackTraces = l.stackTraces by rw [X.admits.platform]).trans hl
  have Y := vx_rebase X (R' := { frames := R.frames, locals := R.locals, cells := 1, slots := 6 }) (Nat.le_refl _) (Nat.le_refl _) hRcells hRslots
  obtain ⟨s', hA⟩ : ∃ z, z = (T.setVm s.vm).setFrames (.invoking m args :: below) := ⟨_, rfl⟩
  rw [← hA] at Y
  have hvm : s'.vm = s.vm := by rw [hA]; rfl
  have hhp : s'.heap = H := by rw [hA]; exact hT
  have hW0 : s.WarmedH s'.vm := by rw [hvm]; exact State.WarmedH.refl s
  have hat' : ∀ w ∈ vx_atS own ic cls names, w.before args s' = true := fun w hw => vx_ot_at hW0 hvm.symm (hgood w (List.mem_cons_of_mem _ (List.mem_cons_of_mem _ hw))) (hat w hw)
  have hk' : (Cond.classLink own ik cls).before args s' = true := vx_ot_at hW0 hvm.symm (hgood _ List.mem_cons_self) hk
  have hini' : (Cond.initialized cls).before args s' = true := vx_ot_at hW0 hvm.symm (hgood _ (List.mem_cons_of_mem _ List.mem_cons_self)) hini
  have hU' : vx_Zq Bundle.tN "UNASSIGNED_STACK" Bundle.steD A s' s'.heap := by rw [hhp]; exact vx_Zq.moved hW0.alike (hU.kept hS.2.1)
  have hN' : vx_Zq Bundle.tN "SUPPRESSED_SENTINEL" Bundle.listD A s' s'.heap := by rw [hhp]; exact vx_Zq.moved hW0.alike (hN.kept hS.2.1)
  have h : ∀ w ∈ Bundle.ownAtoms own ic cls names, w.before args s' = true := vx_own hat' (vx_isRefq hU'.1) (vx_isRefq hN'.1) hU'.2.word hN'.2.word
  have hown' : s'.vm.findClass own = some m.cls := by rw [hvm]; exact hown
  have hins : (Cond.instantiable cls 6).before args s' = true := h _ (by simp [Bundle.ownAtoms])
  obtain ⟨vm₁, cX, kX, hfX, hkX, -, -, X₁, st1⟩ := Y.newCold hexec (own := own) (C := cls) (index := ik) (n := 6) hown' hk' hins hini'
    (g := F0 m pc ls rest) rfl (by rw [hb]; exact d0) (Nat.le_refl _) (Nat.le_refl _)
  generalize hT1 : (T.setVm vm₁).pushCell { cls := cX, slots := kX.instanceTypes.map defaultValue, vm := .none } = T1 at X₁ st1
  have hcat : (Value.ref T.heap.size).category = 1 := rfl
  have hcellA : T1.heap[T.heap.size]? = some (freshCell cX kX) := by rw [← hT1]; exact State.heap_pushCell_size _ _
  have d3' : decode c.code (pc + 3) = .ok (.dup, 1) := by rw [hb]; exact d3
  have d4' : decode c.code (pc + 4) = .ok (.ldc_w is, 3) := by rw [hb]; exact d4
  have hstr' : vk_R own is text sa s' := vk_R.warm hW0 hstr
  obtain ⟨U, hsteps, hrun, hend, hW, hsame, ce, hce, hO⟩ := X₁.ctorThrowS hexec htr (own := own) (cls := cls) (names := names) (ic := ic) hown' hcls hnames h (fun x hx => nomatch hx) hfX hkX hcellA (by rw [hhp, hT]; exact Nat.le_refl _) (msg := .ref sa) rfl
    (g := { method := m, pc := pc + 7, locals := ls, stack := .ref sa :: .ref T.heap.size :: .ref T.heap.size :: rest, locked := none }) rfl hsize rfl rfl (rest := rest) rfl
    (by rw [hb]; exact d7) (by rw [hb]; exact d10) hout hRframes (by simp only [List.map_cons, List.sum_cons, hcat]; omega) hlocks
  obtain ⟨f1, f2⟩ := vx_frame hsame
  rw [hhp] at f1 f2
  have hWs : s.WarmedH U.vm := State.WarmedH.trans hW0 hW
  have hcl : s.vm.findClass cls = some ce.cls := by
    have h9 := hO.cls
    rw [hvm] at h9
    exact h9
  have hall : s.sameButNew ({ U with vm := s.vm } : State) locs mc ms := by
    subst hA
    obtain ⟨e1, e2⟩ := hsame
    rw [State.setFrames_setFrames] at e1
    have h2 : (T.setVm s.vm).sameButNew ({ U with vm := s.vm } : State) [] (0 + 1) (0 + 6) := ⟨e1, e2⟩
    have h3 := X.same.trans h2
    rw [List.append_nil] at h3
    exact h3.mono hc hs
  refine ⟨U, ?_, .threw T.heap.size, hrun, hend, Or.inr ⟨T.heap.size, rfl, cls, ce, locs, hx U hWs.alike f1 (fun q hq => f2 q hq (fun z hz => nomatch hz)), hce, hO.vm, hcl, hWs, hall, hf⟩⟩
  refine st1 _ ?_
  show Steps p.tables e below (T1.setTop { method := m, pc := pc + 3, locals := ls, stack := .ref T.heap.size :: rest, locked := none }) _
  jvm_step X₁.here [X₁.here.top, hexec, d3', Value.category]
  exact X₁.ldcStringW hexec (own := own) (text := text) (index := is) (a := sa) hown' hstr'.1 hstr'.2
    (g := { method := m, pc := pc + 4, locals := ls, stack := .ref T.heap.size :: .ref T.heap.size :: rest, locked := none }) rfl d4' _ hsteps
end Ends
section Bodies
variable {l : Launch}
theorem vx_ofW {y : MethodName} {ws ws' : List Cond} {rm : Room} {Pc : Array Value → State → Prop} {Qc : Array Value → State → Outcome → State → Prop} {XC : String → State → State → Prop} {mc ms : Nat} {free : Addr → Prop} {cc : ByteArray} {maxL : Nat} {ret : Option FieldType}
    (hy : plainName y.cls = true) (hw : ws = Cond.code y cc maxL ret :: ws')
    (body : ∀ p e s m args below meth c s₁, BodyLoose p l y (headSpec ws rm) cc maxL ret e s m args below meth c s₁ → c.maxLocals = maxL → (∀ x ∈ c.exceptionTable.toList, False) → Pc args s →
      W p l e (headSpec ws rm).room s m args below meth c s.heap [] 0 0 (vx_MQ below Qc XC args s mc ms free) (entryFrame m args maxL)) : vx_Met l y ws rm Pc Qc XC mc ms free := by
  refine MetFree.of_bodyS (code := cc) (maxLocals := maxL) (ret := ret) hy ?_ ?_
  · intro args s m h hn
    obtain ⟨meth, c, h1, h2, h3, h4, h5, h6, -, -⟩ := Cond.code_spec hn (atoms_spec (ws := ws) h _ (by rw [hw]; exact List.mem_cons_self))
    exact ⟨meth, c, h1, h2, h3, h4, h5, h6⟩
  · intro p e s m args below meth c s₁ B hml hP _
    have hh0 : s₁.heap = s.heap := by rw [B.state]; rfl
    have ht : ∀ x ∈ c.exceptionTable.toList, False := by
      obtain ⟨meth9, c9, h1, h2, -, -, -, -, h7, -⟩ := Cond.code_spec B.named (atoms_spec (ws := ws) B.pre _ (by rw [hw]; exact List.mem_cons_self))
      cases Option.some.inj (h1.symm.trans B.method)
      cases Option.some.inj (h2.symm.trans (Stand.of_body B).code)
      intro x hx
      rw [Array.isEmpty_iff.mp h7] at hx
      cases hx
    obtain ⟨t, a1, o, b1, b2, b3⟩ := body p e s m args below meth c s₁ B hml ht hP s₁ hh0 (Stand.of_body B)
    exact ⟨t, o, a1, b1, b2, b3⟩
/-- the table of a body with handlers -/
theorem vx_table {p : Program} {x y : MethodName} {S : Spec} {cc bytes : ByteArray} {maxL maxL' : Nat} {ret ret' : Option FieldType} {e : Env} {s s₁ : State} {m : MethodId} {args : Array Value} {below : List Frame} {meth : Method} {c : Code} {hh : List (Nat × Nat × Nat × Nat)}
    (B : BodyLoose p l y S cc maxL ret e s m args below meth c s₁) (h : (Cond.codeWith y bytes maxL' ret' hh).before args s = true) : c.exceptionTable.toList = tableOf hh := by
  obtain ⟨m9, meth9, c9, hn9, h1, h2, -, -, h6, -⟩ := Cond.codeWith_spec h
  cases Option.some.inj (hn9.symm.trans B.named)
  cases Option.some.inj (h1.symm.trans B.method)
  cases Option.some.inj (h2.symm.trans (Stand.of_body B).code)
  rw [← h6, table_eq]
end Bodies
end VXA
/-! ===== END ===== -/
/-! ===== BEGIN a static call of a method with an exception table ===== -/
section VXS
variable {p : Program} {l : Launch} {e : Env} {R : Room} {s : State} {m : MethodId} {args : Array Value} {below : List Frame} {meth : Method} {c : Code} {T : State} {H : Heap} {locs : List Loc} {cells slots : Nat}
abbrev vx_CSW (R : Room) (s : State) (args : Array Value) (own : String) (index : Nat) (y : MethodName) (bytes : ByteArray) (maxL : Nat) (ret : Option FieldType) (hh : List (Nat × Nat × Nat × Nat)) (ws : List Cond) (rm : Room) (mc ms n : Nat) : Prop :=
  (rm.cells = mc ∧ rm.slots = ms ∧ rm.frames + 1 ≤ R.frames ∧ 8 + (maxL + 11) + rm.locals ≤ R.locals ∧ (∀ w ∈ ws, ∀ (a' : Array Value) (U : State), s.WarmedH U.vm → w.before a' U = true) ∧ Cond.codeWith y bytes maxL ret hh ∈ ws) ∧
  (Cond.codeWith y bytes maxL ret hh).before args s = true ∧ (Cond.initialized y.cls).before args s = true ∧ (y.cls ≠ "java/lang/invoke/MethodHandle" ∧ y.cls ≠ "java/lang/invoke/VarHandle") ∧
  (∀ sig, parseMethodDescriptor y.desc = some sig → n = sig.parameters.length) ∧ (Cond.methodLink own index y).before args s = true ∧ (Cond.static y).before args s = true
theorem vx_cwSW {own : String} {index maxL mc ms : Nat} {y : MethodName} {bytes : ByteArray} {ret : Option FieldType} {hh : List (Nat × Nat × Nat × Nat)} {Ts ws ws' : List Cond} {rm : Room} (n : Nat) (ht : ∀ w ∈ Ts, w.before args s = true) (hT : GoodIn Ts (va_wsS own index y ws)) (hw : ws = Cond.codeWith y bytes maxL ret hh :: ws') (hrc : rm.cells = mc) (hrs : rm.slots = ms)
    (hd : y.cls ≠ "java/lang/invoke/MethodHandle" ∧ y.cls ≠ "java/lang/invoke/VarHandle" ∧ (parseMethodDescriptor y.desc).map (fun d => d.parameters.length) = some n) (hR : rm.frames + 1 ≤ R.frames ∧ 8 + (maxL + 11) + rm.locals ≤ R.locals) :
    vx_CSW R s args own index y bytes maxL ret hh ws rm mc ms n := by
  have ok : ∀ w ∈ va_wsS own index y ws, w.before args s = true := fun w h => ht w (hT w h).1
  have hG : GoodIn Ts ws := fun w h => hT w (by unfold va_wsS; exact List.mem_append_right _ h)
  have hc : Cond.codeWith y bytes maxL ret hh ∈ ws := by rw [hw]; exact List.mem_cons_self
  refine ⟨⟨hrc, hrs, hR.1, hR.2, pay_in ht hG, hc⟩, ht _ (hG _ hc).1, ok _ (by simp [va_wsS]), ⟨hd.1, hd.2.1⟩, fun sig h => ?_, ok _ (by simp [va_wsS]), ok _ (by simp [va_wsS])⟩
  have h2 := hd.2.2
  rw [h] at h2
  exact (Option.some.inj h2).symm
theorem vx_callSW (X : Stand p l e R s m args below meth c T locs cells slots) (hexec : p.tables.exec = Jvm.exec) {own : String} {index : Nat} {y : MethodName} {bytes : ByteArray} {maxL : Nat} {ret : Option FieldType} {hh : List (Nat × Nat × Nat × Nat)}
    (hown : s.vm.findClass own = some m.cls) (hlink : (Cond.methodLink own index y).before args s = true) (hstat : (Cond.static y).before args s = true) (hinit : (Cond.initialized y.cls).before args s = true)
    (hcode : (Cond.codeWith y bytes maxL ret hh).before args s = true) (hy : y.cls ≠ "java/lang/invoke/MethodHandle" ∧ y.cls ≠ "java/lang/invoke/VarHandle")
    {W9 : Nat} {Pre : Pt → Array Value → Prop} {Post : Pt → Array Value → Option Value → Pt → Prop} (hK : Back l R p e below s args y 3 W9 Pre Post)
    {g : JFrame} (hg : g.method = m) (hsize : g.locals.size = c.maxLocals) {argsL rest : List Value} (hlen : ∀ sig, parseMethodDescriptor y.desc = some sig → argsL.length = sig.parameters.length)
    (hstack : g.stack = argsL.reverse ++ rest) (hW : 2 * g.monitorRoom + (rest.map fun v => v.category).sum ≤ W9) (hdg : decode c.code g.pc = .ok (.invokestatic index, 3))
    (hpre : ∀ vm₁, s.WarmedH vm₁ → Pre ⟨T.setVm vm₁, locs, cells, slots⟩ argsL.toArray) :
    ∃ (v : Option Value) (vm₁ : Vm) (B : Pt), s.WarmedH vm₁ ∧ Stand p l e R s m args below meth c B.U B.locs B.cells B.slots ∧ Post ⟨T.setVm vm₁, locs, cells, slots⟩ argsL.toArray v B ∧
      ∀ target, Steps p.tables e below (B.U.setTop { g with pc := g.pc + 3, stack := v.toList ++ rest }) target → Steps p.tables e below (T.setTop g) target := by
  obtain ⟨mk, methM, cM, hnamed, hmethM, -, -, -, -, -, -, hsigM⟩ := Cond.codeWith_spec hcode
  have hstatic : methM.isStatic = true := Cond.static_spec hnamed hmethM hstat
  obtain ⟨kP, hkP, -⟩ := className_of_methodNamed hnamed
  have hinitP : kP.init = .initialized := Cond.initialized_spec (findClass_of_methodNamed hnamed) hkP hinit
  obtain ⟨vm₁, X₁, hstep₁⟩ := X.invokestatic hexec hown hlink hnamed hmethM hstatic hkP hinitP hy (g := g) hg (argsL := argsL) (rest := rest) (hlen _ hsigM) hstack hdg
  obtain ⟨v, B, X', hpost, hsteps⟩ := hK m meth c ⟨T.setVm vm₁, locs, cells, slots⟩ { g with stack := rest } (.invokestatic index) mk argsL.toArray X₁ hg hsize hdg hW (X₁.named hnamed) (hpre vm₁ X₁.warmed)
  exact ⟨v, vm₁, B, X₁.warmed, X', hpost, fun target h => hstep₁ _ fun acts => by rw [doInvoke_state]; exact hsteps.trans h⟩
theorem vx_runSW {y : MethodName} {bytes cc : ByteArray} {maxL nL mc ms n index : Nat} {ret : Option FieldType} {hh : List (Nat × Nat × Nat × Nat)} {ws : List Cond} {rm : Room} {Pc : Array Value → State → Prop} {Qc : Array Value → State → Outcome → State → Prop} {free : Addr → Prop} {Ts : List Cond} {own : String} {As rest : List Value} {g : JFrame}
    (S : CallFix p m c cc nL s args Ts own) (hM : Met l y ws rm Pc Qc mc ms free) (cw : vx_CSW R s args own index y bytes maxL ret hh ws rm mc ms n) (hp : PreS s H Pc As)
    (hg : g.method = m) (hn : As.length = n) (hsize : g.locals.size = nL) (hstack : g.stack = As.reverse ++ rest) (hW : 2 * g.monitorRoom + (rest.map fun v => v.category).sum ≤ 8) (hdg : decode cc g.pc = .ok (.invokestatic index, 3)) (hf : cells + mc ≤ R.cells ∧ slots + ms ≤ R.slots) :
    va_Run p l e R s m args below meth c H locs cells slots mc ms g rest (Qc As.toArray) (free) := by
  obtain ⟨⟨hrc, hrs, hfr, hlo, hws, hcw⟩, hcode, hini, hy, hlen, hl, hstt⟩ := cw
  have hK : Back l R p e below s args y 3 8 (PreOf R mc ms Pc) (PostOf Qc mc ms free) := va_backW (hh := hh) (bytes := bytes) (maxL := maxL) (ret := ret) hM hp.1 hrc hrs hfr hlo hws hcw (fun a' U hW => word_at hW (Or.inl (by first | rfl | simp [Cond.onTables, Cond.keeps, Cond.steady])) hini)
  obtain ⟨hx, hb, hml, ho, -⟩ := S
  intro T hT X
  obtain ⟨v, vm₁, ⟨U', l2, c2, s2⟩, hW₁, X', ⟨g', mk, t, L, e1, e2, hq, h1, hL, h2, h3⟩, st⟩ := vx_callSW X hx (hh := hh) (bytes := bytes) (maxL := maxL) (ret := ret) ho hl hstt hini hcode hy hK hg (hsize.trans hml.symm) (argsL := As) (rest := rest) (fun sig h => hn.trans (hlen sig h)) hstack hW (by rw [hb]; exact hdg)
    (fun vm₁ hW₁ => ⟨hf.1, hf.2, hp.2 (T.setVm vm₁) hT hW₁⟩)
  dsimp only [Pt.U, Pt.locs, Pt.cells, Pt.slots] at X' e1 e2 h1 h2 h3 st
  subst h1; subst h2; subst h3
  exact ⟨v, (T.setVm vm₁).calling g' mk As.toArray, t, U', L, hT, X', hL, e1, e2, hq, st⟩
/-- not caught here, past rows that name other classes: it goes on to the caller -/
theorem vx_outP {p : Program} {l : Launch} {e : Env} {R : Room} {s : State} {m : MethodId} {args : Array Value} {below : List Frame} {meth : Method} {c : Code} {H : Heap} {locs : List Loc} {cells slots : Nat} {free : Addr → Prop} {ls : Array Slot} {rest : List Value} {Qc : Array Value → State → Outcome → State → Prop} {XC : String → State → State → Prop}
    {pc : Nat} {own E : String} {ce : Cell} {q : Addr} {mc ms : Nat} (hown : s.vm.findClass own = some m.cls) (hlocks : meth.locks = false)
    (hpass : ∀ z ∈ c.exceptionTable.toList, covers z pc = false ∨ (z.catchType ≠ 0 ∧ ∃ nm : String, (Cond.classLink own z.catchType nm).before args s = true ∧ va_Nc E nm s)) (hcell : H[q]? = some ce) (hv : ce.vm = .none) (hcl : s.vm.findClass E = some ce.cls)
    (hx : ∀ t : State, t.heap = H → s.vm.Alike t.vm → XC E s t) (hf : ∀ z ∈ locs, free z.base) (hc : cells ≤ mc) (hs : slots ≤ ms) :
    vx_W p l e R s m args below meth c H locs cells slots (vx_MQ below Qc XC args s mc ms free) (F0 m pc ls rest) q := by
  intro T hT X
  have hpl : e.platform.magicAccessors = ({} : Platform).magicAccessors := by rw [X.admits.platform]
  obtain ⟨vm', hW', X', st⟩ := X.outThrough hlocks q (g := F0 m pc ls rest) rfl rfl rfl (cell := ce) (by rw [hT]; exact hcell) (by rw [hv]; rfl)
    (by obtain ⟨k9, h9, -⟩ := Vm.findClass_spec hcl; exact ⟨k9, h9⟩) (fun z hz => by
      rcases hpass z hz with h | ⟨hz0, nm, hl1, hn1⟩
      · exact Or.inl h
      · obtain ⟨c6, hc6, hcl6⟩ := Cond.classLink_spec hown hl1 e.platform hpl
        obtain ⟨a8, b8, h1, h2, h3⟩ := hn1
        cases Option.some.inj (h1.symm.trans hcl)
        cases Option.some.inj (h2.symm.trans hc6)
        exact Or.inr ⟨hz0, _, hcl6, h3⟩)
  obtain ⟨g₀, hfr⟩ := X'.frames_eq
  have hcell9 : ((T.setVm vm').setFrames (.throwing q :: below)).heap[q]? = some ce := by
    show T.heap[q]? = some ce
    rw [hT]; exact hcell
  have hend : Ended ((T.setVm vm').setFrames (.throwing q :: below)) below (.threw q) := State.frames_setFrames _ (State.cur_lt_of_frames hfr)
  refine ⟨(T.setVm vm').setFrames (.throwing q :: below), ?_, .threw q, X'.here.running, hend, Or.inr ⟨q, rfl, E, ce, locs, hx _ hT (X'.ends _).1.alike, hcell9, hv, hcl, (X'.ends _).1, (X'.ends _).2.mono hc hs, hf⟩⟩
  rw [X.pushThrowing_eq]
  exact st
/-- a thing of a world lies in the heap -/
theorem vx_lt {D : va_G} {cl : List vw_C} {ws : va_W} {H1 : Heap} (h : va_P D cl ws H1) {k : Nat} {q : Nat × va_E} (hk : ws[k]? = some q) : q.1 < H1.size := (h k q hk).lt
end VXS
/-! ===== END ===== -/
/-! ===== BEGIN methods with a table of their own: called by a name, returning or throwing ===== -/
section VXH
/-! vx_backW, vx_callVX, vx_callSX, vx_callVW, vx_runVW, vx_runVX, vx_runSX, vx_ofWH follow the same proofs as their sisters above (Free/Laws.lean, Shelf42/LK1.lean); vx_outP calls Shelf42/NT130.lean (outThrough). -/
section
variable {l : Launch} {R : Room} {p : Program} {e : Env} {below : List Frame} {s : State} {sargs : Array Value} {y : MethodName} {len W9 : Nat}
theorem vx_backW {ws : List Cond} {rm : Room} {Pc : Array Value → State → Prop} {Qc : Array Value → State → Outcome → State → Prop} {XC : String → State → State → Prop} {mc ms : Nat} {free : Addr → Prop} {bytes : ByteArray} {maxL : Nat} {ret : Option FieldType} {hh : List (Nat × Nat × Nat × Nat)}
    (hM : vx_Met l y ws rm Pc Qc XC mc ms free) (hblind : FrameBlind Pc) (hrc : rm.cells = mc) (hrs : rm.slots = ms)
    (hframes : rm.frames + 1 ≤ R.frames) (hlocals : W9 + (maxL + 11) + rm.locals ≤ R.locals)
    (hws : ∀ w ∈ ws, ∀ a' U, s.WarmedH U.vm → w.before a' U = true) (hcode : Cond.codeWith y bytes maxL ret hh ∈ ws) (hinit : ∀ a' U, s.WarmedH U.vm → (Cond.initialized y.cls).before a' U = true) :
    vx_Back l R p e below s sargs y len W9 (PreOf R mc ms Pc) (PostOf Qc mc ms free) (vx_Post XC mc ms free) := by
  intro m meth c A g ig mk a X hg hsize hdg hW hn hp
  have h1 : (headSpec ws rm).pre.before a A.U = true := atoms_intro fun w hw => hws w hw _ _ X.warmed
  have h2 : (Cond.codeWith y bytes maxL ret hh).before a A.U = true := hws _ hcode _ _ X.warmed
  have h3 : (Cond.initialized y.cls).before a A.U = true := hinit _ _ X.warmed
  have h4 : A.cells + (headSpec ws rm).room.cells ≤ R.cells := by rw [show (headSpec ws rm).room.cells = mc from hrc]; exact hp.1
  have h5 : A.slots + (headSpec ws rm).room.slots ≤ R.slots := by rw [show (headSpec ws rm).room.slots = ms from hrs]; exact hp.2.1
  have hPc : Pc a (A.U.calling g mk a) := hblind _ _ _ _ hp.2.2
  obtain ⟨U, Ls, c0, s0⟩ := A
  dsimp only [Pt.U, Pt.locs, Pt.cells, Pt.slots] at h1 h2 h3 h4 h5 X hn hPc ⊢
  obtain ⟨m9, methY, cY, hn9, hmY, hcY, -, hlY, -⟩ := Cond.codeWith_spec h2
  cases Option.some.inj (hn9.symm.trans hn)
  obtain ⟨kY, hkY, -⟩ := className_of_methodNamed hn
  have hinitY : kY.init = .initialized := Cond.initialized_spec (findClass_of_methodNamed hn) hkY h3
  have h : At U g.method c below := by rw [hg]; exact X.here
  have hlocals9 : W9 + (maxL + 11) + (headSpec ws rm).room.locals ≤ R.locals := hlocals
  have happ : (headSpec ws rm).appliesLoose y e.platform (U.calling g mk a) = true :=
    Spec.appliesLoose_calling (g := g) h hdg hn hkY hinitY
      (X.room_calling (g := g) (R' := (headSpec ws rm).room) hsize hmY hcY hframes (by rw [hlY]; omega) h4 h5) h1
  obtain ⟨mid, hmid⟩ := h.above
  have hfr : (U.setTop g).frames = (.java g :: mid) ++ below := by rw [State.frames_setTop' g h.top, hmid]; rfl
  obtain ⟨o, s₂, hsteps, -, hend, hq⟩ := Steps.callFree hM p X.admits X.cas X.clock (acts := []) hfr happ hPc trivial
  have hq' : vx_Q Qc XC mc ms free a (U.calling g mk a) o s₂ := hq
  rw [State.frames_setTop' g h.top] at hend
  obtain ⟨g₀, hg0⟩ := Option.isSome_iff_exists.mp h.top
  obtain ⟨r, hr⟩ := State.topJava?_eq_some.mp hg0
  have hr' : (({ U with heap := s₂.heap, slotsUsed := s₂.slotsUsed } : State).setVm s₂.vm).frames = .java g₀ :: r := hr
  rcases hq' with ⟨hqc, L, hfe, hL⟩ | ⟨q, rfl, E, ce, L, hx, hce, hcv, hcl, hW₂, hsm, hL⟩
  · obtain ⟨⟨v, rfl⟩, hW₂, e2, q2, q3, q4, q5, q6⟩ := id hfe
    have e3 : s₂ = ({ (U.calling g mk a).setFrames s₂.frames with heap := s₂.heap, slotsUsed := s₂.slotsUsed } : State).setVm s₂.vm := by
      have : s₂ = ({ s₂ with vm := (U.calling g mk a).vm } : State).setVm s₂.vm := rfl
      rw [e2] at this
      exact this
    obtain ⟨c₂, i₂, len₂, hc₂, hd₂, hf₂⟩ := hend
    have hW' : U.WarmedH s₂.vm := hW₂
    have hcc : c₂ = c := by
      have h1 : s₂.code? g.method = U.code? g.method := by
        rw [State.code?_eq, State.code?_eq, hW'.alike.method?]
      exact Option.some.inj (hc₂.symm.trans (h1.trans h.code))
    subst hcc
    have hlen : len₂ = len := by rw [hdg] at hd₂; cases hd₂; rfl
    subst hlen
    have hs₂ : s₂ = (({ U with heap := s₂.heap, slotsUsed := s₂.slotsUsed } : State).setVm s₂.vm).setTop { g with pc := g.pc + len₂, stack := v.toList ++ g.stack } := by
      refine e3.trans ?_
      rw [hf₂, State.calling_eq h.top, State.setFrames_setFrames, State.setTop_of_frames _ hr', hr]
      rfl
    have hsame : U.sameButNew ({ U with heap := s₂.heap, slotsUsed := s₂.slotsUsed } : State) L mc ms := by
      refine ⟨?_, q2, q3, q4, q5, q6⟩
      obtain ⟨t, ht, -⟩ := State.frames_cons hr
      show ({ U with heap := s₂.heap, slotsUsed := s₂.slotsUsed } : State) = { U.setFrames U.frames with heap := s₂.heap, slotsUsed := s₂.slotsUsed }
      rw [State.setFrames_self ht]
    subst hg
    refine Or.inl ⟨v, ⟨(({ U with heap := s₂.heap, slotsUsed := s₂.slotsUsed } : State).setVm s₂.vm), Ls ++ L, c0 + mc, s0 + ms⟩,
      ⟨X.admits, X.cas, X.clock, X.frames, X.room, X.hears, X.method, X.code, (X.here.setHeapUsed s₂.heap s₂.slotsUsed).setVm hW'.alike, X.tail, State.WarmedH.trans X.warmed hW', X.limits, X.bytes, X.same.trans (hsame.setVm s.vm)⟩,
      ⟨g, mk, s₂, L, rfl, rfl, hqc, rfl, hL, rfl, rfl⟩, ?_⟩
    show Steps p.tables e below _ ((({ U with heap := s₂.heap, slotsUsed := s₂.slotsUsed } : State).setVm s₂.vm).setTop { g with pc := g.pc + len₂, stack := v.toList ++ g.stack })
    rw [← hs₂]
    exact hsteps
  · obtain ⟨e2, q2, q3, q4, q5, q6⟩ := id hsm
    have e3 : s₂ = ({ (U.calling g mk a).setFrames s₂.frames with heap := s₂.heap, slotsUsed := s₂.slotsUsed } : State).setVm s₂.vm := by
      have : s₂ = ({ s₂ with vm := (U.calling g mk a).vm } : State).setVm s₂.vm := rfl
      rw [e2] at this
      exact this
    have hf₂ : s₂.frames = .throwing q :: .java g :: U.frames.tail := hend
    have hW' : U.WarmedH s₂.vm := hW₂
    have hs₂ : s₂ = ((({ U with heap := s₂.heap, slotsUsed := s₂.slotsUsed } : State).setVm s₂.vm).setTop g).pushFrame (.throwing q) := by
      refine e3.trans ?_
      rw [hf₂, State.calling_eq h.top, State.setFrames_setFrames, State.pushFrame, State.frames_setTop _ hr', State.setTop_of_frames _ hr', State.setFrames_setFrames, hr]
      rfl
    have hsame : U.sameButNew ({ U with heap := s₂.heap, slotsUsed := s₂.slotsUsed } : State) L mc ms := by
      refine ⟨?_, q2, q3, q4, q5, q6⟩
      obtain ⟨t, ht, -⟩ := State.frames_cons hr
      show ({ U with heap := s₂.heap, slotsUsed := s₂.slotsUsed } : State) = { U.setFrames U.frames with heap := s₂.heap, slotsUsed := s₂.slotsUsed }
      rw [State.setFrames_self ht]
    subst hg
    refine Or.inr ⟨q, ⟨(({ U with heap := s₂.heap, slotsUsed := s₂.slotsUsed } : State).setVm s₂.vm), Ls ++ L, c0 + mc, s0 + ms⟩,
      ⟨X.admits, X.cas, X.clock, X.frames, X.room, X.hears, X.method, X.code, (X.here.setHeapUsed s₂.heap s₂.slotsUsed).setVm hW'.alike, X.tail, State.WarmedH.trans X.warmed hW', X.limits, X.bytes, X.same.trans (hsame.setVm s.vm)⟩,
      ⟨g, mk, s₂, L, E, ce, rfl, rfl, hx, hce, hcv, hcl, rfl, hL, rfl, rfl⟩, ?_⟩
    show Steps p.tables e below _ (((({ U with heap := s₂.heap, slotsUsed := s₂.slotsUsed } : State).setVm s₂.vm).setTop g).pushFrame (.throwing q))
    rw [← hs₂]
    exact hsteps
end
variable {p : Program} {l : Launch} {e : Env} {R : Room} {s : State} {m : MethodId} {args : Array Value} {below : List Frame} {meth : Method} {c : Code} {T : State} {H : Heap} {locs : List Loc} {cells slots : Nat}
theorem vx_callVX (X : Stand p l e R s m args below meth c T locs cells slots) (hexec : p.tables.exec = Jvm.exec) {own C : String} {index : Nat} {y : MethodName} {bytes : ByteArray} {maxL : Nat} {ret : Option FieldType} {hh : List (Nat × Nat × Nat × Nat)}
    (hown : s.vm.findClass own = some m.cls) (hlink : (Cond.methodLink own index y).before args s = true) (hinst : (Cond.instanceMethod y).before args s = true) (hsel : (Cond.selects C y y).before args s = true)
    (hcode : (Cond.codeWith y bytes maxL ret hh).before args s = true) (hy : y.cls ≠ "java/lang/invoke/MethodHandle" ∧ y.cls ≠ "java/lang/invoke/VarHandle")
    {W9 : Nat} {Pre : Pt → Array Value → Prop} {Post : Pt → Array Value → Option Value → Pt → Prop} {PostX : Pt → Array Value → Addr → Pt → Prop} (hK : vx_Back l R p e below s args y 3 W9 Pre Post PostX)
    {b : Addr} {cellB : Cell} (hcell : T.heap[b]? = some cellB) (hobj : cellB.vm.isStatics = false) (hcls : s.vm.findClass C = some cellB.cls)
    {g : JFrame} (hg : g.method = m) (hsize : g.locals.size = c.maxLocals) {argsL rest : List Value} (hlen : ∀ sig, parseMethodDescriptor y.desc = some sig → argsL.length = sig.parameters.length)
    (hstack : g.stack = argsL.reverse ++ .ref b :: rest) (hW : 2 * g.monitorRoom + (rest.map fun v => v.category).sum ≤ W9) (hdg : decode c.code g.pc = .ok (.invokevirtual index, 3))
    (hpre : ∀ vm₁, s.WarmedH vm₁ → Pre ⟨T.setVm vm₁, locs, cells, slots⟩ (Value.ref b :: argsL).toArray) :
    (∃ (v : Option Value) (vm₁ : Vm) (B : Pt), s.WarmedH vm₁ ∧ Stand p l e R s m args below meth c B.U B.locs B.cells B.slots ∧ Post ⟨T.setVm vm₁, locs, cells, slots⟩ (Value.ref b :: argsL).toArray v B ∧
      ∀ target, Steps p.tables e below (B.U.setTop { g with pc := g.pc + 3, stack := v.toList ++ rest }) target → Steps p.tables e below (T.setTop g) target) ∨
    (∃ (q : Addr) (vm₁ : Vm) (B : Pt), s.WarmedH vm₁ ∧ Stand p l e R s m args below meth c B.U B.locs B.cells B.slots ∧ PostX ⟨T.setVm vm₁, locs, cells, slots⟩ (Value.ref b :: argsL).toArray q B ∧
      Steps p.tables e below (T.setTop g) ((B.U.setTop { g with stack := rest }).pushFrame (.throwing q))) := by
  obtain ⟨mk, methM, hnamed, hmethM, hstM, habM⟩ := Cond.instanceMethod_spec hinst
  obtain ⟨m8, methM', cM, hn8, hmethM', -, -, -, -, -, -, hsigM⟩ := Cond.codeWith_spec hcode
  cases Option.some.inj (hn8.symm.trans hnamed)
  cases hmethM.symm.trans hmethM'
  obtain ⟨c2, r2, m2, q1, q2, q3, q4, kP, hkP, hkPi⟩ := Cond.selects_spec hsel
  cases hcls.symm.trans q1
  cases (State.methodFound?_of_named hnamed hy).symm.trans q2
  cases hnamed.symm.trans q3
  have hselP : selectMethod e.platform s.vm cellB.cls mk = .method mk := by rw [Launch.admits_selectMethod X.admits]; exact q4
  obtain ⟨vm₁, X₁, hstep₁⟩ := X.invokevirtual hexec hown hlink hnamed hmethM hstM hkP hkPi hy (a := b) (cell := cellB) hcell
    (fun z h => by rw [h] at hobj; cases hobj) hselP hmethM habM hkP hkPi (g := g) hg (argsL := argsL) (rest := rest) (hlen _ hsigM) hstack hdg
  rcases hK m meth c ⟨T.setVm vm₁, locs, cells, slots⟩ { g with stack := rest } (.invokevirtual index) mk (Value.ref b :: argsL).toArray X₁ hg hsize hdg hW (X₁.named hnamed) (hpre vm₁ X₁.warmed) with ⟨v, B, X', hpost, hsteps⟩ | ⟨q, B, X', hpost, hsteps⟩
  · exact Or.inl ⟨v, vm₁, B, X₁.warmed, X', hpost, fun target h => hstep₁ _ fun acts => by rw [doInvoke_state]; exact hsteps.trans h⟩
  · exact Or.inr ⟨q, vm₁, B, X₁.warmed, X', hpost, hstep₁ _ fun acts => by rw [doInvoke_state]; exact hsteps⟩
theorem vx_callSX (X : Stand p l e R s m args below meth c T locs cells slots) (hexec : p.tables.exec = Jvm.exec) {own : String} {index : Nat} {y : MethodName} {bytes : ByteArray} {maxL : Nat} {ret : Option FieldType} {hh : List (Nat × Nat × Nat × Nat)}
    (hown : s.vm.findClass own = some m.cls) (hlink : (Cond.methodLink own index y).before args s = true) (hstat : (Cond.static y).before args s = true) (hinit : (Cond.initialized y.cls).before args s = true)
    (hcode : (Cond.codeWith y bytes maxL ret hh).before args s = true) (hy : y.cls ≠ "java/lang/invoke/MethodHandle" ∧ y.cls ≠ "java/lang/invoke/VarHandle")
    {W9 : Nat} {Pre : Pt → Array Value → Prop} {Post : Pt → Array Value → Option Value → Pt → Prop} {PostX : Pt → Array Value → Addr → Pt → Prop} (hK : vx_Back l R p e below s args y 3 W9 Pre Post PostX)
    {g : JFrame} (hg : g.method = m) (hsize : g.locals.size = c.maxLocals) {argsL rest : List Value} (hlen : ∀ sig, parseMethodDescriptor y.desc = some sig → argsL.length = sig.parameters.length)
    (hstack : g.stack = argsL.reverse ++ rest) (hW : 2 * g.monitorRoom + (rest.map fun v => v.category).sum ≤ W9) (hdg : decode c.code g.pc = .ok (.invokestatic index, 3))
    (hpre : ∀ vm₁, s.WarmedH vm₁ → Pre ⟨T.setVm vm₁, locs, cells, slots⟩ argsL.toArray) :
    (∃ (v : Option Value) (vm₁ : Vm) (B : Pt), s.WarmedH vm₁ ∧ Stand p l e R s m args below meth c B.U B.locs B.cells B.slots ∧ Post ⟨T.setVm vm₁, locs, cells, slots⟩ argsL.toArray v B ∧
      ∀ target, Steps p.tables e below (B.U.setTop { g with pc := g.pc + 3, stack := v.toList ++ rest }) target → Steps p.tables e below (T.setTop g) target) ∨
    (∃ (q : Addr) (vm₁ : Vm) (B : Pt), s.WarmedH vm₁ ∧ Stand p l e R s m args below meth c B.U B.locs B.cells B.slots ∧ PostX ⟨T.setVm vm₁, locs, cells, slots⟩ argsL.toArray q B ∧
      Steps p.tables e below (T.setTop g) ((B.U.setTop { g with stack := rest }).pushFrame (.throwing q))) := by
  obtain ⟨mk, methM, cM, hnamed, hmethM, -, -, -, -, -, -, hsigM⟩ := Cond.codeWith_spec hcode
  have hstatic : methM.isStatic = true := Cond.static_spec hnamed hmethM hstat
  obtain ⟨kP, hkP, -⟩ := className_of_methodNamed hnamed
  have hinitP : kP.init = .initialized := Cond.initialized_spec (findClass_of_methodNamed hnamed) hkP hinit
  obtain ⟨vm₁, X₁, hstep₁⟩ := X.invokestatic hexec hown hlink hnamed hmethM hstatic hkP hinitP hy (g := g) hg (argsL := argsL) (rest := rest) (hlen _ hsigM) hstack hdg
  rcases hK m meth c ⟨T.setVm vm₁, locs, cells, slots⟩ { g with stack := rest } (.invokestatic index) mk argsL.toArray X₁ hg hsize hdg hW (X₁.named hnamed) (hpre vm₁ X₁.warmed) with ⟨v, B, X', hpost, hsteps⟩ | ⟨q, B, X', hpost, hsteps⟩
  · exact Or.inl ⟨v, vm₁, B, X₁.warmed, X', hpost, fun target h => hstep₁ _ fun acts => by rw [doInvoke_state]; exact hsteps.trans h⟩
  · exact Or.inr ⟨q, vm₁, B, X₁.warmed, X', hpost, hstep₁ _ fun acts => by rw [doInvoke_state]; exact hsteps⟩
theorem vx_callVW (X : Stand p l e R s m args below meth c T locs cells slots) (hexec : p.tables.exec = Jvm.exec) {own C : String} {index : Nat} {y : MethodName} {bytes : ByteArray} {maxL : Nat} {ret : Option FieldType} {hh : List (Nat × Nat × Nat × Nat)}
    (hown : s.vm.findClass own = some m.cls) (hlink : (Cond.methodLink own index y).before args s = true) (hinst : (Cond.instanceMethod y).before args s = true) (hsel : (Cond.selects C y y).before args s = true)
    (hcode : (Cond.codeWith y bytes maxL ret hh).before args s = true) (hy : y.cls ≠ "java/lang/invoke/MethodHandle" ∧ y.cls ≠ "java/lang/invoke/VarHandle")
    {W9 : Nat} {Pre : Pt → Array Value → Prop} {Post : Pt → Array Value → Option Value → Pt → Prop} (hK : Back l R p e below s args y 3 W9 Pre Post)
    {b : Addr} {cellB : Cell} (hcell : T.heap[b]? = some cellB) (hobj : cellB.vm.isStatics = false) (hcls : s.vm.findClass C = some cellB.cls)
    {g : JFrame} (hg : g.method = m) (hsize : g.locals.size = c.maxLocals) {argsL rest : List Value} (hlen : ∀ sig, parseMethodDescriptor y.desc = some sig → argsL.length = sig.parameters.length)
    (hstack : g.stack = argsL.reverse ++ .ref b :: rest) (hW : 2 * g.monitorRoom + (rest.map fun v => v.category).sum ≤ W9) (hdg : decode c.code g.pc = .ok (.invokevirtual index, 3))
    (hpre : ∀ vm₁, s.WarmedH vm₁ → Pre ⟨T.setVm vm₁, locs, cells, slots⟩ (Value.ref b :: argsL).toArray) :
    ∃ (v : Option Value) (vm₁ : Vm) (B : Pt), s.WarmedH vm₁ ∧ Stand p l e R s m args below meth c B.U B.locs B.cells B.slots ∧ Post ⟨T.setVm vm₁, locs, cells, slots⟩ (Value.ref b :: argsL).toArray v B ∧
      ∀ target, Steps p.tables e below (B.U.setTop { g with pc := g.pc + 3, stack := v.toList ++ rest }) target → Steps p.tables e below (T.setTop g) target := by
  obtain ⟨mk, methM, hnamed, hmethM, hstM, habM⟩ := Cond.instanceMethod_spec hinst
  obtain ⟨m8, methM', cM, hn8, hmethM', -, -, -, -, -, -, hsigM⟩ := Cond.codeWith_spec hcode
  cases Option.some.inj (hn8.symm.trans hnamed)
  cases hmethM.symm.trans hmethM'
  obtain ⟨c2, r2, m2, q1, q2, q3, q4, kP, hkP, hkPi⟩ := Cond.selects_spec hsel
  cases hcls.symm.trans q1
  cases (State.methodFound?_of_named hnamed hy).symm.trans q2
  cases hnamed.symm.trans q3
  have hselP : selectMethod e.platform s.vm cellB.cls mk = .method mk := by rw [Launch.admits_selectMethod X.admits]; exact q4
  obtain ⟨vm₁, X₁, hstep₁⟩ := X.invokevirtual hexec hown hlink hnamed hmethM hstM hkP hkPi hy (a := b) (cell := cellB) hcell
    (fun z h => by rw [h] at hobj; cases hobj) hselP hmethM habM hkP hkPi (g := g) hg (argsL := argsL) (rest := rest) (hlen _ hsigM) hstack hdg
  obtain ⟨v, B, X', hpost, hsteps⟩ := hK m meth c ⟨T.setVm vm₁, locs, cells, slots⟩ { g with stack := rest } (.invokevirtual index) mk (Value.ref b :: argsL).toArray X₁ hg hsize hdg hW (X₁.named hnamed) (hpre vm₁ X₁.warmed)
  exact ⟨v, vm₁, B, X₁.warmed, X', hpost, fun target h => hstep₁ _ fun acts => by rw [doInvoke_state]; exact hsteps.trans h⟩
abbrev vx_CVW (R : Room) (s : State) (args : Array Value) (own C : String) (index : Nat) (y : MethodName) (bytes : ByteArray) (maxL : Nat) (ret : Option FieldType) (hh : List (Nat × Nat × Nat × Nat)) (ws : List Cond) (rm : Room) (mc ms n : Nat) : Prop :=
  (rm.cells = mc ∧ rm.slots = ms ∧ rm.frames + 1 ≤ R.frames ∧ 8 + (maxL + 11) + rm.locals ≤ R.locals ∧ (∀ w ∈ ws, ∀ (a' : Array Value) (U : State), s.WarmedH U.vm → w.before a' U = true) ∧ Cond.codeWith y bytes maxL ret hh ∈ ws) ∧
  (Cond.codeWith y bytes maxL ret hh).before args s = true ∧ (Cond.initialized y.cls).before args s = true ∧ (y.cls ≠ "java/lang/invoke/MethodHandle" ∧ y.cls ≠ "java/lang/invoke/VarHandle") ∧
  (∀ sig, parseMethodDescriptor y.desc = some sig → n = sig.parameters.length) ∧ (Cond.methodLink own index y).before args s = true ∧ (Cond.instanceMethod y).before args s = true ∧ (Cond.selects C y y).before args s = true
theorem vx_cwVW {own C : String} {index maxL mc ms : Nat} {y : MethodName} {bytes : ByteArray} {ret : Option FieldType} {hh : List (Nat × Nat × Nat × Nat)} {Ts ws ws' : List Cond} {rm : Room} (n : Nat) (ht : ∀ w ∈ Ts, w.before args s = true) (hT : GoodIn Ts (wsV own index C y ws)) (hw : ws = Cond.codeWith y bytes maxL ret hh :: ws') (hrc : rm.cells = mc) (hrs : rm.slots = ms)
    (hd : y.cls = C ∧ y.cls ≠ "java/lang/invoke/MethodHandle" ∧ y.cls ≠ "java/lang/invoke/VarHandle" ∧ (parseMethodDescriptor y.desc).map (fun d => d.parameters.length) = some n) (hR : rm.frames + 1 ≤ R.frames ∧ 8 + (maxL + 11) + rm.locals ≤ R.locals) :
    vx_CVW R s args own C index y bytes maxL ret hh ws rm mc ms n := by
  obtain ⟨hC, hd⟩ := hd
  subst hC
  have ok : ∀ w ∈ wsV own index y.cls y ws, w.before args s = true := fun w h => ht w (hT w h).1
  have hG : GoodIn Ts ws := fun w h => hT w (by unfold wsV; exact List.mem_append_right _ h)
  have hc : Cond.codeWith y bytes maxL ret hh ∈ ws := by rw [hw]; exact List.mem_cons_self
  refine ⟨⟨hrc, hrs, hR.1, hR.2, pay_in ht hG, hc⟩, ht _ (hG _ hc).1, ok _ (by simp [wsV]), ⟨hd.1, hd.2.1⟩, fun sig h => ?_, ok _ (by simp [wsV]), ok _ (by simp [wsV]), ok _ (by simp [wsV])⟩
  have h2 := hd.2.2
  rw [h] at h2
  exact (Option.some.inj h2).symm
theorem vx_runVW {y : MethodName} {bytes cc : ByteArray} {maxL nL mc ms n index : Nat} {ret : Option FieldType} {hh : List (Nat × Nat × Nat × Nat)} {ws : List Cond} {rm : Room} {Pc : Array Value → State → Prop} {Qc : Array Value → State → Outcome → State → Prop} {free : Addr → Prop} {Ts : List Cond} {own C : String} {b : Addr} {As rest : List Value} {g : JFrame}
    (S : CallFix p m c cc nL s args Ts own) (hM : Met l y ws rm Pc Qc mc ms free) (cw : vx_CVW R s args own C index y bytes maxL ret hh ws rm mc ms n) (hp : PreV s H C b Pc As)
    (hg : g.method = m) (hn : As.length = n) (hsize : g.locals.size = nL) (hstack : g.stack = As.reverse ++ .ref b :: rest) (hW : 2 * g.monitorRoom + (rest.map fun v => v.category).sum ≤ 8) (hdg : decode cc g.pc = .ok (.invokevirtual index, 3)) (hf : cells + mc ≤ R.cells ∧ slots + ms ≤ R.slots) :
    va_Run p l e R s m args below meth c H locs cells slots mc ms g rest (Qc (Value.ref b :: As).toArray) free := by
  obtain ⟨⟨hrc, hrs, hfr, hlo, hws, hcw⟩, hcode, hini, hy, hlen, hl, hin, hse⟩ := cw
  have hK : Back l R p e below s args y 3 8 (PreOf R mc ms Pc) (PostOf Qc mc ms free) := va_backW (hh := hh) (bytes := bytes) (maxL := maxL) (ret := ret) hM hp.1 hrc hrs hfr hlo hws hcw (fun a' U hW => word_at hW (Or.inl (by first | rfl | simp [Cond.onTables, Cond.keeps, Cond.steady])) hini)
  obtain ⟨hx, hb, hml, ho, -⟩ := S
  obtain ⟨-, ⟨cellB, hcB, hoB, hclB⟩, hPc⟩ := hp
  intro T hT X
  obtain ⟨v, vm₁, ⟨U', l2, c2, s2⟩, hW₁, X', ⟨g', mk, t, L, e1, e2, hq, h1, hL, h2, h3⟩, st⟩ := vx_callVW X hx (C := C) (hh := hh) (bytes := bytes) (maxL := maxL) (ret := ret) ho hl hin hse hcode hy hK (by rw [hT]; exact hcB) hoB hclB hg (hsize.trans hml.symm) (argsL := As) (rest := rest) (fun sig h => hn.trans (hlen sig h)) hstack hW (by rw [hb]; exact hdg)
    (fun vm₁ hW₁ => ⟨hf.1, hf.2, hPc (T.setVm vm₁) hT hW₁⟩)
  dsimp only [Pt.U, Pt.locs, Pt.cells, Pt.slots] at X' e1 e2 h1 h2 h3 st
  subst h1; subst h2; subst h3
  exact ⟨v, (T.setVm vm₁).calling g' mk (Value.ref b :: As).toArray, t, U', L, hT, X', hL, e1, e2, hq, st⟩
section
variable {y : MethodName} {bytes cc : ByteArray} {maxL nL mc ms n index : Nat} {ret : Option FieldType} {ws : List Cond} {rm : Room} {Pc : Array Value → State → Prop} {Qc : Array Value → State → Outcome → State → Prop} {XC : String → State → State → Prop} {free : Addr → Prop} {Ts : List Cond} {own C : String} {b : Addr} {As rest : List Value} {g : JFrame}
theorem vx_runVX {hh : List (Nat × Nat × Nat × Nat)} (S : CallFix p m c cc nL s args Ts own) (hM : vx_Met l y ws rm Pc Qc XC mc ms free) (cw : vx_CVW R s args own C index y bytes maxL ret hh ws rm mc ms n) (hp : PreV s H C b Pc As)
    (hg : g.method = m) (hn : As.length = n) (hsize : g.locals.size = nL) (hstack : g.stack = As.reverse ++ .ref b :: rest) (hW : 2 * g.monitorRoom + (rest.map fun v => v.category).sum ≤ 8) (hdg : decode cc g.pc = .ok (.invokevirtual index, 3)) (hf : cells + mc ≤ R.cells ∧ slots + ms ≤ R.slots) :
    vx_Run p l e R s m args below meth c H locs cells slots mc ms g rest (Qc (Value.ref b :: As).toArray) XC free := by
  obtain ⟨⟨hrc, hrs, hfr, hlo, hws, hcw⟩, hcode, hini, hy, hlen, hl, hin, hse⟩ := cw
  have hK : vx_Back l R p e below s args y 3 8 (PreOf R mc ms Pc) (PostOf Qc mc ms free) (vx_Post XC mc ms free) := vx_backW (hh := hh) (bytes := bytes) (maxL := maxL) (ret := ret) hM hp.1 hrc hrs hfr hlo hws hcw (fun a' U hW => word_at hW (Or.inl (by first | rfl | simp [Cond.onTables, Cond.keeps, Cond.steady])) hini)
  obtain ⟨hx, hb, hml, ho, -⟩ := S
  obtain ⟨-, ⟨cellB, hcB, hoB, hclB⟩, hPc⟩ := hp
  intro T hT X
  rcases vx_callVX X hx (C := C) (hh := hh) (bytes := bytes) (maxL := maxL) (ret := ret) ho hl hin hse hcode hy hK (by rw [hT]; exact hcB) hoB hclB hg (hsize.trans hml.symm) (argsL := As) (rest := rest) (fun sig h => hn.trans (hlen sig h)) hstack hW (by rw [hb]; exact hdg)
    (fun vm₁ hW₁ => ⟨hf.1, hf.2, hPc (T.setVm vm₁) hT hW₁⟩) with ⟨v, vm₁, ⟨U', l2, c2, s2⟩, hW₁, X', ⟨g', mk, t, L, e1, e2, hq, h1, hL, h2, h3⟩, st⟩ | ⟨q, vm₁, ⟨U', l2, c2, s2⟩, hW₁, X', ⟨g', mk, t, L, E, ce, e1, e2, hq, hce, hcv, hcl, h1, hL, h2, h3⟩, st⟩
  · dsimp only [Pt.U, Pt.locs, Pt.cells, Pt.slots] at X' e1 e2 h1 h2 h3 st
    subst h1; subst h2; subst h3
    exact Or.inl ⟨v, (T.setVm vm₁).calling g' mk (Value.ref b :: As).toArray, t, U', L, hT, X', hL, e1, e2, hq, st⟩
  · dsimp only [Pt.U, Pt.locs, Pt.cells, Pt.slots] at X' e1 e2 h1 h2 h3 st hcl
    subst h1; subst h2; subst h3
    exact Or.inr ⟨q, (T.setVm vm₁).calling g' mk (Value.ref b :: As).toArray, t, U', L, E, ce, hT, X', hL, e1, e2, hq, hce, hcv, vx_cls hW₁ hcl, st⟩
theorem vx_runSX {hh : List (Nat × Nat × Nat × Nat)} (S : CallFix p m c cc nL s args Ts own) (hM : vx_Met l y ws rm Pc Qc XC mc ms free) (cw : vx_CSW R s args own index y bytes maxL ret hh ws rm mc ms n) (hp : PreS s H Pc As)
    (hg : g.method = m) (hn : As.length = n) (hsize : g.locals.size = nL) (hstack : g.stack = As.reverse ++ rest) (hW : 2 * g.monitorRoom + (rest.map fun v => v.category).sum ≤ 8) (hdg : decode cc g.pc = .ok (.invokestatic index, 3)) (hf : cells + mc ≤ R.cells ∧ slots + ms ≤ R.slots) :
    vx_Run p l e R s m args below meth c H locs cells slots mc ms g rest (Qc As.toArray) XC free := by
  obtain ⟨⟨hrc, hrs, hfr, hlo, hws, hcw⟩, hcode, hini, hy, hlen, hl, hstt⟩ := cw
  have hK : vx_Back l R p e below s args y 3 8 (PreOf R mc ms Pc) (PostOf Qc mc ms free) (vx_Post XC mc ms free) := vx_backW (hh := hh) (bytes := bytes) (maxL := maxL) (ret := ret) hM hp.1 hrc hrs hfr hlo hws hcw (fun a' U hW => word_at hW (Or.inl (by first | rfl | simp [Cond.onTables, Cond.keeps, Cond.steady])) hini)
  obtain ⟨hx, hb, hml, ho, -⟩ := S
  intro T hT X
  rcases vx_callSX X hx (hh := hh) (bytes := bytes) (maxL := maxL) (ret := ret) ho hl hstt hini hcode hy hK hg (hsize.trans hml.symm) (argsL := As) (rest := rest) (fun sig h => hn.trans (hlen sig h)) hstack hW (by rw [hb]; exact hdg)
    (fun vm₁ hW₁ => ⟨hf.1, hf.2, hp.2 (T.setVm vm₁) hT hW₁⟩) with ⟨v, vm₁, ⟨U', l2, c2, s2⟩, hW₁, X', ⟨g', mk, t, L, e1, e2, hq, h1, hL, h2, h3⟩, st⟩ | ⟨q, vm₁, ⟨U', l2, c2, s2⟩, hW₁, X', ⟨g', mk, t, L, E, ce, e1, e2, hq, hce, hcv, hcl, h1, hL, h2, h3⟩, st⟩
  · dsimp only [Pt.U, Pt.locs, Pt.cells, Pt.slots] at X' e1 e2 h1 h2 h3 st
    subst h1; subst h2; subst h3
    exact Or.inl ⟨v, (T.setVm vm₁).calling g' mk As.toArray, t, U', L, hT, X', hL, e1, e2, hq, st⟩
  · dsimp only [Pt.U, Pt.locs, Pt.cells, Pt.slots] at X' e1 e2 h1 h2 h3 st hcl
    subst h1; subst h2; subst h3
    exact Or.inr ⟨q, (T.setVm vm₁).calling g' mk As.toArray, t, U', L, E, ce, hT, X', hL, e1, e2, hq, hce, hcv, vx_cls hW₁ hcl, st⟩
end
end VXH
theorem vx_ofWH {l : Launch} {y : MethodName} {ws ws' : List Cond} {rm : Room} {Pc : Array Value → State → Prop} {Qc : Array Value → State → Outcome → State → Prop} {XC : String → State → State → Prop} {mc ms : Nat} {free : Addr → Prop} {cc : ByteArray} {maxL : Nat} {ret : Option FieldType} {hh : List (Nat × Nat × Nat × Nat)}
    (hy : plainName y.cls = true) (hw : ws = Cond.codeWith y cc maxL ret hh :: ws')
    (body : ∀ p e s m args below meth c s₁, BodyLoose p l y (headSpec ws rm) cc maxL ret e s m args below meth c s₁ → c.maxLocals = maxL → Pc args s →
      W p l e (headSpec ws rm).room s m args below meth c s.heap [] 0 0 (vx_MQ below Qc XC args s mc ms free) (entryFrame m args maxL)) : vx_Met l y ws rm Pc Qc XC mc ms free := by
  refine MetFree.of_bodyS (code := cc) (maxLocals := maxL) (ret := ret) hy ?_ ?_
  · intro args s m h hn
    obtain ⟨m9, meth, c, hn9, h1, h2, h3, h4, -, h5, h6, -⟩ := Cond.codeWith_spec (atoms_spec (ws := ws) h _ (by rw [hw]; exact List.mem_cons_self))
    cases hn.symm.trans hn9
    exact ⟨meth, c, h1, h2, h3, h4, h5, h6⟩
  · intro p e s m args below meth c s₁ B hml hP _
    have hh0 : s₁.heap = s.heap := by rw [B.state]; rfl
    obtain ⟨t, a1, o, b1, b2, b3⟩ := body p e s m args below meth c s₁ B hml hP s₁ hh0 (Stand.of_body B)
    exact ⟨t, o, a1, b1, b2, b3⟩
/-! ===== END ===== -/

/-! ===== BEGIN printed: names, fields, word lists, decode rows ===== -/
def RX0 : String := "Pommel$Bout"
def TX0 : u_T := fun k => match k with
  | 0 => ("Pommel$Bout", "number", "I", true)
  | 1 => ("Pommel$Bout", "round", "I", true)
  | 2 => ("Pommel$Bout", "left", "LPommel$Side;", true)
  | 3 => ("Pommel$Bout", "right", "LPommel$Side;", true)
  | 4 => ("Pommel$Bout", "state", "I", false)
  | 5 => ("Pommel$Bout", "winner", "LPommel$Fencer;", false)
  | 6 => ("Pommel$Bout", "piste", "I", false)
  | 7 => ("Pommel$Bout", "period", "I", false)
  | _ => ("Pommel$Bout", "secondsLeft", "I", false)
def tyX0 : Nat → FieldType := fun k => match k with
  | 0 => .int
  | 1 => .int
  | 2 => .object "Pommel$Side"
  | 3 => .object "Pommel$Side"
  | 4 => .int
  | 5 => .object "Pommel$Fencer"
  | 6 => .int
  | 7 => .int
  | _ => .int
abbrev wsX00 : List Cond := u_ws RX0 TX0 9
theorem nmX0 : ∀ a, a < 9 → ∀ b, b < 9 → a ≠ b → (TX0 a).2.1 ≠ (TX0 b).2.1 := by decide +kernel
theorem tyX0_ok : ∀ k, k < 9 → parseFieldDescriptor (TX0 k).2.2.1 = some (tyX0 k) := by decide +kernel
abbrev cX0_init : ByteArray := prog_2_method_1_code
def yX0_init : MethodName := ⟨RX0, "<init>", "(IILPommel$Fencer;LPommel$Fencer;)V"⟩
abbrev cX0_isOfTable : ByteArray := prog_2_method_2_code
def yX0_isOfTable : MethodName := ⟨RX0, "isOfTable", "()Z"⟩
abbrev cX0_goal : ByteArray := prog_2_method_3_code
def yX0_goal : MethodName := ⟨RX0, "goal", "()I"⟩
abbrev cX0_periods : ByteArray := prog_2_method_4_code
def yX0_periods : MethodName := ⟨RX0, "periods", "()I"⟩
abbrev cX0_sideOf : ByteArray := prog_2_method_5_code
def yX0_sideOf : MethodName := ⟨RX0, "sideOf", "(I)LPommel$Side;"⟩
abbrev cX0_isKnown : ByteArray := prog_2_method_6_code
def yX0_isKnown : MethodName := ⟨RX0, "isKnown", "()Z"⟩
abbrev cX0_isInExtra : ByteArray := prog_2_method_7_code
def yX0_isInExtra : MethodName := ⟨RX0, "isInExtra", "()Z"⟩
abbrev cX0_restedAt : ByteArray := prog_2_method_8_code
def yX0_restedAt : MethodName := ⟨RX0, "restedAt", "()I"⟩
abbrev cX0_withPriority : ByteArray := prog_2_method_9_code
def yX0_withPriority : MethodName := ⟨RX0, "withPriority", "()LPommel$Side;"⟩
abbrev cX0_winnerAsItStands : ByteArray := prog_2_method_10_code
def yX0_winnerAsItStands : MethodName := ⟨RX0, "winnerAsItStands", "()LPommel$Fencer;"⟩
abbrev cX0_countsForBoth : ByteArray := prog_2_method_11_code
def yX0_countsForBoth : MethodName := ⟨RX0, "countsForBoth", "()Z"⟩
abbrev cX0_isDecidedByHit : ByteArray := prog_2_method_12_code
def yX0_isDecidedByHit : MethodName := ⟨RX0, "isDecidedByHit", "()Z"⟩
abbrev cX0_secondsUntilOver : ByteArray := prog_2_method_13_code
def yX0_secondsUntilOver : MethodName := ⟨RX0, "secondsUntilOver", "()I"⟩
abbrev cX0_begin : ByteArray := prog_2_method_14_code
def yX0_begin : MethodName := ⟨RX0, "begin", "(I)V"⟩
abbrev cX0_goOn : ByteArray := prog_2_method_15_code
def yX0_goOn : MethodName := ⟨RX0, "goOn", "(I)V"⟩
abbrev cX0_end : ByteArray := prog_2_method_16_code
def yX0_end : MethodName := ⟨RX0, "end", "(I)V"⟩
abbrev cX0_count : ByteArray := prog_2_method_17_code
def yX0_count : MethodName := ⟨RX0, "count", "(LPommel$Fencer;III)V"⟩
def RX1 : String := "Pommel$Fencer"
def TX1 : u_T := fun k => match k with
  | 0 => ("Pommel$Fencer", "number", "I", true)
  | 1 => ("Pommel$Fencer", "rank", "I", true)
  | 2 => ("Pommel$Fencer", "club", "I", true)
  | 3 => ("Pommel$Fencer", "pool", "I", false)
  | 4 => ("Pommel$Fencer", "spot", "I", false)
  | 5 => ("Pommel$Fencer", "out", "Z", false)
  | 6 => ("Pommel$Fencer", "liveBout", "LPommel$Bout;", false)
  | 7 => ("Pommel$Fencer", "restedAt", "I", false)
  | 8 => ("Pommel$Fencer", "met", "I", false)
  | 9 => ("Pommel$Fencer", "won", "I", false)
  | 10 => ("Pommel$Fencer", "given", "I", false)
  | 11 => ("Pommel$Fencer", "taken", "I", false)
  | 12 => ("Pommel$Fencer", "tableLine", "I", false)
  | _ => ("Pommel$Fencer", "standing", "I", false)
def tyX1 : Nat → FieldType := fun k => match k with
  | 0 => .int
  | 1 => .int
  | 2 => .int
  | 3 => .int
  | 4 => .int
  | 5 => .boolean
  | 6 => .object "Pommel$Bout"
  | 7 => .int
  | 8 => .int
  | 9 => .int
  | 10 => .int
  | 11 => .int
  | 12 => .int
  | _ => .int
abbrev wsX10 : List Cond := u_ws RX1 TX1 14
theorem nmX1 : ∀ a, a < 14 → ∀ b, b < 14 → a ≠ b → (TX1 a).2.1 ≠ (TX1 b).2.1 := by decide +kernel
theorem tyX1_ok : ∀ k, k < 14 → parseFieldDescriptor (TX1 k).2.2.1 = some (tyX1 k) := by decide +kernel
abbrev cX1_init : ByteArray := prog_3_method_1_code
def yX1_init : MethodName := ⟨RX1, "<init>", "(III)V"⟩
abbrev cX1_count : ByteArray := prog_3_method_2_code
def yX1_count : MethodName := ⟨RX1, "count", "(ZIII)V"⟩
abbrev cX1_isAheadOf : ByteArray := prog_3_method_3_code
def yX1_isAheadOf : MethodName := ⟨RX1, "isAheadOf", "(LPommel$Fencer;)Z"⟩
abbrev cX1_isPlacedAheadOf : ByteArray := prog_3_method_4_code
def yX1_isPlacedAheadOf : MethodName := ⟨RX1, "isPlacedAheadOf", "(LPommel$Fencer;)Z"⟩
def RX2 : String := "Pommel$Side"
def TX2 : u_T := fun k => match k with
  | 0 => ("Pommel$Side", "fencer", "LPommel$Fencer;", false)
  | 1 => ("Pommel$Side", "score", "I", false)
  | _ => ("Pommel$Side", "shown", "I", false)
def tyX2 : Nat → FieldType := fun k => match k with
  | 0 => .object "Pommel$Fencer"
  | 1 => .int
  | _ => .int
abbrev wsX20 : List Cond := u_ws RX2 TX2 3
theorem nmX2 : ∀ a, a < 3 → ∀ b, b < 3 → a ≠ b → (TX2 a).2.1 ≠ (TX2 b).2.1 := by decide +kernel
theorem tyX2_ok : ∀ k, k < 3 → parseFieldDescriptor (TX2 k).2.2.1 = some (tyX2 k) := by decide +kernel
abbrev cX2_init : ByteArray := prog_4_method_1_code
def yX2_init : MethodName := ⟨RX2, "<init>", "()V"⟩
abbrev cX2_isInLiveBout : ByteArray := prog_4_method_2_code
def yX2_isInLiveBout : MethodName := ⟨RX2, "isInLiveBout", "()Z"⟩
abbrev cX2_restedAt : ByteArray := prog_4_method_3_code
def yX2_restedAt : MethodName := ⟨RX2, "restedAt", "()I"⟩
abbrev cX2_begin : ByteArray := prog_4_method_4_code
def yX2_begin : MethodName := ⟨RX2, "begin", "(LPommel$Bout;)V"⟩
abbrev cX2_end : ByteArray := prog_4_method_5_code
def yX2_end : MethodName := ⟨RX2, "end", "(I)V"⟩
abbrev cX2_count : ByteArray := prog_4_method_6_code
def yX2_count : MethodName := ⟨RX2, "count", "(LPommel$Fencer;III)V"⟩
def RX3 : String := "Pommel"
def TX3 : u_T := fun k => match k with
  | 0 => ("Pommel", "fencers", "Ljava/util/ArrayList;", true)
  | 1 => ("Pommel", "bouts", "Ljava/util/ArrayList;", true)
  | 2 => ("Pommel", "pistes", "[LPommel$Bout;", true)
  | 3 => ("Pommel", "poolSizes", "[I", true)
  | 4 => ("Pommel", "seeded", "[LPommel$Fencer;", true)
  | 5 => ("Pommel", "seedsOfLines", "[I", true)
  | 6 => ("Pommel", "pools", "I", false)
  | 7 => ("Pommel", "now", "I", false)
  | 8 => ("Pommel", "tableSize", "I", false)
  | _ => ("Pommel", "firstOfTable", "I", false)
def tyX3 : Nat → FieldType := fun k => match k with
  | 0 => .object "java/util/ArrayList"
  | 1 => .object "java/util/ArrayList"
  | 2 => .array (.object "Pommel$Bout")
  | 3 => .array .int
  | 4 => .array (.object "Pommel$Fencer")
  | 5 => .array .int
  | 6 => .int
  | 7 => .int
  | 8 => .int
  | _ => .int
abbrev wsX30 : List Cond := u_ws RX3 TX3 10
theorem nmX3 : ∀ a, a < 10 → ∀ b, b < 10 → a ≠ b → (TX3 a).2.1 ≠ (TX3 b).2.1 := by decide +kernel
theorem tyX3_ok : ∀ k, k < 10 → parseFieldDescriptor (TX3 k).2.2.1 = some (tyX3 k) := by decide +kernel
abbrev cX3_init : ByteArray := prog_1_method_1_code
def yX3_init : MethodName := ⟨RX3, "<init>", "()V"⟩
abbrev cX3_fencer : ByteArray := prog_1_method_2_code
def yX3_fencer : MethodName := ⟨RX3, "fencer", "(II)I"⟩
abbrev cX3_form : ByteArray := prog_1_method_3_code
def yX3_form : MethodName := ⟨RX3, "form", "(I)I"⟩
abbrev cX3_of : ByteArray := prog_1_method_4_code
def yX3_of : MethodName := ⟨RX3, "of", "(II)I"⟩
abbrev cX3_putIntoPool : ByteArray := prog_1_method_5_code
def yX3_putIntoPool : MethodName := ⟨RX3, "putIntoPool", "(LPommel$Fencer;I)V"⟩
abbrev cX3_poolInRow : ByteArray := prog_1_method_6_code
def yX3_poolInRow : MethodName := ⟨RX3, "poolInRow", "(II)I"⟩
abbrev cX3_hasClub : ByteArray := prog_1_method_7_code
def yX3_hasClub : MethodName := ⟨RX3, "hasClub", "(II)Z"⟩
abbrev cX3_addPoolBouts : ByteArray := prog_1_method_8_code
def yX3_addPoolBouts : MethodName := ⟨RX3, "addPoolBouts", "(I)V"⟩
abbrev cX3_fencerOnSpot : ByteArray := prog_1_method_9_code
def yX3_fencerOnSpot : MethodName := ⟨RX3, "fencerOnSpot", "(II)LPommel$Fencer;"⟩
abbrev cX3_start : ByteArray := prog_1_method_10_code
def yX3_start : MethodName := ⟨RX3, "start", "(II)V"⟩
abbrev cX3_pass : ByteArray := prog_1_method_11_code
def yX3_pass : MethodName := ⟨RX3, "pass", "(I)I"⟩
abbrev cX3_hit : ByteArray := prog_1_method_12_code
def yX3_hit : MethodName := ⟨RX3, "hit", "(II)Z"⟩
abbrev cX3_card : ByteArray := prog_1_method_13_code
def yX3_card : MethodName := ⟨RX3, "card", "(III)I"⟩
abbrev cX3_ofBout : ByteArray := prog_1_method_14_code
def yX3_ofBout : MethodName := ⟨RX3, "ofBout", "(II)I"⟩
abbrev cX3_reason : ByteArray := prog_1_method_15_code
def yX3_reason : MethodName := ⟨RX3, "reason", "(I)I"⟩
abbrev cX3_next : ByteArray := prog_1_method_16_code
def yX3_next : MethodName := ⟨RX3, "next", "()I"⟩
abbrev cX3_many : ByteArray := prog_1_method_17_code
def yX3_many : MethodName := ⟨RX3, "many", "(I)I"⟩
abbrev cX3_whyNotReady : ByteArray := prog_1_method_18_code
def yX3_whyNotReady : MethodName := ⟨RX3, "whyNotReady", "(LPommel$Bout;)I"⟩
abbrev cX3_isOverAfter : ByteArray := prog_1_method_19_code
def yX3_isOverAfter : MethodName := ⟨RX3, "isOverAfter", "(LPommel$Bout;I)Z"⟩
abbrev cX3_isOverByHit : ByteArray := prog_1_method_20_code
def yX3_isOverByHit : MethodName := ⟨RX3, "isOverByHit", "(LPommel$Bout;)Z"⟩
abbrev cX3_putOut : ByteArray := prog_1_method_21_code
def yX3_putOut : MethodName := ⟨RX3, "putOut", "(LPommel$Bout;LPommel$Fencer;LPommel$Fencer;)V"⟩
abbrev cX3_makeVoid : ByteArray := prog_1_method_22_code
def yX3_makeVoid : MethodName := ⟨RX3, "makeVoid", "(LPommel$Bout;)V"⟩
abbrev cX3_finish : ByteArray := prog_1_method_23_code
def yX3_finish : MethodName := ⟨RX3, "finish", "(LPommel$Bout;LPommel$Fencer;I)V"⟩
abbrev cX3_leavePiste : ByteArray := prog_1_method_24_code
def yX3_leavePiste : MethodName := ⟨RX3, "leavePiste", "(LPommel$Bout;I)V"⟩
abbrev cX3_decide : ByteArray := prog_1_method_25_code
def yX3_decide : MethodName := ⟨RX3, "decide", "(LPommel$Bout;LPommel$Fencer;)V"⟩
abbrev cX3_boutsIn : ByteArray := prog_1_method_26_code
def yX3_boutsIn : MethodName := ⟨RX3, "boutsIn", "(I)I"⟩
abbrev cX3_fencersOut : ByteArray := prog_1_method_27_code
def yX3_fencersOut : MethodName := ⟨RX3, "fencersOut", "()I"⟩
abbrev cX3_order : ByteArray := prog_1_method_28_code
def yX3_order : MethodName := ⟨RX3, "order", "(II)I"⟩
abbrev cX3_draw : ByteArray := prog_1_method_29_code
def yX3_draw : MethodName := ⟨RX3, "draw", "(I)I"⟩
abbrev cX3_line : ByteArray := prog_1_method_30_code
def yX3_line : MethodName := ⟨RX3, "line", "(I)I"⟩
abbrev cX3_place : ByteArray := prog_1_method_31_code
def yX3_place : MethodName := ⟨RX3, "place", "(I)I"⟩
abbrev cX3_aheadInOrder : ByteArray := prog_1_method_33_code
def yX3_aheadInOrder : MethodName := ⟨RX3, "aheadInOrder", "(LPommel$Fencer;)I"⟩
abbrev cX3_fencerInOrder : ByteArray := prog_1_method_34_code
def yX3_fencerInOrder : MethodName := ⟨RX3, "fencerInOrder", "(I)LPommel$Fencer;"⟩
abbrev cX3_seed : ByteArray := prog_1_method_35_code
def yX3_seed : MethodName := ⟨RX3, "seed", "(I)V"⟩
abbrev cX3_setLines : ByteArray := prog_1_method_36_code
def yX3_setLines : MethodName := ⟨RX3, "setLines", "(I)V"⟩
abbrev cX3_addTableBouts : ByteArray := prog_1_method_37_code
def yX3_addTableBouts : MethodName := ⟨RX3, "addTableBouts", "()V"⟩
abbrev cX3_decideWithoutOther : ByteArray := prog_1_method_38_code
def yX3_decideWithoutOther : MethodName := ⟨RX3, "decideWithoutOther", "()V"⟩
abbrev cX3_enteredOnLine : ByteArray := prog_1_method_39_code
def yX3_enteredOnLine : MethodName := ⟨RX3, "enteredOnLine", "(I)LPommel$Fencer;"⟩
abbrev cX3_fencerOnLine : ByteArray := prog_1_method_40_code
def yX3_fencerOnLine : MethodName := ⟨RX3, "fencerOnLine", "(I)LPommel$Fencer;"⟩
abbrev cX3_goOnInTable : ByteArray := prog_1_method_41_code
def yX3_goOnInTable : MethodName := ⟨RX3, "goOnInTable", "(LPommel$Bout;)V"⟩
abbrev cX3_winnerOfTable : ByteArray := prog_1_method_42_code
def yX3_winnerOfTable : MethodName := ⟨RX3, "winnerOfTable", "()LPommel$Fencer;"⟩
abbrev cX3_winnerIn : ByteArray := prog_1_method_45_code
def yX3_winnerIn : MethodName := ⟨RX3, "winnerIn", "(II)I"⟩
abbrev cX3_voidWith : ByteArray := prog_1_method_46_code
def yX3_voidWith : MethodName := ⟨RX3, "voidWith", "(I)I"⟩
abbrev cX3_digest : ByteArray := prog_1_method_47_code
def yX3_digest : MethodName := ⟨RX3, "digest", "()J"⟩
abbrev cX3_withFencer : ByteArray := prog_1_method_48_code
def yX3_withFencer : MethodName := ⟨RX3, "withFencer", "(JI)J"⟩
abbrev cX3_withBout : ByteArray := prog_1_method_49_code
def yX3_withBout : MethodName := ⟨RX3, "withBout", "(JI)J"⟩
abbrev cX3_isIn : ByteArray := prog_1_method_50_code
def yX3_isIn : MethodName := ⟨RX3, "isIn", "(III)Z"⟩
abbrev cX3_isPiste : ByteArray := prog_1_method_51_code
def yX3_isPiste : MethodName := ⟨RX3, "isPiste", "(I)Z"⟩
abbrev cX3_numberOf : ByteArray := prog_1_method_52_code
def yX3_numberOf : MethodName := ⟨RX3, "numberOf", "(LPommel$Fencer;)I"⟩
abbrev cX3_fencerAt : ByteArray := prog_1_method_53_code
def yX3_fencerAt : MethodName := ⟨RX3, "fencerAt", "(I)LPommel$Fencer;"⟩
abbrev cX3_boutAt : ByteArray := prog_1_method_54_code
def yX3_boutAt : MethodName := ⟨RX3, "boutAt", "(I)LPommel$Bout;"⟩
abbrev cX3_liveBoutOn : ByteArray := prog_1_method_55_code
def yX3_liveBoutOn : MethodName := ⟨RX3, "liveBoutOn", "(I)LPommel$Bout;"⟩
def RX4 : String := "PommelModel$Bout"
def TX4 : u_T := fun k => match k with
  | _ => ("", "", "", false)
def tyX4 : Nat → FieldType := fun k => match k with
  | _ => .int
abbrev wsX40 : List Cond := u_ws RX4 TX4 0
theorem nmX4 : ∀ a, a < 0 → ∀ b, b < 0 → a ≠ b → (TX4 a).2.1 ≠ (TX4 b).2.1 := by decide +kernel
theorem tyX4_ok : ∀ k, k < 0 → parseFieldDescriptor (TX4 k).2.2.1 = some (tyX4 k) := by decide +kernel
def RX5 : String := "PommelModel$Fencer"
def TX5 : u_T := fun k => match k with
  | _ => ("", "", "", false)
def tyX5 : Nat → FieldType := fun k => match k with
  | _ => .int
abbrev wsX50 : List Cond := u_ws RX5 TX5 0
theorem nmX5 : ∀ a, a < 0 → ∀ b, b < 0 → a ≠ b → (TX5 a).2.1 ≠ (TX5 b).2.1 := by decide +kernel
theorem tyX5_ok : ∀ k, k < 0 → parseFieldDescriptor (TX5 k).2.2.1 = some (tyX5 k) := by decide +kernel
def RX6 : String := "PommelModel"
def TX6 : u_T := fun k => match k with
  | _ => ("", "", "", false)
def tyX6 : Nat → FieldType := fun k => match k with
  | _ => .int
abbrev wsX60 : List Cond := u_ws RX6 TX6 0
theorem nmX6 : ∀ a, a < 0 → ∀ b, b < 0 → a ≠ b → (TX6 a).2.1 ≠ (TX6 b).2.1 := by decide +kernel
theorem tyX6_ok : ∀ k, k < 0 → parseFieldDescriptor (TX6 k).2.2.1 = some (tyX6 k) := by decide +kernel
def RJx145de : String := "java/io/Serializable"
def TJx145de : u_T := fun k => match k with
  | _ => ("", "", "", false)
def tyJx145de : Nat → FieldType := fun k => match k with
  | _ => .int
abbrev wsJx145de0 : List Cond := u_ws RJx145de TJx145de 0
theorem nmJx145de : ∀ a, a < 0 → ∀ b, b < 0 → a ≠ b → (TJx145de a).2.1 ≠ (TJx145de b).2.1 := by decide +kernel
theorem tyJx145de_ok : ∀ k, k < 0 → parseFieldDescriptor (TJx145de k).2.2.1 = some (tyJx145de k) := by decide +kernel
def RJx8e188 : String := "java/lang/Cloneable"
def TJx8e188 : u_T := fun k => match k with
  | _ => ("", "", "", false)
def tyJx8e188 : Nat → FieldType := fun k => match k with
  | _ => .int
abbrev wsJx8e1880 : List Cond := u_ws RJx8e188 TJx8e188 0
theorem nmJx8e188 : ∀ a, a < 0 → ∀ b, b < 0 → a ≠ b → (TJx8e188 a).2.1 ≠ (TJx8e188 b).2.1 := by decide +kernel
theorem tyJx8e188_ok : ∀ k, k < 0 → parseFieldDescriptor (TJx8e188 k).2.2.1 = some (tyJx8e188 k) := by decide +kernel
def RJxab1ab : String := "java/lang/Iterable"
def TJxab1ab : u_T := fun k => match k with
  | _ => ("", "", "", false)
def tyJxab1ab : Nat → FieldType := fun k => match k with
  | _ => .int
abbrev wsJxab1ab0 : List Cond := u_ws RJxab1ab TJxab1ab 0
theorem nmJxab1ab : ∀ a, a < 0 → ∀ b, b < 0 → a ≠ b → (TJxab1ab a).2.1 ≠ (TJxab1ab b).2.1 := by decide +kernel
theorem tyJxab1ab_ok : ∀ k, k < 0 → parseFieldDescriptor (TJxab1ab k).2.2.1 = some (tyJxab1ab k) := by decide +kernel
def RJ9 : String := "java/lang/Math"
def TJ9 : u_T := fun k => match k with
  | _ => ("", "", "", false)
def tyJ9 : Nat → FieldType := fun k => match k with
  | _ => .int
abbrev wsJ90 : List Cond := u_ws RJ9 TJ9 0
theorem nmJ9 : ∀ a, a < 0 → ∀ b, b < 0 → a ≠ b → (TJ9 a).2.1 ≠ (TJ9 b).2.1 := by decide +kernel
theorem tyJ9_ok : ∀ k, k < 0 → parseFieldDescriptor (TJ9 k).2.2.1 = some (tyJ9 k) := by decide +kernel
abbrev cJ9_max_7cf53 : ByteArray := prog_16_method_65_code
def yJ9_max_7cf53 : MethodName := ⟨RJ9, "max", "(II)I"⟩
abbrev cJ9_min_7cf53 : ByteArray := prog_16_method_69_code
def yJ9_min_7cf53 : MethodName := ⟨RJ9, "min", "(II)I"⟩
def RJ0 : String := "java/lang/String"
def TJ0 : u_T := fun k => match k with
  | _ => ("", "", "", false)
def tyJ0 : Nat → FieldType := fun k => match k with
  | _ => .int
abbrev wsJ00 : List Cond := u_ws RJ0 TJ0 0
theorem nmJ0 : ∀ a, a < 0 → ∀ b, b < 0 → a ≠ b → (TJ0 a).2.1 ≠ (TJ0 b).2.1 := by decide +kernel
theorem tyJ0_ok : ∀ k, k < 0 → parseFieldDescriptor (TJ0 k).2.2.1 = some (tyJ0 k) := by decide +kernel
def RJ10 : String := "java/lang/System"
def TJ10 : u_T := fun k => match k with
  | _ => ("", "", "", false)
def tyJ10 : Nat → FieldType := fun k => match k with
  | _ => .int
abbrev wsJ100 : List Cond := u_ws RJ10 TJ10 0
theorem nmJ10 : ∀ a, a < 0 → ∀ b, b < 0 → a ≠ b → (TJ10 a).2.1 ≠ (TJ10 b).2.1 := by decide +kernel
theorem tyJ10_ok : ∀ k, k < 0 → parseFieldDescriptor (TJ10 k).2.2.1 = some (tyJ10 k) := by decide +kernel
def RJxa1e45 : String := "java/util/AbstractCollection"
def TJxa1e45 : u_T := fun k => match k with
  | _ => ("", "", "", false)
def tyJxa1e45 : Nat → FieldType := fun k => match k with
  | _ => .int
abbrev wsJxa1e450 : List Cond := u_ws RJxa1e45 TJxa1e45 0
theorem nmJxa1e45 : ∀ a, a < 0 → ∀ b, b < 0 → a ≠ b → (TJxa1e45 a).2.1 ≠ (TJxa1e45 b).2.1 := by decide +kernel
theorem tyJxa1e45_ok : ∀ k, k < 0 → parseFieldDescriptor (TJxa1e45 k).2.2.1 = some (tyJxa1e45 k) := by decide +kernel
abbrev cJxa1e45_init_da8c8 : ByteArray := prog_21_method_1_code
def yJxa1e45_init_da8c8 : MethodName := ⟨RJxa1e45, "<init>", "()V"⟩
def RJxc12de : String := "java/util/AbstractList"
def TJxc12de : u_T := fun k => match k with
  | _ => ("", "", "", false)
def tyJxc12de : Nat → FieldType := fun k => match k with
  | _ => .int
abbrev wsJxc12de0 : List Cond := u_ws RJxc12de TJxc12de 0
theorem nmJxc12de : ∀ a, a < 0 → ∀ b, b < 0 → a ≠ b → (TJxc12de a).2.1 ≠ (TJxc12de b).2.1 := by decide +kernel
theorem tyJxc12de_ok : ∀ k, k < 0 → parseFieldDescriptor (TJxc12de k).2.2.1 = some (tyJxc12de k) := by decide +kernel
abbrev cJxc12de_init_da8c8 : ByteArray := prog_22_method_1_code
def yJxc12de_init_da8c8 : MethodName := ⟨RJxc12de, "<init>", "()V"⟩
def RJx4a65c : String := "java/util/ArrayList"
def TJx4a65c : u_T := fun k => match k with
  | 0 => ("java/util/AbstractList", "modCount", "I", false)
  | 1 => ("java/util/ArrayList", "elementData", "[Ljava/lang/Object;", false)
  | _ => ("java/util/ArrayList", "size", "I", false)
def tyJx4a65c : Nat → FieldType := fun k => match k with
  | 0 => .int
  | 1 => .array (.object "java/lang/Object")
  | _ => .int
abbrev wsJx4a65c0 : List Cond := u_ws RJx4a65c TJx4a65c 3
theorem nmJx4a65c : ∀ a, a < 3 → ∀ b, b < 3 → a ≠ b → (TJx4a65c a).2.1 ≠ (TJx4a65c b).2.1 := by decide +kernel
theorem tyJx4a65c_ok : ∀ k, k < 3 → parseFieldDescriptor (TJx4a65c k).2.2.1 = some (tyJx4a65c k) := by decide +kernel
abbrev cJx4a65c_init_da8c8 : ByteArray := prog_23_method_2_code
def yJx4a65c_init_da8c8 : MethodName := ⟨RJx4a65c, "<init>", "()V"⟩
abbrev cJx4a65c_grow_92f84 : ByteArray := prog_23_method_6_code
def yJx4a65c_grow_92f84 : MethodName := ⟨RJx4a65c, "grow", "(I)[Ljava/lang/Object;"⟩
abbrev cJx4a65c_grow_d5877 : ByteArray := prog_23_method_7_code
def yJx4a65c_grow_d5877 : MethodName := ⟨RJx4a65c, "grow", "()[Ljava/lang/Object;"⟩
abbrev cJx4a65c_size_8abf5 : ByteArray := prog_23_method_8_code
def yJx4a65c_size_8abf5 : MethodName := ⟨RJx4a65c, "size", "()I"⟩
abbrev cJx4a65c_elementData_915e3 : ByteArray := prog_23_method_18_code
def yJx4a65c_elementData_915e3 : MethodName := ⟨RJx4a65c, "elementData", "(I)Ljava/lang/Object;"⟩
abbrev cJx4a65c_get_915e3 : ByteArray := prog_23_method_20_code
def yJx4a65c_get_915e3 : MethodName := ⟨RJx4a65c, "get", "(I)Ljava/lang/Object;"⟩
abbrev cJx4a65c_add_72be8 : ByteArray := prog_23_method_24_code
def yJx4a65c_add_72be8 : MethodName := ⟨RJx4a65c, "add", "(Ljava/lang/Object;[Ljava/lang/Object;I)V"⟩
abbrev cJx4a65c_add_9ea2d : ByteArray := prog_23_method_25_code
def yJx4a65c_add_9ea2d : MethodName := ⟨RJx4a65c, "add", "(Ljava/lang/Object;)Z"⟩
def RJ7 : String := "java/util/Arrays"
def TJ7 : u_T := fun k => match k with
  | _ => ("", "", "", false)
def tyJ7 : Nat → FieldType := fun k => match k with
  | _ => .int
abbrev wsJ70 : List Cond := u_ws RJ7 TJ7 0
theorem nmJ7 : ∀ a, a < 0 → ∀ b, b < 0 → a ≠ b → (TJ7 a).2.1 ≠ (TJ7 b).2.1 := by decide +kernel
theorem tyJ7_ok : ∀ k, k < 0 → parseFieldDescriptor (TJ7 k).2.2.1 = some (tyJ7 k) := by decide +kernel
abbrev cJ7_copyOf_1904c : ByteArray := prog_24_method_119_code
def yJ7_copyOf_1904c : MethodName := ⟨RJ7, "copyOf", "([Ljava/lang/Object;I)[Ljava/lang/Object;"⟩
abbrev cJ7_copyOf_6403c : ByteArray := prog_24_method_120_code
def yJ7_copyOf_6403c : MethodName := ⟨RJ7, "copyOf", "([Ljava/lang/Object;ILjava/lang/Class;)[Ljava/lang/Object;"⟩
def RJx5ef63 : String := "java/util/Collection"
def TJx5ef63 : u_T := fun k => match k with
  | _ => ("", "", "", false)
def tyJx5ef63 : Nat → FieldType := fun k => match k with
  | _ => .int
abbrev wsJx5ef630 : List Cond := u_ws RJx5ef63 TJx5ef63 0
theorem nmJx5ef63 : ∀ a, a < 0 → ∀ b, b < 0 → a ≠ b → (TJx5ef63 a).2.1 ≠ (TJx5ef63 b).2.1 := by decide +kernel
theorem tyJx5ef63_ok : ∀ k, k < 0 → parseFieldDescriptor (TJx5ef63 k).2.2.1 = some (tyJx5ef63 k) := by decide +kernel
def RJxbd725 : String := "java/util/List"
def TJxbd725 : u_T := fun k => match k with
  | _ => ("", "", "", false)
def tyJxbd725 : Nat → FieldType := fun k => match k with
  | _ => .int
abbrev wsJxbd7250 : List Cond := u_ws RJxbd725 TJxbd725 0
theorem nmJxbd725 : ∀ a, a < 0 → ∀ b, b < 0 → a ≠ b → (TJxbd725 a).2.1 ≠ (TJxbd725 b).2.1 := by decide +kernel
theorem tyJxbd725_ok : ∀ k, k < 0 → parseFieldDescriptor (TJxbd725 k).2.2.1 = some (tyJxbd725 k) := by decide +kernel
def RJ15 : String := "java/util/Objects"
def TJ15 : u_T := fun k => match k with
  | _ => ("", "", "", false)
def tyJ15 : Nat → FieldType := fun k => match k with
  | _ => .int
abbrev wsJ150 : List Cond := u_ws RJ15 TJ15 0
theorem nmJ15 : ∀ a, a < 0 → ∀ b, b < 0 → a ≠ b → (TJ15 a).2.1 ≠ (TJ15 b).2.1 := by decide +kernel
theorem tyJ15_ok : ∀ k, k < 0 → parseFieldDescriptor (TJ15 k).2.2.1 = some (tyJ15 k) := by decide +kernel
abbrev cJ15_checkIndex_7cf53 : ByteArray := prog_27_method_17_code
def yJ15_checkIndex_7cf53 : MethodName := ⟨RJ15, "checkIndex", "(II)I"⟩
def RJxf0a74 : String := "java/util/RandomAccess"
def TJxf0a74 : u_T := fun k => match k with
  | _ => ("", "", "", false)
def tyJxf0a74 : Nat → FieldType := fun k => match k with
  | _ => .int
abbrev wsJxf0a740 : List Cond := u_ws RJxf0a74 TJxf0a74 0
theorem nmJxf0a74 : ∀ a, a < 0 → ∀ b, b < 0 → a ≠ b → (TJxf0a74 a).2.1 ≠ (TJxf0a74 b).2.1 := by decide +kernel
theorem tyJxf0a74_ok : ∀ k, k < 0 → parseFieldDescriptor (TJxf0a74 k).2.2.1 = some (tyJxf0a74 k) := by decide +kernel
def RJxa66e6 : String := "java/util/SequencedCollection"
def TJxa66e6 : u_T := fun k => match k with
  | _ => ("", "", "", false)
def tyJxa66e6 : Nat → FieldType := fun k => match k with
  | _ => .int
abbrev wsJxa66e60 : List Cond := u_ws RJxa66e6 TJxa66e6 0
theorem nmJxa66e6 : ∀ a, a < 0 → ∀ b, b < 0 → a ≠ b → (TJxa66e6 a).2.1 ≠ (TJxa66e6 b).2.1 := by decide +kernel
theorem tyJxa66e6_ok : ∀ k, k < 0 → parseFieldDescriptor (TJxa66e6 k).2.2.1 = some (tyJxa66e6 k) := by decide +kernel
def RJ8 : String := "jdk/internal/util/ArraysSupport"
def TJ8 : u_T := fun k => match k with
  | _ => ("", "", "", false)
def tyJ8 : Nat → FieldType := fun k => match k with
  | _ => .int
abbrev wsJ80 : List Cond := u_ws RJ8 TJ8 0
theorem nmJ8 : ∀ a, a < 0 → ∀ b, b < 0 → a ≠ b → (TJ8 a).2.1 ≠ (TJ8 b).2.1 := by decide +kernel
theorem tyJ8_ok : ∀ k, k < 0 → parseFieldDescriptor (TJ8 k).2.2.1 = some (tyJ8 k) := by decide +kernel
abbrev cJ8_newLength_cabcc : ByteArray := prog_30_method_27_code
def yJ8_newLength_cabcc : MethodName := ⟨RJ8, "newLength", "(III)I"⟩
abbrev cJ8_hugeLength_7cf53 : ByteArray := prog_30_method_28_code
def yJ8_hugeLength_7cf53 : MethodName := ⟨RJ8, "hugeLength", "(II)I"⟩
def RJ3 : String := "jdk/internal/util/Preconditions"
def TJ3 : u_T := fun k => match k with
  | _ => ("", "", "", false)
def tyJ3 : Nat → FieldType := fun k => match k with
  | _ => .int
abbrev wsJ30 : List Cond := u_ws RJ3 TJ3 0
theorem nmJ3 : ∀ a, a < 0 → ∀ b, b < 0 → a ≠ b → (TJ3 a).2.1 ≠ (TJ3 b).2.1 := by decide +kernel
theorem tyJ3_ok : ∀ k, k < 0 → parseFieldDescriptor (TJ3 k).2.2.1 = some (tyJ3 k) := by decide +kernel
abbrev cJ3_checkIndex_8e157 : ByteArray := prog_31_method_11_code
def yJ3_checkIndex_8e157 : MethodName := ⟨RJ3, "checkIndex", "(IILjava/util/function/BiFunction;)I"⟩
def RL : String := "PommelLaw"
abbrev cL_below : ByteArray := method_2_code
def yL_below : MethodName := ⟨RL, "below", "(II)I"⟩
abbrev cL_cell : ByteArray := method_3_code
def yL_cell : MethodName := ⟨RL, "cell", "([II)I"⟩
abbrev cL_law : ByteArray := code
def yL_law : MethodName := ⟨RL, "law", "([I)Z"⟩
abbrev cL_live : ByteArray := method_5_code
def yL_live : MethodName := ⟨RL, "live", "(LPommel;I)I"⟩
abbrev cL_isFair : ByteArray := method_6_code
def yL_isFair : MethodName := ⟨RL, "isFair", "(LPommel;II)Z"⟩
def wsX2_init : List Cond := .code yX2_init cX2_init 1 none :: ([.methodLink RX2 3 objectInit, .instanceMethod objectInit, .code objectInit ⟨#[0xb1]⟩ 1 none])
def wsX0_init : List Cond := .code yX0_init cX0_init 5 none :: ([.methodLink RX0 3 objectInit, .instanceMethod objectInit, .code objectInit ⟨#[0xb1]⟩ 1 none, .classLink RX0 9 RX2, .instantiable RX2 3, .initialized RX2, .fieldLink RX0 12 "Pommel$Bout" "left" "LPommel$Side;", .fieldLink RX0 18 "Pommel$Bout" "right" "LPommel$Side;", .fieldLink RX0 21 "Pommel$Bout" "state" "I", .fieldLink RX0 25 "Pommel$Bout" "piste" "I", .fieldLink RX0 28 "Pommel$Bout" "number" "I", .fieldLink RX0 31 "Pommel$Bout" "round" "I", .fieldLink RX0 34 "Pommel$Side" "fencer" "LPommel$Fencer;", .instanceMethod yX2_init, .code yX2_init cX2_init 1 none, .methodLink RX2 3 objectInit] ++ wsX20 ++ wsX00)
def wsX0_isOfTable : List Cond := .code yX0_isOfTable cX0_isOfTable 1 (some .boolean) :: ([.fieldLink RX0 31 "Pommel$Bout" "round" "I"] ++ wsX00)
def wsX0_goal : List Cond := .code yX0_goal cX0_goal 1 (some .int) :: ([.methodLink RX0 38 yX0_isOfTable, .instanceMethod yX0_isOfTable, .selects RX0 yX0_isOfTable yX0_isOfTable, .initialized RX0, .code yX0_isOfTable cX0_isOfTable 1 (some .boolean), .fieldLink RX0 31 "Pommel$Bout" "round" "I"] ++ wsX00)
def wsX0_periods : List Cond := .code yX0_periods cX0_periods 1 (some .int) :: ([.methodLink RX0 38 yX0_isOfTable, .instanceMethod yX0_isOfTable, .selects RX0 yX0_isOfTable yX0_isOfTable, .initialized RX0, .code yX0_isOfTable cX0_isOfTable 1 (some .boolean), .fieldLink RX0 31 "Pommel$Bout" "round" "I"] ++ wsX00)
def wsX0_sideOf : List Cond := .code yX0_sideOf cX0_sideOf 2 (some (.object "Pommel$Side")) :: ([.fieldLink RX0 12 "Pommel$Bout" "left" "LPommel$Side;", .fieldLink RX0 18 "Pommel$Bout" "right" "LPommel$Side;"] ++ wsX00)
def wsX0_isKnown : List Cond := .code yX0_isKnown cX0_isKnown 1 (some .boolean) :: ([.fieldLink RX0 12 "Pommel$Bout" "left" "LPommel$Side;", .fieldLink RX0 34 "Pommel$Side" "fencer" "LPommel$Fencer;", .fieldLink RX0 18 "Pommel$Bout" "right" "LPommel$Side;"] ++ wsX00 ++ wsX20)
def wsX0_isInExtra : List Cond := .code yX0_isInExtra cX0_isInExtra 1 (some .boolean) :: ([.fieldLink RX0 42 "Pommel$Bout" "period" "I", .methodLink RX0 45 yX0_periods, .instanceMethod yX0_periods, .selects RX0 yX0_periods yX0_periods, .initialized RX0, .code yX0_periods cX0_periods 1 (some .int), .methodLink RX0 38 yX0_isOfTable, .instanceMethod yX0_isOfTable, .selects RX0 yX0_isOfTable yX0_isOfTable, .code yX0_isOfTable cX0_isOfTable 1 (some .boolean), .fieldLink RX0 31 "Pommel$Bout" "round" "I"] ++ wsX00)
def wsX2_restedAt : List Cond := .code yX2_restedAt cX2_restedAt 1 (some .int) :: ([.fieldLink RX2 9 "Pommel$Side" "fencer" "LPommel$Fencer;", .fieldLink RX2 21 "Pommel$Fencer" "restedAt" "I"] ++ wsX20 ++ wsX10)
def wsX0_restedAt : List Cond := .code yX0_restedAt cX0_restedAt 1 (some .int) :: ([.fieldLink RX0 12 "Pommel$Bout" "left" "LPommel$Side;", .fieldLink RX0 18 "Pommel$Bout" "right" "LPommel$Side;", .methodLink RX0 52 Lib.Math.max.name, .static Lib.Math.max.name, .initialized "java/lang/Math", .code Lib.Math.max.name Lib.Math.max.code 2 (some .int), .methodLink RX0 49 yX2_restedAt, .instanceMethod yX2_restedAt, .selects RX2 yX2_restedAt yX2_restedAt, .initialized RX2, .code yX2_restedAt cX2_restedAt 1 (some .int), .fieldLink RX2 9 "Pommel$Side" "fencer" "LPommel$Fencer;", .fieldLink RX2 21 "Pommel$Fencer" "restedAt" "I"] ++ wsX00 ++ wsX20 ++ wsX10)
def wsX0_withPriority : List Cond := .code yX0_withPriority cX0_withPriority 1 (some (.object "Pommel$Side")) :: ([.fieldLink RX0 28 "Pommel$Bout" "number" "I", .fieldLink RX0 12 "Pommel$Bout" "left" "LPommel$Side;", .fieldLink RX0 58 "Pommel$Side" "score" "I", .fieldLink RX0 18 "Pommel$Bout" "right" "LPommel$Side;"] ++ wsX00 ++ wsX20)
def wsX0_winnerAsItStands : List Cond := .code yX0_winnerAsItStands cX0_winnerAsItStands 1 (some (.object "Pommel$Fencer")) :: ([.fieldLink RX0 12 "Pommel$Bout" "left" "LPommel$Side;", .fieldLink RX0 58 "Pommel$Side" "score" "I", .fieldLink RX0 18 "Pommel$Bout" "right" "LPommel$Side;", .fieldLink RX0 34 "Pommel$Side" "fencer" "LPommel$Fencer;", .methodLink RX0 61 yX0_withPriority, .instanceMethod yX0_withPriority, .selects RX0 yX0_withPriority yX0_withPriority, .initialized RX0, .code yX0_withPriority cX0_withPriority 1 (some (.object "Pommel$Side")), .fieldLink RX0 28 "Pommel$Bout" "number" "I"] ++ wsX00 ++ wsX20)
def wsX0_countsForBoth : List Cond := .code yX0_countsForBoth cX0_countsForBoth 1 (some .boolean) :: ([.fieldLink RX0 12 "Pommel$Bout" "left" "LPommel$Side;", .fieldLink RX0 58 "Pommel$Side" "score" "I", .fieldLink RX0 18 "Pommel$Bout" "right" "LPommel$Side;", .methodLink RX0 65 yX0_isInExtra, .instanceMethod yX0_isInExtra, .selects RX0 yX0_isInExtra yX0_isInExtra, .initialized RX0, .code yX0_isInExtra cX0_isInExtra 1 (some .boolean), .fieldLink RX0 42 "Pommel$Bout" "period" "I", .methodLink RX0 45 yX0_periods, .instanceMethod yX0_periods, .selects RX0 yX0_periods yX0_periods, .code yX0_periods cX0_periods 1 (some .int), .methodLink RX0 38 yX0_isOfTable, .instanceMethod yX0_isOfTable, .selects RX0 yX0_isOfTable yX0_isOfTable, .code yX0_isOfTable cX0_isOfTable 1 (some .boolean), .fieldLink RX0 31 "Pommel$Bout" "round" "I", .methodLink RX0 68 yX0_goal, .instanceMethod yX0_goal, .selects RX0 yX0_goal yX0_goal, .code yX0_goal cX0_goal 1 (some .int)] ++ wsX00 ++ wsX20)
def wsX0_isDecidedByHit : List Cond := .code yX0_isDecidedByHit cX0_isDecidedByHit 1 (some .boolean) :: ([.fieldLink RX0 12 "Pommel$Bout" "left" "LPommel$Side;", .fieldLink RX0 58 "Pommel$Side" "score" "I", .fieldLink RX0 18 "Pommel$Bout" "right" "LPommel$Side;", .methodLink RX0 65 yX0_isInExtra, .instanceMethod yX0_isInExtra, .selects RX0 yX0_isInExtra yX0_isInExtra, .initialized RX0, .code yX0_isInExtra cX0_isInExtra 1 (some .boolean), .fieldLink RX0 42 "Pommel$Bout" "period" "I", .methodLink RX0 45 yX0_periods, .instanceMethod yX0_periods, .selects RX0 yX0_periods yX0_periods, .code yX0_periods cX0_periods 1 (some .int), .methodLink RX0 38 yX0_isOfTable, .instanceMethod yX0_isOfTable, .selects RX0 yX0_isOfTable yX0_isOfTable, .code yX0_isOfTable cX0_isOfTable 1 (some .boolean), .fieldLink RX0 31 "Pommel$Bout" "round" "I", .methodLink RX0 68 yX0_goal, .instanceMethod yX0_goal, .selects RX0 yX0_goal yX0_goal, .code yX0_goal cX0_goal 1 (some .int)] ++ wsX00 ++ wsX20)
def wsX0_secondsUntilOver : List Cond := .code yX0_secondsUntilOver cX0_secondsUntilOver 2 (some .int) :: ([.fieldLink RX0 71 "Pommel$Bout" "secondsLeft" "I", .fieldLink RX0 42 "Pommel$Bout" "period" "I", .fieldLink RX0 12 "Pommel$Bout" "left" "LPommel$Side;", .fieldLink RX0 58 "Pommel$Side" "score" "I", .fieldLink RX0 18 "Pommel$Bout" "right" "LPommel$Side;", .methodLink RX0 65 yX0_isInExtra, .instanceMethod yX0_isInExtra, .selects RX0 yX0_isInExtra yX0_isInExtra, .initialized RX0, .code yX0_isInExtra cX0_isInExtra 1 (some .boolean), .methodLink RX0 45 yX0_periods, .instanceMethod yX0_periods, .selects RX0 yX0_periods yX0_periods, .code yX0_periods cX0_periods 1 (some .int), .methodLink RX0 38 yX0_isOfTable, .instanceMethod yX0_isOfTable, .selects RX0 yX0_isOfTable yX0_isOfTable, .code yX0_isOfTable cX0_isOfTable 1 (some .boolean), .fieldLink RX0 31 "Pommel$Bout" "round" "I"] ++ wsX00 ++ wsX20)
def wsX2_begin : List Cond := .code yX2_begin cX2_begin 2 none :: ([.fieldLink RX2 9 "Pommel$Side" "fencer" "LPommel$Fencer;", .fieldLink RX2 15 "Pommel$Fencer" "liveBout" "LPommel$Bout;"] ++ wsX20 ++ wsX10)
def wsX0_begin : List Cond := .code yX0_begin cX0_begin 2 none :: ([.fieldLink RX0 21 "Pommel$Bout" "state" "I", .fieldLink RX0 25 "Pommel$Bout" "piste" "I", .fieldLink RX0 42 "Pommel$Bout" "period" "I", .fieldLink RX0 71 "Pommel$Bout" "secondsLeft" "I", .fieldLink RX0 12 "Pommel$Bout" "left" "LPommel$Side;", .fieldLink RX0 18 "Pommel$Bout" "right" "LPommel$Side;", .methodLink RX0 74 yX2_begin, .instanceMethod yX2_begin, .selects RX2 yX2_begin yX2_begin, .initialized RX2, .code yX2_begin cX2_begin 2 none, .fieldLink RX2 9 "Pommel$Side" "fencer" "LPommel$Fencer;", .fieldLink RX2 15 "Pommel$Fencer" "liveBout" "LPommel$Bout;"] ++ wsX00 ++ wsX20 ++ wsX10)
def wsX0_goOn : List Cond := .code yX0_goOn cX0_goOn 3 none :: ([.fieldLink RX0 71 "Pommel$Bout" "secondsLeft" "I", .fieldLink RX0 42 "Pommel$Bout" "period" "I", .methodLink RX0 45 yX0_periods, .instanceMethod yX0_periods, .selects RX0 yX0_periods yX0_periods, .initialized RX0, .code yX0_periods cX0_periods 1 (some .int), .methodLink RX0 38 yX0_isOfTable, .instanceMethod yX0_isOfTable, .selects RX0 yX0_isOfTable yX0_isOfTable, .code yX0_isOfTable cX0_isOfTable 1 (some .boolean), .fieldLink RX0 31 "Pommel$Bout" "round" "I", .methodLink RX0 65 yX0_isInExtra, .instanceMethod yX0_isInExtra, .selects RX0 yX0_isInExtra yX0_isInExtra, .code yX0_isInExtra cX0_isInExtra 1 (some .boolean)] ++ wsX00)
def wsX2_end : List Cond := .code yX2_end cX2_end 2 none :: ([.fieldLink RX2 9 "Pommel$Side" "fencer" "LPommel$Fencer;", .fieldLink RX2 15 "Pommel$Fencer" "liveBout" "LPommel$Bout;", .fieldLink RX2 21 "Pommel$Fencer" "restedAt" "I"] ++ wsX20 ++ wsX10)
def wsX0_end : List Cond := .code yX0_end cX0_end 2 none :: ([.fieldLink RX0 25 "Pommel$Bout" "piste" "I", .fieldLink RX0 42 "Pommel$Bout" "period" "I", .fieldLink RX0 71 "Pommel$Bout" "secondsLeft" "I", .fieldLink RX0 12 "Pommel$Bout" "left" "LPommel$Side;", .fieldLink RX0 18 "Pommel$Bout" "right" "LPommel$Side;", .methodLink RX0 78 yX2_end, .instanceMethod yX2_end, .selects RX2 yX2_end yX2_end, .initialized RX2, .code yX2_end cX2_end 2 none, .fieldLink RX2 9 "Pommel$Side" "fencer" "LPommel$Fencer;", .fieldLink RX2 15 "Pommel$Fencer" "liveBout" "LPommel$Bout;", .fieldLink RX2 21 "Pommel$Fencer" "restedAt" "I"] ++ wsX00 ++ wsX20 ++ wsX10)
def wsX1_count : List Cond := .code yX1_count cX1_count 5 none :: ([.fieldLink RX1 33 "Pommel$Fencer" "met" "I", .fieldLink RX1 36 "Pommel$Fencer" "won" "I", .fieldLink RX1 39 "Pommel$Fencer" "given" "I", .fieldLink RX1 42 "Pommel$Fencer" "taken" "I"] ++ wsX10)
def wsX2_count : List Cond := .code yX2_count cX2_count 5 none :: ([.fieldLink RX2 9 "Pommel$Side" "fencer" "LPommel$Fencer;", .methodLink RX2 25 yX1_count, .instanceMethod yX1_count, .selects RX1 yX1_count yX1_count, .initialized RX1, .code yX1_count cX1_count 5 none, .fieldLink RX1 33 "Pommel$Fencer" "met" "I", .fieldLink RX1 36 "Pommel$Fencer" "won" "I", .fieldLink RX1 39 "Pommel$Fencer" "given" "I", .fieldLink RX1 42 "Pommel$Fencer" "taken" "I"] ++ wsX20 ++ wsX10)
def wsX0_count : List Cond := .code yX0_count cX0_count 5 none :: ([.fieldLink RX0 12 "Pommel$Bout" "left" "LPommel$Side;", .fieldLink RX0 18 "Pommel$Bout" "right" "LPommel$Side;", .methodLink RX0 82 yX2_count, .instanceMethod yX2_count, .selects RX2 yX2_count yX2_count, .initialized RX2, .code yX2_count cX2_count 5 none, .fieldLink RX2 9 "Pommel$Side" "fencer" "LPommel$Fencer;", .methodLink RX2 25 yX1_count, .instanceMethod yX1_count, .selects RX1 yX1_count yX1_count, .initialized RX1, .code yX1_count cX1_count 5 none, .fieldLink RX1 33 "Pommel$Fencer" "met" "I", .fieldLink RX1 36 "Pommel$Fencer" "won" "I", .fieldLink RX1 39 "Pommel$Fencer" "given" "I", .fieldLink RX1 42 "Pommel$Fencer" "taken" "I"] ++ wsX00 ++ wsX20 ++ wsX10)
def wsX1_init : List Cond := .code yX1_init cX1_init 4 none :: ([.methodLink RX1 3 objectInit, .instanceMethod objectInit, .code objectInit ⟨#[0xb1]⟩ 1 none, .fieldLink RX1 9 "Pommel$Fencer" "pool" "I", .fieldLink RX1 15 "Pommel$Fencer" "spot" "I", .fieldLink RX1 18 "Pommel$Fencer" "tableLine" "I", .fieldLink RX1 21 "Pommel$Fencer" "standing" "I", .fieldLink RX1 24 "Pommel$Fencer" "number" "I", .fieldLink RX1 27 "Pommel$Fencer" "rank" "I", .fieldLink RX1 30 "Pommel$Fencer" "club" "I"] ++ wsX10)
def wsX1_isAheadOf : List Cond := .code yX1_isAheadOf cX1_isAheadOf 4 (some .boolean) :: ([.fieldLink RX1 45 "Pommel$Fencer" "out" "Z", .fieldLink RX1 36 "Pommel$Fencer" "won" "I", .fieldLink RX1 33 "Pommel$Fencer" "met" "I", .methodLink RX1 49 Lib.Math.max.name, .static Lib.Math.max.name, .initialized "java/lang/Math", .code Lib.Math.max.name Lib.Math.max.code 2 (some .int), .fieldLink RX1 39 "Pommel$Fencer" "given" "I", .fieldLink RX1 42 "Pommel$Fencer" "taken" "I", .fieldLink RX1 27 "Pommel$Fencer" "rank" "I", .fieldLink RX1 24 "Pommel$Fencer" "number" "I"] ++ wsX10)
def wsX1_isPlacedAheadOf : List Cond := .code yX1_isPlacedAheadOf cX1_isPlacedAheadOf 2 (some .boolean) :: ([.fieldLink RX1 45 "Pommel$Fencer" "out" "Z", .fieldLink RX1 21 "Pommel$Fencer" "standing" "I", .methodLink RX1 55 yX1_isAheadOf, .instanceMethod yX1_isAheadOf, .selects RX1 yX1_isAheadOf yX1_isAheadOf, .initialized RX1, .code yX1_isAheadOf cX1_isAheadOf 4 (some .boolean), .fieldLink RX1 36 "Pommel$Fencer" "won" "I", .fieldLink RX1 33 "Pommel$Fencer" "met" "I", .methodLink RX1 49 Lib.Math.max.name, .static Lib.Math.max.name, .initialized "java/lang/Math", .code Lib.Math.max.name Lib.Math.max.code 2 (some .int), .fieldLink RX1 39 "Pommel$Fencer" "given" "I", .fieldLink RX1 42 "Pommel$Fencer" "taken" "I", .fieldLink RX1 27 "Pommel$Fencer" "rank" "I", .fieldLink RX1 24 "Pommel$Fencer" "number" "I"] ++ wsX10)
def wsX2_isInLiveBout : List Cond := .code yX2_isInLiveBout cX2_isInLiveBout 1 (some .boolean) :: ([.fieldLink RX2 9 "Pommel$Side" "fencer" "LPommel$Fencer;", .fieldLink RX2 15 "Pommel$Fencer" "liveBout" "LPommel$Bout;"] ++ wsX20 ++ wsX10)
def wsJxa1e45_init_da8c8 : List Cond := .code yJxa1e45_init_da8c8 cJxa1e45_init_da8c8 1 none :: ([.methodLink RJxa1e45 1 objectInit, .instanceMethod objectInit, .code objectInit ⟨#[0xb1]⟩ 1 none])
def wsJxc12de_init_da8c8 : List Cond := .code yJxc12de_init_da8c8 cJxc12de_init_da8c8 1 none :: ([.fieldLink RJxc12de 7 "java/util/AbstractList" "modCount" "I", .methodLink RJxc12de 1 yJxa1e45_init_da8c8, .instanceMethod yJxa1e45_init_da8c8, .initialized RJxa1e45, .code yJxa1e45_init_da8c8 cJxa1e45_init_da8c8 1 none, .methodLink RJxa1e45 1 objectInit, .instanceMethod objectInit, .code objectInit ⟨#[0xb1]⟩ 1 none] ++ wsJx4a65c0)
def wsJx4a65c_init_da8c8 : List Cond := .code yJx4a65c_init_da8c8 cJx4a65c_init_da8c8 1 none :: ([.fieldLink RJx4a65c 39 "java/util/ArrayList" "DEFAULTCAPACITY_EMPTY_ELEMENTDATA" "[Ljava/lang/Object;", .fieldLink RJx4a65c 9 "java/util/ArrayList" "elementData" "[Ljava/lang/Object;", .methodLink RJx4a65c 1 yJxc12de_init_da8c8, .instanceMethod yJxc12de_init_da8c8, .initialized RJxc12de, .code yJxc12de_init_da8c8 cJxc12de_init_da8c8 1 none, .fieldLink RJxc12de 7 "java/util/AbstractList" "modCount" "I", .methodLink RJxc12de 1 yJxa1e45_init_da8c8, .instanceMethod yJxa1e45_init_da8c8, .initialized RJxa1e45, .code yJxa1e45_init_da8c8 cJxa1e45_init_da8c8 1 none, .methodLink RJxa1e45 1 objectInit, .instanceMethod objectInit, .code objectInit ⟨#[0xb1]⟩ 1 none] ++ wsJx4a65c0)
def wsX3_init_r1 : List Cond := [Cond.methodLink RX3 3 objectInit, Cond.instanceMethod objectInit, Cond.code objectInit ⟨#[0xb1]⟩ 1 none, Cond.classLink RX3 9 RJx4a65c, Cond.instantiable RJx4a65c 3, Cond.initialized RJx4a65c, Cond.fieldLink RX3 12 "Pommel" "fencers" "Ljava/util/ArrayList;", Cond.fieldLink RX3 16 "Pommel" "bouts" "Ljava/util/ArrayList;", Cond.classLink RX3 19 RX0, Cond.fieldLink RX3 21 "Pommel" "pistes" "[LPommel$Bout;", Cond.arrayClass .int, Cond.fieldLink RX3 25 "Pommel" "poolSizes" "[I", Cond.classLink RX3 29 RX1, Cond.fieldLink RX3 31 "Pommel" "seeded" "[LPommel$Fencer;", Cond.fieldLink RX3 35 "Pommel" "seedsOfLines" "[I", Cond.methodLink RX3 11 yJx4a65c_init_da8c8, Cond.instanceMethod yJx4a65c_init_da8c8, Cond.code yJx4a65c_init_da8c8 cJx4a65c_init_da8c8 1 none, Cond.fieldLink RJx4a65c 39 "java/util/ArrayList" "DEFAULTCAPACITY_EMPTY_ELEMENTDATA" "[Ljava/lang/Object;", Cond.fieldLink RJx4a65c 9 "java/util/ArrayList" "elementData" "[Ljava/lang/Object;", Cond.methodLink RJx4a65c 1 yJxc12de_init_da8c8, Cond.instanceMethod yJxc12de_init_da8c8, Cond.initialized RJxc12de, Cond.code yJxc12de_init_da8c8 cJxc12de_init_da8c8 1 none]
def wsX3_init_r2 : List Cond := [Cond.fieldLink RJxc12de 7 "java/util/AbstractList" "modCount" "I", Cond.methodLink RJxc12de 1 yJxa1e45_init_da8c8, Cond.instanceMethod yJxa1e45_init_da8c8, Cond.initialized RJxa1e45, Cond.code yJxa1e45_init_da8c8 cJxa1e45_init_da8c8 1 none, Cond.methodLink RJxa1e45 1 objectInit]
def wsX3_init : List Cond := .code yX3_init cX3_init 1 none :: ((wsX3_init_r1 ++ wsX3_init_r2) ++ wsJx4a65c0 ++ wsX30)
def wsX3_isIn : List Cond := .code yX3_isIn cX3_isIn 3 (some .boolean) :: ([])
def wsJx4a65c_size_8abf5 : List Cond := .code yJx4a65c_size_8abf5 cJx4a65c_size_8abf5 1 (some .int) :: ([.fieldLink RJx4a65c 48 "java/util/ArrayList" "size" "I"] ++ wsJx4a65c0)
def wsJ8_hugeLength_7cf53 : List Cond := .code yJ8_hugeLength_7cf53 cJ8_hugeLength_7cf53 3 (some .int) :: ([.constant RJ8 200 (2147483639)])
def wsJ8_newLength_cabcc : List Cond := .code yJ8_newLength_cabcc cJ8_newLength_cabcc 4 (some .int) :: ([.methodLink RJ8 194 Lib.Math.max.name, .static Lib.Math.max.name, .initialized "java/lang/Math", .code Lib.Math.max.name Lib.Math.max.code 2 (some .int), .constant RJ8 200 (2147483639), .methodLink RJ8 201 yJ8_hugeLength_7cf53, .static yJ8_hugeLength_7cf53, .initialized RJ8, .code yJ8_hugeLength_7cf53 cJ8_hugeLength_7cf53 3 (some .int)])
def wsJ7_copyOf_6403c : List Cond := .code yJ7_copyOf_6403c cJ7_copyOf_6403c 4 (some (.array (.object "java/lang/Object"))) :: ([.classLink RJ7 110 "[Ljava/lang/Object;", .classLink RJ7 2 "java/lang/Object", .methodLink RJ7 304 Lib.Math.min.name, .static Lib.Math.min.name, .initialized "java/lang/Math", .code Lib.Math.min.name Lib.Math.min.code 2 (some .int), .methodLink RJ7 150 arraycopyName, .native arraycopyName, .static arraycopyName, .initialized "java/lang/System"])
def wsJ7_copyOf_1904c : List Cond := .code yJ7_copyOf_1904c cJ7_copyOf_1904c 2 (some (.array (.object "java/lang/Object"))) :: ([.methodLink RJ7 86 ⟨"java/lang/Object", "getClass", "()Ljava/lang/Class;"⟩, .selects "[Ljava/lang/Object;" ⟨"java/lang/Object", "getClass", "()Ljava/lang/Class;"⟩ ⟨"java/lang/Object", "getClass", "()Ljava/lang/Class;"⟩, .instanceMethod ⟨"java/lang/Object", "getClass", "()Ljava/lang/Class;"⟩, .native ⟨"java/lang/Object", "getClass", "()Ljava/lang/Class;"⟩, .methodLink RJ7 300 yJ7_copyOf_6403c, .static yJ7_copyOf_6403c, .initialized RJ7, .code yJ7_copyOf_6403c cJ7_copyOf_6403c 4 (some (.array (.object "java/lang/Object"))), .classLink RJ7 110 "[Ljava/lang/Object;", .classLink RJ7 2 "java/lang/Object", .methodLink RJ7 304 Lib.Math.min.name, .static Lib.Math.min.name, .initialized "java/lang/Math", .code Lib.Math.min.name Lib.Math.min.code 2 (some .int), .methodLink RJ7 150 arraycopyName, .native arraycopyName, .static arraycopyName, .initialized "java/lang/System"])
def wsJx4a65c_grow_92f84_r1 : List Cond := [Cond.fieldLink RJx4a65c 9 "java/util/ArrayList" "elementData" "[Ljava/lang/Object;", Cond.fieldLink RJx4a65c 39 "java/util/ArrayList" "DEFAULTCAPACITY_EMPTY_ELEMENTDATA" "[Ljava/lang/Object;", Cond.methodLink RJx4a65c 79 Lib.Math.max.name, Cond.static Lib.Math.max.name, Cond.initialized "java/lang/Math", Cond.code Lib.Math.max.name Lib.Math.max.code 2 (some .int), Cond.classLink RJx4a65c 7 "java/lang/Object", Cond.methodLink RJx4a65c 73 yJ8_newLength_cabcc, Cond.static yJ8_newLength_cabcc, Cond.initialized RJ8, Cond.code yJ8_newLength_cabcc cJ8_newLength_cabcc 4 (some .int), Cond.methodLink RJ8 194 Lib.Math.max.name, Cond.constant RJ8 200 (2147483639), Cond.methodLink RJ8 201 yJ8_hugeLength_7cf53, Cond.static yJ8_hugeLength_7cf53, Cond.code yJ8_hugeLength_7cf53 cJ8_hugeLength_7cf53 3 (some .int), Cond.methodLink RJx4a65c 66 yJ7_copyOf_1904c, Cond.static yJ7_copyOf_1904c, Cond.initialized RJ7, Cond.code yJ7_copyOf_1904c cJ7_copyOf_1904c 2 (some (.array (.object "java/lang/Object"))), Cond.methodLink RJ7 86 ⟨"java/lang/Object", "getClass", "()Ljava/lang/Class;"⟩, Cond.selects "[Ljava/lang/Object;" ⟨"java/lang/Object", "getClass", "()Ljava/lang/Class;"⟩ ⟨"java/lang/Object", "getClass", "()Ljava/lang/Class;"⟩, Cond.instanceMethod ⟨"java/lang/Object", "getClass", "()Ljava/lang/Class;"⟩, Cond.native ⟨"java/lang/Object", "getClass", "()Ljava/lang/Class;"⟩]
def wsJx4a65c_grow_92f84_r2 : List Cond := [Cond.methodLink RJ7 300 yJ7_copyOf_6403c, Cond.static yJ7_copyOf_6403c, Cond.code yJ7_copyOf_6403c cJ7_copyOf_6403c 4 (some (.array (.object "java/lang/Object"))), Cond.classLink RJ7 110 "[Ljava/lang/Object;", Cond.classLink RJ7 2 "java/lang/Object", Cond.methodLink RJ7 304 Lib.Math.min.name, Cond.static Lib.Math.min.name, Cond.code Lib.Math.min.name Lib.Math.min.code 2 (some .int), Cond.methodLink RJ7 150 arraycopyName, Cond.native arraycopyName, Cond.static arraycopyName, Cond.initialized "java/lang/System"]
def wsJx4a65c_grow_92f84 : List Cond := .code yJx4a65c_grow_92f84 cJx4a65c_grow_92f84 4 (some (.array (.object "java/lang/Object"))) :: ((wsJx4a65c_grow_92f84_r1 ++ wsJx4a65c_grow_92f84_r2) ++ wsJx4a65c0)
def wsJx4a65c_grow_d5877_r1 : List Cond := [Cond.fieldLink RJx4a65c 48 "java/util/ArrayList" "size" "I", Cond.methodLink RJx4a65c 69 yJx4a65c_grow_92f84, Cond.instanceMethod yJx4a65c_grow_92f84, Cond.selects RJx4a65c yJx4a65c_grow_92f84 yJx4a65c_grow_92f84, Cond.initialized RJx4a65c, Cond.code yJx4a65c_grow_92f84 cJx4a65c_grow_92f84 4 (some (.array (.object "java/lang/Object"))), Cond.fieldLink RJx4a65c 9 "java/util/ArrayList" "elementData" "[Ljava/lang/Object;", Cond.fieldLink RJx4a65c 39 "java/util/ArrayList" "DEFAULTCAPACITY_EMPTY_ELEMENTDATA" "[Ljava/lang/Object;", Cond.methodLink RJx4a65c 79 Lib.Math.max.name, Cond.static Lib.Math.max.name, Cond.initialized "java/lang/Math", Cond.code Lib.Math.max.name Lib.Math.max.code 2 (some .int), Cond.classLink RJx4a65c 7 "java/lang/Object", Cond.methodLink RJx4a65c 73 yJ8_newLength_cabcc, Cond.static yJ8_newLength_cabcc, Cond.initialized RJ8, Cond.code yJ8_newLength_cabcc cJ8_newLength_cabcc 4 (some .int), Cond.methodLink RJ8 194 Lib.Math.max.name, Cond.constant RJ8 200 (2147483639), Cond.methodLink RJ8 201 yJ8_hugeLength_7cf53, Cond.static yJ8_hugeLength_7cf53, Cond.code yJ8_hugeLength_7cf53 cJ8_hugeLength_7cf53 3 (some .int), Cond.methodLink RJx4a65c 66 yJ7_copyOf_1904c, Cond.static yJ7_copyOf_1904c]
def wsJx4a65c_grow_d5877_r2 : List Cond := [Cond.initialized RJ7, Cond.code yJ7_copyOf_1904c cJ7_copyOf_1904c 2 (some (.array (.object "java/lang/Object"))), Cond.methodLink RJ7 86 ⟨"java/lang/Object", "getClass", "()Ljava/lang/Class;"⟩, Cond.selects "[Ljava/lang/Object;" ⟨"java/lang/Object", "getClass", "()Ljava/lang/Class;"⟩ ⟨"java/lang/Object", "getClass", "()Ljava/lang/Class;"⟩, Cond.instanceMethod ⟨"java/lang/Object", "getClass", "()Ljava/lang/Class;"⟩, Cond.native ⟨"java/lang/Object", "getClass", "()Ljava/lang/Class;"⟩, Cond.methodLink RJ7 300 yJ7_copyOf_6403c, Cond.static yJ7_copyOf_6403c, Cond.code yJ7_copyOf_6403c cJ7_copyOf_6403c 4 (some (.array (.object "java/lang/Object"))), Cond.classLink RJ7 110 "[Ljava/lang/Object;", Cond.classLink RJ7 2 "java/lang/Object", Cond.methodLink RJ7 304 Lib.Math.min.name, Cond.static Lib.Math.min.name, Cond.code Lib.Math.min.name Lib.Math.min.code 2 (some .int), Cond.methodLink RJ7 150 arraycopyName, Cond.native arraycopyName, Cond.static arraycopyName, Cond.initialized "java/lang/System"]
def wsJx4a65c_grow_d5877 : List Cond := .code yJx4a65c_grow_d5877 cJx4a65c_grow_d5877 1 (some (.array (.object "java/lang/Object"))) :: ((wsJx4a65c_grow_d5877_r1 ++ wsJx4a65c_grow_d5877_r2) ++ wsJx4a65c0)
def wsJx4a65c_add_72be8_r1 : List Cond := [Cond.fieldLink RJx4a65c 48 "java/util/ArrayList" "size" "I", Cond.methodLink RJx4a65c 129 yJx4a65c_grow_d5877, Cond.instanceMethod yJx4a65c_grow_d5877, Cond.selects RJx4a65c yJx4a65c_grow_d5877 yJx4a65c_grow_d5877, Cond.initialized RJx4a65c, Cond.code yJx4a65c_grow_d5877 cJx4a65c_grow_d5877 1 (some (.array (.object "java/lang/Object"))), Cond.methodLink RJx4a65c 69 yJx4a65c_grow_92f84, Cond.instanceMethod yJx4a65c_grow_92f84, Cond.selects RJx4a65c yJx4a65c_grow_92f84 yJx4a65c_grow_92f84, Cond.code yJx4a65c_grow_92f84 cJx4a65c_grow_92f84 4 (some (.array (.object "java/lang/Object"))), Cond.fieldLink RJx4a65c 9 "java/util/ArrayList" "elementData" "[Ljava/lang/Object;", Cond.fieldLink RJx4a65c 39 "java/util/ArrayList" "DEFAULTCAPACITY_EMPTY_ELEMENTDATA" "[Ljava/lang/Object;", Cond.methodLink RJx4a65c 79 Lib.Math.max.name, Cond.static Lib.Math.max.name, Cond.initialized "java/lang/Math", Cond.code Lib.Math.max.name Lib.Math.max.code 2 (some .int), Cond.classLink RJx4a65c 7 "java/lang/Object", Cond.methodLink RJx4a65c 73 yJ8_newLength_cabcc, Cond.static yJ8_newLength_cabcc, Cond.initialized RJ8, Cond.code yJ8_newLength_cabcc cJ8_newLength_cabcc 4 (some .int), Cond.methodLink RJ8 194 Lib.Math.max.name, Cond.constant RJ8 200 (2147483639), Cond.methodLink RJ8 201 yJ8_hugeLength_7cf53]
def wsJx4a65c_add_72be8_r2 : List Cond := [Cond.static yJ8_hugeLength_7cf53, Cond.code yJ8_hugeLength_7cf53 cJ8_hugeLength_7cf53 3 (some .int), Cond.methodLink RJx4a65c 66 yJ7_copyOf_1904c, Cond.static yJ7_copyOf_1904c, Cond.initialized RJ7, Cond.code yJ7_copyOf_1904c cJ7_copyOf_1904c 2 (some (.array (.object "java/lang/Object"))), Cond.methodLink RJ7 86 ⟨"java/lang/Object", "getClass", "()Ljava/lang/Class;"⟩, Cond.selects "[Ljava/lang/Object;" ⟨"java/lang/Object", "getClass", "()Ljava/lang/Class;"⟩ ⟨"java/lang/Object", "getClass", "()Ljava/lang/Class;"⟩, Cond.instanceMethod ⟨"java/lang/Object", "getClass", "()Ljava/lang/Class;"⟩, Cond.native ⟨"java/lang/Object", "getClass", "()Ljava/lang/Class;"⟩, Cond.methodLink RJ7 300 yJ7_copyOf_6403c, Cond.static yJ7_copyOf_6403c, Cond.code yJ7_copyOf_6403c cJ7_copyOf_6403c 4 (some (.array (.object "java/lang/Object"))), Cond.classLink RJ7 110 "[Ljava/lang/Object;", Cond.classLink RJ7 2 "java/lang/Object", Cond.methodLink RJ7 304 Lib.Math.min.name, Cond.static Lib.Math.min.name, Cond.code Lib.Math.min.name Lib.Math.min.code 2 (some .int), Cond.methodLink RJ7 150 arraycopyName, Cond.native arraycopyName, Cond.static arraycopyName, Cond.initialized "java/lang/System"]
def wsJx4a65c_add_72be8 : List Cond := .code yJx4a65c_add_72be8 cJx4a65c_add_72be8 4 none :: ((wsJx4a65c_add_72be8_r1 ++ wsJx4a65c_add_72be8_r2) ++ wsJx4a65c0)
def wsJx4a65c_add_9ea2d_r1 : List Cond := [Cond.fieldLink RJx4a65c 63 "java/util/ArrayList" "modCount" "I", Cond.sameField "java/util/ArrayList" "java/util/AbstractList" "modCount" "I", Cond.fieldLink RJx4a65c 9 "java/util/ArrayList" "elementData" "[Ljava/lang/Object;", Cond.fieldLink RJx4a65c 48 "java/util/ArrayList" "size" "I", Cond.methodLink RJx4a65c 131 yJx4a65c_add_72be8, Cond.instanceMethod yJx4a65c_add_72be8, Cond.selects RJx4a65c yJx4a65c_add_72be8 yJx4a65c_add_72be8, Cond.initialized RJx4a65c, Cond.code yJx4a65c_add_72be8 cJx4a65c_add_72be8 4 none, Cond.methodLink RJx4a65c 129 yJx4a65c_grow_d5877, Cond.instanceMethod yJx4a65c_grow_d5877, Cond.selects RJx4a65c yJx4a65c_grow_d5877 yJx4a65c_grow_d5877, Cond.code yJx4a65c_grow_d5877 cJx4a65c_grow_d5877 1 (some (.array (.object "java/lang/Object"))), Cond.methodLink RJx4a65c 69 yJx4a65c_grow_92f84, Cond.instanceMethod yJx4a65c_grow_92f84, Cond.selects RJx4a65c yJx4a65c_grow_92f84 yJx4a65c_grow_92f84, Cond.code yJx4a65c_grow_92f84 cJx4a65c_grow_92f84 4 (some (.array (.object "java/lang/Object"))), Cond.fieldLink RJx4a65c 39 "java/util/ArrayList" "DEFAULTCAPACITY_EMPTY_ELEMENTDATA" "[Ljava/lang/Object;", Cond.methodLink RJx4a65c 79 Lib.Math.max.name, Cond.static Lib.Math.max.name, Cond.initialized "java/lang/Math", Cond.code Lib.Math.max.name Lib.Math.max.code 2 (some .int), Cond.classLink RJx4a65c 7 "java/lang/Object", Cond.methodLink RJx4a65c 73 yJ8_newLength_cabcc]
def wsJx4a65c_add_9ea2d_r2 : List Cond := [Cond.static yJ8_newLength_cabcc, Cond.initialized RJ8, Cond.code yJ8_newLength_cabcc cJ8_newLength_cabcc 4 (some .int), Cond.methodLink RJ8 194 Lib.Math.max.name, Cond.constant RJ8 200 (2147483639), Cond.methodLink RJ8 201 yJ8_hugeLength_7cf53, Cond.static yJ8_hugeLength_7cf53, Cond.code yJ8_hugeLength_7cf53 cJ8_hugeLength_7cf53 3 (some .int), Cond.methodLink RJx4a65c 66 yJ7_copyOf_1904c, Cond.static yJ7_copyOf_1904c, Cond.initialized RJ7, Cond.code yJ7_copyOf_1904c cJ7_copyOf_1904c 2 (some (.array (.object "java/lang/Object"))), Cond.methodLink RJ7 86 ⟨"java/lang/Object", "getClass", "()Ljava/lang/Class;"⟩, Cond.selects "[Ljava/lang/Object;" ⟨"java/lang/Object", "getClass", "()Ljava/lang/Class;"⟩ ⟨"java/lang/Object", "getClass", "()Ljava/lang/Class;"⟩, Cond.instanceMethod ⟨"java/lang/Object", "getClass", "()Ljava/lang/Class;"⟩, Cond.native ⟨"java/lang/Object", "getClass", "()Ljava/lang/Class;"⟩, Cond.methodLink RJ7 300 yJ7_copyOf_6403c, Cond.static yJ7_copyOf_6403c, Cond.code yJ7_copyOf_6403c cJ7_copyOf_6403c 4 (some (.array (.object "java/lang/Object"))), Cond.classLink RJ7 110 "[Ljava/lang/Object;", Cond.classLink RJ7 2 "java/lang/Object", Cond.methodLink RJ7 304 Lib.Math.min.name, Cond.static Lib.Math.min.name, Cond.code Lib.Math.min.name Lib.Math.min.code 2 (some .int)]
def wsJx4a65c_add_9ea2d_r3 : List Cond := [Cond.methodLink RJ7 150 arraycopyName, Cond.native arraycopyName, Cond.static arraycopyName, Cond.initialized "java/lang/System"]
def wsJx4a65c_add_9ea2d : List Cond := .code yJx4a65c_add_9ea2d cJx4a65c_add_9ea2d 2 (some .boolean) :: ((wsJx4a65c_add_9ea2d_r1 ++ (wsJx4a65c_add_9ea2d_r2 ++ wsJx4a65c_add_9ea2d_r3)) ++ wsJx4a65c0)
def wsX3_fencer_r1 : List Cond := [Cond.classLink RX3 42 "java/lang/IllegalArgumentException", Cond.initialized "java/lang/IllegalArgumentException", Cond.classLink RX3 57 "java/lang/IllegalStateException", Cond.initialized "java/lang/IllegalStateException", Cond.fieldLink RX3 12 "Pommel" "fencers" "Ljava/util/ArrayList;", Cond.fieldLink RX3 53 "Pommel" "pools" "I", Cond.classLink RX3 29 RX1, Cond.instantiable RX1 14, Cond.initialized RX1, Cond.methodLink RX3 38 yX3_isIn, Cond.static yX3_isIn, Cond.initialized RX3, Cond.code yX3_isIn cX3_isIn 3 (some .boolean), Cond.methodLink RX3 49 yJx4a65c_size_8abf5, Cond.instanceMethod yJx4a65c_size_8abf5, Cond.selects RJx4a65c yJx4a65c_size_8abf5 yJx4a65c_size_8abf5, Cond.initialized RJx4a65c, Cond.code yJx4a65c_size_8abf5 cJx4a65c_size_8abf5 1 (some .int), Cond.fieldLink RJx4a65c 48 "java/util/ArrayList" "size" "I", Cond.methodLink RX3 62 yX1_init, Cond.instanceMethod yX1_init, Cond.code yX1_init cX1_init 4 none, Cond.methodLink RX1 3 objectInit, Cond.instanceMethod objectInit]
def wsX3_fencer_r2 : List Cond := [Cond.code objectInit ⟨#[0xb1]⟩ 1 none, Cond.fieldLink RX1 9 "Pommel$Fencer" "pool" "I", Cond.fieldLink RX1 15 "Pommel$Fencer" "spot" "I", Cond.fieldLink RX1 18 "Pommel$Fencer" "tableLine" "I", Cond.fieldLink RX1 21 "Pommel$Fencer" "standing" "I", Cond.fieldLink RX1 24 "Pommel$Fencer" "number" "I", Cond.fieldLink RX1 27 "Pommel$Fencer" "rank" "I", Cond.fieldLink RX1 30 "Pommel$Fencer" "club" "I", Cond.methodLink RX3 65 yJx4a65c_add_9ea2d, Cond.instanceMethod yJx4a65c_add_9ea2d, Cond.selects RJx4a65c yJx4a65c_add_9ea2d yJx4a65c_add_9ea2d, Cond.code yJx4a65c_add_9ea2d cJx4a65c_add_9ea2d 2 (some .boolean), Cond.fieldLink RJx4a65c 63 "java/util/ArrayList" "modCount" "I", Cond.sameField "java/util/ArrayList" "java/util/AbstractList" "modCount" "I", Cond.fieldLink RJx4a65c 9 "java/util/ArrayList" "elementData" "[Ljava/lang/Object;", Cond.methodLink RJx4a65c 131 yJx4a65c_add_72be8, Cond.instanceMethod yJx4a65c_add_72be8, Cond.selects RJx4a65c yJx4a65c_add_72be8 yJx4a65c_add_72be8, Cond.code yJx4a65c_add_72be8 cJx4a65c_add_72be8 4 none, Cond.methodLink RJx4a65c 129 yJx4a65c_grow_d5877, Cond.instanceMethod yJx4a65c_grow_d5877, Cond.selects RJx4a65c yJx4a65c_grow_d5877 yJx4a65c_grow_d5877, Cond.code yJx4a65c_grow_d5877 cJx4a65c_grow_d5877 1 (some (.array (.object "java/lang/Object"))), Cond.methodLink RJx4a65c 69 yJx4a65c_grow_92f84]
def wsX3_fencer_r3 : List Cond := [Cond.instanceMethod yJx4a65c_grow_92f84, Cond.selects RJx4a65c yJx4a65c_grow_92f84 yJx4a65c_grow_92f84, Cond.code yJx4a65c_grow_92f84 cJx4a65c_grow_92f84 4 (some (.array (.object "java/lang/Object"))), Cond.fieldLink RJx4a65c 39 "java/util/ArrayList" "DEFAULTCAPACITY_EMPTY_ELEMENTDATA" "[Ljava/lang/Object;", Cond.methodLink RJx4a65c 79 Lib.Math.max.name, Cond.static Lib.Math.max.name, Cond.initialized "java/lang/Math", Cond.code Lib.Math.max.name Lib.Math.max.code 2 (some .int), Cond.classLink RJx4a65c 7 "java/lang/Object", Cond.methodLink RJx4a65c 73 yJ8_newLength_cabcc, Cond.static yJ8_newLength_cabcc, Cond.initialized RJ8, Cond.code yJ8_newLength_cabcc cJ8_newLength_cabcc 4 (some .int), Cond.methodLink RJ8 194 Lib.Math.max.name, Cond.constant RJ8 200 (2147483639), Cond.methodLink RJ8 201 yJ8_hugeLength_7cf53, Cond.static yJ8_hugeLength_7cf53, Cond.code yJ8_hugeLength_7cf53 cJ8_hugeLength_7cf53 3 (some .int), Cond.methodLink RJx4a65c 66 yJ7_copyOf_1904c, Cond.static yJ7_copyOf_1904c, Cond.initialized RJ7, Cond.code yJ7_copyOf_1904c cJ7_copyOf_1904c 2 (some (.array (.object "java/lang/Object"))), Cond.methodLink RJ7 86 ⟨"java/lang/Object", "getClass", "()Ljava/lang/Class;"⟩, Cond.selects "[Ljava/lang/Object;" ⟨"java/lang/Object", "getClass", "()Ljava/lang/Class;"⟩ ⟨"java/lang/Object", "getClass", "()Ljava/lang/Class;"⟩]
def wsX3_fencer_r4 : List Cond := [Cond.instanceMethod ⟨"java/lang/Object", "getClass", "()Ljava/lang/Class;"⟩, Cond.native ⟨"java/lang/Object", "getClass", "()Ljava/lang/Class;"⟩, Cond.methodLink RJ7 300 yJ7_copyOf_6403c, Cond.static yJ7_copyOf_6403c, Cond.code yJ7_copyOf_6403c cJ7_copyOf_6403c 4 (some (.array (.object "java/lang/Object"))), Cond.classLink RJ7 110 "[Ljava/lang/Object;", Cond.classLink RJ7 2 "java/lang/Object", Cond.methodLink RJ7 304 Lib.Math.min.name, Cond.static Lib.Math.min.name, Cond.code Lib.Math.min.name Lib.Math.min.code 2 (some .int), Cond.methodLink RJ7 150 arraycopyName, Cond.native arraycopyName, Cond.static arraycopyName, Cond.initialized "java/lang/System"]
def wsX3_fencer : List Cond := .code yX3_fencer cX3_fencer 3 (some .int) :: ((wsX3_fencer_r1 ++ (wsX3_fencer_r2 ++ (wsX3_fencer_r3 ++ wsX3_fencer_r4))) ++ wsX30 ++ wsX10 ++ wsJx4a65c0 ++ (vx_atS RX3 46 "java/lang/IllegalArgumentException" ["java/lang/RuntimeException", "java/lang/Exception"]).filter goodWord ++ (vx_atS RX3 61 "java/lang/IllegalStateException" ["java/lang/RuntimeException", "java/lang/Exception"]).filter goodWord)
def wsJ3_checkIndex_8e157 : List Cond := .code yJ3_checkIndex_8e157 cJ3_checkIndex_8e157 3 (some .int) :: ([])
def wsJ15_checkIndex_7cf53 : List Cond := .code yJ15_checkIndex_7cf53 cJ15_checkIndex_7cf53 2 (some .int) :: ([.methodLink RJ15 105 yJ3_checkIndex_8e157, .static yJ3_checkIndex_8e157, .initialized RJ3, .code yJ3_checkIndex_8e157 cJ3_checkIndex_8e157 3 (some .int)])
def wsJx4a65c_elementData_915e3 : List Cond := .code yJx4a65c_elementData_915e3 cJx4a65c_elementData_915e3 2 (some (.object "java/lang/Object")) :: ([.fieldLink RJx4a65c 9 "java/util/ArrayList" "elementData" "[Ljava/lang/Object;"] ++ wsJx4a65c0)
def wsJx4a65c_get_915e3 : List Cond := .code yJx4a65c_get_915e3 cJx4a65c_get_915e3 2 (some (.object "java/lang/Object")) :: ([.fieldLink RJx4a65c 48 "java/util/ArrayList" "size" "I", .methodLink RJx4a65c 118 yJ15_checkIndex_7cf53, .static yJ15_checkIndex_7cf53, .initialized RJ15, .code yJ15_checkIndex_7cf53 cJ15_checkIndex_7cf53 2 (some .int), .methodLink RJ15 105 yJ3_checkIndex_8e157, .static yJ3_checkIndex_8e157, .initialized RJ3, .code yJ3_checkIndex_8e157 cJ3_checkIndex_8e157 3 (some .int), .methodLink RJx4a65c 123 yJx4a65c_elementData_915e3, .instanceMethod yJx4a65c_elementData_915e3, .selects RJx4a65c yJx4a65c_elementData_915e3 yJx4a65c_elementData_915e3, .initialized RJx4a65c, .code yJx4a65c_elementData_915e3 cJx4a65c_elementData_915e3 2 (some (.object "java/lang/Object")), .fieldLink RJx4a65c 9 "java/util/ArrayList" "elementData" "[Ljava/lang/Object;"] ++ wsJx4a65c0)
def wsX3_aheadInOrder_r1 : List Cond := [Cond.fieldLink RX3 12 "Pommel" "fencers" "Ljava/util/ArrayList;", Cond.classLink RX3 29 "Pommel$Fencer", Cond.methodLink RX3 49 yJx4a65c_size_8abf5, Cond.instanceMethod yJx4a65c_size_8abf5, Cond.selects RJx4a65c yJx4a65c_size_8abf5 yJx4a65c_size_8abf5, Cond.initialized RJx4a65c, Cond.code yJx4a65c_size_8abf5 cJx4a65c_size_8abf5 1 (some .int), Cond.fieldLink RJx4a65c 48 "java/util/ArrayList" "size" "I", Cond.methodLink RX3 124 yJx4a65c_get_915e3, Cond.instanceMethod yJx4a65c_get_915e3, Cond.selects RJx4a65c yJx4a65c_get_915e3 yJx4a65c_get_915e3, Cond.code yJx4a65c_get_915e3 cJx4a65c_get_915e3 2 (some (.object "java/lang/Object")), Cond.methodLink RJx4a65c 118 yJ15_checkIndex_7cf53, Cond.static yJ15_checkIndex_7cf53, Cond.initialized RJ15, Cond.code yJ15_checkIndex_7cf53 cJ15_checkIndex_7cf53 2 (some .int), Cond.methodLink RJ15 105 yJ3_checkIndex_8e157, Cond.static yJ3_checkIndex_8e157, Cond.initialized RJ3, Cond.code yJ3_checkIndex_8e157 cJ3_checkIndex_8e157 3 (some .int), Cond.methodLink RJx4a65c 123 yJx4a65c_elementData_915e3, Cond.instanceMethod yJx4a65c_elementData_915e3, Cond.selects RJx4a65c yJx4a65c_elementData_915e3 yJx4a65c_elementData_915e3, Cond.code yJx4a65c_elementData_915e3 cJx4a65c_elementData_915e3 2 (some (.object "java/lang/Object"))]
def wsX3_aheadInOrder_r2 : List Cond := [Cond.fieldLink RJx4a65c 9 "java/util/ArrayList" "elementData" "[Ljava/lang/Object;", Cond.methodLink RX3 353 yX1_isAheadOf, Cond.instanceMethod yX1_isAheadOf, Cond.selects RX1 yX1_isAheadOf yX1_isAheadOf, Cond.initialized RX1, Cond.code yX1_isAheadOf cX1_isAheadOf 4 (some .boolean), Cond.fieldLink RX1 45 "Pommel$Fencer" "out" "Z", Cond.fieldLink RX1 36 "Pommel$Fencer" "won" "I", Cond.fieldLink RX1 33 "Pommel$Fencer" "met" "I", Cond.methodLink RX1 49 Lib.Math.max.name, Cond.static Lib.Math.max.name, Cond.initialized "java/lang/Math", Cond.code Lib.Math.max.name Lib.Math.max.code 2 (some .int), Cond.fieldLink RX1 39 "Pommel$Fencer" "given" "I", Cond.fieldLink RX1 42 "Pommel$Fencer" "taken" "I", Cond.fieldLink RX1 27 "Pommel$Fencer" "rank" "I", Cond.fieldLink RX1 24 "Pommel$Fencer" "number" "I"]
def wsX3_aheadInOrder : List Cond := .code yX3_aheadInOrder cX3_aheadInOrder 4 (some .int) :: ((wsX3_aheadInOrder_r1 ++ wsX3_aheadInOrder_r2) ++ wsX30 ++ wsJx4a65c0 ++ wsX10)
def wsX3_fencerInOrder_r1 : List Cond := [Cond.fieldLink RX3 12 "Pommel" "fencers" "Ljava/util/ArrayList;", Cond.classLink RX3 29 "Pommel$Fencer", Cond.methodLink RX3 49 yJx4a65c_size_8abf5, Cond.instanceMethod yJx4a65c_size_8abf5, Cond.selects RJx4a65c yJx4a65c_size_8abf5 yJx4a65c_size_8abf5, Cond.initialized RJx4a65c, Cond.code yJx4a65c_size_8abf5 cJx4a65c_size_8abf5 1 (some .int), Cond.fieldLink RJx4a65c 48 "java/util/ArrayList" "size" "I", Cond.methodLink RX3 124 yJx4a65c_get_915e3, Cond.instanceMethod yJx4a65c_get_915e3, Cond.selects RJx4a65c yJx4a65c_get_915e3 yJx4a65c_get_915e3, Cond.code yJx4a65c_get_915e3 cJx4a65c_get_915e3 2 (some (.object "java/lang/Object")), Cond.methodLink RJx4a65c 118 yJ15_checkIndex_7cf53, Cond.static yJ15_checkIndex_7cf53, Cond.initialized RJ15, Cond.code yJ15_checkIndex_7cf53 cJ15_checkIndex_7cf53 2 (some .int), Cond.methodLink RJ15 105 yJ3_checkIndex_8e157, Cond.static yJ3_checkIndex_8e157, Cond.initialized RJ3, Cond.code yJ3_checkIndex_8e157 cJ3_checkIndex_8e157 3 (some .int), Cond.methodLink RJx4a65c 123 yJx4a65c_elementData_915e3, Cond.instanceMethod yJx4a65c_elementData_915e3, Cond.selects RJx4a65c yJx4a65c_elementData_915e3 yJx4a65c_elementData_915e3, Cond.code yJx4a65c_elementData_915e3 cJx4a65c_elementData_915e3 2 (some (.object "java/lang/Object"))]
def wsX3_fencerInOrder_r2 : List Cond := [Cond.fieldLink RJx4a65c 9 "java/util/ArrayList" "elementData" "[Ljava/lang/Object;", Cond.methodLink RX3 321 yX3_aheadInOrder, Cond.instanceMethod yX3_aheadInOrder, Cond.selects RX3 yX3_aheadInOrder yX3_aheadInOrder, Cond.initialized RX3, Cond.code yX3_aheadInOrder cX3_aheadInOrder 4 (some .int), Cond.methodLink RX3 353 yX1_isAheadOf, Cond.instanceMethod yX1_isAheadOf, Cond.selects RX1 yX1_isAheadOf yX1_isAheadOf, Cond.initialized RX1, Cond.code yX1_isAheadOf cX1_isAheadOf 4 (some .boolean), Cond.fieldLink RX1 45 "Pommel$Fencer" "out" "Z", Cond.fieldLink RX1 36 "Pommel$Fencer" "won" "I", Cond.fieldLink RX1 33 "Pommel$Fencer" "met" "I", Cond.methodLink RX1 49 Lib.Math.max.name, Cond.static Lib.Math.max.name, Cond.initialized "java/lang/Math", Cond.code Lib.Math.max.name Lib.Math.max.code 2 (some .int), Cond.fieldLink RX1 39 "Pommel$Fencer" "given" "I", Cond.fieldLink RX1 42 "Pommel$Fencer" "taken" "I", Cond.fieldLink RX1 27 "Pommel$Fencer" "rank" "I", Cond.fieldLink RX1 24 "Pommel$Fencer" "number" "I"]
def wsX3_fencerInOrder : List Cond := .code yX3_fencerInOrder cX3_fencerInOrder 4 (some (.object "Pommel$Fencer")) :: ((wsX3_fencerInOrder_r1 ++ wsX3_fencerInOrder_r2) ++ wsX30 ++ wsJx4a65c0 ++ wsX10)
def wsX3_hasClub_r1 : List Cond := [Cond.fieldLink RX3 12 "Pommel" "fencers" "Ljava/util/ArrayList;", Cond.classLink RX3 29 "Pommel$Fencer", Cond.fieldLink RX3 94 "Pommel$Fencer" "pool" "I", Cond.fieldLink RX3 91 "Pommel$Fencer" "club" "I", Cond.methodLink RX3 49 yJx4a65c_size_8abf5, Cond.instanceMethod yJx4a65c_size_8abf5, Cond.selects RJx4a65c yJx4a65c_size_8abf5 yJx4a65c_size_8abf5, Cond.initialized RJx4a65c, Cond.code yJx4a65c_size_8abf5 cJx4a65c_size_8abf5 1 (some .int), Cond.fieldLink RJx4a65c 48 "java/util/ArrayList" "size" "I", Cond.methodLink RX3 124 yJx4a65c_get_915e3, Cond.instanceMethod yJx4a65c_get_915e3, Cond.selects RJx4a65c yJx4a65c_get_915e3 yJx4a65c_get_915e3, Cond.code yJx4a65c_get_915e3 cJx4a65c_get_915e3 2 (some (.object "java/lang/Object")), Cond.methodLink RJx4a65c 118 yJ15_checkIndex_7cf53, Cond.static yJ15_checkIndex_7cf53, Cond.initialized RJ15, Cond.code yJ15_checkIndex_7cf53 cJ15_checkIndex_7cf53 2 (some .int), Cond.methodLink RJ15 105 yJ3_checkIndex_8e157, Cond.static yJ3_checkIndex_8e157, Cond.initialized RJ3, Cond.code yJ3_checkIndex_8e157 cJ3_checkIndex_8e157 3 (some .int), Cond.methodLink RJx4a65c 123 yJx4a65c_elementData_915e3, Cond.instanceMethod yJx4a65c_elementData_915e3]
def wsX3_hasClub_r2 : List Cond := [Cond.selects RJx4a65c yJx4a65c_elementData_915e3 yJx4a65c_elementData_915e3, Cond.code yJx4a65c_elementData_915e3 cJx4a65c_elementData_915e3 2 (some (.object "java/lang/Object")), Cond.fieldLink RJx4a65c 9 "java/util/ArrayList" "elementData" "[Ljava/lang/Object;"]
def wsX3_hasClub : List Cond := .code yX3_hasClub cX3_hasClub 5 (some .boolean) :: ((wsX3_hasClub_r1 ++ wsX3_hasClub_r2) ++ wsX30 ++ wsX10 ++ wsJx4a65c0)
def wsX3_poolInRow_r1 : List Cond := [Cond.fieldLink RX3 53 "Pommel" "pools" "I", Cond.fieldLink RX3 25 "Pommel" "poolSizes" "[I", Cond.methodLink RX3 120 yX3_hasClub, Cond.instanceMethod yX3_hasClub, Cond.selects RX3 yX3_hasClub yX3_hasClub, Cond.initialized RX3, Cond.code yX3_hasClub cX3_hasClub 5 (some .boolean), Cond.fieldLink RX3 12 "Pommel" "fencers" "Ljava/util/ArrayList;", Cond.classLink RX3 29 "Pommel$Fencer", Cond.fieldLink RX3 94 "Pommel$Fencer" "pool" "I", Cond.fieldLink RX3 91 "Pommel$Fencer" "club" "I", Cond.methodLink RX3 49 yJx4a65c_size_8abf5, Cond.instanceMethod yJx4a65c_size_8abf5, Cond.selects RJx4a65c yJx4a65c_size_8abf5 yJx4a65c_size_8abf5, Cond.initialized RJx4a65c, Cond.code yJx4a65c_size_8abf5 cJx4a65c_size_8abf5 1 (some .int), Cond.fieldLink RJx4a65c 48 "java/util/ArrayList" "size" "I", Cond.methodLink RX3 124 yJx4a65c_get_915e3, Cond.instanceMethod yJx4a65c_get_915e3, Cond.selects RJx4a65c yJx4a65c_get_915e3 yJx4a65c_get_915e3, Cond.code yJx4a65c_get_915e3 cJx4a65c_get_915e3 2 (some (.object "java/lang/Object")), Cond.methodLink RJx4a65c 118 yJ15_checkIndex_7cf53, Cond.static yJ15_checkIndex_7cf53, Cond.initialized RJ15]
def wsX3_poolInRow_r2 : List Cond := [Cond.code yJ15_checkIndex_7cf53 cJ15_checkIndex_7cf53 2 (some .int), Cond.methodLink RJ15 105 yJ3_checkIndex_8e157, Cond.static yJ3_checkIndex_8e157, Cond.initialized RJ3, Cond.code yJ3_checkIndex_8e157 cJ3_checkIndex_8e157 3 (some .int), Cond.methodLink RJx4a65c 123 yJx4a65c_elementData_915e3, Cond.instanceMethod yJx4a65c_elementData_915e3, Cond.selects RJx4a65c yJx4a65c_elementData_915e3 yJx4a65c_elementData_915e3, Cond.code yJx4a65c_elementData_915e3 cJx4a65c_elementData_915e3 2 (some (.object "java/lang/Object")), Cond.fieldLink RJx4a65c 9 "java/util/ArrayList" "elementData" "[Ljava/lang/Object;"]
def wsX3_poolInRow : List Cond := .code yX3_poolInRow cX3_poolInRow 6 (some .int) :: ((wsX3_poolInRow_r1 ++ wsX3_poolInRow_r2) ++ wsX30 ++ wsX10 ++ wsJx4a65c0)
def wsX3_putIntoPool_r1 : List Cond := [Cond.fieldLink RX3 91 "Pommel$Fencer" "club" "I", Cond.fieldLink RX3 53 "Pommel" "pools" "I", Cond.fieldLink RX3 94 "Pommel$Fencer" "pool" "I", Cond.fieldLink RX3 25 "Pommel" "poolSizes" "[I", Cond.fieldLink RX3 97 "Pommel$Fencer" "spot" "I", Cond.methodLink RX3 116 yX3_poolInRow, Cond.instanceMethod yX3_poolInRow, Cond.selects RX3 yX3_poolInRow yX3_poolInRow, Cond.initialized RX3, Cond.code yX3_poolInRow cX3_poolInRow 6 (some .int), Cond.methodLink RX3 120 yX3_hasClub, Cond.instanceMethod yX3_hasClub, Cond.selects RX3 yX3_hasClub yX3_hasClub, Cond.code yX3_hasClub cX3_hasClub 5 (some .boolean), Cond.fieldLink RX3 12 "Pommel" "fencers" "Ljava/util/ArrayList;", Cond.classLink RX3 29 "Pommel$Fencer", Cond.methodLink RX3 49 yJx4a65c_size_8abf5, Cond.instanceMethod yJx4a65c_size_8abf5, Cond.selects RJx4a65c yJx4a65c_size_8abf5 yJx4a65c_size_8abf5, Cond.initialized RJx4a65c, Cond.code yJx4a65c_size_8abf5 cJx4a65c_size_8abf5 1 (some .int), Cond.fieldLink RJx4a65c 48 "java/util/ArrayList" "size" "I", Cond.methodLink RX3 124 yJx4a65c_get_915e3, Cond.instanceMethod yJx4a65c_get_915e3]
def wsX3_putIntoPool_r2 : List Cond := [Cond.selects RJx4a65c yJx4a65c_get_915e3 yJx4a65c_get_915e3, Cond.code yJx4a65c_get_915e3 cJx4a65c_get_915e3 2 (some (.object "java/lang/Object")), Cond.methodLink RJx4a65c 118 yJ15_checkIndex_7cf53, Cond.static yJ15_checkIndex_7cf53, Cond.initialized RJ15, Cond.code yJ15_checkIndex_7cf53 cJ15_checkIndex_7cf53 2 (some .int), Cond.methodLink RJ15 105 yJ3_checkIndex_8e157, Cond.static yJ3_checkIndex_8e157, Cond.initialized RJ3, Cond.code yJ3_checkIndex_8e157 cJ3_checkIndex_8e157 3 (some .int), Cond.methodLink RJx4a65c 123 yJx4a65c_elementData_915e3, Cond.instanceMethod yJx4a65c_elementData_915e3, Cond.selects RJx4a65c yJx4a65c_elementData_915e3 yJx4a65c_elementData_915e3, Cond.code yJx4a65c_elementData_915e3 cJx4a65c_elementData_915e3 2 (some (.object "java/lang/Object")), Cond.fieldLink RJx4a65c 9 "java/util/ArrayList" "elementData" "[Ljava/lang/Object;", Cond.methodLink RX3 38 yX3_isIn, Cond.static yX3_isIn, Cond.code yX3_isIn cX3_isIn 3 (some .boolean)]
def wsX3_putIntoPool : List Cond := .code yX3_putIntoPool cX3_putIntoPool 4 none :: ((wsX3_putIntoPool_r1 ++ wsX3_putIntoPool_r2) ++ wsX10 ++ wsX30 ++ wsJx4a65c0)
def wsX3_fencerOnSpot_r1 : List Cond := [Cond.fieldLink RX3 12 "Pommel" "fencers" "Ljava/util/ArrayList;", Cond.classLink RX3 29 "Pommel$Fencer", Cond.fieldLink RX3 94 "Pommel$Fencer" "pool" "I", Cond.fieldLink RX3 97 "Pommel$Fencer" "spot" "I", Cond.methodLink RX3 49 yJx4a65c_size_8abf5, Cond.instanceMethod yJx4a65c_size_8abf5, Cond.selects RJx4a65c yJx4a65c_size_8abf5 yJx4a65c_size_8abf5, Cond.initialized RJx4a65c, Cond.code yJx4a65c_size_8abf5 cJx4a65c_size_8abf5 1 (some .int), Cond.fieldLink RJx4a65c 48 "java/util/ArrayList" "size" "I", Cond.methodLink RX3 124 yJx4a65c_get_915e3, Cond.instanceMethod yJx4a65c_get_915e3, Cond.selects RJx4a65c yJx4a65c_get_915e3 yJx4a65c_get_915e3, Cond.code yJx4a65c_get_915e3 cJx4a65c_get_915e3 2 (some (.object "java/lang/Object")), Cond.methodLink RJx4a65c 118 yJ15_checkIndex_7cf53, Cond.static yJ15_checkIndex_7cf53, Cond.initialized RJ15, Cond.code yJ15_checkIndex_7cf53 cJ15_checkIndex_7cf53 2 (some .int), Cond.methodLink RJ15 105 yJ3_checkIndex_8e157, Cond.static yJ3_checkIndex_8e157, Cond.initialized RJ3, Cond.code yJ3_checkIndex_8e157 cJ3_checkIndex_8e157 3 (some .int), Cond.methodLink RJx4a65c 123 yJx4a65c_elementData_915e3, Cond.instanceMethod yJx4a65c_elementData_915e3]
def wsX3_fencerOnSpot_r2 : List Cond := [Cond.selects RJx4a65c yJx4a65c_elementData_915e3 yJx4a65c_elementData_915e3, Cond.code yJx4a65c_elementData_915e3 cJx4a65c_elementData_915e3 2 (some (.object "java/lang/Object")), Cond.fieldLink RJx4a65c 9 "java/util/ArrayList" "elementData" "[Ljava/lang/Object;"]
def wsX3_fencerOnSpot : List Cond := .code yX3_fencerOnSpot cX3_fencerOnSpot 5 (some (.object "Pommel$Fencer")) :: ((wsX3_fencerOnSpot_r1 ++ wsX3_fencerOnSpot_r2) ++ wsX30 ++ wsX10 ++ wsJx4a65c0)
def wsX3_addPoolBouts_r1 : List Cond := [Cond.fieldLink RX3 25 "Pommel" "poolSizes" "[I", Cond.fieldLink RX3 16 "Pommel" "bouts" "Ljava/util/ArrayList;", Cond.classLink RX3 19 RX0, Cond.instantiable RX0 9, Cond.initialized RX0, Cond.methodLink RX3 128 yX3_fencerOnSpot, Cond.instanceMethod yX3_fencerOnSpot, Cond.selects RX3 yX3_fencerOnSpot yX3_fencerOnSpot, Cond.initialized RX3, Cond.code yX3_fencerOnSpot cX3_fencerOnSpot 5 (some (.object "Pommel$Fencer")), Cond.fieldLink RX3 12 "Pommel" "fencers" "Ljava/util/ArrayList;", Cond.classLink RX3 29 "Pommel$Fencer", Cond.fieldLink RX3 94 "Pommel$Fencer" "pool" "I", Cond.fieldLink RX3 97 "Pommel$Fencer" "spot" "I", Cond.methodLink RX3 49 yJx4a65c_size_8abf5, Cond.instanceMethod yJx4a65c_size_8abf5, Cond.selects RJx4a65c yJx4a65c_size_8abf5 yJx4a65c_size_8abf5, Cond.initialized RJx4a65c, Cond.code yJx4a65c_size_8abf5 cJx4a65c_size_8abf5 1 (some .int), Cond.fieldLink RJx4a65c 48 "java/util/ArrayList" "size" "I", Cond.methodLink RX3 124 yJx4a65c_get_915e3, Cond.instanceMethod yJx4a65c_get_915e3, Cond.selects RJx4a65c yJx4a65c_get_915e3 yJx4a65c_get_915e3, Cond.code yJx4a65c_get_915e3 cJx4a65c_get_915e3 2 (some (.object "java/lang/Object"))]
def wsX3_addPoolBouts_r2 : List Cond := [Cond.methodLink RJx4a65c 118 yJ15_checkIndex_7cf53, Cond.static yJ15_checkIndex_7cf53, Cond.initialized RJ15, Cond.code yJ15_checkIndex_7cf53 cJ15_checkIndex_7cf53 2 (some .int), Cond.methodLink RJ15 105 yJ3_checkIndex_8e157, Cond.static yJ3_checkIndex_8e157, Cond.initialized RJ3, Cond.code yJ3_checkIndex_8e157 cJ3_checkIndex_8e157 3 (some .int), Cond.methodLink RJx4a65c 123 yJx4a65c_elementData_915e3, Cond.instanceMethod yJx4a65c_elementData_915e3, Cond.selects RJx4a65c yJx4a65c_elementData_915e3 yJx4a65c_elementData_915e3, Cond.code yJx4a65c_elementData_915e3 cJx4a65c_elementData_915e3 2 (some (.object "java/lang/Object")), Cond.fieldLink RJx4a65c 9 "java/util/ArrayList" "elementData" "[Ljava/lang/Object;", Cond.methodLink RX3 132 yX0_init, Cond.instanceMethod yX0_init, Cond.code yX0_init cX0_init 5 none, Cond.methodLink RX0 3 objectInit, Cond.instanceMethod objectInit, Cond.code objectInit ⟨#[0xb1]⟩ 1 none, Cond.classLink RX0 9 RX2, Cond.instantiable RX2 3, Cond.initialized RX2, Cond.fieldLink RX0 12 "Pommel$Bout" "left" "LPommel$Side;", Cond.fieldLink RX0 18 "Pommel$Bout" "right" "LPommel$Side;"]
def wsX3_addPoolBouts_r3 : List Cond := [Cond.fieldLink RX0 21 "Pommel$Bout" "state" "I", Cond.fieldLink RX0 25 "Pommel$Bout" "piste" "I", Cond.fieldLink RX0 28 "Pommel$Bout" "number" "I", Cond.fieldLink RX0 31 "Pommel$Bout" "round" "I", Cond.fieldLink RX0 34 "Pommel$Side" "fencer" "LPommel$Fencer;", Cond.instanceMethod yX2_init, Cond.code yX2_init cX2_init 1 none, Cond.methodLink RX2 3 objectInit, Cond.methodLink RX3 65 yJx4a65c_add_9ea2d, Cond.instanceMethod yJx4a65c_add_9ea2d, Cond.selects RJx4a65c yJx4a65c_add_9ea2d yJx4a65c_add_9ea2d, Cond.code yJx4a65c_add_9ea2d cJx4a65c_add_9ea2d 2 (some .boolean), Cond.fieldLink RJx4a65c 63 "java/util/ArrayList" "modCount" "I", Cond.sameField "java/util/ArrayList" "java/util/AbstractList" "modCount" "I", Cond.methodLink RJx4a65c 131 yJx4a65c_add_72be8, Cond.instanceMethod yJx4a65c_add_72be8, Cond.selects RJx4a65c yJx4a65c_add_72be8 yJx4a65c_add_72be8, Cond.code yJx4a65c_add_72be8 cJx4a65c_add_72be8 4 none, Cond.methodLink RJx4a65c 129 yJx4a65c_grow_d5877, Cond.instanceMethod yJx4a65c_grow_d5877, Cond.selects RJx4a65c yJx4a65c_grow_d5877 yJx4a65c_grow_d5877, Cond.code yJx4a65c_grow_d5877 cJx4a65c_grow_d5877 1 (some (.array (.object "java/lang/Object"))), Cond.methodLink RJx4a65c 69 yJx4a65c_grow_92f84, Cond.instanceMethod yJx4a65c_grow_92f84]
def wsX3_addPoolBouts_r4 : List Cond := [Cond.selects RJx4a65c yJx4a65c_grow_92f84 yJx4a65c_grow_92f84, Cond.code yJx4a65c_grow_92f84 cJx4a65c_grow_92f84 4 (some (.array (.object "java/lang/Object"))), Cond.fieldLink RJx4a65c 39 "java/util/ArrayList" "DEFAULTCAPACITY_EMPTY_ELEMENTDATA" "[Ljava/lang/Object;", Cond.methodLink RJx4a65c 79 Lib.Math.max.name, Cond.static Lib.Math.max.name, Cond.initialized "java/lang/Math", Cond.code Lib.Math.max.name Lib.Math.max.code 2 (some .int), Cond.classLink RJx4a65c 7 "java/lang/Object", Cond.methodLink RJx4a65c 73 yJ8_newLength_cabcc, Cond.static yJ8_newLength_cabcc, Cond.initialized RJ8, Cond.code yJ8_newLength_cabcc cJ8_newLength_cabcc 4 (some .int), Cond.methodLink RJ8 194 Lib.Math.max.name, Cond.constant RJ8 200 (2147483639), Cond.methodLink RJ8 201 yJ8_hugeLength_7cf53, Cond.static yJ8_hugeLength_7cf53, Cond.code yJ8_hugeLength_7cf53 cJ8_hugeLength_7cf53 3 (some .int), Cond.methodLink RJx4a65c 66 yJ7_copyOf_1904c, Cond.static yJ7_copyOf_1904c, Cond.initialized RJ7, Cond.code yJ7_copyOf_1904c cJ7_copyOf_1904c 2 (some (.array (.object "java/lang/Object"))), Cond.methodLink RJ7 86 ⟨"java/lang/Object", "getClass", "()Ljava/lang/Class;"⟩, Cond.selects "[Ljava/lang/Object;" ⟨"java/lang/Object", "getClass", "()Ljava/lang/Class;"⟩ ⟨"java/lang/Object", "getClass", "()Ljava/lang/Class;"⟩, Cond.instanceMethod ⟨"java/lang/Object", "getClass", "()Ljava/lang/Class;"⟩]
def wsX3_addPoolBouts_r5 : List Cond := [Cond.native ⟨"java/lang/Object", "getClass", "()Ljava/lang/Class;"⟩, Cond.methodLink RJ7 300 yJ7_copyOf_6403c, Cond.static yJ7_copyOf_6403c, Cond.code yJ7_copyOf_6403c cJ7_copyOf_6403c 4 (some (.array (.object "java/lang/Object"))), Cond.classLink RJ7 110 "[Ljava/lang/Object;", Cond.classLink RJ7 2 "java/lang/Object", Cond.methodLink RJ7 304 Lib.Math.min.name, Cond.static Lib.Math.min.name, Cond.code Lib.Math.min.name Lib.Math.min.code 2 (some .int), Cond.methodLink RJ7 150 arraycopyName, Cond.native arraycopyName, Cond.static arraycopyName, Cond.initialized "java/lang/System"]
def wsX3_addPoolBouts : List Cond := .code yX3_addPoolBouts cX3_addPoolBouts 7 none :: ((wsX3_addPoolBouts_r1 ++ (wsX3_addPoolBouts_r2 ++ (wsX3_addPoolBouts_r3 ++ (wsX3_addPoolBouts_r4 ++ wsX3_addPoolBouts_r5)))) ++ wsX30 ++ wsX00 ++ wsX10 ++ wsJx4a65c0 ++ wsX20)
def wsX3_form_r1 : List Cond := [Cond.classLink RX3 42 "java/lang/IllegalArgumentException", Cond.initialized "java/lang/IllegalArgumentException", Cond.classLink RX3 57 "java/lang/IllegalStateException", Cond.initialized "java/lang/IllegalStateException", Cond.fieldLink RX3 53 "Pommel" "pools" "I", Cond.fieldLink RX3 12 "Pommel" "fencers" "Ljava/util/ArrayList;", Cond.fieldLink RX3 16 "Pommel" "bouts" "Ljava/util/ArrayList;", Cond.methodLink RX3 38 yX3_isIn, Cond.static yX3_isIn, Cond.initialized RX3, Cond.code yX3_isIn cX3_isIn 3 (some .boolean), Cond.methodLink RX3 49 yJx4a65c_size_8abf5, Cond.instanceMethod yJx4a65c_size_8abf5, Cond.selects RJx4a65c yJx4a65c_size_8abf5 yJx4a65c_size_8abf5, Cond.initialized RJx4a65c, Cond.code yJx4a65c_size_8abf5 cJx4a65c_size_8abf5 1 (some .int), Cond.fieldLink RJx4a65c 48 "java/util/ArrayList" "size" "I", Cond.methodLink RX3 73 yX3_fencerInOrder, Cond.instanceMethod yX3_fencerInOrder, Cond.selects RX3 yX3_fencerInOrder yX3_fencerInOrder, Cond.code yX3_fencerInOrder cX3_fencerInOrder 4 (some (.object "Pommel$Fencer")), Cond.classLink RX3 29 "Pommel$Fencer", Cond.methodLink RX3 124 yJx4a65c_get_915e3, Cond.instanceMethod yJx4a65c_get_915e3]
def wsX3_form_r2 : List Cond := [Cond.selects RJx4a65c yJx4a65c_get_915e3 yJx4a65c_get_915e3, Cond.code yJx4a65c_get_915e3 cJx4a65c_get_915e3 2 (some (.object "java/lang/Object")), Cond.methodLink RJx4a65c 118 yJ15_checkIndex_7cf53, Cond.static yJ15_checkIndex_7cf53, Cond.initialized RJ15, Cond.code yJ15_checkIndex_7cf53 cJ15_checkIndex_7cf53 2 (some .int), Cond.methodLink RJ15 105 yJ3_checkIndex_8e157, Cond.static yJ3_checkIndex_8e157, Cond.initialized RJ3, Cond.code yJ3_checkIndex_8e157 cJ3_checkIndex_8e157 3 (some .int), Cond.methodLink RJx4a65c 123 yJx4a65c_elementData_915e3, Cond.instanceMethod yJx4a65c_elementData_915e3, Cond.selects RJx4a65c yJx4a65c_elementData_915e3 yJx4a65c_elementData_915e3, Cond.code yJx4a65c_elementData_915e3 cJx4a65c_elementData_915e3 2 (some (.object "java/lang/Object")), Cond.fieldLink RJx4a65c 9 "java/util/ArrayList" "elementData" "[Ljava/lang/Object;", Cond.methodLink RX3 321 yX3_aheadInOrder, Cond.instanceMethod yX3_aheadInOrder, Cond.selects RX3 yX3_aheadInOrder yX3_aheadInOrder, Cond.code yX3_aheadInOrder cX3_aheadInOrder 4 (some .int), Cond.methodLink RX3 353 yX1_isAheadOf, Cond.instanceMethod yX1_isAheadOf, Cond.selects RX1 yX1_isAheadOf yX1_isAheadOf, Cond.initialized RX1, Cond.code yX1_isAheadOf cX1_isAheadOf 4 (some .boolean)]
def wsX3_form_r3 : List Cond := [Cond.fieldLink RX1 45 "Pommel$Fencer" "out" "Z", Cond.fieldLink RX1 36 "Pommel$Fencer" "won" "I", Cond.fieldLink RX1 33 "Pommel$Fencer" "met" "I", Cond.methodLink RX1 49 Lib.Math.max.name, Cond.static Lib.Math.max.name, Cond.initialized "java/lang/Math", Cond.code Lib.Math.max.name Lib.Math.max.code 2 (some .int), Cond.fieldLink RX1 39 "Pommel$Fencer" "given" "I", Cond.fieldLink RX1 42 "Pommel$Fencer" "taken" "I", Cond.fieldLink RX1 27 "Pommel$Fencer" "rank" "I", Cond.fieldLink RX1 24 "Pommel$Fencer" "number" "I", Cond.methodLink RX3 77 yX3_putIntoPool, Cond.instanceMethod yX3_putIntoPool, Cond.selects RX3 yX3_putIntoPool yX3_putIntoPool, Cond.code yX3_putIntoPool cX3_putIntoPool 4 none, Cond.fieldLink RX3 91 "Pommel$Fencer" "club" "I", Cond.fieldLink RX3 94 "Pommel$Fencer" "pool" "I", Cond.fieldLink RX3 25 "Pommel" "poolSizes" "[I", Cond.fieldLink RX3 97 "Pommel$Fencer" "spot" "I", Cond.methodLink RX3 116 yX3_poolInRow, Cond.instanceMethod yX3_poolInRow, Cond.selects RX3 yX3_poolInRow yX3_poolInRow, Cond.code yX3_poolInRow cX3_poolInRow 6 (some .int), Cond.methodLink RX3 120 yX3_hasClub]
def wsX3_form_r4 : List Cond := [Cond.instanceMethod yX3_hasClub, Cond.selects RX3 yX3_hasClub yX3_hasClub, Cond.code yX3_hasClub cX3_hasClub 5 (some .boolean), Cond.methodLink RX3 81 yX3_addPoolBouts, Cond.instanceMethod yX3_addPoolBouts, Cond.selects RX3 yX3_addPoolBouts yX3_addPoolBouts, Cond.code yX3_addPoolBouts cX3_addPoolBouts 7 none, Cond.classLink RX3 19 RX0, Cond.instantiable RX0 9, Cond.initialized RX0, Cond.methodLink RX3 128 yX3_fencerOnSpot, Cond.instanceMethod yX3_fencerOnSpot, Cond.selects RX3 yX3_fencerOnSpot yX3_fencerOnSpot, Cond.code yX3_fencerOnSpot cX3_fencerOnSpot 5 (some (.object "Pommel$Fencer")), Cond.methodLink RX3 132 yX0_init, Cond.instanceMethod yX0_init, Cond.code yX0_init cX0_init 5 none, Cond.methodLink RX0 3 objectInit, Cond.instanceMethod objectInit, Cond.code objectInit ⟨#[0xb1]⟩ 1 none, Cond.classLink RX0 9 RX2, Cond.instantiable RX2 3, Cond.initialized RX2, Cond.fieldLink RX0 12 "Pommel$Bout" "left" "LPommel$Side;"]
def wsX3_form_r5 : List Cond := [Cond.fieldLink RX0 18 "Pommel$Bout" "right" "LPommel$Side;", Cond.fieldLink RX0 21 "Pommel$Bout" "state" "I", Cond.fieldLink RX0 25 "Pommel$Bout" "piste" "I", Cond.fieldLink RX0 28 "Pommel$Bout" "number" "I", Cond.fieldLink RX0 31 "Pommel$Bout" "round" "I", Cond.fieldLink RX0 34 "Pommel$Side" "fencer" "LPommel$Fencer;", Cond.instanceMethod yX2_init, Cond.code yX2_init cX2_init 1 none, Cond.methodLink RX2 3 objectInit, Cond.methodLink RX3 65 yJx4a65c_add_9ea2d, Cond.instanceMethod yJx4a65c_add_9ea2d, Cond.selects RJx4a65c yJx4a65c_add_9ea2d yJx4a65c_add_9ea2d, Cond.code yJx4a65c_add_9ea2d cJx4a65c_add_9ea2d 2 (some .boolean), Cond.fieldLink RJx4a65c 63 "java/util/ArrayList" "modCount" "I", Cond.sameField "java/util/ArrayList" "java/util/AbstractList" "modCount" "I", Cond.methodLink RJx4a65c 131 yJx4a65c_add_72be8, Cond.instanceMethod yJx4a65c_add_72be8, Cond.selects RJx4a65c yJx4a65c_add_72be8 yJx4a65c_add_72be8, Cond.code yJx4a65c_add_72be8 cJx4a65c_add_72be8 4 none, Cond.methodLink RJx4a65c 129 yJx4a65c_grow_d5877, Cond.instanceMethod yJx4a65c_grow_d5877, Cond.selects RJx4a65c yJx4a65c_grow_d5877 yJx4a65c_grow_d5877, Cond.code yJx4a65c_grow_d5877 cJx4a65c_grow_d5877 1 (some (.array (.object "java/lang/Object"))), Cond.methodLink RJx4a65c 69 yJx4a65c_grow_92f84]
def wsX3_form_r6 : List Cond := [Cond.instanceMethod yJx4a65c_grow_92f84, Cond.selects RJx4a65c yJx4a65c_grow_92f84 yJx4a65c_grow_92f84, Cond.code yJx4a65c_grow_92f84 cJx4a65c_grow_92f84 4 (some (.array (.object "java/lang/Object"))), Cond.fieldLink RJx4a65c 39 "java/util/ArrayList" "DEFAULTCAPACITY_EMPTY_ELEMENTDATA" "[Ljava/lang/Object;", Cond.methodLink RJx4a65c 79 Lib.Math.max.name, Cond.classLink RJx4a65c 7 "java/lang/Object", Cond.methodLink RJx4a65c 73 yJ8_newLength_cabcc, Cond.static yJ8_newLength_cabcc, Cond.initialized RJ8, Cond.code yJ8_newLength_cabcc cJ8_newLength_cabcc 4 (some .int), Cond.methodLink RJ8 194 Lib.Math.max.name, Cond.constant RJ8 200 (2147483639), Cond.methodLink RJ8 201 yJ8_hugeLength_7cf53, Cond.static yJ8_hugeLength_7cf53, Cond.code yJ8_hugeLength_7cf53 cJ8_hugeLength_7cf53 3 (some .int), Cond.methodLink RJx4a65c 66 yJ7_copyOf_1904c, Cond.static yJ7_copyOf_1904c, Cond.initialized RJ7, Cond.code yJ7_copyOf_1904c cJ7_copyOf_1904c 2 (some (.array (.object "java/lang/Object"))), Cond.methodLink RJ7 86 ⟨"java/lang/Object", "getClass", "()Ljava/lang/Class;"⟩, Cond.selects "[Ljava/lang/Object;" ⟨"java/lang/Object", "getClass", "()Ljava/lang/Class;"⟩ ⟨"java/lang/Object", "getClass", "()Ljava/lang/Class;"⟩, Cond.instanceMethod ⟨"java/lang/Object", "getClass", "()Ljava/lang/Class;"⟩, Cond.native ⟨"java/lang/Object", "getClass", "()Ljava/lang/Class;"⟩, Cond.methodLink RJ7 300 yJ7_copyOf_6403c]
def wsX3_form_r7 : List Cond := [Cond.static yJ7_copyOf_6403c, Cond.code yJ7_copyOf_6403c cJ7_copyOf_6403c 4 (some (.array (.object "java/lang/Object"))), Cond.classLink RJ7 110 "[Ljava/lang/Object;", Cond.classLink RJ7 2 "java/lang/Object", Cond.methodLink RJ7 304 Lib.Math.min.name, Cond.static Lib.Math.min.name, Cond.code Lib.Math.min.name Lib.Math.min.code 2 (some .int), Cond.methodLink RJ7 150 arraycopyName, Cond.native arraycopyName, Cond.static arraycopyName, Cond.initialized "java/lang/System"]
def wsX3_form : List Cond := .code yX3_form cX3_form 3 (some .int) :: ((wsX3_form_r1 ++ (wsX3_form_r2 ++ (wsX3_form_r3 ++ (wsX3_form_r4 ++ (wsX3_form_r5 ++ (wsX3_form_r6 ++ wsX3_form_r7)))))) ++ wsX30 ++ wsJx4a65c0 ++ wsX10 ++ wsX00 ++ wsX20 ++ (vx_atS RX3 46 "java/lang/IllegalArgumentException" ["java/lang/RuntimeException", "java/lang/Exception"]).filter goodWord ++ (vx_atS RX3 61 "java/lang/IllegalStateException" ["java/lang/RuntimeException", "java/lang/Exception"]).filter goodWord)
def wsX3_fencerAt_r1 : List Cond := [Cond.classLink RX3 341 "java/lang/IndexOutOfBoundsException", Cond.initialized "java/lang/IndexOutOfBoundsException", Cond.fieldLink RX3 12 "Pommel" "fencers" "Ljava/util/ArrayList;", Cond.classLink RX3 29 "Pommel$Fencer", Cond.methodLink RX3 49 yJx4a65c_size_8abf5, Cond.instanceMethod yJx4a65c_size_8abf5, Cond.selects RJx4a65c yJx4a65c_size_8abf5 yJx4a65c_size_8abf5, Cond.initialized RJx4a65c, Cond.code yJx4a65c_size_8abf5 cJx4a65c_size_8abf5 1 (some .int), Cond.fieldLink RJx4a65c 48 "java/util/ArrayList" "size" "I", Cond.methodLink RX3 38 yX3_isIn, Cond.static yX3_isIn, Cond.initialized RX3, Cond.code yX3_isIn cX3_isIn 3 (some .boolean), Cond.methodLink RX3 124 yJx4a65c_get_915e3, Cond.instanceMethod yJx4a65c_get_915e3, Cond.selects RJx4a65c yJx4a65c_get_915e3 yJx4a65c_get_915e3, Cond.code yJx4a65c_get_915e3 cJx4a65c_get_915e3 2 (some (.object "java/lang/Object")), Cond.methodLink RJx4a65c 118 yJ15_checkIndex_7cf53, Cond.static yJ15_checkIndex_7cf53, Cond.initialized RJ15, Cond.code yJ15_checkIndex_7cf53 cJ15_checkIndex_7cf53 2 (some .int), Cond.methodLink RJ15 105 yJ3_checkIndex_8e157, Cond.static yJ3_checkIndex_8e157]
def wsX3_fencerAt_r2 : List Cond := [Cond.initialized RJ3, Cond.code yJ3_checkIndex_8e157 cJ3_checkIndex_8e157 3 (some .int), Cond.methodLink RJx4a65c 123 yJx4a65c_elementData_915e3, Cond.instanceMethod yJx4a65c_elementData_915e3, Cond.selects RJx4a65c yJx4a65c_elementData_915e3 yJx4a65c_elementData_915e3, Cond.code yJx4a65c_elementData_915e3 cJx4a65c_elementData_915e3 2 (some (.object "java/lang/Object")), Cond.fieldLink RJx4a65c 9 "java/util/ArrayList" "elementData" "[Ljava/lang/Object;"]
def wsX3_fencerAt : List Cond := .code yX3_fencerAt cX3_fencerAt 2 (some (.object "Pommel$Fencer")) :: ((wsX3_fencerAt_r1 ++ wsX3_fencerAt_r2) ++ wsX30 ++ wsJx4a65c0 ++ (vx_atS RX3 345 "java/lang/IndexOutOfBoundsException" ["java/lang/RuntimeException", "java/lang/Exception"]).filter goodWord)
def wsX3_of_r1 : List Cond := [Cond.classLink RX3 42 "java/lang/IllegalArgumentException", Cond.initialized "java/lang/IllegalArgumentException", Cond.fieldLink RX3 88 "Pommel$Fencer" "rank" "I", Cond.fieldLink RX3 91 "Pommel$Fencer" "club" "I", Cond.fieldLink RX3 94 "Pommel$Fencer" "pool" "I", Cond.fieldLink RX3 97 "Pommel$Fencer" "spot" "I", Cond.fieldLink RX3 100 "Pommel$Fencer" "out" "Z", Cond.fieldLink RX3 104 "Pommel$Fencer" "liveBout" "LPommel$Bout;", Cond.fieldLink RX3 108 "Pommel$Bout" "number" "I", Cond.fieldLink RX3 111 "Pommel$Fencer" "restedAt" "I", Cond.methodLink RX3 85 yX3_fencerAt, Cond.instanceMethod yX3_fencerAt, Cond.selects RX3 yX3_fencerAt yX3_fencerAt, Cond.initialized RX3, Cond.code yX3_fencerAt cX3_fencerAt 2 (some (.object "Pommel$Fencer")), Cond.classLink RX3 341 "java/lang/IndexOutOfBoundsException", Cond.initialized "java/lang/IndexOutOfBoundsException", Cond.fieldLink RX3 12 "Pommel" "fencers" "Ljava/util/ArrayList;", Cond.classLink RX3 29 "Pommel$Fencer", Cond.methodLink RX3 49 yJx4a65c_size_8abf5, Cond.instanceMethod yJx4a65c_size_8abf5, Cond.selects RJx4a65c yJx4a65c_size_8abf5 yJx4a65c_size_8abf5, Cond.initialized RJx4a65c, Cond.code yJx4a65c_size_8abf5 cJx4a65c_size_8abf5 1 (some .int)]
def wsX3_of_r2 : List Cond := [Cond.fieldLink RJx4a65c 48 "java/util/ArrayList" "size" "I", Cond.methodLink RX3 38 yX3_isIn, Cond.static yX3_isIn, Cond.code yX3_isIn cX3_isIn 3 (some .boolean), Cond.methodLink RX3 124 yJx4a65c_get_915e3, Cond.instanceMethod yJx4a65c_get_915e3, Cond.selects RJx4a65c yJx4a65c_get_915e3 yJx4a65c_get_915e3, Cond.code yJx4a65c_get_915e3 cJx4a65c_get_915e3 2 (some (.object "java/lang/Object")), Cond.methodLink RJx4a65c 118 yJ15_checkIndex_7cf53, Cond.static yJ15_checkIndex_7cf53, Cond.initialized RJ15, Cond.code yJ15_checkIndex_7cf53 cJ15_checkIndex_7cf53 2 (some .int), Cond.methodLink RJ15 105 yJ3_checkIndex_8e157, Cond.static yJ3_checkIndex_8e157, Cond.initialized RJ3, Cond.code yJ3_checkIndex_8e157 cJ3_checkIndex_8e157 3 (some .int), Cond.methodLink RJx4a65c 123 yJx4a65c_elementData_915e3, Cond.instanceMethod yJx4a65c_elementData_915e3, Cond.selects RJx4a65c yJx4a65c_elementData_915e3 yJx4a65c_elementData_915e3, Cond.code yJx4a65c_elementData_915e3 cJx4a65c_elementData_915e3 2 (some (.object "java/lang/Object")), Cond.fieldLink RJx4a65c 9 "java/util/ArrayList" "elementData" "[Ljava/lang/Object;"]
def wsX3_of : List Cond := .code yX3_of cX3_of 4 (some .int) :: ((wsX3_of_r1 ++ wsX3_of_r2) ++ wsX10 ++ wsX00 ++ wsX30 ++ wsJx4a65c0 ++ (vx_atS RX3 46 "java/lang/IllegalArgumentException" ["java/lang/RuntimeException", "java/lang/Exception"]).filter goodWord ++ (vx_atS RX3 345 "java/lang/IndexOutOfBoundsException" ["java/lang/RuntimeException", "java/lang/Exception"]).filter goodWord)
def wsX3_boutAt_r1 : List Cond := [Cond.classLink RX3 341 "java/lang/IndexOutOfBoundsException", Cond.initialized "java/lang/IndexOutOfBoundsException", Cond.fieldLink RX3 16 "Pommel" "bouts" "Ljava/util/ArrayList;", Cond.classLink RX3 19 "Pommel$Bout", Cond.methodLink RX3 49 yJx4a65c_size_8abf5, Cond.instanceMethod yJx4a65c_size_8abf5, Cond.selects RJx4a65c yJx4a65c_size_8abf5 yJx4a65c_size_8abf5, Cond.initialized RJx4a65c, Cond.code yJx4a65c_size_8abf5 cJx4a65c_size_8abf5 1 (some .int), Cond.fieldLink RJx4a65c 48 "java/util/ArrayList" "size" "I", Cond.methodLink RX3 38 yX3_isIn, Cond.static yX3_isIn, Cond.initialized RX3, Cond.code yX3_isIn cX3_isIn 3 (some .boolean), Cond.methodLink RX3 124 yJx4a65c_get_915e3, Cond.instanceMethod yJx4a65c_get_915e3, Cond.selects RJx4a65c yJx4a65c_get_915e3 yJx4a65c_get_915e3, Cond.code yJx4a65c_get_915e3 cJx4a65c_get_915e3 2 (some (.object "java/lang/Object")), Cond.methodLink RJx4a65c 118 yJ15_checkIndex_7cf53, Cond.static yJ15_checkIndex_7cf53, Cond.initialized RJ15, Cond.code yJ15_checkIndex_7cf53 cJ15_checkIndex_7cf53 2 (some .int), Cond.methodLink RJ15 105 yJ3_checkIndex_8e157, Cond.static yJ3_checkIndex_8e157]
def wsX3_boutAt_r2 : List Cond := [Cond.initialized RJ3, Cond.code yJ3_checkIndex_8e157 cJ3_checkIndex_8e157 3 (some .int), Cond.methodLink RJx4a65c 123 yJx4a65c_elementData_915e3, Cond.instanceMethod yJx4a65c_elementData_915e3, Cond.selects RJx4a65c yJx4a65c_elementData_915e3 yJx4a65c_elementData_915e3, Cond.code yJx4a65c_elementData_915e3 cJx4a65c_elementData_915e3 2 (some (.object "java/lang/Object")), Cond.fieldLink RJx4a65c 9 "java/util/ArrayList" "elementData" "[Ljava/lang/Object;"]
def wsX3_boutAt : List Cond := .code yX3_boutAt cX3_boutAt 2 (some (.object "Pommel$Bout")) :: ((wsX3_boutAt_r1 ++ wsX3_boutAt_r2) ++ wsX30 ++ wsJx4a65c0 ++ (vx_atS RX3 345 "java/lang/IndexOutOfBoundsException" ["java/lang/RuntimeException", "java/lang/Exception"]).filter goodWord)
def wsX3_isPiste : List Cond := .code yX3_isPiste cX3_isPiste 1 (some .boolean) :: ([.methodLink RX3 38 yX3_isIn, .static yX3_isIn, .initialized RX3, .code yX3_isIn cX3_isIn 3 (some .boolean)])
def wsX3_whyNotReady_r1 : List Cond := [Cond.fieldLink RX3 210 "Pommel$Bout" "state" "I", Cond.fieldLink RX3 172 "Pommel$Bout" "left" "LPommel$Side;", Cond.fieldLink RX3 181 "Pommel$Bout" "right" "LPommel$Side;", Cond.fieldLink RX3 160 "Pommel" "now" "I", Cond.methodLink RX3 256 yX0_isKnown, Cond.instanceMethod yX0_isKnown, Cond.selects RX0 yX0_isKnown yX0_isKnown, Cond.initialized RX0, Cond.code yX0_isKnown cX0_isKnown 1 (some .boolean), Cond.fieldLink RX0 12 "Pommel$Bout" "left" "LPommel$Side;", Cond.fieldLink RX0 34 "Pommel$Side" "fencer" "LPommel$Fencer;", Cond.fieldLink RX0 18 "Pommel$Bout" "right" "LPommel$Side;", Cond.methodLink RX3 259 yX2_isInLiveBout, Cond.instanceMethod yX2_isInLiveBout, Cond.selects RX2 yX2_isInLiveBout yX2_isInLiveBout, Cond.initialized RX2, Cond.code yX2_isInLiveBout cX2_isInLiveBout 1 (some .boolean), Cond.fieldLink RX2 9 "Pommel$Side" "fencer" "LPommel$Fencer;", Cond.fieldLink RX2 15 "Pommel$Fencer" "liveBout" "LPommel$Bout;", Cond.methodLink RX3 238 yX0_restedAt, Cond.instanceMethod yX0_restedAt, Cond.selects RX0 yX0_restedAt yX0_restedAt, Cond.code yX0_restedAt cX0_restedAt 1 (some .int), Cond.methodLink RX0 52 Lib.Math.max.name]
def wsX3_whyNotReady_r2 : List Cond := [Cond.static Lib.Math.max.name, Cond.initialized "java/lang/Math", Cond.code Lib.Math.max.name Lib.Math.max.code 2 (some .int), Cond.methodLink RX0 49 yX2_restedAt, Cond.instanceMethod yX2_restedAt, Cond.selects RX2 yX2_restedAt yX2_restedAt, Cond.code yX2_restedAt cX2_restedAt 1 (some .int), Cond.fieldLink RX2 21 "Pommel$Fencer" "restedAt" "I"]
def wsX3_whyNotReady : List Cond := .code yX3_whyNotReady cX3_whyNotReady 2 (some .int) :: ((wsX3_whyNotReady_r1 ++ wsX3_whyNotReady_r2) ++ wsX00 ++ wsX30 ++ wsX20 ++ wsX10)
def wsX3_start_r1 : List Cond := [Cond.classLink RX3 42 "java/lang/IllegalArgumentException", Cond.initialized "java/lang/IllegalArgumentException", Cond.classLink RX3 57 "java/lang/IllegalStateException", Cond.initialized "java/lang/IllegalStateException", Cond.fieldLink RX3 21 "Pommel" "pistes" "[LPommel$Bout;", Cond.methodLink RX3 135 yX3_boutAt, Cond.instanceMethod yX3_boutAt, Cond.selects RX3 yX3_boutAt yX3_boutAt, Cond.initialized RX3, Cond.code yX3_boutAt cX3_boutAt 2 (some (.object "Pommel$Bout")), Cond.classLink RX3 341 "java/lang/IndexOutOfBoundsException", Cond.initialized "java/lang/IndexOutOfBoundsException", Cond.fieldLink RX3 16 "Pommel" "bouts" "Ljava/util/ArrayList;", Cond.classLink RX3 19 "Pommel$Bout", Cond.methodLink RX3 49 yJx4a65c_size_8abf5, Cond.instanceMethod yJx4a65c_size_8abf5, Cond.selects RJx4a65c yJx4a65c_size_8abf5 yJx4a65c_size_8abf5, Cond.initialized RJx4a65c, Cond.code yJx4a65c_size_8abf5 cJx4a65c_size_8abf5 1 (some .int), Cond.fieldLink RJx4a65c 48 "java/util/ArrayList" "size" "I", Cond.methodLink RX3 38 yX3_isIn, Cond.static yX3_isIn, Cond.code yX3_isIn cX3_isIn 3 (some .boolean), Cond.methodLink RX3 124 yJx4a65c_get_915e3]
def wsX3_start_r2 : List Cond := [Cond.instanceMethod yJx4a65c_get_915e3, Cond.selects RJx4a65c yJx4a65c_get_915e3 yJx4a65c_get_915e3, Cond.code yJx4a65c_get_915e3 cJx4a65c_get_915e3 2 (some (.object "java/lang/Object")), Cond.methodLink RJx4a65c 118 yJ15_checkIndex_7cf53, Cond.static yJ15_checkIndex_7cf53, Cond.initialized RJ15, Cond.code yJ15_checkIndex_7cf53 cJ15_checkIndex_7cf53 2 (some .int), Cond.methodLink RJ15 105 yJ3_checkIndex_8e157, Cond.static yJ3_checkIndex_8e157, Cond.initialized RJ3, Cond.code yJ3_checkIndex_8e157 cJ3_checkIndex_8e157 3 (some .int), Cond.methodLink RJx4a65c 123 yJx4a65c_elementData_915e3, Cond.instanceMethod yJx4a65c_elementData_915e3, Cond.selects RJx4a65c yJx4a65c_elementData_915e3 yJx4a65c_elementData_915e3, Cond.code yJx4a65c_elementData_915e3 cJx4a65c_elementData_915e3 2 (some (.object "java/lang/Object")), Cond.fieldLink RJx4a65c 9 "java/util/ArrayList" "elementData" "[Ljava/lang/Object;", Cond.methodLink RX3 139 yX3_isPiste, Cond.static yX3_isPiste, Cond.code yX3_isPiste cX3_isPiste 1 (some .boolean), Cond.methodLink RX3 145 yX3_whyNotReady, Cond.instanceMethod yX3_whyNotReady, Cond.selects RX3 yX3_whyNotReady yX3_whyNotReady, Cond.code yX3_whyNotReady cX3_whyNotReady 2 (some .int), Cond.fieldLink RX3 210 "Pommel$Bout" "state" "I"]
def wsX3_start_r3 : List Cond := [Cond.fieldLink RX3 172 "Pommel$Bout" "left" "LPommel$Side;", Cond.fieldLink RX3 181 "Pommel$Bout" "right" "LPommel$Side;", Cond.fieldLink RX3 160 "Pommel" "now" "I", Cond.methodLink RX3 256 yX0_isKnown, Cond.instanceMethod yX0_isKnown, Cond.selects RX0 yX0_isKnown yX0_isKnown, Cond.initialized RX0, Cond.code yX0_isKnown cX0_isKnown 1 (some .boolean), Cond.fieldLink RX0 12 "Pommel$Bout" "left" "LPommel$Side;", Cond.fieldLink RX0 34 "Pommel$Side" "fencer" "LPommel$Fencer;", Cond.fieldLink RX0 18 "Pommel$Bout" "right" "LPommel$Side;", Cond.methodLink RX3 259 yX2_isInLiveBout, Cond.instanceMethod yX2_isInLiveBout, Cond.selects RX2 yX2_isInLiveBout yX2_isInLiveBout, Cond.initialized RX2, Cond.code yX2_isInLiveBout cX2_isInLiveBout 1 (some .boolean), Cond.fieldLink RX2 9 "Pommel$Side" "fencer" "LPommel$Fencer;", Cond.fieldLink RX2 15 "Pommel$Fencer" "liveBout" "LPommel$Bout;", Cond.methodLink RX3 238 yX0_restedAt, Cond.instanceMethod yX0_restedAt, Cond.selects RX0 yX0_restedAt yX0_restedAt, Cond.code yX0_restedAt cX0_restedAt 1 (some .int), Cond.methodLink RX0 52 Lib.Math.max.name, Cond.static Lib.Math.max.name]
def wsX3_start_r4 : List Cond := [Cond.initialized "java/lang/Math", Cond.code Lib.Math.max.name Lib.Math.max.code 2 (some .int), Cond.methodLink RX0 49 yX2_restedAt, Cond.instanceMethod yX2_restedAt, Cond.selects RX2 yX2_restedAt yX2_restedAt, Cond.code yX2_restedAt cX2_restedAt 1 (some .int), Cond.fieldLink RX2 21 "Pommel$Fencer" "restedAt" "I", Cond.methodLink RX3 151 yX0_begin, Cond.instanceMethod yX0_begin, Cond.selects RX0 yX0_begin yX0_begin, Cond.code yX0_begin cX0_begin 2 none, Cond.fieldLink RX0 21 "Pommel$Bout" "state" "I", Cond.fieldLink RX0 25 "Pommel$Bout" "piste" "I", Cond.fieldLink RX0 42 "Pommel$Bout" "period" "I", Cond.fieldLink RX0 71 "Pommel$Bout" "secondsLeft" "I", Cond.methodLink RX0 74 yX2_begin, Cond.instanceMethod yX2_begin, Cond.selects RX2 yX2_begin yX2_begin, Cond.code yX2_begin cX2_begin 2 none]
def wsX3_start : List Cond := .code yX3_start cX3_start 4 none :: ((wsX3_start_r1 ++ (wsX3_start_r2 ++ (wsX3_start_r3 ++ wsX3_start_r4))) ++ wsX30 ++ wsJx4a65c0 ++ wsX00 ++ wsX20 ++ wsX10 ++ (vx_atS RX3 46 "java/lang/IllegalArgumentException" ["java/lang/RuntimeException", "java/lang/Exception"]).filter goodWord ++ (vx_atS RX3 61 "java/lang/IllegalStateException" ["java/lang/RuntimeException", "java/lang/Exception"]).filter goodWord ++ (vx_atS RX3 345 "java/lang/IndexOutOfBoundsException" ["java/lang/RuntimeException", "java/lang/Exception"]).filter goodWord)
def wsX3_leavePiste_r1 : List Cond := [Cond.fieldLink RX3 220 "Pommel$Bout" "piste" "I", Cond.fieldLink RX3 21 "Pommel" "pistes" "[LPommel$Bout;", Cond.methodLink RX3 139 yX3_isPiste, Cond.static yX3_isPiste, Cond.initialized RX3, Cond.code yX3_isPiste cX3_isPiste 1 (some .boolean), Cond.methodLink RX3 38 yX3_isIn, Cond.static yX3_isIn, Cond.code yX3_isIn cX3_isIn 3 (some .boolean), Cond.methodLink RX3 297 yX0_end, Cond.instanceMethod yX0_end, Cond.selects RX0 yX0_end yX0_end, Cond.initialized RX0, Cond.code yX0_end cX0_end 2 none, Cond.fieldLink RX0 25 "Pommel$Bout" "piste" "I", Cond.fieldLink RX0 42 "Pommel$Bout" "period" "I", Cond.fieldLink RX0 71 "Pommel$Bout" "secondsLeft" "I", Cond.fieldLink RX0 12 "Pommel$Bout" "left" "LPommel$Side;", Cond.fieldLink RX0 18 "Pommel$Bout" "right" "LPommel$Side;", Cond.methodLink RX0 78 yX2_end, Cond.instanceMethod yX2_end, Cond.selects RX2 yX2_end yX2_end, Cond.initialized RX2, Cond.code yX2_end cX2_end 2 none]
def wsX3_leavePiste_r2 : List Cond := [Cond.fieldLink RX2 9 "Pommel$Side" "fencer" "LPommel$Fencer;", Cond.fieldLink RX2 15 "Pommel$Fencer" "liveBout" "LPommel$Bout;", Cond.fieldLink RX2 21 "Pommel$Fencer" "restedAt" "I"]
def wsX3_leavePiste : List Cond := .code yX3_leavePiste cX3_leavePiste 3 none :: ((wsX3_leavePiste_r1 ++ wsX3_leavePiste_r2) ++ wsX00 ++ wsX30 ++ wsX20 ++ wsX10)
def wsX3_goOnInTable_r1 : List Cond := [Cond.fieldLink RX3 108 "Pommel$Bout" "number" "I", Cond.fieldLink RX3 356 "Pommel" "firstOfTable" "I", Cond.fieldLink RX3 247 "Pommel" "tableSize" "I", Cond.fieldLink RX3 16 "Pommel" "bouts" "Ljava/util/ArrayList;", Cond.classLink RX3 19 "Pommel$Bout", Cond.fieldLink RX3 217 "Pommel$Bout" "winner" "LPommel$Fencer;", Cond.fieldLink RX3 202 "Pommel$Side" "fencer" "LPommel$Fencer;", Cond.methodLink RX3 49 yJx4a65c_size_8abf5, Cond.instanceMethod yJx4a65c_size_8abf5, Cond.selects RJx4a65c yJx4a65c_size_8abf5 yJx4a65c_size_8abf5, Cond.initialized RJx4a65c, Cond.code yJx4a65c_size_8abf5 cJx4a65c_size_8abf5 1 (some .int), Cond.fieldLink RJx4a65c 48 "java/util/ArrayList" "size" "I", Cond.methodLink RX3 38 yX3_isIn, Cond.static yX3_isIn, Cond.initialized RX3, Cond.code yX3_isIn cX3_isIn 3 (some .boolean), Cond.methodLink RX3 124 yJx4a65c_get_915e3, Cond.instanceMethod yJx4a65c_get_915e3, Cond.selects RJx4a65c yJx4a65c_get_915e3 yJx4a65c_get_915e3, Cond.code yJx4a65c_get_915e3 cJx4a65c_get_915e3 2 (some (.object "java/lang/Object")), Cond.methodLink RJx4a65c 118 yJ15_checkIndex_7cf53, Cond.static yJ15_checkIndex_7cf53, Cond.initialized RJ15]
def wsX3_goOnInTable_r2 : List Cond := [Cond.code yJ15_checkIndex_7cf53 cJ15_checkIndex_7cf53 2 (some .int), Cond.methodLink RJ15 105 yJ3_checkIndex_8e157, Cond.static yJ3_checkIndex_8e157, Cond.initialized RJ3, Cond.code yJ3_checkIndex_8e157 cJ3_checkIndex_8e157 3 (some .int), Cond.methodLink RJx4a65c 123 yJx4a65c_elementData_915e3, Cond.instanceMethod yJx4a65c_elementData_915e3, Cond.selects RJx4a65c yJx4a65c_elementData_915e3 yJx4a65c_elementData_915e3, Cond.code yJx4a65c_elementData_915e3 cJx4a65c_elementData_915e3 2 (some (.object "java/lang/Object")), Cond.fieldLink RJx4a65c 9 "java/util/ArrayList" "elementData" "[Ljava/lang/Object;", Cond.methodLink RX3 190 yX0_sideOf, Cond.instanceMethod yX0_sideOf, Cond.selects RX0 yX0_sideOf yX0_sideOf, Cond.initialized RX0, Cond.code yX0_sideOf cX0_sideOf 2 (some (.object "Pommel$Side")), Cond.fieldLink RX0 12 "Pommel$Bout" "left" "LPommel$Side;", Cond.fieldLink RX0 18 "Pommel$Bout" "right" "LPommel$Side;"]
def wsX3_goOnInTable : List Cond := .code yX3_goOnInTable cX3_goOnInTable 4 none :: ((wsX3_goOnInTable_r1 ++ wsX3_goOnInTable_r2) ++ wsX00 ++ wsX30 ++ wsX20 ++ wsJx4a65c0)
def wsX3_decide_r1 : List Cond := [Cond.fieldLink RX3 210 "Pommel$Bout" "state" "I", Cond.fieldLink RX3 217 "Pommel$Bout" "winner" "LPommel$Fencer;", Cond.fieldLink RX3 172 "Pommel$Bout" "left" "LPommel$Side;", Cond.fieldLink RX3 176 "Pommel$Side" "score" "I", Cond.fieldLink RX3 181 "Pommel$Bout" "right" "LPommel$Side;", Cond.fieldLink RX3 202 "Pommel$Side" "fencer" "LPommel$Fencer;", Cond.fieldLink RX3 300 "Pommel$Bout" "round" "I", Cond.fieldLink RX3 303 "Pommel$Fencer" "standing" "I", Cond.methodLink RX3 278 yX0_isOfTable, Cond.instanceMethod yX0_isOfTable, Cond.selects RX0 yX0_isOfTable yX0_isOfTable, Cond.initialized RX0, Cond.code yX0_isOfTable cX0_isOfTable 1 (some .boolean), Cond.fieldLink RX0 31 "Pommel$Bout" "round" "I", Cond.methodLink RX3 289 yX0_count, Cond.instanceMethod yX0_count, Cond.selects RX0 yX0_count yX0_count, Cond.code yX0_count cX0_count 5 none, Cond.fieldLink RX0 12 "Pommel$Bout" "left" "LPommel$Side;", Cond.fieldLink RX0 18 "Pommel$Bout" "right" "LPommel$Side;", Cond.methodLink RX0 82 yX2_count, Cond.instanceMethod yX2_count, Cond.selects RX2 yX2_count yX2_count, Cond.initialized RX2]
def wsX3_decide_r2 : List Cond := [Cond.code yX2_count cX2_count 5 none, Cond.fieldLink RX2 9 "Pommel$Side" "fencer" "LPommel$Fencer;", Cond.methodLink RX2 25 yX1_count, Cond.instanceMethod yX1_count, Cond.selects RX1 yX1_count yX1_count, Cond.initialized RX1, Cond.code yX1_count cX1_count 5 none, Cond.fieldLink RX1 33 "Pommel$Fencer" "met" "I", Cond.fieldLink RX1 36 "Pommel$Fencer" "won" "I", Cond.fieldLink RX1 39 "Pommel$Fencer" "given" "I", Cond.fieldLink RX1 42 "Pommel$Fencer" "taken" "I", Cond.methodLink RX3 306 yX3_goOnInTable, Cond.instanceMethod yX3_goOnInTable, Cond.selects RX3 yX3_goOnInTable yX3_goOnInTable, Cond.initialized RX3, Cond.code yX3_goOnInTable cX3_goOnInTable 4 none, Cond.fieldLink RX3 108 "Pommel$Bout" "number" "I", Cond.fieldLink RX3 356 "Pommel" "firstOfTable" "I", Cond.fieldLink RX3 247 "Pommel" "tableSize" "I", Cond.fieldLink RX3 16 "Pommel" "bouts" "Ljava/util/ArrayList;", Cond.classLink RX3 19 "Pommel$Bout", Cond.methodLink RX3 49 yJx4a65c_size_8abf5, Cond.instanceMethod yJx4a65c_size_8abf5, Cond.selects RJx4a65c yJx4a65c_size_8abf5 yJx4a65c_size_8abf5]
def wsX3_decide_r3 : List Cond := [Cond.initialized RJx4a65c, Cond.code yJx4a65c_size_8abf5 cJx4a65c_size_8abf5 1 (some .int), Cond.fieldLink RJx4a65c 48 "java/util/ArrayList" "size" "I", Cond.methodLink RX3 38 yX3_isIn, Cond.static yX3_isIn, Cond.code yX3_isIn cX3_isIn 3 (some .boolean), Cond.methodLink RX3 124 yJx4a65c_get_915e3, Cond.instanceMethod yJx4a65c_get_915e3, Cond.selects RJx4a65c yJx4a65c_get_915e3 yJx4a65c_get_915e3, Cond.code yJx4a65c_get_915e3 cJx4a65c_get_915e3 2 (some (.object "java/lang/Object")), Cond.methodLink RJx4a65c 118 yJ15_checkIndex_7cf53, Cond.static yJ15_checkIndex_7cf53, Cond.initialized RJ15, Cond.code yJ15_checkIndex_7cf53 cJ15_checkIndex_7cf53 2 (some .int), Cond.methodLink RJ15 105 yJ3_checkIndex_8e157, Cond.static yJ3_checkIndex_8e157, Cond.initialized RJ3, Cond.code yJ3_checkIndex_8e157 cJ3_checkIndex_8e157 3 (some .int), Cond.methodLink RJx4a65c 123 yJx4a65c_elementData_915e3, Cond.instanceMethod yJx4a65c_elementData_915e3, Cond.selects RJx4a65c yJx4a65c_elementData_915e3 yJx4a65c_elementData_915e3, Cond.code yJx4a65c_elementData_915e3 cJx4a65c_elementData_915e3 2 (some (.object "java/lang/Object")), Cond.fieldLink RJx4a65c 9 "java/util/ArrayList" "elementData" "[Ljava/lang/Object;", Cond.methodLink RX3 190 yX0_sideOf]
def wsX3_decide_r4 : List Cond := [Cond.instanceMethod yX0_sideOf, Cond.selects RX0 yX0_sideOf yX0_sideOf, Cond.code yX0_sideOf cX0_sideOf 2 (some (.object "Pommel$Side"))]
def wsX3_decide : List Cond := .code yX3_decide cX3_decide 4 none :: ((wsX3_decide_r1 ++ (wsX3_decide_r2 ++ (wsX3_decide_r3 ++ wsX3_decide_r4))) ++ wsX00 ++ wsX20 ++ wsX10 ++ wsX30 ++ wsJx4a65c0)
def wsX3_finish_r1 : List Cond := [Cond.methodLink RX3 281 yX3_leavePiste, Cond.instanceMethod yX3_leavePiste, Cond.selects RX3 yX3_leavePiste yX3_leavePiste, Cond.initialized RX3, Cond.code yX3_leavePiste cX3_leavePiste 3 none, Cond.fieldLink RX3 220 "Pommel$Bout" "piste" "I", Cond.fieldLink RX3 21 "Pommel" "pistes" "[LPommel$Bout;", Cond.methodLink RX3 139 yX3_isPiste, Cond.static yX3_isPiste, Cond.code yX3_isPiste cX3_isPiste 1 (some .boolean), Cond.methodLink RX3 38 yX3_isIn, Cond.static yX3_isIn, Cond.code yX3_isIn cX3_isIn 3 (some .boolean), Cond.methodLink RX3 297 yX0_end, Cond.instanceMethod yX0_end, Cond.selects RX0 yX0_end yX0_end, Cond.initialized RX0, Cond.code yX0_end cX0_end 2 none, Cond.fieldLink RX0 25 "Pommel$Bout" "piste" "I", Cond.fieldLink RX0 42 "Pommel$Bout" "period" "I", Cond.fieldLink RX0 71 "Pommel$Bout" "secondsLeft" "I", Cond.fieldLink RX0 12 "Pommel$Bout" "left" "LPommel$Side;", Cond.fieldLink RX0 18 "Pommel$Bout" "right" "LPommel$Side;", Cond.methodLink RX0 78 yX2_end]
def wsX3_finish_r2 : List Cond := [Cond.instanceMethod yX2_end, Cond.selects RX2 yX2_end yX2_end, Cond.initialized RX2, Cond.code yX2_end cX2_end 2 none, Cond.fieldLink RX2 9 "Pommel$Side" "fencer" "LPommel$Fencer;", Cond.fieldLink RX2 15 "Pommel$Fencer" "liveBout" "LPommel$Bout;", Cond.fieldLink RX2 21 "Pommel$Fencer" "restedAt" "I", Cond.methodLink RX3 293 yX3_decide, Cond.instanceMethod yX3_decide, Cond.selects RX3 yX3_decide yX3_decide, Cond.code yX3_decide cX3_decide 4 none, Cond.fieldLink RX3 210 "Pommel$Bout" "state" "I", Cond.fieldLink RX3 217 "Pommel$Bout" "winner" "LPommel$Fencer;", Cond.fieldLink RX3 172 "Pommel$Bout" "left" "LPommel$Side;", Cond.fieldLink RX3 176 "Pommel$Side" "score" "I", Cond.fieldLink RX3 181 "Pommel$Bout" "right" "LPommel$Side;", Cond.fieldLink RX3 202 "Pommel$Side" "fencer" "LPommel$Fencer;", Cond.fieldLink RX3 300 "Pommel$Bout" "round" "I", Cond.fieldLink RX3 303 "Pommel$Fencer" "standing" "I", Cond.methodLink RX3 278 yX0_isOfTable, Cond.instanceMethod yX0_isOfTable, Cond.selects RX0 yX0_isOfTable yX0_isOfTable, Cond.code yX0_isOfTable cX0_isOfTable 1 (some .boolean), Cond.fieldLink RX0 31 "Pommel$Bout" "round" "I"]
def wsX3_finish_r3 : List Cond := [Cond.methodLink RX3 289 yX0_count, Cond.instanceMethod yX0_count, Cond.selects RX0 yX0_count yX0_count, Cond.code yX0_count cX0_count 5 none, Cond.methodLink RX0 82 yX2_count, Cond.instanceMethod yX2_count, Cond.selects RX2 yX2_count yX2_count, Cond.code yX2_count cX2_count 5 none, Cond.methodLink RX2 25 yX1_count, Cond.instanceMethod yX1_count, Cond.selects RX1 yX1_count yX1_count, Cond.initialized RX1, Cond.code yX1_count cX1_count 5 none, Cond.fieldLink RX1 33 "Pommel$Fencer" "met" "I", Cond.fieldLink RX1 36 "Pommel$Fencer" "won" "I", Cond.fieldLink RX1 39 "Pommel$Fencer" "given" "I", Cond.fieldLink RX1 42 "Pommel$Fencer" "taken" "I", Cond.methodLink RX3 306 yX3_goOnInTable, Cond.instanceMethod yX3_goOnInTable, Cond.selects RX3 yX3_goOnInTable yX3_goOnInTable, Cond.code yX3_goOnInTable cX3_goOnInTable 4 none, Cond.fieldLink RX3 108 "Pommel$Bout" "number" "I", Cond.fieldLink RX3 356 "Pommel" "firstOfTable" "I", Cond.fieldLink RX3 247 "Pommel" "tableSize" "I"]
def wsX3_finish_r4 : List Cond := [Cond.fieldLink RX3 16 "Pommel" "bouts" "Ljava/util/ArrayList;", Cond.classLink RX3 19 "Pommel$Bout", Cond.methodLink RX3 49 yJx4a65c_size_8abf5, Cond.instanceMethod yJx4a65c_size_8abf5, Cond.selects RJx4a65c yJx4a65c_size_8abf5 yJx4a65c_size_8abf5, Cond.initialized RJx4a65c, Cond.code yJx4a65c_size_8abf5 cJx4a65c_size_8abf5 1 (some .int), Cond.fieldLink RJx4a65c 48 "java/util/ArrayList" "size" "I", Cond.methodLink RX3 124 yJx4a65c_get_915e3, Cond.instanceMethod yJx4a65c_get_915e3, Cond.selects RJx4a65c yJx4a65c_get_915e3 yJx4a65c_get_915e3, Cond.code yJx4a65c_get_915e3 cJx4a65c_get_915e3 2 (some (.object "java/lang/Object")), Cond.methodLink RJx4a65c 118 yJ15_checkIndex_7cf53, Cond.static yJ15_checkIndex_7cf53, Cond.initialized RJ15, Cond.code yJ15_checkIndex_7cf53 cJ15_checkIndex_7cf53 2 (some .int), Cond.methodLink RJ15 105 yJ3_checkIndex_8e157, Cond.static yJ3_checkIndex_8e157, Cond.initialized RJ3, Cond.code yJ3_checkIndex_8e157 cJ3_checkIndex_8e157 3 (some .int), Cond.methodLink RJx4a65c 123 yJx4a65c_elementData_915e3, Cond.instanceMethod yJx4a65c_elementData_915e3, Cond.selects RJx4a65c yJx4a65c_elementData_915e3 yJx4a65c_elementData_915e3, Cond.code yJx4a65c_elementData_915e3 cJx4a65c_elementData_915e3 2 (some (.object "java/lang/Object"))]
def wsX3_finish_r5 : List Cond := [Cond.fieldLink RJx4a65c 9 "java/util/ArrayList" "elementData" "[Ljava/lang/Object;", Cond.methodLink RX3 190 yX0_sideOf, Cond.instanceMethod yX0_sideOf, Cond.selects RX0 yX0_sideOf yX0_sideOf, Cond.code yX0_sideOf cX0_sideOf 2 (some (.object "Pommel$Side"))]
def wsX3_finish : List Cond := .code yX3_finish cX3_finish 4 none :: ((wsX3_finish_r1 ++ (wsX3_finish_r2 ++ (wsX3_finish_r3 ++ (wsX3_finish_r4 ++ wsX3_finish_r5)))) ++ wsX00 ++ wsX30 ++ wsX20 ++ wsX10 ++ wsJx4a65c0)
def wsX3_isOverAfter_r1 : List Cond := [Cond.fieldLink RX3 160 "Pommel" "now" "I", Cond.methodLink RX3 262 yX0_secondsUntilOver, Cond.instanceMethod yX0_secondsUntilOver, Cond.selects RX0 yX0_secondsUntilOver yX0_secondsUntilOver, Cond.initialized RX0, Cond.code yX0_secondsUntilOver cX0_secondsUntilOver 2 (some .int), Cond.fieldLink RX0 71 "Pommel$Bout" "secondsLeft" "I", Cond.fieldLink RX0 42 "Pommel$Bout" "period" "I", Cond.fieldLink RX0 12 "Pommel$Bout" "left" "LPommel$Side;", Cond.fieldLink RX0 58 "Pommel$Side" "score" "I", Cond.fieldLink RX0 18 "Pommel$Bout" "right" "LPommel$Side;", Cond.methodLink RX0 65 yX0_isInExtra, Cond.instanceMethod yX0_isInExtra, Cond.selects RX0 yX0_isInExtra yX0_isInExtra, Cond.code yX0_isInExtra cX0_isInExtra 1 (some .boolean), Cond.methodLink RX0 45 yX0_periods, Cond.instanceMethod yX0_periods, Cond.selects RX0 yX0_periods yX0_periods, Cond.code yX0_periods cX0_periods 1 (some .int), Cond.methodLink RX0 38 yX0_isOfTable, Cond.instanceMethod yX0_isOfTable, Cond.selects RX0 yX0_isOfTable yX0_isOfTable, Cond.code yX0_isOfTable cX0_isOfTable 1 (some .boolean), Cond.fieldLink RX0 31 "Pommel$Bout" "round" "I"]
def wsX3_isOverAfter_r2 : List Cond := [Cond.methodLink RX3 265 yX0_goOn, Cond.instanceMethod yX0_goOn, Cond.selects RX0 yX0_goOn yX0_goOn, Cond.code yX0_goOn cX0_goOn 3 none, Cond.methodLink RX3 268 yX0_winnerAsItStands, Cond.instanceMethod yX0_winnerAsItStands, Cond.selects RX0 yX0_winnerAsItStands yX0_winnerAsItStands, Cond.code yX0_winnerAsItStands cX0_winnerAsItStands 1 (some (.object "Pommel$Fencer")), Cond.fieldLink RX0 34 "Pommel$Side" "fencer" "LPommel$Fencer;", Cond.methodLink RX0 61 yX0_withPriority, Cond.instanceMethod yX0_withPriority, Cond.selects RX0 yX0_withPriority yX0_withPriority, Cond.code yX0_withPriority cX0_withPriority 1 (some (.object "Pommel$Side")), Cond.fieldLink RX0 28 "Pommel$Bout" "number" "I", Cond.methodLink RX3 271 yX3_finish, Cond.instanceMethod yX3_finish, Cond.selects RX3 yX3_finish yX3_finish, Cond.initialized RX3, Cond.code yX3_finish cX3_finish 4 none, Cond.methodLink RX3 281 yX3_leavePiste, Cond.instanceMethod yX3_leavePiste, Cond.selects RX3 yX3_leavePiste yX3_leavePiste, Cond.code yX3_leavePiste cX3_leavePiste 3 none, Cond.fieldLink RX3 220 "Pommel$Bout" "piste" "I"]
def wsX3_isOverAfter_r3 : List Cond := [Cond.fieldLink RX3 21 "Pommel" "pistes" "[LPommel$Bout;", Cond.methodLink RX3 139 yX3_isPiste, Cond.static yX3_isPiste, Cond.code yX3_isPiste cX3_isPiste 1 (some .boolean), Cond.methodLink RX3 38 yX3_isIn, Cond.static yX3_isIn, Cond.code yX3_isIn cX3_isIn 3 (some .boolean), Cond.methodLink RX3 297 yX0_end, Cond.instanceMethod yX0_end, Cond.selects RX0 yX0_end yX0_end, Cond.code yX0_end cX0_end 2 none, Cond.fieldLink RX0 25 "Pommel$Bout" "piste" "I", Cond.methodLink RX0 78 yX2_end, Cond.instanceMethod yX2_end, Cond.selects RX2 yX2_end yX2_end, Cond.initialized RX2, Cond.code yX2_end cX2_end 2 none, Cond.fieldLink RX2 9 "Pommel$Side" "fencer" "LPommel$Fencer;", Cond.fieldLink RX2 15 "Pommel$Fencer" "liveBout" "LPommel$Bout;", Cond.fieldLink RX2 21 "Pommel$Fencer" "restedAt" "I", Cond.methodLink RX3 293 yX3_decide, Cond.instanceMethod yX3_decide, Cond.selects RX3 yX3_decide yX3_decide, Cond.code yX3_decide cX3_decide 4 none]
def wsX3_isOverAfter_r4 : List Cond := [Cond.fieldLink RX3 210 "Pommel$Bout" "state" "I", Cond.fieldLink RX3 217 "Pommel$Bout" "winner" "LPommel$Fencer;", Cond.fieldLink RX3 172 "Pommel$Bout" "left" "LPommel$Side;", Cond.fieldLink RX3 176 "Pommel$Side" "score" "I", Cond.fieldLink RX3 181 "Pommel$Bout" "right" "LPommel$Side;", Cond.fieldLink RX3 202 "Pommel$Side" "fencer" "LPommel$Fencer;", Cond.fieldLink RX3 300 "Pommel$Bout" "round" "I", Cond.fieldLink RX3 303 "Pommel$Fencer" "standing" "I", Cond.methodLink RX3 278 yX0_isOfTable, Cond.methodLink RX3 289 yX0_count, Cond.instanceMethod yX0_count, Cond.selects RX0 yX0_count yX0_count, Cond.code yX0_count cX0_count 5 none, Cond.methodLink RX0 82 yX2_count, Cond.instanceMethod yX2_count, Cond.selects RX2 yX2_count yX2_count, Cond.code yX2_count cX2_count 5 none, Cond.methodLink RX2 25 yX1_count, Cond.instanceMethod yX1_count, Cond.selects RX1 yX1_count yX1_count, Cond.initialized RX1, Cond.code yX1_count cX1_count 5 none, Cond.fieldLink RX1 33 "Pommel$Fencer" "met" "I", Cond.fieldLink RX1 36 "Pommel$Fencer" "won" "I"]
def wsX3_isOverAfter_r5 : List Cond := [Cond.fieldLink RX1 39 "Pommel$Fencer" "given" "I", Cond.fieldLink RX1 42 "Pommel$Fencer" "taken" "I", Cond.methodLink RX3 306 yX3_goOnInTable, Cond.instanceMethod yX3_goOnInTable, Cond.selects RX3 yX3_goOnInTable yX3_goOnInTable, Cond.code yX3_goOnInTable cX3_goOnInTable 4 none, Cond.fieldLink RX3 108 "Pommel$Bout" "number" "I", Cond.fieldLink RX3 356 "Pommel" "firstOfTable" "I", Cond.fieldLink RX3 247 "Pommel" "tableSize" "I", Cond.fieldLink RX3 16 "Pommel" "bouts" "Ljava/util/ArrayList;", Cond.classLink RX3 19 "Pommel$Bout", Cond.methodLink RX3 49 yJx4a65c_size_8abf5, Cond.instanceMethod yJx4a65c_size_8abf5, Cond.selects RJx4a65c yJx4a65c_size_8abf5 yJx4a65c_size_8abf5, Cond.initialized RJx4a65c, Cond.code yJx4a65c_size_8abf5 cJx4a65c_size_8abf5 1 (some .int), Cond.fieldLink RJx4a65c 48 "java/util/ArrayList" "size" "I", Cond.methodLink RX3 124 yJx4a65c_get_915e3, Cond.instanceMethod yJx4a65c_get_915e3, Cond.selects RJx4a65c yJx4a65c_get_915e3 yJx4a65c_get_915e3, Cond.code yJx4a65c_get_915e3 cJx4a65c_get_915e3 2 (some (.object "java/lang/Object")), Cond.methodLink RJx4a65c 118 yJ15_checkIndex_7cf53, Cond.static yJ15_checkIndex_7cf53, Cond.initialized RJ15]
def wsX3_isOverAfter_r6 : List Cond := [Cond.code yJ15_checkIndex_7cf53 cJ15_checkIndex_7cf53 2 (some .int), Cond.methodLink RJ15 105 yJ3_checkIndex_8e157, Cond.static yJ3_checkIndex_8e157, Cond.initialized RJ3, Cond.code yJ3_checkIndex_8e157 cJ3_checkIndex_8e157 3 (some .int), Cond.methodLink RJx4a65c 123 yJx4a65c_elementData_915e3, Cond.instanceMethod yJx4a65c_elementData_915e3, Cond.selects RJx4a65c yJx4a65c_elementData_915e3 yJx4a65c_elementData_915e3, Cond.code yJx4a65c_elementData_915e3 cJx4a65c_elementData_915e3 2 (some (.object "java/lang/Object")), Cond.fieldLink RJx4a65c 9 "java/util/ArrayList" "elementData" "[Ljava/lang/Object;", Cond.methodLink RX3 190 yX0_sideOf, Cond.instanceMethod yX0_sideOf, Cond.selects RX0 yX0_sideOf yX0_sideOf, Cond.code yX0_sideOf cX0_sideOf 2 (some (.object "Pommel$Side"))]
def wsX3_isOverAfter : List Cond := .code yX3_isOverAfter cX3_isOverAfter 4 (some .boolean) :: ((wsX3_isOverAfter_r1 ++ (wsX3_isOverAfter_r2 ++ (wsX3_isOverAfter_r3 ++ (wsX3_isOverAfter_r4 ++ (wsX3_isOverAfter_r5 ++ wsX3_isOverAfter_r6))))) ++ wsX30 ++ wsX00 ++ wsX20 ++ wsX10 ++ wsJx4a65c0)
def wsX3_pass_r1 : List Cond := [Cond.classLink RX3 42 "java/lang/IllegalArgumentException", Cond.initialized "java/lang/IllegalArgumentException", Cond.fieldLink RX3 21 "Pommel" "pistes" "[LPommel$Bout;", Cond.fieldLink RX3 160 "Pommel" "now" "I", Cond.methodLink RX3 38 yX3_isIn, Cond.static yX3_isIn, Cond.initialized RX3, Cond.code yX3_isIn cX3_isIn 3 (some .boolean), Cond.methodLink RX3 156 yX3_isOverAfter, Cond.instanceMethod yX3_isOverAfter, Cond.selects RX3 yX3_isOverAfter yX3_isOverAfter, Cond.code yX3_isOverAfter cX3_isOverAfter 4 (some .boolean), Cond.methodLink RX3 262 yX0_secondsUntilOver, Cond.instanceMethod yX0_secondsUntilOver, Cond.selects RX0 yX0_secondsUntilOver yX0_secondsUntilOver, Cond.initialized RX0, Cond.code yX0_secondsUntilOver cX0_secondsUntilOver 2 (some .int), Cond.fieldLink RX0 71 "Pommel$Bout" "secondsLeft" "I", Cond.fieldLink RX0 42 "Pommel$Bout" "period" "I", Cond.fieldLink RX0 12 "Pommel$Bout" "left" "LPommel$Side;", Cond.fieldLink RX0 58 "Pommel$Side" "score" "I", Cond.fieldLink RX0 18 "Pommel$Bout" "right" "LPommel$Side;", Cond.methodLink RX0 65 yX0_isInExtra, Cond.instanceMethod yX0_isInExtra]
def wsX3_pass_r2 : List Cond := [Cond.selects RX0 yX0_isInExtra yX0_isInExtra, Cond.code yX0_isInExtra cX0_isInExtra 1 (some .boolean), Cond.methodLink RX0 45 yX0_periods, Cond.instanceMethod yX0_periods, Cond.selects RX0 yX0_periods yX0_periods, Cond.code yX0_periods cX0_periods 1 (some .int), Cond.methodLink RX0 38 yX0_isOfTable, Cond.instanceMethod yX0_isOfTable, Cond.selects RX0 yX0_isOfTable yX0_isOfTable, Cond.code yX0_isOfTable cX0_isOfTable 1 (some .boolean), Cond.fieldLink RX0 31 "Pommel$Bout" "round" "I", Cond.methodLink RX3 265 yX0_goOn, Cond.instanceMethod yX0_goOn, Cond.selects RX0 yX0_goOn yX0_goOn, Cond.code yX0_goOn cX0_goOn 3 none, Cond.methodLink RX3 268 yX0_winnerAsItStands, Cond.instanceMethod yX0_winnerAsItStands, Cond.selects RX0 yX0_winnerAsItStands yX0_winnerAsItStands, Cond.code yX0_winnerAsItStands cX0_winnerAsItStands 1 (some (.object "Pommel$Fencer")), Cond.fieldLink RX0 34 "Pommel$Side" "fencer" "LPommel$Fencer;", Cond.methodLink RX0 61 yX0_withPriority, Cond.instanceMethod yX0_withPriority, Cond.selects RX0 yX0_withPriority yX0_withPriority, Cond.code yX0_withPriority cX0_withPriority 1 (some (.object "Pommel$Side"))]
def wsX3_pass_r3 : List Cond := [Cond.fieldLink RX0 28 "Pommel$Bout" "number" "I", Cond.methodLink RX3 271 yX3_finish, Cond.instanceMethod yX3_finish, Cond.selects RX3 yX3_finish yX3_finish, Cond.code yX3_finish cX3_finish 4 none, Cond.methodLink RX3 281 yX3_leavePiste, Cond.instanceMethod yX3_leavePiste, Cond.selects RX3 yX3_leavePiste yX3_leavePiste, Cond.code yX3_leavePiste cX3_leavePiste 3 none, Cond.fieldLink RX3 220 "Pommel$Bout" "piste" "I", Cond.methodLink RX3 139 yX3_isPiste, Cond.static yX3_isPiste, Cond.code yX3_isPiste cX3_isPiste 1 (some .boolean), Cond.methodLink RX3 297 yX0_end, Cond.instanceMethod yX0_end, Cond.selects RX0 yX0_end yX0_end, Cond.code yX0_end cX0_end 2 none, Cond.fieldLink RX0 25 "Pommel$Bout" "piste" "I", Cond.methodLink RX0 78 yX2_end, Cond.instanceMethod yX2_end, Cond.selects RX2 yX2_end yX2_end, Cond.initialized RX2, Cond.code yX2_end cX2_end 2 none, Cond.fieldLink RX2 9 "Pommel$Side" "fencer" "LPommel$Fencer;"]
def wsX3_pass_r4 : List Cond := [Cond.fieldLink RX2 15 "Pommel$Fencer" "liveBout" "LPommel$Bout;", Cond.fieldLink RX2 21 "Pommel$Fencer" "restedAt" "I", Cond.methodLink RX3 293 yX3_decide, Cond.instanceMethod yX3_decide, Cond.selects RX3 yX3_decide yX3_decide, Cond.code yX3_decide cX3_decide 4 none, Cond.fieldLink RX3 210 "Pommel$Bout" "state" "I", Cond.fieldLink RX3 217 "Pommel$Bout" "winner" "LPommel$Fencer;", Cond.fieldLink RX3 172 "Pommel$Bout" "left" "LPommel$Side;", Cond.fieldLink RX3 176 "Pommel$Side" "score" "I", Cond.fieldLink RX3 181 "Pommel$Bout" "right" "LPommel$Side;", Cond.fieldLink RX3 202 "Pommel$Side" "fencer" "LPommel$Fencer;", Cond.fieldLink RX3 300 "Pommel$Bout" "round" "I", Cond.fieldLink RX3 303 "Pommel$Fencer" "standing" "I", Cond.methodLink RX3 278 yX0_isOfTable, Cond.methodLink RX3 289 yX0_count, Cond.instanceMethod yX0_count, Cond.selects RX0 yX0_count yX0_count, Cond.code yX0_count cX0_count 5 none, Cond.methodLink RX0 82 yX2_count, Cond.instanceMethod yX2_count, Cond.selects RX2 yX2_count yX2_count, Cond.code yX2_count cX2_count 5 none, Cond.methodLink RX2 25 yX1_count]
def wsX3_pass_r5 : List Cond := [Cond.instanceMethod yX1_count, Cond.selects RX1 yX1_count yX1_count, Cond.initialized RX1, Cond.code yX1_count cX1_count 5 none, Cond.fieldLink RX1 33 "Pommel$Fencer" "met" "I", Cond.fieldLink RX1 36 "Pommel$Fencer" "won" "I", Cond.fieldLink RX1 39 "Pommel$Fencer" "given" "I", Cond.fieldLink RX1 42 "Pommel$Fencer" "taken" "I", Cond.methodLink RX3 306 yX3_goOnInTable, Cond.instanceMethod yX3_goOnInTable, Cond.selects RX3 yX3_goOnInTable yX3_goOnInTable, Cond.code yX3_goOnInTable cX3_goOnInTable 4 none, Cond.fieldLink RX3 108 "Pommel$Bout" "number" "I", Cond.fieldLink RX3 356 "Pommel" "firstOfTable" "I", Cond.fieldLink RX3 247 "Pommel" "tableSize" "I", Cond.fieldLink RX3 16 "Pommel" "bouts" "Ljava/util/ArrayList;", Cond.classLink RX3 19 "Pommel$Bout", Cond.methodLink RX3 49 yJx4a65c_size_8abf5, Cond.instanceMethod yJx4a65c_size_8abf5, Cond.selects RJx4a65c yJx4a65c_size_8abf5 yJx4a65c_size_8abf5, Cond.initialized RJx4a65c, Cond.code yJx4a65c_size_8abf5 cJx4a65c_size_8abf5 1 (some .int), Cond.fieldLink RJx4a65c 48 "java/util/ArrayList" "size" "I", Cond.methodLink RX3 124 yJx4a65c_get_915e3]
def wsX3_pass_r6 : List Cond := [Cond.instanceMethod yJx4a65c_get_915e3, Cond.selects RJx4a65c yJx4a65c_get_915e3 yJx4a65c_get_915e3, Cond.code yJx4a65c_get_915e3 cJx4a65c_get_915e3 2 (some (.object "java/lang/Object")), Cond.methodLink RJx4a65c 118 yJ15_checkIndex_7cf53, Cond.static yJ15_checkIndex_7cf53, Cond.initialized RJ15, Cond.code yJ15_checkIndex_7cf53 cJ15_checkIndex_7cf53 2 (some .int), Cond.methodLink RJ15 105 yJ3_checkIndex_8e157, Cond.static yJ3_checkIndex_8e157, Cond.initialized RJ3, Cond.code yJ3_checkIndex_8e157 cJ3_checkIndex_8e157 3 (some .int), Cond.methodLink RJx4a65c 123 yJx4a65c_elementData_915e3, Cond.instanceMethod yJx4a65c_elementData_915e3, Cond.selects RJx4a65c yJx4a65c_elementData_915e3 yJx4a65c_elementData_915e3, Cond.code yJx4a65c_elementData_915e3 cJx4a65c_elementData_915e3 2 (some (.object "java/lang/Object")), Cond.fieldLink RJx4a65c 9 "java/util/ArrayList" "elementData" "[Ljava/lang/Object;", Cond.methodLink RX3 190 yX0_sideOf, Cond.instanceMethod yX0_sideOf, Cond.selects RX0 yX0_sideOf yX0_sideOf, Cond.code yX0_sideOf cX0_sideOf 2 (some (.object "Pommel$Side"))]
def wsX3_pass : List Cond := .code yX3_pass cX3_pass 5 (some .int) :: ((wsX3_pass_r1 ++ (wsX3_pass_r2 ++ (wsX3_pass_r3 ++ (wsX3_pass_r4 ++ (wsX3_pass_r5 ++ wsX3_pass_r6))))) ++ wsX30 ++ wsX00 ++ wsX20 ++ wsX10 ++ wsJx4a65c0 ++ (vx_atS RX3 46 "java/lang/IllegalArgumentException" ["java/lang/RuntimeException", "java/lang/Exception"]).filter goodWord)
def wsX3_liveBoutOn : List Cond := .code yX3_liveBoutOn cX3_liveBoutOn 3 (some (.object "Pommel$Bout")) :: ([.classLink RX3 57 "java/lang/IllegalStateException", .initialized "java/lang/IllegalStateException", .fieldLink RX3 21 "Pommel" "pistes" "[LPommel$Bout;", .methodLink RX3 139 yX3_isPiste, .static yX3_isPiste, .initialized RX3, .code yX3_isPiste cX3_isPiste 1 (some .boolean), .methodLink RX3 38 yX3_isIn, .static yX3_isIn, .code yX3_isIn cX3_isIn 3 (some .boolean)] ++ wsX30 ++ (vx_atS RX3 61 "java/lang/IllegalStateException" ["java/lang/RuntimeException", "java/lang/Exception"]).filter goodWord)
def wsX3_isOverByHit_r1 : List Cond := [Cond.fieldLink RX3 160 "Pommel" "now" "I", Cond.methodLink RX3 275 yX0_isDecidedByHit, Cond.instanceMethod yX0_isDecidedByHit, Cond.selects RX0 yX0_isDecidedByHit yX0_isDecidedByHit, Cond.initialized RX0, Cond.code yX0_isDecidedByHit cX0_isDecidedByHit 1 (some .boolean), Cond.fieldLink RX0 12 "Pommel$Bout" "left" "LPommel$Side;", Cond.fieldLink RX0 58 "Pommel$Side" "score" "I", Cond.fieldLink RX0 18 "Pommel$Bout" "right" "LPommel$Side;", Cond.methodLink RX0 65 yX0_isInExtra, Cond.instanceMethod yX0_isInExtra, Cond.selects RX0 yX0_isInExtra yX0_isInExtra, Cond.code yX0_isInExtra cX0_isInExtra 1 (some .boolean), Cond.fieldLink RX0 42 "Pommel$Bout" "period" "I", Cond.methodLink RX0 45 yX0_periods, Cond.instanceMethod yX0_periods, Cond.selects RX0 yX0_periods yX0_periods, Cond.code yX0_periods cX0_periods 1 (some .int), Cond.methodLink RX0 38 yX0_isOfTable, Cond.instanceMethod yX0_isOfTable, Cond.selects RX0 yX0_isOfTable yX0_isOfTable, Cond.code yX0_isOfTable cX0_isOfTable 1 (some .boolean), Cond.fieldLink RX0 31 "Pommel$Bout" "round" "I", Cond.methodLink RX0 68 yX0_goal]
def wsX3_isOverByHit_r2 : List Cond := [Cond.instanceMethod yX0_goal, Cond.selects RX0 yX0_goal yX0_goal, Cond.code yX0_goal cX0_goal 1 (some .int), Cond.methodLink RX3 268 yX0_winnerAsItStands, Cond.instanceMethod yX0_winnerAsItStands, Cond.selects RX0 yX0_winnerAsItStands yX0_winnerAsItStands, Cond.code yX0_winnerAsItStands cX0_winnerAsItStands 1 (some (.object "Pommel$Fencer")), Cond.fieldLink RX0 34 "Pommel$Side" "fencer" "LPommel$Fencer;", Cond.methodLink RX0 61 yX0_withPriority, Cond.instanceMethod yX0_withPriority, Cond.selects RX0 yX0_withPriority yX0_withPriority, Cond.code yX0_withPriority cX0_withPriority 1 (some (.object "Pommel$Side")), Cond.fieldLink RX0 28 "Pommel$Bout" "number" "I", Cond.methodLink RX3 271 yX3_finish, Cond.instanceMethod yX3_finish, Cond.selects RX3 yX3_finish yX3_finish, Cond.initialized RX3, Cond.code yX3_finish cX3_finish 4 none, Cond.methodLink RX3 281 yX3_leavePiste, Cond.instanceMethod yX3_leavePiste, Cond.selects RX3 yX3_leavePiste yX3_leavePiste, Cond.code yX3_leavePiste cX3_leavePiste 3 none, Cond.fieldLink RX3 220 "Pommel$Bout" "piste" "I", Cond.fieldLink RX3 21 "Pommel" "pistes" "[LPommel$Bout;"]
def wsX3_isOverByHit_r3 : List Cond := [Cond.methodLink RX3 139 yX3_isPiste, Cond.static yX3_isPiste, Cond.code yX3_isPiste cX3_isPiste 1 (some .boolean), Cond.methodLink RX3 38 yX3_isIn, Cond.static yX3_isIn, Cond.code yX3_isIn cX3_isIn 3 (some .boolean), Cond.methodLink RX3 297 yX0_end, Cond.instanceMethod yX0_end, Cond.selects RX0 yX0_end yX0_end, Cond.code yX0_end cX0_end 2 none, Cond.fieldLink RX0 25 "Pommel$Bout" "piste" "I", Cond.fieldLink RX0 71 "Pommel$Bout" "secondsLeft" "I", Cond.methodLink RX0 78 yX2_end, Cond.instanceMethod yX2_end, Cond.selects RX2 yX2_end yX2_end, Cond.initialized RX2, Cond.code yX2_end cX2_end 2 none, Cond.fieldLink RX2 9 "Pommel$Side" "fencer" "LPommel$Fencer;", Cond.fieldLink RX2 15 "Pommel$Fencer" "liveBout" "LPommel$Bout;", Cond.fieldLink RX2 21 "Pommel$Fencer" "restedAt" "I", Cond.methodLink RX3 293 yX3_decide, Cond.instanceMethod yX3_decide, Cond.selects RX3 yX3_decide yX3_decide, Cond.code yX3_decide cX3_decide 4 none]
def wsX3_isOverByHit_r4 : List Cond := [Cond.fieldLink RX3 210 "Pommel$Bout" "state" "I", Cond.fieldLink RX3 217 "Pommel$Bout" "winner" "LPommel$Fencer;", Cond.fieldLink RX3 172 "Pommel$Bout" "left" "LPommel$Side;", Cond.fieldLink RX3 176 "Pommel$Side" "score" "I", Cond.fieldLink RX3 181 "Pommel$Bout" "right" "LPommel$Side;", Cond.fieldLink RX3 202 "Pommel$Side" "fencer" "LPommel$Fencer;", Cond.fieldLink RX3 300 "Pommel$Bout" "round" "I", Cond.fieldLink RX3 303 "Pommel$Fencer" "standing" "I", Cond.methodLink RX3 278 yX0_isOfTable, Cond.methodLink RX3 289 yX0_count, Cond.instanceMethod yX0_count, Cond.selects RX0 yX0_count yX0_count, Cond.code yX0_count cX0_count 5 none, Cond.methodLink RX0 82 yX2_count, Cond.instanceMethod yX2_count, Cond.selects RX2 yX2_count yX2_count, Cond.code yX2_count cX2_count 5 none, Cond.methodLink RX2 25 yX1_count, Cond.instanceMethod yX1_count, Cond.selects RX1 yX1_count yX1_count, Cond.initialized RX1, Cond.code yX1_count cX1_count 5 none, Cond.fieldLink RX1 33 "Pommel$Fencer" "met" "I", Cond.fieldLink RX1 36 "Pommel$Fencer" "won" "I"]
def wsX3_isOverByHit_r5 : List Cond := [Cond.fieldLink RX1 39 "Pommel$Fencer" "given" "I", Cond.fieldLink RX1 42 "Pommel$Fencer" "taken" "I", Cond.methodLink RX3 306 yX3_goOnInTable, Cond.instanceMethod yX3_goOnInTable, Cond.selects RX3 yX3_goOnInTable yX3_goOnInTable, Cond.code yX3_goOnInTable cX3_goOnInTable 4 none, Cond.fieldLink RX3 108 "Pommel$Bout" "number" "I", Cond.fieldLink RX3 356 "Pommel" "firstOfTable" "I", Cond.fieldLink RX3 247 "Pommel" "tableSize" "I", Cond.fieldLink RX3 16 "Pommel" "bouts" "Ljava/util/ArrayList;", Cond.classLink RX3 19 "Pommel$Bout", Cond.methodLink RX3 49 yJx4a65c_size_8abf5, Cond.instanceMethod yJx4a65c_size_8abf5, Cond.selects RJx4a65c yJx4a65c_size_8abf5 yJx4a65c_size_8abf5, Cond.initialized RJx4a65c, Cond.code yJx4a65c_size_8abf5 cJx4a65c_size_8abf5 1 (some .int), Cond.fieldLink RJx4a65c 48 "java/util/ArrayList" "size" "I", Cond.methodLink RX3 124 yJx4a65c_get_915e3, Cond.instanceMethod yJx4a65c_get_915e3, Cond.selects RJx4a65c yJx4a65c_get_915e3 yJx4a65c_get_915e3, Cond.code yJx4a65c_get_915e3 cJx4a65c_get_915e3 2 (some (.object "java/lang/Object")), Cond.methodLink RJx4a65c 118 yJ15_checkIndex_7cf53, Cond.static yJ15_checkIndex_7cf53, Cond.initialized RJ15]
def wsX3_isOverByHit_r6 : List Cond := [Cond.code yJ15_checkIndex_7cf53 cJ15_checkIndex_7cf53 2 (some .int), Cond.methodLink RJ15 105 yJ3_checkIndex_8e157, Cond.static yJ3_checkIndex_8e157, Cond.initialized RJ3, Cond.code yJ3_checkIndex_8e157 cJ3_checkIndex_8e157 3 (some .int), Cond.methodLink RJx4a65c 123 yJx4a65c_elementData_915e3, Cond.instanceMethod yJx4a65c_elementData_915e3, Cond.selects RJx4a65c yJx4a65c_elementData_915e3 yJx4a65c_elementData_915e3, Cond.code yJx4a65c_elementData_915e3 cJx4a65c_elementData_915e3 2 (some (.object "java/lang/Object")), Cond.fieldLink RJx4a65c 9 "java/util/ArrayList" "elementData" "[Ljava/lang/Object;", Cond.methodLink RX3 190 yX0_sideOf, Cond.instanceMethod yX0_sideOf, Cond.selects RX0 yX0_sideOf yX0_sideOf, Cond.code yX0_sideOf cX0_sideOf 2 (some (.object "Pommel$Side"))]
def wsX3_isOverByHit : List Cond := .code yX3_isOverByHit cX3_isOverByHit 2 (some .boolean) :: ((wsX3_isOverByHit_r1 ++ (wsX3_isOverByHit_r2 ++ (wsX3_isOverByHit_r3 ++ (wsX3_isOverByHit_r4 ++ (wsX3_isOverByHit_r5 ++ wsX3_isOverByHit_r6))))) ++ wsX30 ++ wsX00 ++ wsX20 ++ wsX10 ++ wsJx4a65c0)
def wsX3_hit_r1 : List Cond := [Cond.classLink RX3 42 "java/lang/IllegalArgumentException", Cond.initialized "java/lang/IllegalArgumentException", Cond.fieldLink RX3 172 "Pommel$Bout" "left" "LPommel$Side;", Cond.fieldLink RX3 176 "Pommel$Side" "score" "I", Cond.fieldLink RX3 181 "Pommel$Bout" "right" "LPommel$Side;", Cond.methodLink RX3 139 yX3_isPiste, Cond.static yX3_isPiste, Cond.initialized RX3, Cond.code yX3_isPiste cX3_isPiste 1 (some .boolean), Cond.methodLink RX3 38 yX3_isIn, Cond.static yX3_isIn, Cond.code yX3_isIn cX3_isIn 3 (some .boolean), Cond.methodLink RX3 165 yX3_liveBoutOn, Cond.instanceMethod yX3_liveBoutOn, Cond.selects RX3 yX3_liveBoutOn yX3_liveBoutOn, Cond.code yX3_liveBoutOn cX3_liveBoutOn 3 (some (.object "Pommel$Bout")), Cond.classLink RX3 57 "java/lang/IllegalStateException", Cond.initialized "java/lang/IllegalStateException", Cond.fieldLink RX3 21 "Pommel" "pistes" "[LPommel$Bout;", Cond.methodLink RX3 168 yX0_countsForBoth, Cond.instanceMethod yX0_countsForBoth, Cond.selects RX0 yX0_countsForBoth yX0_countsForBoth, Cond.initialized RX0, Cond.code yX0_countsForBoth cX0_countsForBoth 1 (some .boolean)]
def wsX3_hit_r2 : List Cond := [Cond.fieldLink RX0 12 "Pommel$Bout" "left" "LPommel$Side;", Cond.fieldLink RX0 58 "Pommel$Side" "score" "I", Cond.fieldLink RX0 18 "Pommel$Bout" "right" "LPommel$Side;", Cond.methodLink RX0 65 yX0_isInExtra, Cond.instanceMethod yX0_isInExtra, Cond.selects RX0 yX0_isInExtra yX0_isInExtra, Cond.code yX0_isInExtra cX0_isInExtra 1 (some .boolean), Cond.fieldLink RX0 42 "Pommel$Bout" "period" "I", Cond.methodLink RX0 45 yX0_periods, Cond.instanceMethod yX0_periods, Cond.selects RX0 yX0_periods yX0_periods, Cond.code yX0_periods cX0_periods 1 (some .int), Cond.methodLink RX0 38 yX0_isOfTable, Cond.instanceMethod yX0_isOfTable, Cond.selects RX0 yX0_isOfTable yX0_isOfTable, Cond.code yX0_isOfTable cX0_isOfTable 1 (some .boolean), Cond.fieldLink RX0 31 "Pommel$Bout" "round" "I", Cond.methodLink RX0 68 yX0_goal, Cond.instanceMethod yX0_goal, Cond.selects RX0 yX0_goal yX0_goal, Cond.code yX0_goal cX0_goal 1 (some .int), Cond.methodLink RX3 184 yX3_isOverByHit, Cond.instanceMethod yX3_isOverByHit, Cond.selects RX3 yX3_isOverByHit yX3_isOverByHit]
def wsX3_hit_r3 : List Cond := [Cond.code yX3_isOverByHit cX3_isOverByHit 2 (some .boolean), Cond.fieldLink RX3 160 "Pommel" "now" "I", Cond.methodLink RX3 275 yX0_isDecidedByHit, Cond.instanceMethod yX0_isDecidedByHit, Cond.selects RX0 yX0_isDecidedByHit yX0_isDecidedByHit, Cond.code yX0_isDecidedByHit cX0_isDecidedByHit 1 (some .boolean), Cond.methodLink RX3 268 yX0_winnerAsItStands, Cond.instanceMethod yX0_winnerAsItStands, Cond.selects RX0 yX0_winnerAsItStands yX0_winnerAsItStands, Cond.code yX0_winnerAsItStands cX0_winnerAsItStands 1 (some (.object "Pommel$Fencer")), Cond.fieldLink RX0 34 "Pommel$Side" "fencer" "LPommel$Fencer;", Cond.methodLink RX0 61 yX0_withPriority, Cond.instanceMethod yX0_withPriority, Cond.selects RX0 yX0_withPriority yX0_withPriority, Cond.code yX0_withPriority cX0_withPriority 1 (some (.object "Pommel$Side")), Cond.fieldLink RX0 28 "Pommel$Bout" "number" "I", Cond.methodLink RX3 271 yX3_finish, Cond.instanceMethod yX3_finish, Cond.selects RX3 yX3_finish yX3_finish, Cond.code yX3_finish cX3_finish 4 none, Cond.methodLink RX3 281 yX3_leavePiste, Cond.instanceMethod yX3_leavePiste, Cond.selects RX3 yX3_leavePiste yX3_leavePiste, Cond.code yX3_leavePiste cX3_leavePiste 3 none]
def wsX3_hit_r4 : List Cond := [Cond.fieldLink RX3 220 "Pommel$Bout" "piste" "I", Cond.methodLink RX3 297 yX0_end, Cond.instanceMethod yX0_end, Cond.selects RX0 yX0_end yX0_end, Cond.code yX0_end cX0_end 2 none, Cond.fieldLink RX0 25 "Pommel$Bout" "piste" "I", Cond.fieldLink RX0 71 "Pommel$Bout" "secondsLeft" "I", Cond.methodLink RX0 78 yX2_end, Cond.instanceMethod yX2_end, Cond.selects RX2 yX2_end yX2_end, Cond.initialized RX2, Cond.code yX2_end cX2_end 2 none, Cond.fieldLink RX2 9 "Pommel$Side" "fencer" "LPommel$Fencer;", Cond.fieldLink RX2 15 "Pommel$Fencer" "liveBout" "LPommel$Bout;", Cond.fieldLink RX2 21 "Pommel$Fencer" "restedAt" "I", Cond.methodLink RX3 293 yX3_decide, Cond.instanceMethod yX3_decide, Cond.selects RX3 yX3_decide yX3_decide, Cond.code yX3_decide cX3_decide 4 none, Cond.fieldLink RX3 210 "Pommel$Bout" "state" "I", Cond.fieldLink RX3 217 "Pommel$Bout" "winner" "LPommel$Fencer;", Cond.fieldLink RX3 202 "Pommel$Side" "fencer" "LPommel$Fencer;", Cond.fieldLink RX3 300 "Pommel$Bout" "round" "I", Cond.fieldLink RX3 303 "Pommel$Fencer" "standing" "I"]
def wsX3_hit_r5 : List Cond := [Cond.methodLink RX3 278 yX0_isOfTable, Cond.methodLink RX3 289 yX0_count, Cond.instanceMethod yX0_count, Cond.selects RX0 yX0_count yX0_count, Cond.code yX0_count cX0_count 5 none, Cond.methodLink RX0 82 yX2_count, Cond.instanceMethod yX2_count, Cond.selects RX2 yX2_count yX2_count, Cond.code yX2_count cX2_count 5 none, Cond.methodLink RX2 25 yX1_count, Cond.instanceMethod yX1_count, Cond.selects RX1 yX1_count yX1_count, Cond.initialized RX1, Cond.code yX1_count cX1_count 5 none, Cond.fieldLink RX1 33 "Pommel$Fencer" "met" "I", Cond.fieldLink RX1 36 "Pommel$Fencer" "won" "I", Cond.fieldLink RX1 39 "Pommel$Fencer" "given" "I", Cond.fieldLink RX1 42 "Pommel$Fencer" "taken" "I", Cond.methodLink RX3 306 yX3_goOnInTable, Cond.instanceMethod yX3_goOnInTable, Cond.selects RX3 yX3_goOnInTable yX3_goOnInTable, Cond.code yX3_goOnInTable cX3_goOnInTable 4 none, Cond.fieldLink RX3 108 "Pommel$Bout" "number" "I", Cond.fieldLink RX3 356 "Pommel" "firstOfTable" "I"]
def wsX3_hit_r6 : List Cond := [Cond.fieldLink RX3 247 "Pommel" "tableSize" "I", Cond.fieldLink RX3 16 "Pommel" "bouts" "Ljava/util/ArrayList;", Cond.classLink RX3 19 "Pommel$Bout", Cond.methodLink RX3 49 yJx4a65c_size_8abf5, Cond.instanceMethod yJx4a65c_size_8abf5, Cond.selects RJx4a65c yJx4a65c_size_8abf5 yJx4a65c_size_8abf5, Cond.initialized RJx4a65c, Cond.code yJx4a65c_size_8abf5 cJx4a65c_size_8abf5 1 (some .int), Cond.fieldLink RJx4a65c 48 "java/util/ArrayList" "size" "I", Cond.methodLink RX3 124 yJx4a65c_get_915e3, Cond.instanceMethod yJx4a65c_get_915e3, Cond.selects RJx4a65c yJx4a65c_get_915e3 yJx4a65c_get_915e3, Cond.code yJx4a65c_get_915e3 cJx4a65c_get_915e3 2 (some (.object "java/lang/Object")), Cond.methodLink RJx4a65c 118 yJ15_checkIndex_7cf53, Cond.static yJ15_checkIndex_7cf53, Cond.initialized RJ15, Cond.code yJ15_checkIndex_7cf53 cJ15_checkIndex_7cf53 2 (some .int), Cond.methodLink RJ15 105 yJ3_checkIndex_8e157, Cond.static yJ3_checkIndex_8e157, Cond.initialized RJ3, Cond.code yJ3_checkIndex_8e157 cJ3_checkIndex_8e157 3 (some .int), Cond.methodLink RJx4a65c 123 yJx4a65c_elementData_915e3, Cond.instanceMethod yJx4a65c_elementData_915e3, Cond.selects RJx4a65c yJx4a65c_elementData_915e3 yJx4a65c_elementData_915e3]
def wsX3_hit_r7 : List Cond := [Cond.code yJx4a65c_elementData_915e3 cJx4a65c_elementData_915e3 2 (some (.object "java/lang/Object")), Cond.fieldLink RJx4a65c 9 "java/util/ArrayList" "elementData" "[Ljava/lang/Object;", Cond.methodLink RX3 190 yX0_sideOf, Cond.instanceMethod yX0_sideOf, Cond.selects RX0 yX0_sideOf yX0_sideOf, Cond.code yX0_sideOf cX0_sideOf 2 (some (.object "Pommel$Side"))]
def wsX3_hit : List Cond := .code yX3_hit cX3_hit 4 (some .boolean) :: ((wsX3_hit_r1 ++ (wsX3_hit_r2 ++ (wsX3_hit_r3 ++ (wsX3_hit_r4 ++ (wsX3_hit_r5 ++ (wsX3_hit_r6 ++ wsX3_hit_r7)))))) ++ wsX00 ++ wsX20 ++ wsX30 ++ wsX10 ++ wsJx4a65c0 ++ (vx_atS RX3 46 "java/lang/IllegalArgumentException" ["java/lang/RuntimeException", "java/lang/Exception"]).filter goodWord ++ (vx_atS RX3 61 "java/lang/IllegalStateException" ["java/lang/RuntimeException", "java/lang/Exception"]).filter goodWord)
def wsX3_makeVoid_r1 : List Cond := [Cond.fieldLink RX3 210 "Pommel$Bout" "state" "I", Cond.fieldLink RX3 217 "Pommel$Bout" "winner" "LPommel$Fencer;", Cond.fieldLink RX3 172 "Pommel$Bout" "left" "LPommel$Side;", Cond.fieldLink RX3 176 "Pommel$Side" "score" "I", Cond.fieldLink RX3 181 "Pommel$Bout" "right" "LPommel$Side;", Cond.methodLink RX3 289 yX0_count, Cond.instanceMethod yX0_count, Cond.selects RX0 yX0_count yX0_count, Cond.initialized RX0, Cond.code yX0_count cX0_count 5 none, Cond.fieldLink RX0 12 "Pommel$Bout" "left" "LPommel$Side;", Cond.fieldLink RX0 18 "Pommel$Bout" "right" "LPommel$Side;", Cond.methodLink RX0 82 yX2_count, Cond.instanceMethod yX2_count, Cond.selects RX2 yX2_count yX2_count, Cond.initialized RX2, Cond.code yX2_count cX2_count 5 none, Cond.fieldLink RX2 9 "Pommel$Side" "fencer" "LPommel$Fencer;", Cond.methodLink RX2 25 yX1_count, Cond.instanceMethod yX1_count, Cond.selects RX1 yX1_count yX1_count, Cond.initialized RX1, Cond.code yX1_count cX1_count 5 none, Cond.fieldLink RX1 33 "Pommel$Fencer" "met" "I"]
def wsX3_makeVoid_r2 : List Cond := [Cond.fieldLink RX1 36 "Pommel$Fencer" "won" "I", Cond.fieldLink RX1 39 "Pommel$Fencer" "given" "I", Cond.fieldLink RX1 42 "Pommel$Fencer" "taken" "I"]
def wsX3_makeVoid : List Cond := .code yX3_makeVoid cX3_makeVoid 2 none :: ((wsX3_makeVoid_r1 ++ wsX3_makeVoid_r2) ++ wsX00 ++ wsX20 ++ wsX10)
def wsX3_putOut_r1 : List Cond := [Cond.fieldLink RX3 100 "Pommel$Fencer" "out" "Z", Cond.fieldLink RX3 160 "Pommel" "now" "I", Cond.fieldLink RX3 16 "Pommel" "bouts" "Ljava/util/ArrayList;", Cond.classLink RX3 19 "Pommel$Bout", Cond.fieldLink RX3 172 "Pommel$Bout" "left" "LPommel$Side;", Cond.fieldLink RX3 202 "Pommel$Side" "fencer" "LPommel$Fencer;", Cond.fieldLink RX3 181 "Pommel$Bout" "right" "LPommel$Side;", Cond.methodLink RX3 278 yX0_isOfTable, Cond.instanceMethod yX0_isOfTable, Cond.selects RX0 yX0_isOfTable yX0_isOfTable, Cond.initialized RX0, Cond.code yX0_isOfTable cX0_isOfTable 1 (some .boolean), Cond.fieldLink RX0 31 "Pommel$Bout" "round" "I", Cond.methodLink RX3 271 yX3_finish, Cond.instanceMethod yX3_finish, Cond.selects RX3 yX3_finish yX3_finish, Cond.initialized RX3, Cond.code yX3_finish cX3_finish 4 none, Cond.methodLink RX3 281 yX3_leavePiste, Cond.instanceMethod yX3_leavePiste, Cond.selects RX3 yX3_leavePiste yX3_leavePiste, Cond.code yX3_leavePiste cX3_leavePiste 3 none, Cond.fieldLink RX3 220 "Pommel$Bout" "piste" "I", Cond.fieldLink RX3 21 "Pommel" "pistes" "[LPommel$Bout;"]
def wsX3_putOut_r2 : List Cond := [Cond.methodLink RX3 139 yX3_isPiste, Cond.static yX3_isPiste, Cond.code yX3_isPiste cX3_isPiste 1 (some .boolean), Cond.methodLink RX3 38 yX3_isIn, Cond.static yX3_isIn, Cond.code yX3_isIn cX3_isIn 3 (some .boolean), Cond.methodLink RX3 297 yX0_end, Cond.instanceMethod yX0_end, Cond.selects RX0 yX0_end yX0_end, Cond.code yX0_end cX0_end 2 none, Cond.fieldLink RX0 25 "Pommel$Bout" "piste" "I", Cond.fieldLink RX0 42 "Pommel$Bout" "period" "I", Cond.fieldLink RX0 71 "Pommel$Bout" "secondsLeft" "I", Cond.fieldLink RX0 12 "Pommel$Bout" "left" "LPommel$Side;", Cond.fieldLink RX0 18 "Pommel$Bout" "right" "LPommel$Side;", Cond.methodLink RX0 78 yX2_end, Cond.instanceMethod yX2_end, Cond.selects RX2 yX2_end yX2_end, Cond.initialized RX2, Cond.code yX2_end cX2_end 2 none, Cond.fieldLink RX2 9 "Pommel$Side" "fencer" "LPommel$Fencer;", Cond.fieldLink RX2 15 "Pommel$Fencer" "liveBout" "LPommel$Bout;", Cond.fieldLink RX2 21 "Pommel$Fencer" "restedAt" "I", Cond.methodLink RX3 293 yX3_decide]
def wsX3_putOut_r3 : List Cond := [Cond.instanceMethod yX3_decide, Cond.selects RX3 yX3_decide yX3_decide, Cond.code yX3_decide cX3_decide 4 none, Cond.fieldLink RX3 210 "Pommel$Bout" "state" "I", Cond.fieldLink RX3 217 "Pommel$Bout" "winner" "LPommel$Fencer;", Cond.fieldLink RX3 176 "Pommel$Side" "score" "I", Cond.fieldLink RX3 300 "Pommel$Bout" "round" "I", Cond.fieldLink RX3 303 "Pommel$Fencer" "standing" "I", Cond.methodLink RX3 289 yX0_count, Cond.instanceMethod yX0_count, Cond.selects RX0 yX0_count yX0_count, Cond.code yX0_count cX0_count 5 none, Cond.methodLink RX0 82 yX2_count, Cond.instanceMethod yX2_count, Cond.selects RX2 yX2_count yX2_count, Cond.code yX2_count cX2_count 5 none, Cond.methodLink RX2 25 yX1_count, Cond.instanceMethod yX1_count, Cond.selects RX1 yX1_count yX1_count, Cond.initialized RX1, Cond.code yX1_count cX1_count 5 none, Cond.fieldLink RX1 33 "Pommel$Fencer" "met" "I", Cond.fieldLink RX1 36 "Pommel$Fencer" "won" "I", Cond.fieldLink RX1 39 "Pommel$Fencer" "given" "I"]
def wsX3_putOut_r4 : List Cond := [Cond.fieldLink RX1 42 "Pommel$Fencer" "taken" "I", Cond.methodLink RX3 306 yX3_goOnInTable, Cond.instanceMethod yX3_goOnInTable, Cond.selects RX3 yX3_goOnInTable yX3_goOnInTable, Cond.code yX3_goOnInTable cX3_goOnInTable 4 none, Cond.fieldLink RX3 108 "Pommel$Bout" "number" "I", Cond.fieldLink RX3 356 "Pommel" "firstOfTable" "I", Cond.fieldLink RX3 247 "Pommel" "tableSize" "I", Cond.methodLink RX3 49 yJx4a65c_size_8abf5, Cond.instanceMethod yJx4a65c_size_8abf5, Cond.selects RJx4a65c yJx4a65c_size_8abf5 yJx4a65c_size_8abf5, Cond.initialized RJx4a65c, Cond.code yJx4a65c_size_8abf5 cJx4a65c_size_8abf5 1 (some .int), Cond.fieldLink RJx4a65c 48 "java/util/ArrayList" "size" "I", Cond.methodLink RX3 124 yJx4a65c_get_915e3, Cond.instanceMethod yJx4a65c_get_915e3, Cond.selects RJx4a65c yJx4a65c_get_915e3 yJx4a65c_get_915e3, Cond.code yJx4a65c_get_915e3 cJx4a65c_get_915e3 2 (some (.object "java/lang/Object")), Cond.methodLink RJx4a65c 118 yJ15_checkIndex_7cf53, Cond.static yJ15_checkIndex_7cf53, Cond.initialized RJ15, Cond.code yJ15_checkIndex_7cf53 cJ15_checkIndex_7cf53 2 (some .int), Cond.methodLink RJ15 105 yJ3_checkIndex_8e157, Cond.static yJ3_checkIndex_8e157]
def wsX3_putOut_r5 : List Cond := [Cond.initialized RJ3, Cond.code yJ3_checkIndex_8e157 cJ3_checkIndex_8e157 3 (some .int), Cond.methodLink RJx4a65c 123 yJx4a65c_elementData_915e3, Cond.instanceMethod yJx4a65c_elementData_915e3, Cond.selects RJx4a65c yJx4a65c_elementData_915e3 yJx4a65c_elementData_915e3, Cond.code yJx4a65c_elementData_915e3 cJx4a65c_elementData_915e3 2 (some (.object "java/lang/Object")), Cond.fieldLink RJx4a65c 9 "java/util/ArrayList" "elementData" "[Ljava/lang/Object;", Cond.methodLink RX3 190 yX0_sideOf, Cond.instanceMethod yX0_sideOf, Cond.selects RX0 yX0_sideOf yX0_sideOf, Cond.code yX0_sideOf cX0_sideOf 2 (some (.object "Pommel$Side")), Cond.methodLink RX3 285 yX3_makeVoid, Cond.instanceMethod yX3_makeVoid, Cond.selects RX3 yX3_makeVoid yX3_makeVoid, Cond.code yX3_makeVoid cX3_makeVoid 2 none]
def wsX3_putOut : List Cond := .code yX3_putOut cX3_putOut 6 none :: ((wsX3_putOut_r1 ++ (wsX3_putOut_r2 ++ (wsX3_putOut_r3 ++ (wsX3_putOut_r4 ++ wsX3_putOut_r5)))) ++ wsX10 ++ wsX30 ++ wsX00 ++ wsX20 ++ wsJx4a65c0)
def wsX3_card_r1 : List Cond := [Cond.classLink RX3 42 "java/lang/IllegalArgumentException", Cond.initialized "java/lang/IllegalArgumentException", Cond.fieldLink RX3 194 "Pommel$Side" "shown" "I", Cond.methodLink RX3 197 Lib.Math.max.name, Cond.static Lib.Math.max.name, Cond.initialized "java/lang/Math", Cond.code Lib.Math.max.name Lib.Math.max.code 2 (some .int), Cond.fieldLink RX3 176 "Pommel$Side" "score" "I", Cond.fieldLink RX3 202 "Pommel$Side" "fencer" "LPommel$Fencer;", Cond.methodLink RX3 139 yX3_isPiste, Cond.static yX3_isPiste, Cond.initialized RX3, Cond.code yX3_isPiste cX3_isPiste 1 (some .boolean), Cond.methodLink RX3 38 yX3_isIn, Cond.static yX3_isIn, Cond.code yX3_isIn cX3_isIn 3 (some .boolean), Cond.methodLink RX3 165 yX3_liveBoutOn, Cond.instanceMethod yX3_liveBoutOn, Cond.selects RX3 yX3_liveBoutOn yX3_liveBoutOn, Cond.code yX3_liveBoutOn cX3_liveBoutOn 3 (some (.object "Pommel$Bout")), Cond.classLink RX3 57 "java/lang/IllegalStateException", Cond.initialized "java/lang/IllegalStateException", Cond.fieldLink RX3 21 "Pommel" "pistes" "[LPommel$Bout;", Cond.methodLink RX3 190 yX0_sideOf]
def wsX3_card_r2 : List Cond := [Cond.instanceMethod yX0_sideOf, Cond.selects RX0 yX0_sideOf yX0_sideOf, Cond.initialized RX0, Cond.code yX0_sideOf cX0_sideOf 2 (some (.object "Pommel$Side")), Cond.fieldLink RX0 12 "Pommel$Bout" "left" "LPommel$Side;", Cond.fieldLink RX0 18 "Pommel$Bout" "right" "LPommel$Side;", Cond.methodLink RX3 184 yX3_isOverByHit, Cond.instanceMethod yX3_isOverByHit, Cond.selects RX3 yX3_isOverByHit yX3_isOverByHit, Cond.code yX3_isOverByHit cX3_isOverByHit 2 (some .boolean), Cond.fieldLink RX3 160 "Pommel" "now" "I", Cond.methodLink RX3 275 yX0_isDecidedByHit, Cond.instanceMethod yX0_isDecidedByHit, Cond.selects RX0 yX0_isDecidedByHit yX0_isDecidedByHit, Cond.code yX0_isDecidedByHit cX0_isDecidedByHit 1 (some .boolean), Cond.fieldLink RX0 58 "Pommel$Side" "score" "I", Cond.methodLink RX0 65 yX0_isInExtra, Cond.instanceMethod yX0_isInExtra, Cond.selects RX0 yX0_isInExtra yX0_isInExtra, Cond.code yX0_isInExtra cX0_isInExtra 1 (some .boolean), Cond.fieldLink RX0 42 "Pommel$Bout" "period" "I", Cond.methodLink RX0 45 yX0_periods, Cond.instanceMethod yX0_periods, Cond.selects RX0 yX0_periods yX0_periods]
def wsX3_card_r3 : List Cond := [Cond.code yX0_periods cX0_periods 1 (some .int), Cond.methodLink RX0 38 yX0_isOfTable, Cond.instanceMethod yX0_isOfTable, Cond.selects RX0 yX0_isOfTable yX0_isOfTable, Cond.code yX0_isOfTable cX0_isOfTable 1 (some .boolean), Cond.fieldLink RX0 31 "Pommel$Bout" "round" "I", Cond.methodLink RX0 68 yX0_goal, Cond.instanceMethod yX0_goal, Cond.selects RX0 yX0_goal yX0_goal, Cond.code yX0_goal cX0_goal 1 (some .int), Cond.methodLink RX3 268 yX0_winnerAsItStands, Cond.instanceMethod yX0_winnerAsItStands, Cond.selects RX0 yX0_winnerAsItStands yX0_winnerAsItStands, Cond.code yX0_winnerAsItStands cX0_winnerAsItStands 1 (some (.object "Pommel$Fencer")), Cond.fieldLink RX0 34 "Pommel$Side" "fencer" "LPommel$Fencer;", Cond.methodLink RX0 61 yX0_withPriority, Cond.instanceMethod yX0_withPriority, Cond.selects RX0 yX0_withPriority yX0_withPriority, Cond.code yX0_withPriority cX0_withPriority 1 (some (.object "Pommel$Side")), Cond.fieldLink RX0 28 "Pommel$Bout" "number" "I", Cond.methodLink RX3 271 yX3_finish, Cond.instanceMethod yX3_finish, Cond.selects RX3 yX3_finish yX3_finish, Cond.code yX3_finish cX3_finish 4 none]
def wsX3_card_r4 : List Cond := [Cond.methodLink RX3 281 yX3_leavePiste, Cond.instanceMethod yX3_leavePiste, Cond.selects RX3 yX3_leavePiste yX3_leavePiste, Cond.code yX3_leavePiste cX3_leavePiste 3 none, Cond.fieldLink RX3 220 "Pommel$Bout" "piste" "I", Cond.methodLink RX3 297 yX0_end, Cond.instanceMethod yX0_end, Cond.selects RX0 yX0_end yX0_end, Cond.code yX0_end cX0_end 2 none, Cond.fieldLink RX0 25 "Pommel$Bout" "piste" "I", Cond.fieldLink RX0 71 "Pommel$Bout" "secondsLeft" "I", Cond.methodLink RX0 78 yX2_end, Cond.instanceMethod yX2_end, Cond.selects RX2 yX2_end yX2_end, Cond.initialized RX2, Cond.code yX2_end cX2_end 2 none, Cond.fieldLink RX2 9 "Pommel$Side" "fencer" "LPommel$Fencer;", Cond.fieldLink RX2 15 "Pommel$Fencer" "liveBout" "LPommel$Bout;", Cond.fieldLink RX2 21 "Pommel$Fencer" "restedAt" "I", Cond.methodLink RX3 293 yX3_decide, Cond.instanceMethod yX3_decide, Cond.selects RX3 yX3_decide yX3_decide, Cond.code yX3_decide cX3_decide 4 none, Cond.fieldLink RX3 210 "Pommel$Bout" "state" "I"]
def wsX3_card_r5 : List Cond := [Cond.fieldLink RX3 217 "Pommel$Bout" "winner" "LPommel$Fencer;", Cond.fieldLink RX3 172 "Pommel$Bout" "left" "LPommel$Side;", Cond.fieldLink RX3 181 "Pommel$Bout" "right" "LPommel$Side;", Cond.fieldLink RX3 300 "Pommel$Bout" "round" "I", Cond.fieldLink RX3 303 "Pommel$Fencer" "standing" "I", Cond.methodLink RX3 278 yX0_isOfTable, Cond.methodLink RX3 289 yX0_count, Cond.instanceMethod yX0_count, Cond.selects RX0 yX0_count yX0_count, Cond.code yX0_count cX0_count 5 none, Cond.methodLink RX0 82 yX2_count, Cond.instanceMethod yX2_count, Cond.selects RX2 yX2_count yX2_count, Cond.code yX2_count cX2_count 5 none, Cond.methodLink RX2 25 yX1_count, Cond.instanceMethod yX1_count, Cond.selects RX1 yX1_count yX1_count, Cond.initialized RX1, Cond.code yX1_count cX1_count 5 none, Cond.fieldLink RX1 33 "Pommel$Fencer" "met" "I", Cond.fieldLink RX1 36 "Pommel$Fencer" "won" "I", Cond.fieldLink RX1 39 "Pommel$Fencer" "given" "I", Cond.fieldLink RX1 42 "Pommel$Fencer" "taken" "I", Cond.methodLink RX3 306 yX3_goOnInTable]
def wsX3_card_r6 : List Cond := [Cond.instanceMethod yX3_goOnInTable, Cond.selects RX3 yX3_goOnInTable yX3_goOnInTable, Cond.code yX3_goOnInTable cX3_goOnInTable 4 none, Cond.fieldLink RX3 108 "Pommel$Bout" "number" "I", Cond.fieldLink RX3 356 "Pommel" "firstOfTable" "I", Cond.fieldLink RX3 247 "Pommel" "tableSize" "I", Cond.fieldLink RX3 16 "Pommel" "bouts" "Ljava/util/ArrayList;", Cond.classLink RX3 19 "Pommel$Bout", Cond.methodLink RX3 49 yJx4a65c_size_8abf5, Cond.instanceMethod yJx4a65c_size_8abf5, Cond.selects RJx4a65c yJx4a65c_size_8abf5 yJx4a65c_size_8abf5, Cond.initialized RJx4a65c, Cond.code yJx4a65c_size_8abf5 cJx4a65c_size_8abf5 1 (some .int), Cond.fieldLink RJx4a65c 48 "java/util/ArrayList" "size" "I", Cond.methodLink RX3 124 yJx4a65c_get_915e3, Cond.instanceMethod yJx4a65c_get_915e3, Cond.selects RJx4a65c yJx4a65c_get_915e3 yJx4a65c_get_915e3, Cond.code yJx4a65c_get_915e3 cJx4a65c_get_915e3 2 (some (.object "java/lang/Object")), Cond.methodLink RJx4a65c 118 yJ15_checkIndex_7cf53, Cond.static yJ15_checkIndex_7cf53, Cond.initialized RJ15, Cond.code yJ15_checkIndex_7cf53 cJ15_checkIndex_7cf53 2 (some .int), Cond.methodLink RJ15 105 yJ3_checkIndex_8e157, Cond.static yJ3_checkIndex_8e157]
def wsX3_card_r7 : List Cond := [Cond.initialized RJ3, Cond.code yJ3_checkIndex_8e157 cJ3_checkIndex_8e157 3 (some .int), Cond.methodLink RJx4a65c 123 yJx4a65c_elementData_915e3, Cond.instanceMethod yJx4a65c_elementData_915e3, Cond.selects RJx4a65c yJx4a65c_elementData_915e3 yJx4a65c_elementData_915e3, Cond.code yJx4a65c_elementData_915e3 cJx4a65c_elementData_915e3 2 (some (.object "java/lang/Object")), Cond.fieldLink RJx4a65c 9 "java/util/ArrayList" "elementData" "[Ljava/lang/Object;", Cond.methodLink RX3 206 yX3_putOut, Cond.instanceMethod yX3_putOut, Cond.selects RX3 yX3_putOut yX3_putOut, Cond.code yX3_putOut cX3_putOut 6 none, Cond.fieldLink RX3 100 "Pommel$Fencer" "out" "Z", Cond.methodLink RX3 285 yX3_makeVoid, Cond.instanceMethod yX3_makeVoid, Cond.selects RX3 yX3_makeVoid yX3_makeVoid, Cond.code yX3_makeVoid cX3_makeVoid 2 none]
def wsX3_card : List Cond := .code yX3_card cX3_card 8 (some .int) :: ((wsX3_card_r1 ++ (wsX3_card_r2 ++ (wsX3_card_r3 ++ (wsX3_card_r4 ++ (wsX3_card_r5 ++ (wsX3_card_r6 ++ wsX3_card_r7)))))) ++ wsX20 ++ wsX30 ++ wsX00 ++ wsX10 ++ wsJx4a65c0 ++ (vx_atS RX3 46 "java/lang/IllegalArgumentException" ["java/lang/RuntimeException", "java/lang/Exception"]).filter goodWord ++ (vx_atS RX3 61 "java/lang/IllegalStateException" ["java/lang/RuntimeException", "java/lang/Exception"]).filter goodWord)
def wsX3_numberOf : List Cond := .code yX3_numberOf cX3_numberOf 1 (some .int) :: ([.fieldLink RX3 414 "Pommel$Fencer" "number" "I"] ++ wsX10)
def wsX3_ofBout_r1 : List Cond := [Cond.classLink RX3 42 "java/lang/IllegalArgumentException", Cond.initialized "java/lang/IllegalArgumentException", Cond.fieldLink RX3 210 "Pommel$Bout" "state" "I", Cond.fieldLink RX3 172 "Pommel$Bout" "left" "LPommel$Side;", Cond.fieldLink RX3 202 "Pommel$Side" "fencer" "LPommel$Fencer;", Cond.fieldLink RX3 181 "Pommel$Bout" "right" "LPommel$Side;", Cond.fieldLink RX3 176 "Pommel$Side" "score" "I", Cond.fieldLink RX3 217 "Pommel$Bout" "winner" "LPommel$Fencer;", Cond.fieldLink RX3 220 "Pommel$Bout" "piste" "I", Cond.fieldLink RX3 223 "Pommel$Bout" "secondsLeft" "I", Cond.fieldLink RX3 226 "Pommel$Bout" "period" "I", Cond.fieldLink RX3 194 "Pommel$Side" "shown" "I", Cond.methodLink RX3 135 yX3_boutAt, Cond.instanceMethod yX3_boutAt, Cond.selects RX3 yX3_boutAt yX3_boutAt, Cond.initialized RX3, Cond.code yX3_boutAt cX3_boutAt 2 (some (.object "Pommel$Bout")), Cond.classLink RX3 341 "java/lang/IndexOutOfBoundsException", Cond.initialized "java/lang/IndexOutOfBoundsException", Cond.fieldLink RX3 16 "Pommel" "bouts" "Ljava/util/ArrayList;", Cond.classLink RX3 19 "Pommel$Bout", Cond.methodLink RX3 49 yJx4a65c_size_8abf5, Cond.instanceMethod yJx4a65c_size_8abf5, Cond.selects RJx4a65c yJx4a65c_size_8abf5 yJx4a65c_size_8abf5]
def wsX3_ofBout_r2 : List Cond := [Cond.initialized RJx4a65c, Cond.code yJx4a65c_size_8abf5 cJx4a65c_size_8abf5 1 (some .int), Cond.fieldLink RJx4a65c 48 "java/util/ArrayList" "size" "I", Cond.methodLink RX3 38 yX3_isIn, Cond.static yX3_isIn, Cond.code yX3_isIn cX3_isIn 3 (some .boolean), Cond.methodLink RX3 124 yJx4a65c_get_915e3, Cond.instanceMethod yJx4a65c_get_915e3, Cond.selects RJx4a65c yJx4a65c_get_915e3 yJx4a65c_get_915e3, Cond.code yJx4a65c_get_915e3 cJx4a65c_get_915e3 2 (some (.object "java/lang/Object")), Cond.methodLink RJx4a65c 118 yJ15_checkIndex_7cf53, Cond.static yJ15_checkIndex_7cf53, Cond.initialized RJ15, Cond.code yJ15_checkIndex_7cf53 cJ15_checkIndex_7cf53 2 (some .int), Cond.methodLink RJ15 105 yJ3_checkIndex_8e157, Cond.static yJ3_checkIndex_8e157, Cond.initialized RJ3, Cond.code yJ3_checkIndex_8e157 cJ3_checkIndex_8e157 3 (some .int), Cond.methodLink RJx4a65c 123 yJx4a65c_elementData_915e3, Cond.instanceMethod yJx4a65c_elementData_915e3, Cond.selects RJx4a65c yJx4a65c_elementData_915e3 yJx4a65c_elementData_915e3, Cond.code yJx4a65c_elementData_915e3 cJx4a65c_elementData_915e3 2 (some (.object "java/lang/Object")), Cond.fieldLink RJx4a65c 9 "java/util/ArrayList" "elementData" "[Ljava/lang/Object;", Cond.methodLink RX3 213 yX3_numberOf]
def wsX3_ofBout_r3 : List Cond := [Cond.static yX3_numberOf, Cond.code yX3_numberOf cX3_numberOf 1 (some .int), Cond.fieldLink RX3 414 "Pommel$Fencer" "number" "I", Cond.methodLink RX3 229 yX0_isInExtra, Cond.instanceMethod yX0_isInExtra, Cond.selects RX0 yX0_isInExtra yX0_isInExtra, Cond.initialized RX0, Cond.code yX0_isInExtra cX0_isInExtra 1 (some .boolean), Cond.fieldLink RX0 42 "Pommel$Bout" "period" "I", Cond.methodLink RX0 45 yX0_periods, Cond.instanceMethod yX0_periods, Cond.selects RX0 yX0_periods yX0_periods, Cond.code yX0_periods cX0_periods 1 (some .int), Cond.methodLink RX0 38 yX0_isOfTable, Cond.instanceMethod yX0_isOfTable, Cond.selects RX0 yX0_isOfTable yX0_isOfTable, Cond.code yX0_isOfTable cX0_isOfTable 1 (some .boolean), Cond.fieldLink RX0 31 "Pommel$Bout" "round" "I", Cond.methodLink RX3 232 yX0_withPriority, Cond.instanceMethod yX0_withPriority, Cond.selects RX0 yX0_withPriority yX0_withPriority, Cond.code yX0_withPriority cX0_withPriority 1 (some (.object "Pommel$Side")), Cond.fieldLink RX0 28 "Pommel$Bout" "number" "I", Cond.fieldLink RX0 12 "Pommel$Bout" "left" "LPommel$Side;"]
def wsX3_ofBout_r4 : List Cond := [Cond.fieldLink RX0 58 "Pommel$Side" "score" "I", Cond.fieldLink RX0 18 "Pommel$Bout" "right" "LPommel$Side;"]
def wsX3_ofBout : List Cond := .code yX3_ofBout cX3_ofBout 4 (some .int) :: ((wsX3_ofBout_r1 ++ (wsX3_ofBout_r2 ++ (wsX3_ofBout_r3 ++ wsX3_ofBout_r4))) ++ wsX00 ++ wsX20 ++ wsX30 ++ wsJx4a65c0 ++ wsX10 ++ (vx_atS RX3 46 "java/lang/IllegalArgumentException" ["java/lang/RuntimeException", "java/lang/Exception"]).filter goodWord ++ (vx_atS RX3 345 "java/lang/IndexOutOfBoundsException" ["java/lang/RuntimeException", "java/lang/Exception"]).filter goodWord)
def wsX3_reason_r1 : List Cond := [Cond.methodLink RX3 135 yX3_boutAt, Cond.instanceMethod yX3_boutAt, Cond.selects RX3 yX3_boutAt yX3_boutAt, Cond.initialized RX3, Cond.code yX3_boutAt cX3_boutAt 2 (some (.object "Pommel$Bout")), Cond.classLink RX3 341 "java/lang/IndexOutOfBoundsException", Cond.initialized "java/lang/IndexOutOfBoundsException", Cond.fieldLink RX3 16 "Pommel" "bouts" "Ljava/util/ArrayList;", Cond.classLink RX3 19 "Pommel$Bout", Cond.methodLink RX3 49 yJx4a65c_size_8abf5, Cond.instanceMethod yJx4a65c_size_8abf5, Cond.selects RJx4a65c yJx4a65c_size_8abf5 yJx4a65c_size_8abf5, Cond.initialized RJx4a65c, Cond.code yJx4a65c_size_8abf5 cJx4a65c_size_8abf5 1 (some .int), Cond.fieldLink RJx4a65c 48 "java/util/ArrayList" "size" "I", Cond.methodLink RX3 38 yX3_isIn, Cond.static yX3_isIn, Cond.code yX3_isIn cX3_isIn 3 (some .boolean), Cond.methodLink RX3 124 yJx4a65c_get_915e3, Cond.instanceMethod yJx4a65c_get_915e3, Cond.selects RJx4a65c yJx4a65c_get_915e3 yJx4a65c_get_915e3, Cond.code yJx4a65c_get_915e3 cJx4a65c_get_915e3 2 (some (.object "java/lang/Object")), Cond.methodLink RJx4a65c 118 yJ15_checkIndex_7cf53, Cond.static yJ15_checkIndex_7cf53]
def wsX3_reason_r2 : List Cond := [Cond.initialized RJ15, Cond.code yJ15_checkIndex_7cf53 cJ15_checkIndex_7cf53 2 (some .int), Cond.methodLink RJ15 105 yJ3_checkIndex_8e157, Cond.static yJ3_checkIndex_8e157, Cond.initialized RJ3, Cond.code yJ3_checkIndex_8e157 cJ3_checkIndex_8e157 3 (some .int), Cond.methodLink RJx4a65c 123 yJx4a65c_elementData_915e3, Cond.instanceMethod yJx4a65c_elementData_915e3, Cond.selects RJx4a65c yJx4a65c_elementData_915e3 yJx4a65c_elementData_915e3, Cond.code yJx4a65c_elementData_915e3 cJx4a65c_elementData_915e3 2 (some (.object "java/lang/Object")), Cond.fieldLink RJx4a65c 9 "java/util/ArrayList" "elementData" "[Ljava/lang/Object;", Cond.methodLink RX3 145 yX3_whyNotReady, Cond.instanceMethod yX3_whyNotReady, Cond.selects RX3 yX3_whyNotReady yX3_whyNotReady, Cond.code yX3_whyNotReady cX3_whyNotReady 2 (some .int), Cond.fieldLink RX3 210 "Pommel$Bout" "state" "I", Cond.fieldLink RX3 172 "Pommel$Bout" "left" "LPommel$Side;", Cond.fieldLink RX3 181 "Pommel$Bout" "right" "LPommel$Side;", Cond.fieldLink RX3 160 "Pommel" "now" "I", Cond.methodLink RX3 256 yX0_isKnown, Cond.instanceMethod yX0_isKnown, Cond.selects RX0 yX0_isKnown yX0_isKnown, Cond.initialized RX0, Cond.code yX0_isKnown cX0_isKnown 1 (some .boolean)]
def wsX3_reason_r3 : List Cond := [Cond.fieldLink RX0 12 "Pommel$Bout" "left" "LPommel$Side;", Cond.fieldLink RX0 34 "Pommel$Side" "fencer" "LPommel$Fencer;", Cond.fieldLink RX0 18 "Pommel$Bout" "right" "LPommel$Side;", Cond.methodLink RX3 259 yX2_isInLiveBout, Cond.instanceMethod yX2_isInLiveBout, Cond.selects RX2 yX2_isInLiveBout yX2_isInLiveBout, Cond.initialized RX2, Cond.code yX2_isInLiveBout cX2_isInLiveBout 1 (some .boolean), Cond.fieldLink RX2 9 "Pommel$Side" "fencer" "LPommel$Fencer;", Cond.fieldLink RX2 15 "Pommel$Fencer" "liveBout" "LPommel$Bout;", Cond.methodLink RX3 238 yX0_restedAt, Cond.instanceMethod yX0_restedAt, Cond.selects RX0 yX0_restedAt yX0_restedAt, Cond.code yX0_restedAt cX0_restedAt 1 (some .int), Cond.methodLink RX0 52 Lib.Math.max.name, Cond.static Lib.Math.max.name, Cond.initialized "java/lang/Math", Cond.code Lib.Math.max.name Lib.Math.max.code 2 (some .int), Cond.methodLink RX0 49 yX2_restedAt, Cond.instanceMethod yX2_restedAt, Cond.selects RX2 yX2_restedAt yX2_restedAt, Cond.code yX2_restedAt cX2_restedAt 1 (some .int), Cond.fieldLink RX2 21 "Pommel$Fencer" "restedAt" "I"]
def wsX3_reason : List Cond := .code yX3_reason cX3_reason 2 (some .int) :: ((wsX3_reason_r1 ++ (wsX3_reason_r2 ++ wsX3_reason_r3)) ++ wsX30 ++ wsJx4a65c0 ++ wsX00 ++ wsX20 ++ wsX10 ++ (vx_atS RX3 345 "java/lang/IndexOutOfBoundsException" ["java/lang/RuntimeException", "java/lang/Exception"]).filter goodWord)
def wsX3_next_r1 : List Cond := [Cond.fieldLink RX3 16 "Pommel" "bouts" "Ljava/util/ArrayList;", Cond.classLink RX3 19 "Pommel$Bout", Cond.methodLink RX3 49 yJx4a65c_size_8abf5, Cond.instanceMethod yJx4a65c_size_8abf5, Cond.selects RJx4a65c yJx4a65c_size_8abf5 yJx4a65c_size_8abf5, Cond.initialized RJx4a65c, Cond.code yJx4a65c_size_8abf5 cJx4a65c_size_8abf5 1 (some .int), Cond.fieldLink RJx4a65c 48 "java/util/ArrayList" "size" "I", Cond.methodLink RX3 124 yJx4a65c_get_915e3, Cond.instanceMethod yJx4a65c_get_915e3, Cond.selects RJx4a65c yJx4a65c_get_915e3 yJx4a65c_get_915e3, Cond.code yJx4a65c_get_915e3 cJx4a65c_get_915e3 2 (some (.object "java/lang/Object")), Cond.methodLink RJx4a65c 118 yJ15_checkIndex_7cf53, Cond.static yJ15_checkIndex_7cf53, Cond.initialized RJ15, Cond.code yJ15_checkIndex_7cf53 cJ15_checkIndex_7cf53 2 (some .int), Cond.methodLink RJ15 105 yJ3_checkIndex_8e157, Cond.static yJ3_checkIndex_8e157, Cond.initialized RJ3, Cond.code yJ3_checkIndex_8e157 cJ3_checkIndex_8e157 3 (some .int), Cond.methodLink RJx4a65c 123 yJx4a65c_elementData_915e3, Cond.instanceMethod yJx4a65c_elementData_915e3, Cond.selects RJx4a65c yJx4a65c_elementData_915e3 yJx4a65c_elementData_915e3, Cond.code yJx4a65c_elementData_915e3 cJx4a65c_elementData_915e3 2 (some (.object "java/lang/Object"))]
def wsX3_next_r2 : List Cond := [Cond.fieldLink RJx4a65c 9 "java/util/ArrayList" "elementData" "[Ljava/lang/Object;", Cond.methodLink RX3 238 yX0_restedAt, Cond.instanceMethod yX0_restedAt, Cond.selects RX0 yX0_restedAt yX0_restedAt, Cond.initialized RX0, Cond.code yX0_restedAt cX0_restedAt 1 (some .int), Cond.fieldLink RX0 12 "Pommel$Bout" "left" "LPommel$Side;", Cond.fieldLink RX0 18 "Pommel$Bout" "right" "LPommel$Side;", Cond.methodLink RX0 52 Lib.Math.max.name, Cond.static Lib.Math.max.name, Cond.initialized "java/lang/Math", Cond.code Lib.Math.max.name Lib.Math.max.code 2 (some .int), Cond.methodLink RX0 49 yX2_restedAt, Cond.instanceMethod yX2_restedAt, Cond.selects RX2 yX2_restedAt yX2_restedAt, Cond.initialized RX2, Cond.code yX2_restedAt cX2_restedAt 1 (some .int), Cond.fieldLink RX2 9 "Pommel$Side" "fencer" "LPommel$Fencer;", Cond.fieldLink RX2 21 "Pommel$Fencer" "restedAt" "I", Cond.methodLink RX3 145 yX3_whyNotReady, Cond.instanceMethod yX3_whyNotReady, Cond.selects RX3 yX3_whyNotReady yX3_whyNotReady, Cond.initialized RX3, Cond.code yX3_whyNotReady cX3_whyNotReady 2 (some .int)]
def wsX3_next_r3 : List Cond := [Cond.fieldLink RX3 210 "Pommel$Bout" "state" "I", Cond.fieldLink RX3 172 "Pommel$Bout" "left" "LPommel$Side;", Cond.fieldLink RX3 181 "Pommel$Bout" "right" "LPommel$Side;", Cond.fieldLink RX3 160 "Pommel" "now" "I", Cond.methodLink RX3 256 yX0_isKnown, Cond.instanceMethod yX0_isKnown, Cond.selects RX0 yX0_isKnown yX0_isKnown, Cond.code yX0_isKnown cX0_isKnown 1 (some .boolean), Cond.fieldLink RX0 34 "Pommel$Side" "fencer" "LPommel$Fencer;", Cond.methodLink RX3 259 yX2_isInLiveBout, Cond.instanceMethod yX2_isInLiveBout, Cond.selects RX2 yX2_isInLiveBout yX2_isInLiveBout, Cond.code yX2_isInLiveBout cX2_isInLiveBout 1 (some .boolean), Cond.fieldLink RX2 15 "Pommel$Fencer" "liveBout" "LPommel$Bout;"]
def wsX3_next : List Cond := .code yX3_next cX3_next 6 (some .int) :: ((wsX3_next_r1 ++ (wsX3_next_r2 ++ wsX3_next_r3)) ++ wsX30 ++ wsJx4a65c0 ++ wsX00 ++ wsX20 ++ wsX10)
def wsX3_boutsIn_r1 : List Cond := [Cond.fieldLink RX3 16 "Pommel" "bouts" "Ljava/util/ArrayList;", Cond.classLink RX3 19 "Pommel$Bout", Cond.fieldLink RX3 210 "Pommel$Bout" "state" "I", Cond.methodLink RX3 49 yJx4a65c_size_8abf5, Cond.instanceMethod yJx4a65c_size_8abf5, Cond.selects RJx4a65c yJx4a65c_size_8abf5 yJx4a65c_size_8abf5, Cond.initialized RJx4a65c, Cond.code yJx4a65c_size_8abf5 cJx4a65c_size_8abf5 1 (some .int), Cond.fieldLink RJx4a65c 48 "java/util/ArrayList" "size" "I", Cond.methodLink RX3 124 yJx4a65c_get_915e3, Cond.instanceMethod yJx4a65c_get_915e3, Cond.selects RJx4a65c yJx4a65c_get_915e3 yJx4a65c_get_915e3, Cond.code yJx4a65c_get_915e3 cJx4a65c_get_915e3 2 (some (.object "java/lang/Object")), Cond.methodLink RJx4a65c 118 yJ15_checkIndex_7cf53, Cond.static yJ15_checkIndex_7cf53, Cond.initialized RJ15, Cond.code yJ15_checkIndex_7cf53 cJ15_checkIndex_7cf53 2 (some .int), Cond.methodLink RJ15 105 yJ3_checkIndex_8e157, Cond.static yJ3_checkIndex_8e157, Cond.initialized RJ3, Cond.code yJ3_checkIndex_8e157 cJ3_checkIndex_8e157 3 (some .int), Cond.methodLink RJx4a65c 123 yJx4a65c_elementData_915e3, Cond.instanceMethod yJx4a65c_elementData_915e3, Cond.selects RJx4a65c yJx4a65c_elementData_915e3 yJx4a65c_elementData_915e3]
def wsX3_boutsIn_r2 : List Cond := [Cond.code yJx4a65c_elementData_915e3 cJx4a65c_elementData_915e3 2 (some (.object "java/lang/Object")), Cond.fieldLink RJx4a65c 9 "java/util/ArrayList" "elementData" "[Ljava/lang/Object;"]
def wsX3_boutsIn : List Cond := .code yX3_boutsIn cX3_boutsIn 4 (some .int) :: ((wsX3_boutsIn_r1 ++ wsX3_boutsIn_r2) ++ wsX30 ++ wsX00 ++ wsJx4a65c0)
def wsX3_fencersOut_r1 : List Cond := [Cond.fieldLink RX3 12 "Pommel" "fencers" "Ljava/util/ArrayList;", Cond.classLink RX3 29 "Pommel$Fencer", Cond.fieldLink RX3 100 "Pommel$Fencer" "out" "Z", Cond.methodLink RX3 49 yJx4a65c_size_8abf5, Cond.instanceMethod yJx4a65c_size_8abf5, Cond.selects RJx4a65c yJx4a65c_size_8abf5 yJx4a65c_size_8abf5, Cond.initialized RJx4a65c, Cond.code yJx4a65c_size_8abf5 cJx4a65c_size_8abf5 1 (some .int), Cond.fieldLink RJx4a65c 48 "java/util/ArrayList" "size" "I", Cond.methodLink RX3 124 yJx4a65c_get_915e3, Cond.instanceMethod yJx4a65c_get_915e3, Cond.selects RJx4a65c yJx4a65c_get_915e3 yJx4a65c_get_915e3, Cond.code yJx4a65c_get_915e3 cJx4a65c_get_915e3 2 (some (.object "java/lang/Object")), Cond.methodLink RJx4a65c 118 yJ15_checkIndex_7cf53, Cond.static yJ15_checkIndex_7cf53, Cond.initialized RJ15, Cond.code yJ15_checkIndex_7cf53 cJ15_checkIndex_7cf53 2 (some .int), Cond.methodLink RJ15 105 yJ3_checkIndex_8e157, Cond.static yJ3_checkIndex_8e157, Cond.initialized RJ3, Cond.code yJ3_checkIndex_8e157 cJ3_checkIndex_8e157 3 (some .int), Cond.methodLink RJx4a65c 123 yJx4a65c_elementData_915e3, Cond.instanceMethod yJx4a65c_elementData_915e3, Cond.selects RJx4a65c yJx4a65c_elementData_915e3 yJx4a65c_elementData_915e3]
def wsX3_fencersOut_r2 : List Cond := [Cond.code yJx4a65c_elementData_915e3 cJx4a65c_elementData_915e3 2 (some (.object "java/lang/Object")), Cond.fieldLink RJx4a65c 9 "java/util/ArrayList" "elementData" "[Ljava/lang/Object;"]
def wsX3_fencersOut : List Cond := .code yX3_fencersOut cX3_fencersOut 3 (some .int) :: ((wsX3_fencersOut_r1 ++ wsX3_fencersOut_r2) ++ wsX30 ++ wsX10 ++ wsJx4a65c0)
def wsX3_winnerOfTable_r1 : List Cond := [Cond.fieldLink RX3 16 "Pommel" "bouts" "Ljava/util/ArrayList;", Cond.fieldLink RX3 247 "Pommel" "tableSize" "I", Cond.classLink RX3 19 "Pommel$Bout", Cond.fieldLink RX3 217 "Pommel$Bout" "winner" "LPommel$Fencer;", Cond.methodLink RX3 49 yJx4a65c_size_8abf5, Cond.instanceMethod yJx4a65c_size_8abf5, Cond.selects RJx4a65c yJx4a65c_size_8abf5 yJx4a65c_size_8abf5, Cond.initialized RJx4a65c, Cond.code yJx4a65c_size_8abf5 cJx4a65c_size_8abf5 1 (some .int), Cond.fieldLink RJx4a65c 48 "java/util/ArrayList" "size" "I", Cond.methodLink RX3 124 yJx4a65c_get_915e3, Cond.instanceMethod yJx4a65c_get_915e3, Cond.selects RJx4a65c yJx4a65c_get_915e3 yJx4a65c_get_915e3, Cond.code yJx4a65c_get_915e3 cJx4a65c_get_915e3 2 (some (.object "java/lang/Object")), Cond.methodLink RJx4a65c 118 yJ15_checkIndex_7cf53, Cond.static yJ15_checkIndex_7cf53, Cond.initialized RJ15, Cond.code yJ15_checkIndex_7cf53 cJ15_checkIndex_7cf53 2 (some .int), Cond.methodLink RJ15 105 yJ3_checkIndex_8e157, Cond.static yJ3_checkIndex_8e157, Cond.initialized RJ3, Cond.code yJ3_checkIndex_8e157 cJ3_checkIndex_8e157 3 (some .int), Cond.methodLink RJx4a65c 123 yJx4a65c_elementData_915e3, Cond.instanceMethod yJx4a65c_elementData_915e3]
def wsX3_winnerOfTable_r2 : List Cond := [Cond.selects RJx4a65c yJx4a65c_elementData_915e3 yJx4a65c_elementData_915e3, Cond.code yJx4a65c_elementData_915e3 cJx4a65c_elementData_915e3 2 (some (.object "java/lang/Object")), Cond.fieldLink RJx4a65c 9 "java/util/ArrayList" "elementData" "[Ljava/lang/Object;"]
def wsX3_winnerOfTable : List Cond := .code yX3_winnerOfTable cX3_winnerOfTable 2 (some (.object "Pommel$Fencer")) :: ((wsX3_winnerOfTable_r1 ++ wsX3_winnerOfTable_r2) ++ wsX30 ++ wsX00 ++ wsJx4a65c0)
def wsX3_many_r1 : List Cond := [Cond.classLink RX3 42 "java/lang/IllegalArgumentException", Cond.initialized "java/lang/IllegalArgumentException", Cond.fieldLink RX3 12 "Pommel" "fencers" "Ljava/util/ArrayList;", Cond.fieldLink RX3 53 "Pommel" "pools" "I", Cond.fieldLink RX3 16 "Pommel" "bouts" "Ljava/util/ArrayList;", Cond.fieldLink RX3 160 "Pommel" "now" "I", Cond.fieldLink RX3 247 "Pommel" "tableSize" "I", Cond.methodLink RX3 49 yJx4a65c_size_8abf5, Cond.instanceMethod yJx4a65c_size_8abf5, Cond.selects RJx4a65c yJx4a65c_size_8abf5 yJx4a65c_size_8abf5, Cond.initialized RJx4a65c, Cond.code yJx4a65c_size_8abf5 cJx4a65c_size_8abf5 1 (some .int), Cond.fieldLink RJx4a65c 48 "java/util/ArrayList" "size" "I", Cond.methodLink RX3 240 yX3_boutsIn, Cond.instanceMethod yX3_boutsIn, Cond.selects RX3 yX3_boutsIn yX3_boutsIn, Cond.initialized RX3, Cond.code yX3_boutsIn cX3_boutsIn 4 (some .int), Cond.classLink RX3 19 "Pommel$Bout", Cond.fieldLink RX3 210 "Pommel$Bout" "state" "I", Cond.methodLink RX3 124 yJx4a65c_get_915e3, Cond.instanceMethod yJx4a65c_get_915e3, Cond.selects RJx4a65c yJx4a65c_get_915e3 yJx4a65c_get_915e3, Cond.code yJx4a65c_get_915e3 cJx4a65c_get_915e3 2 (some (.object "java/lang/Object"))]
def wsX3_many_r2 : List Cond := [Cond.methodLink RJx4a65c 118 yJ15_checkIndex_7cf53, Cond.static yJ15_checkIndex_7cf53, Cond.initialized RJ15, Cond.code yJ15_checkIndex_7cf53 cJ15_checkIndex_7cf53 2 (some .int), Cond.methodLink RJ15 105 yJ3_checkIndex_8e157, Cond.static yJ3_checkIndex_8e157, Cond.initialized RJ3, Cond.code yJ3_checkIndex_8e157 cJ3_checkIndex_8e157 3 (some .int), Cond.methodLink RJx4a65c 123 yJx4a65c_elementData_915e3, Cond.instanceMethod yJx4a65c_elementData_915e3, Cond.selects RJx4a65c yJx4a65c_elementData_915e3 yJx4a65c_elementData_915e3, Cond.code yJx4a65c_elementData_915e3 cJx4a65c_elementData_915e3 2 (some (.object "java/lang/Object")), Cond.fieldLink RJx4a65c 9 "java/util/ArrayList" "elementData" "[Ljava/lang/Object;", Cond.methodLink RX3 244 yX3_fencersOut, Cond.instanceMethod yX3_fencersOut, Cond.selects RX3 yX3_fencersOut yX3_fencersOut, Cond.code yX3_fencersOut cX3_fencersOut 3 (some .int), Cond.classLink RX3 29 "Pommel$Fencer", Cond.fieldLink RX3 100 "Pommel$Fencer" "out" "Z", Cond.methodLink RX3 250 yX3_winnerOfTable, Cond.instanceMethod yX3_winnerOfTable, Cond.selects RX3 yX3_winnerOfTable yX3_winnerOfTable, Cond.code yX3_winnerOfTable cX3_winnerOfTable 2 (some (.object "Pommel$Fencer")), Cond.fieldLink RX3 217 "Pommel$Bout" "winner" "LPommel$Fencer;"]
def wsX3_many_r3 : List Cond := [Cond.methodLink RX3 213 yX3_numberOf, Cond.static yX3_numberOf, Cond.code yX3_numberOf cX3_numberOf 1 (some .int), Cond.fieldLink RX3 414 "Pommel$Fencer" "number" "I"]
def wsX3_many : List Cond := .code yX3_many cX3_many 2 (some .int) :: ((wsX3_many_r1 ++ (wsX3_many_r2 ++ wsX3_many_r3)) ++ wsX30 ++ wsJx4a65c0 ++ wsX00 ++ wsX10 ++ (vx_atS RX3 46 "java/lang/IllegalArgumentException" ["java/lang/RuntimeException", "java/lang/Exception"]).filter goodWord)
def wsX3_order_r1 : List Cond := [Cond.classLink RX3 42 "java/lang/IllegalArgumentException", Cond.initialized "java/lang/IllegalArgumentException", Cond.fieldLink RX3 309 "Pommel$Fencer" "met" "I", Cond.fieldLink RX3 312 "Pommel$Fencer" "won" "I", Cond.fieldLink RX3 315 "Pommel$Fencer" "given" "I", Cond.fieldLink RX3 318 "Pommel$Fencer" "taken" "I", Cond.methodLink RX3 85 yX3_fencerAt, Cond.instanceMethod yX3_fencerAt, Cond.selects RX3 yX3_fencerAt yX3_fencerAt, Cond.initialized RX3, Cond.code yX3_fencerAt cX3_fencerAt 2 (some (.object "Pommel$Fencer")), Cond.classLink RX3 341 "java/lang/IndexOutOfBoundsException", Cond.initialized "java/lang/IndexOutOfBoundsException", Cond.fieldLink RX3 12 "Pommel" "fencers" "Ljava/util/ArrayList;", Cond.classLink RX3 29 "Pommel$Fencer", Cond.methodLink RX3 49 yJx4a65c_size_8abf5, Cond.instanceMethod yJx4a65c_size_8abf5, Cond.selects RJx4a65c yJx4a65c_size_8abf5 yJx4a65c_size_8abf5, Cond.initialized RJx4a65c, Cond.code yJx4a65c_size_8abf5 cJx4a65c_size_8abf5 1 (some .int), Cond.fieldLink RJx4a65c 48 "java/util/ArrayList" "size" "I", Cond.methodLink RX3 38 yX3_isIn, Cond.static yX3_isIn, Cond.code yX3_isIn cX3_isIn 3 (some .boolean)]
def wsX3_order_r2 : List Cond := [Cond.methodLink RX3 124 yJx4a65c_get_915e3, Cond.instanceMethod yJx4a65c_get_915e3, Cond.selects RJx4a65c yJx4a65c_get_915e3 yJx4a65c_get_915e3, Cond.code yJx4a65c_get_915e3 cJx4a65c_get_915e3 2 (some (.object "java/lang/Object")), Cond.methodLink RJx4a65c 118 yJ15_checkIndex_7cf53, Cond.static yJ15_checkIndex_7cf53, Cond.initialized RJ15, Cond.code yJ15_checkIndex_7cf53 cJ15_checkIndex_7cf53 2 (some .int), Cond.methodLink RJ15 105 yJ3_checkIndex_8e157, Cond.static yJ3_checkIndex_8e157, Cond.initialized RJ3, Cond.code yJ3_checkIndex_8e157 cJ3_checkIndex_8e157 3 (some .int), Cond.methodLink RJx4a65c 123 yJx4a65c_elementData_915e3, Cond.instanceMethod yJx4a65c_elementData_915e3, Cond.selects RJx4a65c yJx4a65c_elementData_915e3 yJx4a65c_elementData_915e3, Cond.code yJx4a65c_elementData_915e3 cJx4a65c_elementData_915e3 2 (some (.object "java/lang/Object")), Cond.fieldLink RJx4a65c 9 "java/util/ArrayList" "elementData" "[Ljava/lang/Object;", Cond.methodLink RX3 321 yX3_aheadInOrder, Cond.instanceMethod yX3_aheadInOrder, Cond.selects RX3 yX3_aheadInOrder yX3_aheadInOrder, Cond.code yX3_aheadInOrder cX3_aheadInOrder 4 (some .int), Cond.methodLink RX3 353 yX1_isAheadOf, Cond.instanceMethod yX1_isAheadOf, Cond.selects RX1 yX1_isAheadOf yX1_isAheadOf]
def wsX3_order_r3 : List Cond := [Cond.initialized RX1, Cond.code yX1_isAheadOf cX1_isAheadOf 4 (some .boolean), Cond.fieldLink RX1 45 "Pommel$Fencer" "out" "Z", Cond.fieldLink RX1 36 "Pommel$Fencer" "won" "I", Cond.fieldLink RX1 33 "Pommel$Fencer" "met" "I", Cond.methodLink RX1 49 Lib.Math.max.name, Cond.static Lib.Math.max.name, Cond.initialized "java/lang/Math", Cond.code Lib.Math.max.name Lib.Math.max.code 2 (some .int), Cond.fieldLink RX1 39 "Pommel$Fencer" "given" "I", Cond.fieldLink RX1 42 "Pommel$Fencer" "taken" "I", Cond.fieldLink RX1 27 "Pommel$Fencer" "rank" "I", Cond.fieldLink RX1 24 "Pommel$Fencer" "number" "I"]
def wsX3_order : List Cond := .code yX3_order cX3_order 4 (some .int) :: ((wsX3_order_r1 ++ (wsX3_order_r2 ++ wsX3_order_r3)) ++ wsX10 ++ wsX30 ++ wsJx4a65c0 ++ (vx_atS RX3 46 "java/lang/IllegalArgumentException" ["java/lang/RuntimeException", "java/lang/Exception"]).filter goodWord ++ (vx_atS RX3 345 "java/lang/IndexOutOfBoundsException" ["java/lang/RuntimeException", "java/lang/Exception"]).filter goodWord)
def wsX3_seed_r1 : List Cond := [Cond.fieldLink RX3 31 "Pommel" "seeded" "[LPommel$Fencer;", Cond.methodLink RX3 73 yX3_fencerInOrder, Cond.instanceMethod yX3_fencerInOrder, Cond.selects RX3 yX3_fencerInOrder yX3_fencerInOrder, Cond.initialized RX3, Cond.code yX3_fencerInOrder cX3_fencerInOrder 4 (some (.object "Pommel$Fencer")), Cond.fieldLink RX3 12 "Pommel" "fencers" "Ljava/util/ArrayList;", Cond.classLink RX3 29 "Pommel$Fencer", Cond.methodLink RX3 49 yJx4a65c_size_8abf5, Cond.instanceMethod yJx4a65c_size_8abf5, Cond.selects RJx4a65c yJx4a65c_size_8abf5 yJx4a65c_size_8abf5, Cond.initialized RJx4a65c, Cond.code yJx4a65c_size_8abf5 cJx4a65c_size_8abf5 1 (some .int), Cond.fieldLink RJx4a65c 48 "java/util/ArrayList" "size" "I", Cond.methodLink RX3 124 yJx4a65c_get_915e3, Cond.instanceMethod yJx4a65c_get_915e3, Cond.selects RJx4a65c yJx4a65c_get_915e3 yJx4a65c_get_915e3, Cond.code yJx4a65c_get_915e3 cJx4a65c_get_915e3 2 (some (.object "java/lang/Object")), Cond.methodLink RJx4a65c 118 yJ15_checkIndex_7cf53, Cond.static yJ15_checkIndex_7cf53, Cond.initialized RJ15, Cond.code yJ15_checkIndex_7cf53 cJ15_checkIndex_7cf53 2 (some .int), Cond.methodLink RJ15 105 yJ3_checkIndex_8e157, Cond.static yJ3_checkIndex_8e157]
def wsX3_seed_r2 : List Cond := [Cond.initialized RJ3, Cond.code yJ3_checkIndex_8e157 cJ3_checkIndex_8e157 3 (some .int), Cond.methodLink RJx4a65c 123 yJx4a65c_elementData_915e3, Cond.instanceMethod yJx4a65c_elementData_915e3, Cond.selects RJx4a65c yJx4a65c_elementData_915e3 yJx4a65c_elementData_915e3, Cond.code yJx4a65c_elementData_915e3 cJx4a65c_elementData_915e3 2 (some (.object "java/lang/Object")), Cond.fieldLink RJx4a65c 9 "java/util/ArrayList" "elementData" "[Ljava/lang/Object;", Cond.methodLink RX3 321 yX3_aheadInOrder, Cond.instanceMethod yX3_aheadInOrder, Cond.selects RX3 yX3_aheadInOrder yX3_aheadInOrder, Cond.code yX3_aheadInOrder cX3_aheadInOrder 4 (some .int), Cond.methodLink RX3 353 yX1_isAheadOf, Cond.instanceMethod yX1_isAheadOf, Cond.selects RX1 yX1_isAheadOf yX1_isAheadOf, Cond.initialized RX1, Cond.code yX1_isAheadOf cX1_isAheadOf 4 (some .boolean), Cond.fieldLink RX1 45 "Pommel$Fencer" "out" "Z", Cond.fieldLink RX1 36 "Pommel$Fencer" "won" "I", Cond.fieldLink RX1 33 "Pommel$Fencer" "met" "I", Cond.methodLink RX1 49 Lib.Math.max.name, Cond.static Lib.Math.max.name, Cond.initialized "java/lang/Math", Cond.code Lib.Math.max.name Lib.Math.max.code 2 (some .int), Cond.fieldLink RX1 39 "Pommel$Fencer" "given" "I"]
def wsX3_seed_r3 : List Cond := [Cond.fieldLink RX1 42 "Pommel$Fencer" "taken" "I", Cond.fieldLink RX1 27 "Pommel$Fencer" "rank" "I", Cond.fieldLink RX1 24 "Pommel$Fencer" "number" "I"]
def wsX3_seed : List Cond := .code yX3_seed cX3_seed 3 none :: ((wsX3_seed_r1 ++ (wsX3_seed_r2 ++ wsX3_seed_r3)) ++ wsX30 ++ wsJx4a65c0 ++ wsX10)
def wsX3_setLines : List Cond := .code yX3_setLines cX3_setLines 5 none :: ([.fieldLink RX3 35 "Pommel" "seedsOfLines" "[I", .fieldLink RX3 247 "Pommel" "tableSize" "I"] ++ wsX30)
def wsX3_fencerOnLine : List Cond := .code yX3_fencerOnLine cX3_fencerOnLine 2 (some (.object "Pommel$Fencer")) :: ([.fieldLink RX3 247 "Pommel" "tableSize" "I", .fieldLink RX3 35 "Pommel" "seedsOfLines" "[I", .fieldLink RX3 31 "Pommel" "seeded" "[LPommel$Fencer;", .methodLink RX3 38 yX3_isIn, .static yX3_isIn, .initialized RX3, .code yX3_isIn cX3_isIn 3 (some .boolean)] ++ wsX30)
def wsX3_enteredOnLine : List Cond := .code yX3_enteredOnLine cX3_enteredOnLine 3 (some (.object "Pommel$Fencer")) :: ([.fieldLink RX3 365 "Pommel$Fencer" "tableLine" "I", .fieldLink RX3 303 "Pommel$Fencer" "standing" "I", .methodLink RX3 346 yX3_fencerOnLine, .instanceMethod yX3_fencerOnLine, .selects RX3 yX3_fencerOnLine yX3_fencerOnLine, .initialized RX3, .code yX3_fencerOnLine cX3_fencerOnLine 2 (some (.object "Pommel$Fencer")), .fieldLink RX3 247 "Pommel" "tableSize" "I", .fieldLink RX3 35 "Pommel" "seedsOfLines" "[I", .fieldLink RX3 31 "Pommel" "seeded" "[LPommel$Fencer;", .methodLink RX3 38 yX3_isIn, .static yX3_isIn, .code yX3_isIn cX3_isIn 3 (some .boolean)] ++ wsX10 ++ wsX30)
def wsX3_decideWithoutOther_r1 : List Cond := [Cond.fieldLink RX3 247 "Pommel" "tableSize" "I", Cond.fieldLink RX3 356 "Pommel" "firstOfTable" "I", Cond.fieldLink RX3 16 "Pommel" "bouts" "Ljava/util/ArrayList;", Cond.classLink RX3 19 "Pommel$Bout", Cond.fieldLink RX3 172 "Pommel$Bout" "left" "LPommel$Side;", Cond.fieldLink RX3 202 "Pommel$Side" "fencer" "LPommel$Fencer;", Cond.fieldLink RX3 181 "Pommel$Bout" "right" "LPommel$Side;", Cond.methodLink RX3 49 yJx4a65c_size_8abf5, Cond.instanceMethod yJx4a65c_size_8abf5, Cond.selects RJx4a65c yJx4a65c_size_8abf5 yJx4a65c_size_8abf5, Cond.initialized RJx4a65c, Cond.code yJx4a65c_size_8abf5 cJx4a65c_size_8abf5 1 (some .int), Cond.fieldLink RJx4a65c 48 "java/util/ArrayList" "size" "I", Cond.methodLink RX3 38 yX3_isIn, Cond.static yX3_isIn, Cond.initialized RX3, Cond.code yX3_isIn cX3_isIn 3 (some .boolean), Cond.methodLink RX3 124 yJx4a65c_get_915e3, Cond.instanceMethod yJx4a65c_get_915e3, Cond.selects RJx4a65c yJx4a65c_get_915e3 yJx4a65c_get_915e3, Cond.code yJx4a65c_get_915e3 cJx4a65c_get_915e3 2 (some (.object "java/lang/Object")), Cond.methodLink RJx4a65c 118 yJ15_checkIndex_7cf53, Cond.static yJ15_checkIndex_7cf53, Cond.initialized RJ15]
def wsX3_decideWithoutOther_r2 : List Cond := [Cond.code yJ15_checkIndex_7cf53 cJ15_checkIndex_7cf53 2 (some .int), Cond.methodLink RJ15 105 yJ3_checkIndex_8e157, Cond.static yJ3_checkIndex_8e157, Cond.initialized RJ3, Cond.code yJ3_checkIndex_8e157 cJ3_checkIndex_8e157 3 (some .int), Cond.methodLink RJx4a65c 123 yJx4a65c_elementData_915e3, Cond.instanceMethod yJx4a65c_elementData_915e3, Cond.selects RJx4a65c yJx4a65c_elementData_915e3 yJx4a65c_elementData_915e3, Cond.code yJx4a65c_elementData_915e3 cJx4a65c_elementData_915e3 2 (some (.object "java/lang/Object")), Cond.fieldLink RJx4a65c 9 "java/util/ArrayList" "elementData" "[Ljava/lang/Object;", Cond.methodLink RX3 256 yX0_isKnown, Cond.instanceMethod yX0_isKnown, Cond.selects RX0 yX0_isKnown yX0_isKnown, Cond.initialized RX0, Cond.code yX0_isKnown cX0_isKnown 1 (some .boolean), Cond.fieldLink RX0 12 "Pommel$Bout" "left" "LPommel$Side;", Cond.fieldLink RX0 34 "Pommel$Side" "fencer" "LPommel$Fencer;", Cond.fieldLink RX0 18 "Pommel$Bout" "right" "LPommel$Side;", Cond.methodLink RX3 293 yX3_decide, Cond.instanceMethod yX3_decide, Cond.selects RX3 yX3_decide yX3_decide, Cond.code yX3_decide cX3_decide 4 none, Cond.fieldLink RX3 210 "Pommel$Bout" "state" "I", Cond.fieldLink RX3 217 "Pommel$Bout" "winner" "LPommel$Fencer;"]
def wsX3_decideWithoutOther_r3 : List Cond := [Cond.fieldLink RX3 176 "Pommel$Side" "score" "I", Cond.fieldLink RX3 300 "Pommel$Bout" "round" "I", Cond.fieldLink RX3 303 "Pommel$Fencer" "standing" "I", Cond.methodLink RX3 278 yX0_isOfTable, Cond.instanceMethod yX0_isOfTable, Cond.selects RX0 yX0_isOfTable yX0_isOfTable, Cond.code yX0_isOfTable cX0_isOfTable 1 (some .boolean), Cond.fieldLink RX0 31 "Pommel$Bout" "round" "I", Cond.methodLink RX3 289 yX0_count, Cond.instanceMethod yX0_count, Cond.selects RX0 yX0_count yX0_count, Cond.code yX0_count cX0_count 5 none, Cond.methodLink RX0 82 yX2_count, Cond.instanceMethod yX2_count, Cond.selects RX2 yX2_count yX2_count, Cond.initialized RX2, Cond.code yX2_count cX2_count 5 none, Cond.fieldLink RX2 9 "Pommel$Side" "fencer" "LPommel$Fencer;", Cond.methodLink RX2 25 yX1_count, Cond.instanceMethod yX1_count, Cond.selects RX1 yX1_count yX1_count, Cond.initialized RX1, Cond.code yX1_count cX1_count 5 none, Cond.fieldLink RX1 33 "Pommel$Fencer" "met" "I"]
def wsX3_decideWithoutOther_r4 : List Cond := [Cond.fieldLink RX1 36 "Pommel$Fencer" "won" "I", Cond.fieldLink RX1 39 "Pommel$Fencer" "given" "I", Cond.fieldLink RX1 42 "Pommel$Fencer" "taken" "I", Cond.methodLink RX3 306 yX3_goOnInTable, Cond.instanceMethod yX3_goOnInTable, Cond.selects RX3 yX3_goOnInTable yX3_goOnInTable, Cond.code yX3_goOnInTable cX3_goOnInTable 4 none, Cond.fieldLink RX3 108 "Pommel$Bout" "number" "I", Cond.methodLink RX3 190 yX0_sideOf, Cond.instanceMethod yX0_sideOf, Cond.selects RX0 yX0_sideOf yX0_sideOf, Cond.code yX0_sideOf cX0_sideOf 2 (some (.object "Pommel$Side"))]
def wsX3_decideWithoutOther : List Cond := .code yX3_decideWithoutOther cX3_decideWithoutOther 4 none :: ((wsX3_decideWithoutOther_r1 ++ (wsX3_decideWithoutOther_r2 ++ (wsX3_decideWithoutOther_r3 ++ wsX3_decideWithoutOther_r4))) ++ wsX30 ++ wsX00 ++ wsX20 ++ wsJx4a65c0 ++ wsX10)
def wsX3_addTableBouts_r1 : List Cond := [Cond.fieldLink RX3 16 "Pommel" "bouts" "Ljava/util/ArrayList;", Cond.fieldLink RX3 356 "Pommel" "firstOfTable" "I", Cond.fieldLink RX3 247 "Pommel" "tableSize" "I", Cond.classLink RX3 19 RX0, Cond.instantiable RX0 9, Cond.initialized RX0, Cond.methodLink RX3 49 yJx4a65c_size_8abf5, Cond.instanceMethod yJx4a65c_size_8abf5, Cond.selects RJx4a65c yJx4a65c_size_8abf5 yJx4a65c_size_8abf5, Cond.initialized RJx4a65c, Cond.code yJx4a65c_size_8abf5 cJx4a65c_size_8abf5 1 (some .int), Cond.fieldLink RJx4a65c 48 "java/util/ArrayList" "size" "I", Cond.methodLink RX3 359 yX3_enteredOnLine, Cond.instanceMethod yX3_enteredOnLine, Cond.selects RX3 yX3_enteredOnLine yX3_enteredOnLine, Cond.initialized RX3, Cond.code yX3_enteredOnLine cX3_enteredOnLine 3 (some (.object "Pommel$Fencer")), Cond.fieldLink RX3 365 "Pommel$Fencer" "tableLine" "I", Cond.fieldLink RX3 303 "Pommel$Fencer" "standing" "I", Cond.methodLink RX3 346 yX3_fencerOnLine, Cond.instanceMethod yX3_fencerOnLine, Cond.selects RX3 yX3_fencerOnLine yX3_fencerOnLine, Cond.code yX3_fencerOnLine cX3_fencerOnLine 2 (some (.object "Pommel$Fencer")), Cond.fieldLink RX3 35 "Pommel" "seedsOfLines" "[I"]
def wsX3_addTableBouts_r2 : List Cond := [Cond.fieldLink RX3 31 "Pommel" "seeded" "[LPommel$Fencer;", Cond.methodLink RX3 38 yX3_isIn, Cond.static yX3_isIn, Cond.code yX3_isIn cX3_isIn 3 (some .boolean), Cond.methodLink RX3 132 yX0_init, Cond.instanceMethod yX0_init, Cond.code yX0_init cX0_init 5 none, Cond.methodLink RX0 3 objectInit, Cond.instanceMethod objectInit, Cond.code objectInit ⟨#[0xb1]⟩ 1 none, Cond.classLink RX0 9 RX2, Cond.instantiable RX2 3, Cond.initialized RX2, Cond.fieldLink RX0 12 "Pommel$Bout" "left" "LPommel$Side;", Cond.fieldLink RX0 18 "Pommel$Bout" "right" "LPommel$Side;", Cond.fieldLink RX0 21 "Pommel$Bout" "state" "I", Cond.fieldLink RX0 25 "Pommel$Bout" "piste" "I", Cond.fieldLink RX0 28 "Pommel$Bout" "number" "I", Cond.fieldLink RX0 31 "Pommel$Bout" "round" "I", Cond.fieldLink RX0 34 "Pommel$Side" "fencer" "LPommel$Fencer;", Cond.instanceMethod yX2_init, Cond.code yX2_init cX2_init 1 none, Cond.methodLink RX2 3 objectInit, Cond.methodLink RX3 65 yJx4a65c_add_9ea2d]
def wsX3_addTableBouts_r3 : List Cond := [Cond.instanceMethod yJx4a65c_add_9ea2d, Cond.selects RJx4a65c yJx4a65c_add_9ea2d yJx4a65c_add_9ea2d, Cond.code yJx4a65c_add_9ea2d cJx4a65c_add_9ea2d 2 (some .boolean), Cond.fieldLink RJx4a65c 63 "java/util/ArrayList" "modCount" "I", Cond.sameField "java/util/ArrayList" "java/util/AbstractList" "modCount" "I", Cond.fieldLink RJx4a65c 9 "java/util/ArrayList" "elementData" "[Ljava/lang/Object;", Cond.methodLink RJx4a65c 131 yJx4a65c_add_72be8, Cond.instanceMethod yJx4a65c_add_72be8, Cond.selects RJx4a65c yJx4a65c_add_72be8 yJx4a65c_add_72be8, Cond.code yJx4a65c_add_72be8 cJx4a65c_add_72be8 4 none, Cond.methodLink RJx4a65c 129 yJx4a65c_grow_d5877, Cond.instanceMethod yJx4a65c_grow_d5877, Cond.selects RJx4a65c yJx4a65c_grow_d5877 yJx4a65c_grow_d5877, Cond.code yJx4a65c_grow_d5877 cJx4a65c_grow_d5877 1 (some (.array (.object "java/lang/Object"))), Cond.methodLink RJx4a65c 69 yJx4a65c_grow_92f84, Cond.instanceMethod yJx4a65c_grow_92f84, Cond.selects RJx4a65c yJx4a65c_grow_92f84 yJx4a65c_grow_92f84, Cond.code yJx4a65c_grow_92f84 cJx4a65c_grow_92f84 4 (some (.array (.object "java/lang/Object"))), Cond.fieldLink RJx4a65c 39 "java/util/ArrayList" "DEFAULTCAPACITY_EMPTY_ELEMENTDATA" "[Ljava/lang/Object;", Cond.methodLink RJx4a65c 79 Lib.Math.max.name, Cond.static Lib.Math.max.name, Cond.initialized "java/lang/Math", Cond.code Lib.Math.max.name Lib.Math.max.code 2 (some .int), Cond.classLink RJx4a65c 7 "java/lang/Object"]
def wsX3_addTableBouts_r4 : List Cond := [Cond.methodLink RJx4a65c 73 yJ8_newLength_cabcc, Cond.static yJ8_newLength_cabcc, Cond.initialized RJ8, Cond.code yJ8_newLength_cabcc cJ8_newLength_cabcc 4 (some .int), Cond.methodLink RJ8 194 Lib.Math.max.name, Cond.constant RJ8 200 (2147483639), Cond.methodLink RJ8 201 yJ8_hugeLength_7cf53, Cond.static yJ8_hugeLength_7cf53, Cond.code yJ8_hugeLength_7cf53 cJ8_hugeLength_7cf53 3 (some .int), Cond.methodLink RJx4a65c 66 yJ7_copyOf_1904c, Cond.static yJ7_copyOf_1904c, Cond.initialized RJ7, Cond.code yJ7_copyOf_1904c cJ7_copyOf_1904c 2 (some (.array (.object "java/lang/Object"))), Cond.methodLink RJ7 86 ⟨"java/lang/Object", "getClass", "()Ljava/lang/Class;"⟩, Cond.selects "[Ljava/lang/Object;" ⟨"java/lang/Object", "getClass", "()Ljava/lang/Class;"⟩ ⟨"java/lang/Object", "getClass", "()Ljava/lang/Class;"⟩, Cond.instanceMethod ⟨"java/lang/Object", "getClass", "()Ljava/lang/Class;"⟩, Cond.native ⟨"java/lang/Object", "getClass", "()Ljava/lang/Class;"⟩, Cond.methodLink RJ7 300 yJ7_copyOf_6403c, Cond.static yJ7_copyOf_6403c, Cond.code yJ7_copyOf_6403c cJ7_copyOf_6403c 4 (some (.array (.object "java/lang/Object"))), Cond.classLink RJ7 110 "[Ljava/lang/Object;", Cond.classLink RJ7 2 "java/lang/Object", Cond.methodLink RJ7 304 Lib.Math.min.name, Cond.static Lib.Math.min.name]
def wsX3_addTableBouts_r5 : List Cond := [Cond.code Lib.Math.min.name Lib.Math.min.code 2 (some .int), Cond.methodLink RJ7 150 arraycopyName, Cond.native arraycopyName, Cond.static arraycopyName, Cond.initialized "java/lang/System", Cond.methodLink RX3 362 yX3_decideWithoutOther, Cond.instanceMethod yX3_decideWithoutOther, Cond.selects RX3 yX3_decideWithoutOther yX3_decideWithoutOther, Cond.code yX3_decideWithoutOther cX3_decideWithoutOther 4 none, Cond.classLink RX3 19 "Pommel$Bout", Cond.fieldLink RX3 172 "Pommel$Bout" "left" "LPommel$Side;", Cond.fieldLink RX3 202 "Pommel$Side" "fencer" "LPommel$Fencer;", Cond.fieldLink RX3 181 "Pommel$Bout" "right" "LPommel$Side;", Cond.methodLink RX3 124 yJx4a65c_get_915e3, Cond.instanceMethod yJx4a65c_get_915e3, Cond.selects RJx4a65c yJx4a65c_get_915e3 yJx4a65c_get_915e3, Cond.code yJx4a65c_get_915e3 cJx4a65c_get_915e3 2 (some (.object "java/lang/Object")), Cond.methodLink RJx4a65c 118 yJ15_checkIndex_7cf53, Cond.static yJ15_checkIndex_7cf53, Cond.initialized RJ15, Cond.code yJ15_checkIndex_7cf53 cJ15_checkIndex_7cf53 2 (some .int), Cond.methodLink RJ15 105 yJ3_checkIndex_8e157, Cond.static yJ3_checkIndex_8e157, Cond.initialized RJ3]
def wsX3_addTableBouts_r6 : List Cond := [Cond.code yJ3_checkIndex_8e157 cJ3_checkIndex_8e157 3 (some .int), Cond.methodLink RJx4a65c 123 yJx4a65c_elementData_915e3, Cond.instanceMethod yJx4a65c_elementData_915e3, Cond.selects RJx4a65c yJx4a65c_elementData_915e3 yJx4a65c_elementData_915e3, Cond.code yJx4a65c_elementData_915e3 cJx4a65c_elementData_915e3 2 (some (.object "java/lang/Object")), Cond.methodLink RX3 256 yX0_isKnown, Cond.instanceMethod yX0_isKnown, Cond.selects RX0 yX0_isKnown yX0_isKnown, Cond.code yX0_isKnown cX0_isKnown 1 (some .boolean), Cond.methodLink RX3 293 yX3_decide, Cond.instanceMethod yX3_decide, Cond.selects RX3 yX3_decide yX3_decide, Cond.code yX3_decide cX3_decide 4 none, Cond.fieldLink RX3 210 "Pommel$Bout" "state" "I", Cond.fieldLink RX3 217 "Pommel$Bout" "winner" "LPommel$Fencer;", Cond.fieldLink RX3 176 "Pommel$Side" "score" "I", Cond.fieldLink RX3 300 "Pommel$Bout" "round" "I", Cond.methodLink RX3 278 yX0_isOfTable, Cond.instanceMethod yX0_isOfTable, Cond.selects RX0 yX0_isOfTable yX0_isOfTable, Cond.code yX0_isOfTable cX0_isOfTable 1 (some .boolean), Cond.methodLink RX3 289 yX0_count, Cond.instanceMethod yX0_count, Cond.selects RX0 yX0_count yX0_count]
def wsX3_addTableBouts_r7 : List Cond := [Cond.code yX0_count cX0_count 5 none, Cond.methodLink RX0 82 yX2_count, Cond.instanceMethod yX2_count, Cond.selects RX2 yX2_count yX2_count, Cond.code yX2_count cX2_count 5 none, Cond.fieldLink RX2 9 "Pommel$Side" "fencer" "LPommel$Fencer;", Cond.methodLink RX2 25 yX1_count, Cond.instanceMethod yX1_count, Cond.selects RX1 yX1_count yX1_count, Cond.initialized RX1, Cond.code yX1_count cX1_count 5 none, Cond.fieldLink RX1 33 "Pommel$Fencer" "met" "I", Cond.fieldLink RX1 36 "Pommel$Fencer" "won" "I", Cond.fieldLink RX1 39 "Pommel$Fencer" "given" "I", Cond.fieldLink RX1 42 "Pommel$Fencer" "taken" "I", Cond.methodLink RX3 306 yX3_goOnInTable, Cond.instanceMethod yX3_goOnInTable, Cond.selects RX3 yX3_goOnInTable yX3_goOnInTable, Cond.code yX3_goOnInTable cX3_goOnInTable 4 none, Cond.fieldLink RX3 108 "Pommel$Bout" "number" "I", Cond.methodLink RX3 190 yX0_sideOf, Cond.instanceMethod yX0_sideOf, Cond.selects RX0 yX0_sideOf yX0_sideOf, Cond.code yX0_sideOf cX0_sideOf 2 (some (.object "Pommel$Side"))]
def wsX3_addTableBouts : List Cond := .code yX3_addTableBouts cX3_addTableBouts 4 none :: ((wsX3_addTableBouts_r1 ++ (wsX3_addTableBouts_r2 ++ (wsX3_addTableBouts_r3 ++ (wsX3_addTableBouts_r4 ++ (wsX3_addTableBouts_r5 ++ (wsX3_addTableBouts_r6 ++ wsX3_addTableBouts_r7)))))) ++ wsX30 ++ wsX00 ++ wsJx4a65c0 ++ wsX10 ++ wsX20)
def wsX3_draw_r1 : List Cond := [Cond.classLink RX3 42 "java/lang/IllegalArgumentException", Cond.initialized "java/lang/IllegalArgumentException", Cond.classLink RX3 57 "java/lang/IllegalStateException", Cond.initialized "java/lang/IllegalStateException", Cond.fieldLink RX3 53 "Pommel" "pools" "I", Cond.fieldLink RX3 247 "Pommel" "tableSize" "I", Cond.fieldLink RX3 12 "Pommel" "fencers" "Ljava/util/ArrayList;", Cond.methodLink RX3 38 yX3_isIn, Cond.static yX3_isIn, Cond.initialized RX3, Cond.code yX3_isIn cX3_isIn 3 (some .boolean), Cond.methodLink RX3 240 yX3_boutsIn, Cond.instanceMethod yX3_boutsIn, Cond.selects RX3 yX3_boutsIn yX3_boutsIn, Cond.code yX3_boutsIn cX3_boutsIn 4 (some .int), Cond.fieldLink RX3 16 "Pommel" "bouts" "Ljava/util/ArrayList;", Cond.classLink RX3 19 "Pommel$Bout", Cond.fieldLink RX3 210 "Pommel$Bout" "state" "I", Cond.methodLink RX3 49 yJx4a65c_size_8abf5, Cond.instanceMethod yJx4a65c_size_8abf5, Cond.selects RJx4a65c yJx4a65c_size_8abf5 yJx4a65c_size_8abf5, Cond.initialized RJx4a65c, Cond.code yJx4a65c_size_8abf5 cJx4a65c_size_8abf5 1 (some .int), Cond.fieldLink RJx4a65c 48 "java/util/ArrayList" "size" "I"]
def wsX3_draw_r2 : List Cond := [Cond.methodLink RX3 124 yJx4a65c_get_915e3, Cond.instanceMethod yJx4a65c_get_915e3, Cond.selects RJx4a65c yJx4a65c_get_915e3 yJx4a65c_get_915e3, Cond.code yJx4a65c_get_915e3 cJx4a65c_get_915e3 2 (some (.object "java/lang/Object")), Cond.methodLink RJx4a65c 118 yJ15_checkIndex_7cf53, Cond.static yJ15_checkIndex_7cf53, Cond.initialized RJ15, Cond.code yJ15_checkIndex_7cf53 cJ15_checkIndex_7cf53 2 (some .int), Cond.methodLink RJ15 105 yJ3_checkIndex_8e157, Cond.static yJ3_checkIndex_8e157, Cond.initialized RJ3, Cond.code yJ3_checkIndex_8e157 cJ3_checkIndex_8e157 3 (some .int), Cond.methodLink RJx4a65c 123 yJx4a65c_elementData_915e3, Cond.instanceMethod yJx4a65c_elementData_915e3, Cond.selects RJx4a65c yJx4a65c_elementData_915e3 yJx4a65c_elementData_915e3, Cond.code yJx4a65c_elementData_915e3 cJx4a65c_elementData_915e3 2 (some (.object "java/lang/Object")), Cond.fieldLink RJx4a65c 9 "java/util/ArrayList" "elementData" "[Ljava/lang/Object;", Cond.methodLink RX3 244 yX3_fencersOut, Cond.instanceMethod yX3_fencersOut, Cond.selects RX3 yX3_fencersOut yX3_fencersOut, Cond.code yX3_fencersOut cX3_fencersOut 3 (some .int), Cond.classLink RX3 29 "Pommel$Fencer", Cond.fieldLink RX3 100 "Pommel$Fencer" "out" "Z", Cond.methodLink RX3 332 yX3_seed]
def wsX3_draw_r3 : List Cond := [Cond.instanceMethod yX3_seed, Cond.selects RX3 yX3_seed yX3_seed, Cond.code yX3_seed cX3_seed 3 none, Cond.fieldLink RX3 31 "Pommel" "seeded" "[LPommel$Fencer;", Cond.methodLink RX3 73 yX3_fencerInOrder, Cond.instanceMethod yX3_fencerInOrder, Cond.selects RX3 yX3_fencerInOrder yX3_fencerInOrder, Cond.code yX3_fencerInOrder cX3_fencerInOrder 4 (some (.object "Pommel$Fencer")), Cond.methodLink RX3 321 yX3_aheadInOrder, Cond.instanceMethod yX3_aheadInOrder, Cond.selects RX3 yX3_aheadInOrder yX3_aheadInOrder, Cond.code yX3_aheadInOrder cX3_aheadInOrder 4 (some .int), Cond.methodLink RX3 353 yX1_isAheadOf, Cond.instanceMethod yX1_isAheadOf, Cond.selects RX1 yX1_isAheadOf yX1_isAheadOf, Cond.initialized RX1, Cond.code yX1_isAheadOf cX1_isAheadOf 4 (some .boolean), Cond.fieldLink RX1 45 "Pommel$Fencer" "out" "Z", Cond.fieldLink RX1 36 "Pommel$Fencer" "won" "I", Cond.fieldLink RX1 33 "Pommel$Fencer" "met" "I", Cond.methodLink RX1 49 Lib.Math.max.name, Cond.static Lib.Math.max.name, Cond.initialized "java/lang/Math", Cond.code Lib.Math.max.name Lib.Math.max.code 2 (some .int)]
def wsX3_draw_r4 : List Cond := [Cond.fieldLink RX1 39 "Pommel$Fencer" "given" "I", Cond.fieldLink RX1 42 "Pommel$Fencer" "taken" "I", Cond.fieldLink RX1 27 "Pommel$Fencer" "rank" "I", Cond.fieldLink RX1 24 "Pommel$Fencer" "number" "I", Cond.methodLink RX3 335 yX3_setLines, Cond.instanceMethod yX3_setLines, Cond.selects RX3 yX3_setLines yX3_setLines, Cond.code yX3_setLines cX3_setLines 5 none, Cond.fieldLink RX3 35 "Pommel" "seedsOfLines" "[I", Cond.methodLink RX3 338 yX3_addTableBouts, Cond.instanceMethod yX3_addTableBouts, Cond.selects RX3 yX3_addTableBouts yX3_addTableBouts, Cond.code yX3_addTableBouts cX3_addTableBouts 4 none, Cond.fieldLink RX3 356 "Pommel" "firstOfTable" "I", Cond.classLink RX3 19 RX0, Cond.instantiable RX0 9, Cond.initialized RX0, Cond.methodLink RX3 359 yX3_enteredOnLine, Cond.instanceMethod yX3_enteredOnLine, Cond.selects RX3 yX3_enteredOnLine yX3_enteredOnLine, Cond.code yX3_enteredOnLine cX3_enteredOnLine 3 (some (.object "Pommel$Fencer")), Cond.fieldLink RX3 365 "Pommel$Fencer" "tableLine" "I", Cond.fieldLink RX3 303 "Pommel$Fencer" "standing" "I", Cond.methodLink RX3 346 yX3_fencerOnLine]
def wsX3_draw_r5 : List Cond := [Cond.instanceMethod yX3_fencerOnLine, Cond.selects RX3 yX3_fencerOnLine yX3_fencerOnLine, Cond.code yX3_fencerOnLine cX3_fencerOnLine 2 (some (.object "Pommel$Fencer")), Cond.methodLink RX3 132 yX0_init, Cond.instanceMethod yX0_init, Cond.code yX0_init cX0_init 5 none, Cond.methodLink RX0 3 objectInit, Cond.instanceMethod objectInit, Cond.code objectInit ⟨#[0xb1]⟩ 1 none, Cond.classLink RX0 9 RX2, Cond.instantiable RX2 3, Cond.initialized RX2, Cond.fieldLink RX0 12 "Pommel$Bout" "left" "LPommel$Side;", Cond.fieldLink RX0 18 "Pommel$Bout" "right" "LPommel$Side;", Cond.fieldLink RX0 21 "Pommel$Bout" "state" "I", Cond.fieldLink RX0 25 "Pommel$Bout" "piste" "I", Cond.fieldLink RX0 28 "Pommel$Bout" "number" "I", Cond.fieldLink RX0 31 "Pommel$Bout" "round" "I", Cond.fieldLink RX0 34 "Pommel$Side" "fencer" "LPommel$Fencer;", Cond.instanceMethod yX2_init, Cond.code yX2_init cX2_init 1 none, Cond.methodLink RX2 3 objectInit, Cond.methodLink RX3 65 yJx4a65c_add_9ea2d, Cond.instanceMethod yJx4a65c_add_9ea2d]
def wsX3_draw_r6 : List Cond := [Cond.selects RJx4a65c yJx4a65c_add_9ea2d yJx4a65c_add_9ea2d, Cond.code yJx4a65c_add_9ea2d cJx4a65c_add_9ea2d 2 (some .boolean), Cond.fieldLink RJx4a65c 63 "java/util/ArrayList" "modCount" "I", Cond.sameField "java/util/ArrayList" "java/util/AbstractList" "modCount" "I", Cond.methodLink RJx4a65c 131 yJx4a65c_add_72be8, Cond.instanceMethod yJx4a65c_add_72be8, Cond.selects RJx4a65c yJx4a65c_add_72be8 yJx4a65c_add_72be8, Cond.code yJx4a65c_add_72be8 cJx4a65c_add_72be8 4 none, Cond.methodLink RJx4a65c 129 yJx4a65c_grow_d5877, Cond.instanceMethod yJx4a65c_grow_d5877, Cond.selects RJx4a65c yJx4a65c_grow_d5877 yJx4a65c_grow_d5877, Cond.code yJx4a65c_grow_d5877 cJx4a65c_grow_d5877 1 (some (.array (.object "java/lang/Object"))), Cond.methodLink RJx4a65c 69 yJx4a65c_grow_92f84, Cond.instanceMethod yJx4a65c_grow_92f84, Cond.selects RJx4a65c yJx4a65c_grow_92f84 yJx4a65c_grow_92f84, Cond.code yJx4a65c_grow_92f84 cJx4a65c_grow_92f84 4 (some (.array (.object "java/lang/Object"))), Cond.fieldLink RJx4a65c 39 "java/util/ArrayList" "DEFAULTCAPACITY_EMPTY_ELEMENTDATA" "[Ljava/lang/Object;", Cond.methodLink RJx4a65c 79 Lib.Math.max.name, Cond.classLink RJx4a65c 7 "java/lang/Object", Cond.methodLink RJx4a65c 73 yJ8_newLength_cabcc, Cond.static yJ8_newLength_cabcc, Cond.initialized RJ8, Cond.code yJ8_newLength_cabcc cJ8_newLength_cabcc 4 (some .int), Cond.methodLink RJ8 194 Lib.Math.max.name]
def wsX3_draw_r7 : List Cond := [Cond.constant RJ8 200 (2147483639), Cond.methodLink RJ8 201 yJ8_hugeLength_7cf53, Cond.static yJ8_hugeLength_7cf53, Cond.code yJ8_hugeLength_7cf53 cJ8_hugeLength_7cf53 3 (some .int), Cond.methodLink RJx4a65c 66 yJ7_copyOf_1904c, Cond.static yJ7_copyOf_1904c, Cond.initialized RJ7, Cond.code yJ7_copyOf_1904c cJ7_copyOf_1904c 2 (some (.array (.object "java/lang/Object"))), Cond.methodLink RJ7 86 ⟨"java/lang/Object", "getClass", "()Ljava/lang/Class;"⟩, Cond.selects "[Ljava/lang/Object;" ⟨"java/lang/Object", "getClass", "()Ljava/lang/Class;"⟩ ⟨"java/lang/Object", "getClass", "()Ljava/lang/Class;"⟩, Cond.instanceMethod ⟨"java/lang/Object", "getClass", "()Ljava/lang/Class;"⟩, Cond.native ⟨"java/lang/Object", "getClass", "()Ljava/lang/Class;"⟩, Cond.methodLink RJ7 300 yJ7_copyOf_6403c, Cond.static yJ7_copyOf_6403c, Cond.code yJ7_copyOf_6403c cJ7_copyOf_6403c 4 (some (.array (.object "java/lang/Object"))), Cond.classLink RJ7 110 "[Ljava/lang/Object;", Cond.classLink RJ7 2 "java/lang/Object", Cond.methodLink RJ7 304 Lib.Math.min.name, Cond.static Lib.Math.min.name, Cond.code Lib.Math.min.name Lib.Math.min.code 2 (some .int), Cond.methodLink RJ7 150 arraycopyName, Cond.native arraycopyName, Cond.static arraycopyName, Cond.initialized "java/lang/System"]
def wsX3_draw_r8 : List Cond := [Cond.methodLink RX3 362 yX3_decideWithoutOther, Cond.instanceMethod yX3_decideWithoutOther, Cond.selects RX3 yX3_decideWithoutOther yX3_decideWithoutOther, Cond.code yX3_decideWithoutOther cX3_decideWithoutOther 4 none, Cond.fieldLink RX3 172 "Pommel$Bout" "left" "LPommel$Side;", Cond.fieldLink RX3 202 "Pommel$Side" "fencer" "LPommel$Fencer;", Cond.fieldLink RX3 181 "Pommel$Bout" "right" "LPommel$Side;", Cond.methodLink RX3 256 yX0_isKnown, Cond.instanceMethod yX0_isKnown, Cond.selects RX0 yX0_isKnown yX0_isKnown, Cond.code yX0_isKnown cX0_isKnown 1 (some .boolean), Cond.methodLink RX3 293 yX3_decide, Cond.instanceMethod yX3_decide, Cond.selects RX3 yX3_decide yX3_decide, Cond.code yX3_decide cX3_decide 4 none, Cond.fieldLink RX3 217 "Pommel$Bout" "winner" "LPommel$Fencer;", Cond.fieldLink RX3 176 "Pommel$Side" "score" "I", Cond.fieldLink RX3 300 "Pommel$Bout" "round" "I", Cond.methodLink RX3 278 yX0_isOfTable, Cond.instanceMethod yX0_isOfTable, Cond.selects RX0 yX0_isOfTable yX0_isOfTable, Cond.code yX0_isOfTable cX0_isOfTable 1 (some .boolean), Cond.methodLink RX3 289 yX0_count, Cond.instanceMethod yX0_count]
def wsX3_draw_r9 : List Cond := [Cond.selects RX0 yX0_count yX0_count, Cond.code yX0_count cX0_count 5 none, Cond.methodLink RX0 82 yX2_count, Cond.instanceMethod yX2_count, Cond.selects RX2 yX2_count yX2_count, Cond.code yX2_count cX2_count 5 none, Cond.fieldLink RX2 9 "Pommel$Side" "fencer" "LPommel$Fencer;", Cond.methodLink RX2 25 yX1_count, Cond.instanceMethod yX1_count, Cond.selects RX1 yX1_count yX1_count, Cond.code yX1_count cX1_count 5 none, Cond.methodLink RX3 306 yX3_goOnInTable, Cond.instanceMethod yX3_goOnInTable, Cond.selects RX3 yX3_goOnInTable yX3_goOnInTable, Cond.code yX3_goOnInTable cX3_goOnInTable 4 none, Cond.fieldLink RX3 108 "Pommel$Bout" "number" "I", Cond.methodLink RX3 190 yX0_sideOf, Cond.instanceMethod yX0_sideOf, Cond.selects RX0 yX0_sideOf yX0_sideOf, Cond.code yX0_sideOf cX0_sideOf 2 (some (.object "Pommel$Side"))]
def wsX3_draw : List Cond := .code yX3_draw cX3_draw 4 (some .int) :: ((wsX3_draw_r1 ++ (wsX3_draw_r2 ++ (wsX3_draw_r3 ++ (wsX3_draw_r4 ++ (wsX3_draw_r5 ++ (wsX3_draw_r6 ++ (wsX3_draw_r7 ++ (wsX3_draw_r8 ++ wsX3_draw_r9)))))))) ++ wsX30 ++ wsX00 ++ wsJx4a65c0 ++ wsX10 ++ wsX20 ++ (vx_atS RX3 46 "java/lang/IllegalArgumentException" ["java/lang/RuntimeException", "java/lang/Exception"]).filter goodWord ++ (vx_atS RX3 61 "java/lang/IllegalStateException" ["java/lang/RuntimeException", "java/lang/Exception"]).filter goodWord)
def wsX3_line : List Cond := .code yX3_line cX3_line 2 (some .int) :: ([.classLink RX3 341 "java/lang/IndexOutOfBoundsException", .initialized "java/lang/IndexOutOfBoundsException", .fieldLink RX3 247 "Pommel" "tableSize" "I", .methodLink RX3 38 yX3_isIn, .static yX3_isIn, .initialized RX3, .code yX3_isIn cX3_isIn 3 (some .boolean), .methodLink RX3 346 yX3_fencerOnLine, .instanceMethod yX3_fencerOnLine, .selects RX3 yX3_fencerOnLine yX3_fencerOnLine, .code yX3_fencerOnLine cX3_fencerOnLine 2 (some (.object "Pommel$Fencer")), .fieldLink RX3 35 "Pommel" "seedsOfLines" "[I", .fieldLink RX3 31 "Pommel" "seeded" "[LPommel$Fencer;", .methodLink RX3 213 yX3_numberOf, .static yX3_numberOf, .code yX3_numberOf cX3_numberOf 1 (some .int), .fieldLink RX3 414 "Pommel$Fencer" "number" "I"] ++ wsX30 ++ wsX10 ++ (vx_atS RX3 345 "java/lang/IndexOutOfBoundsException" ["java/lang/RuntimeException", "java/lang/Exception"]).filter goodWord)
def wsX3_place_r1 : List Cond := [Cond.fieldLink RX3 12 "Pommel" "fencers" "Ljava/util/ArrayList;", Cond.classLink RX3 29 "Pommel$Fencer", Cond.methodLink RX3 85 yX3_fencerAt, Cond.instanceMethod yX3_fencerAt, Cond.selects RX3 yX3_fencerAt yX3_fencerAt, Cond.initialized RX3, Cond.code yX3_fencerAt cX3_fencerAt 2 (some (.object "Pommel$Fencer")), Cond.classLink RX3 341 "java/lang/IndexOutOfBoundsException", Cond.initialized "java/lang/IndexOutOfBoundsException", Cond.methodLink RX3 49 yJx4a65c_size_8abf5, Cond.instanceMethod yJx4a65c_size_8abf5, Cond.selects RJx4a65c yJx4a65c_size_8abf5 yJx4a65c_size_8abf5, Cond.initialized RJx4a65c, Cond.code yJx4a65c_size_8abf5 cJx4a65c_size_8abf5 1 (some .int), Cond.fieldLink RJx4a65c 48 "java/util/ArrayList" "size" "I", Cond.methodLink RX3 38 yX3_isIn, Cond.static yX3_isIn, Cond.code yX3_isIn cX3_isIn 3 (some .boolean), Cond.methodLink RX3 124 yJx4a65c_get_915e3, Cond.instanceMethod yJx4a65c_get_915e3, Cond.selects RJx4a65c yJx4a65c_get_915e3 yJx4a65c_get_915e3, Cond.code yJx4a65c_get_915e3 cJx4a65c_get_915e3 2 (some (.object "java/lang/Object")), Cond.methodLink RJx4a65c 118 yJ15_checkIndex_7cf53, Cond.static yJ15_checkIndex_7cf53]
def wsX3_place_r2 : List Cond := [Cond.initialized RJ15, Cond.code yJ15_checkIndex_7cf53 cJ15_checkIndex_7cf53 2 (some .int), Cond.methodLink RJ15 105 yJ3_checkIndex_8e157, Cond.static yJ3_checkIndex_8e157, Cond.initialized RJ3, Cond.code yJ3_checkIndex_8e157 cJ3_checkIndex_8e157 3 (some .int), Cond.methodLink RJx4a65c 123 yJx4a65c_elementData_915e3, Cond.instanceMethod yJx4a65c_elementData_915e3, Cond.selects RJx4a65c yJx4a65c_elementData_915e3 yJx4a65c_elementData_915e3, Cond.code yJx4a65c_elementData_915e3 cJx4a65c_elementData_915e3 2 (some (.object "java/lang/Object")), Cond.fieldLink RJx4a65c 9 "java/util/ArrayList" "elementData" "[Ljava/lang/Object;", Cond.methodLink RX3 349 yX1_isPlacedAheadOf, Cond.instanceMethod yX1_isPlacedAheadOf, Cond.selects RX1 yX1_isPlacedAheadOf yX1_isPlacedAheadOf, Cond.initialized RX1, Cond.code yX1_isPlacedAheadOf cX1_isPlacedAheadOf 2 (some .boolean), Cond.fieldLink RX1 45 "Pommel$Fencer" "out" "Z", Cond.fieldLink RX1 21 "Pommel$Fencer" "standing" "I", Cond.methodLink RX1 55 yX1_isAheadOf, Cond.instanceMethod yX1_isAheadOf, Cond.selects RX1 yX1_isAheadOf yX1_isAheadOf, Cond.code yX1_isAheadOf cX1_isAheadOf 4 (some .boolean), Cond.fieldLink RX1 36 "Pommel$Fencer" "won" "I", Cond.fieldLink RX1 33 "Pommel$Fencer" "met" "I"]
def wsX3_place_r3 : List Cond := [Cond.methodLink RX1 49 Lib.Math.max.name, Cond.static Lib.Math.max.name, Cond.initialized "java/lang/Math", Cond.code Lib.Math.max.name Lib.Math.max.code 2 (some .int), Cond.fieldLink RX1 39 "Pommel$Fencer" "given" "I", Cond.fieldLink RX1 42 "Pommel$Fencer" "taken" "I", Cond.fieldLink RX1 27 "Pommel$Fencer" "rank" "I", Cond.fieldLink RX1 24 "Pommel$Fencer" "number" "I"]
def wsX3_place : List Cond := .code yX3_place cX3_place 5 (some .int) :: ((wsX3_place_r1 ++ (wsX3_place_r2 ++ wsX3_place_r3)) ++ wsX30 ++ wsJx4a65c0 ++ wsX10 ++ (vx_atS RX3 345 "java/lang/IndexOutOfBoundsException" ["java/lang/RuntimeException", "java/lang/Exception"]).filter goodWord)
def wsX3_winnerIn_r1 : List Cond := [Cond.classLink RX3 42 "java/lang/IllegalArgumentException", Cond.initialized "java/lang/IllegalArgumentException", Cond.methodLink RX3 139 yX3_isPiste, Cond.static yX3_isPiste, Cond.initialized RX3, Cond.code yX3_isPiste cX3_isPiste 1 (some .boolean), Cond.methodLink RX3 38 yX3_isIn, Cond.static yX3_isIn, Cond.code yX3_isIn cX3_isIn 3 (some .boolean), Cond.methodLink RX3 165 yX3_liveBoutOn, Cond.instanceMethod yX3_liveBoutOn, Cond.selects RX3 yX3_liveBoutOn yX3_liveBoutOn, Cond.code yX3_liveBoutOn cX3_liveBoutOn 3 (some (.object "Pommel$Bout")), Cond.classLink RX3 57 "java/lang/IllegalStateException", Cond.initialized "java/lang/IllegalStateException", Cond.fieldLink RX3 21 "Pommel" "pistes" "[LPommel$Bout;", Cond.methodLink RX3 262 yX0_secondsUntilOver, Cond.instanceMethod yX0_secondsUntilOver, Cond.selects RX0 yX0_secondsUntilOver yX0_secondsUntilOver, Cond.initialized RX0, Cond.code yX0_secondsUntilOver cX0_secondsUntilOver 2 (some .int), Cond.fieldLink RX0 71 "Pommel$Bout" "secondsLeft" "I", Cond.fieldLink RX0 42 "Pommel$Bout" "period" "I", Cond.fieldLink RX0 12 "Pommel$Bout" "left" "LPommel$Side;"]
def wsX3_winnerIn_r2 : List Cond := [Cond.fieldLink RX0 58 "Pommel$Side" "score" "I", Cond.fieldLink RX0 18 "Pommel$Bout" "right" "LPommel$Side;", Cond.methodLink RX0 65 yX0_isInExtra, Cond.instanceMethod yX0_isInExtra, Cond.selects RX0 yX0_isInExtra yX0_isInExtra, Cond.code yX0_isInExtra cX0_isInExtra 1 (some .boolean), Cond.methodLink RX0 45 yX0_periods, Cond.instanceMethod yX0_periods, Cond.selects RX0 yX0_periods yX0_periods, Cond.code yX0_periods cX0_periods 1 (some .int), Cond.methodLink RX0 38 yX0_isOfTable, Cond.instanceMethod yX0_isOfTable, Cond.selects RX0 yX0_isOfTable yX0_isOfTable, Cond.code yX0_isOfTable cX0_isOfTable 1 (some .boolean), Cond.fieldLink RX0 31 "Pommel$Bout" "round" "I", Cond.methodLink RX3 268 yX0_winnerAsItStands, Cond.instanceMethod yX0_winnerAsItStands, Cond.selects RX0 yX0_winnerAsItStands yX0_winnerAsItStands, Cond.code yX0_winnerAsItStands cX0_winnerAsItStands 1 (some (.object "Pommel$Fencer")), Cond.fieldLink RX0 34 "Pommel$Side" "fencer" "LPommel$Fencer;", Cond.methodLink RX0 61 yX0_withPriority, Cond.instanceMethod yX0_withPriority, Cond.selects RX0 yX0_withPriority yX0_withPriority, Cond.code yX0_withPriority cX0_withPriority 1 (some (.object "Pommel$Side"))]
def wsX3_winnerIn_r3 : List Cond := [Cond.fieldLink RX0 28 "Pommel$Bout" "number" "I", Cond.methodLink RX3 213 yX3_numberOf, Cond.static yX3_numberOf, Cond.code yX3_numberOf cX3_numberOf 1 (some .int), Cond.fieldLink RX3 414 "Pommel$Fencer" "number" "I"]
def wsX3_winnerIn : List Cond := .code yX3_winnerIn cX3_winnerIn 4 (some .int) :: ((wsX3_winnerIn_r1 ++ (wsX3_winnerIn_r2 ++ wsX3_winnerIn_r3)) ++ wsX30 ++ wsX00 ++ wsX20 ++ wsX10 ++ (vx_atS RX3 46 "java/lang/IllegalArgumentException" ["java/lang/RuntimeException", "java/lang/Exception"]).filter goodWord ++ (vx_atS RX3 61 "java/lang/IllegalStateException" ["java/lang/RuntimeException", "java/lang/Exception"]).filter goodWord)
def wsX3_voidWith_r1 : List Cond := [Cond.fieldLink RX3 309 "Pommel$Fencer" "met" "I", Cond.methodLink RX3 85 yX3_fencerAt, Cond.instanceMethod yX3_fencerAt, Cond.selects RX3 yX3_fencerAt yX3_fencerAt, Cond.initialized RX3, Cond.code yX3_fencerAt cX3_fencerAt 2 (some (.object "Pommel$Fencer")), Cond.classLink RX3 341 "java/lang/IndexOutOfBoundsException", Cond.initialized "java/lang/IndexOutOfBoundsException", Cond.fieldLink RX3 12 "Pommel" "fencers" "Ljava/util/ArrayList;", Cond.classLink RX3 29 "Pommel$Fencer", Cond.methodLink RX3 49 yJx4a65c_size_8abf5, Cond.instanceMethod yJx4a65c_size_8abf5, Cond.selects RJx4a65c yJx4a65c_size_8abf5 yJx4a65c_size_8abf5, Cond.initialized RJx4a65c, Cond.code yJx4a65c_size_8abf5 cJx4a65c_size_8abf5 1 (some .int), Cond.fieldLink RJx4a65c 48 "java/util/ArrayList" "size" "I", Cond.methodLink RX3 38 yX3_isIn, Cond.static yX3_isIn, Cond.code yX3_isIn cX3_isIn 3 (some .boolean), Cond.methodLink RX3 124 yJx4a65c_get_915e3, Cond.instanceMethod yJx4a65c_get_915e3, Cond.selects RJx4a65c yJx4a65c_get_915e3 yJx4a65c_get_915e3, Cond.code yJx4a65c_get_915e3 cJx4a65c_get_915e3 2 (some (.object "java/lang/Object")), Cond.methodLink RJx4a65c 118 yJ15_checkIndex_7cf53]
def wsX3_voidWith_r2 : List Cond := [Cond.static yJ15_checkIndex_7cf53, Cond.initialized RJ15, Cond.code yJ15_checkIndex_7cf53 cJ15_checkIndex_7cf53 2 (some .int), Cond.methodLink RJ15 105 yJ3_checkIndex_8e157, Cond.static yJ3_checkIndex_8e157, Cond.initialized RJ3, Cond.code yJ3_checkIndex_8e157 cJ3_checkIndex_8e157 3 (some .int), Cond.methodLink RJx4a65c 123 yJx4a65c_elementData_915e3, Cond.instanceMethod yJx4a65c_elementData_915e3, Cond.selects RJx4a65c yJx4a65c_elementData_915e3 yJx4a65c_elementData_915e3, Cond.code yJx4a65c_elementData_915e3 cJx4a65c_elementData_915e3 2 (some (.object "java/lang/Object")), Cond.fieldLink RJx4a65c 9 "java/util/ArrayList" "elementData" "[Ljava/lang/Object;"]
def wsX3_voidWith : List Cond := .code yX3_voidWith cX3_voidWith 2 (some .int) :: ((wsX3_voidWith_r1 ++ wsX3_voidWith_r2) ++ wsX10 ++ wsX30 ++ wsJx4a65c0 ++ (vx_atS RX3 345 "java/lang/IndexOutOfBoundsException" ["java/lang/RuntimeException", "java/lang/Exception"]).filter goodWord)
def wsX3_withFencer_r1 : List Cond := [Cond.constantLong RX3 378 (31), Cond.methodLink RX3 396 yX3_of, Cond.instanceMethod yX3_of, Cond.selects RX3 yX3_of yX3_of, Cond.initialized RX3, Cond.code yX3_of cX3_of 4 (some .int), Cond.classLink RX3 42 "java/lang/IllegalArgumentException", Cond.initialized "java/lang/IllegalArgumentException", Cond.fieldLink RX3 88 "Pommel$Fencer" "rank" "I", Cond.fieldLink RX3 91 "Pommel$Fencer" "club" "I", Cond.fieldLink RX3 94 "Pommel$Fencer" "pool" "I", Cond.fieldLink RX3 97 "Pommel$Fencer" "spot" "I", Cond.fieldLink RX3 100 "Pommel$Fencer" "out" "Z", Cond.fieldLink RX3 104 "Pommel$Fencer" "liveBout" "LPommel$Bout;", Cond.fieldLink RX3 108 "Pommel$Bout" "number" "I", Cond.fieldLink RX3 111 "Pommel$Fencer" "restedAt" "I", Cond.methodLink RX3 85 yX3_fencerAt, Cond.instanceMethod yX3_fencerAt, Cond.selects RX3 yX3_fencerAt yX3_fencerAt, Cond.code yX3_fencerAt cX3_fencerAt 2 (some (.object "Pommel$Fencer")), Cond.classLink RX3 341 "java/lang/IndexOutOfBoundsException", Cond.initialized "java/lang/IndexOutOfBoundsException", Cond.fieldLink RX3 12 "Pommel" "fencers" "Ljava/util/ArrayList;", Cond.classLink RX3 29 "Pommel$Fencer"]
def wsX3_withFencer_r2 : List Cond := [Cond.methodLink RX3 49 yJx4a65c_size_8abf5, Cond.instanceMethod yJx4a65c_size_8abf5, Cond.selects RJx4a65c yJx4a65c_size_8abf5 yJx4a65c_size_8abf5, Cond.initialized RJx4a65c, Cond.code yJx4a65c_size_8abf5 cJx4a65c_size_8abf5 1 (some .int), Cond.fieldLink RJx4a65c 48 "java/util/ArrayList" "size" "I", Cond.methodLink RX3 38 yX3_isIn, Cond.static yX3_isIn, Cond.code yX3_isIn cX3_isIn 3 (some .boolean), Cond.methodLink RX3 124 yJx4a65c_get_915e3, Cond.instanceMethod yJx4a65c_get_915e3, Cond.selects RJx4a65c yJx4a65c_get_915e3 yJx4a65c_get_915e3, Cond.code yJx4a65c_get_915e3 cJx4a65c_get_915e3 2 (some (.object "java/lang/Object")), Cond.methodLink RJx4a65c 118 yJ15_checkIndex_7cf53, Cond.static yJ15_checkIndex_7cf53, Cond.initialized RJ15, Cond.code yJ15_checkIndex_7cf53 cJ15_checkIndex_7cf53 2 (some .int), Cond.methodLink RJ15 105 yJ3_checkIndex_8e157, Cond.static yJ3_checkIndex_8e157, Cond.initialized RJ3, Cond.code yJ3_checkIndex_8e157 cJ3_checkIndex_8e157 3 (some .int), Cond.methodLink RJx4a65c 123 yJx4a65c_elementData_915e3, Cond.instanceMethod yJx4a65c_elementData_915e3, Cond.selects RJx4a65c yJx4a65c_elementData_915e3 yJx4a65c_elementData_915e3]
def wsX3_withFencer_r3 : List Cond := [Cond.code yJx4a65c_elementData_915e3 cJx4a65c_elementData_915e3 2 (some (.object "java/lang/Object")), Cond.fieldLink RJx4a65c 9 "java/util/ArrayList" "elementData" "[Ljava/lang/Object;", Cond.methodLink RX3 399 yX3_order, Cond.instanceMethod yX3_order, Cond.selects RX3 yX3_order yX3_order, Cond.code yX3_order cX3_order 4 (some .int), Cond.fieldLink RX3 309 "Pommel$Fencer" "met" "I", Cond.fieldLink RX3 312 "Pommel$Fencer" "won" "I", Cond.fieldLink RX3 315 "Pommel$Fencer" "given" "I", Cond.fieldLink RX3 318 "Pommel$Fencer" "taken" "I", Cond.methodLink RX3 321 yX3_aheadInOrder, Cond.instanceMethod yX3_aheadInOrder, Cond.selects RX3 yX3_aheadInOrder yX3_aheadInOrder, Cond.code yX3_aheadInOrder cX3_aheadInOrder 4 (some .int), Cond.methodLink RX3 353 yX1_isAheadOf, Cond.instanceMethod yX1_isAheadOf, Cond.selects RX1 yX1_isAheadOf yX1_isAheadOf, Cond.initialized RX1, Cond.code yX1_isAheadOf cX1_isAheadOf 4 (some .boolean), Cond.fieldLink RX1 45 "Pommel$Fencer" "out" "Z", Cond.fieldLink RX1 36 "Pommel$Fencer" "won" "I", Cond.fieldLink RX1 33 "Pommel$Fencer" "met" "I", Cond.methodLink RX1 49 Lib.Math.max.name, Cond.static Lib.Math.max.name]
def wsX3_withFencer_r4 : List Cond := [Cond.initialized "java/lang/Math", Cond.code Lib.Math.max.name Lib.Math.max.code 2 (some .int), Cond.fieldLink RX1 39 "Pommel$Fencer" "given" "I", Cond.fieldLink RX1 42 "Pommel$Fencer" "taken" "I", Cond.fieldLink RX1 27 "Pommel$Fencer" "rank" "I", Cond.fieldLink RX1 24 "Pommel$Fencer" "number" "I", Cond.methodLink RX3 402 yX3_place, Cond.instanceMethod yX3_place, Cond.selects RX3 yX3_place yX3_place, Cond.code yX3_place cX3_place 5 (some .int), Cond.methodLink RX3 349 yX1_isPlacedAheadOf, Cond.instanceMethod yX1_isPlacedAheadOf, Cond.selects RX1 yX1_isPlacedAheadOf yX1_isPlacedAheadOf, Cond.code yX1_isPlacedAheadOf cX1_isPlacedAheadOf 2 (some .boolean), Cond.fieldLink RX1 21 "Pommel$Fencer" "standing" "I", Cond.methodLink RX1 55 yX1_isAheadOf, Cond.methodLink RX3 405 yX3_voidWith, Cond.instanceMethod yX3_voidWith, Cond.selects RX3 yX3_voidWith yX3_voidWith, Cond.code yX3_voidWith cX3_voidWith 2 (some .int)]
def wsX3_withFencer : List Cond := .code yX3_withFencer cX3_withFencer 7 (some .long) :: ((wsX3_withFencer_r1 ++ (wsX3_withFencer_r2 ++ (wsX3_withFencer_r3 ++ wsX3_withFencer_r4))) ++ wsX10 ++ wsX00 ++ wsX30 ++ wsJx4a65c0 ++ (vx_atS RX3 46 "java/lang/IllegalArgumentException" ["java/lang/RuntimeException", "java/lang/Exception"]).filter goodWord ++ (vx_atS RX3 345 "java/lang/IndexOutOfBoundsException" ["java/lang/RuntimeException", "java/lang/Exception"]).filter goodWord)
def wsX3_withBout_r1 : List Cond := [Cond.constantLong RX3 378 (31), Cond.methodLink RX3 408 yX3_ofBout, Cond.instanceMethod yX3_ofBout, Cond.selects RX3 yX3_ofBout yX3_ofBout, Cond.initialized RX3, Cond.code yX3_ofBout cX3_ofBout 4 (some .int), Cond.classLink RX3 42 "java/lang/IllegalArgumentException", Cond.initialized "java/lang/IllegalArgumentException", Cond.fieldLink RX3 210 "Pommel$Bout" "state" "I", Cond.fieldLink RX3 172 "Pommel$Bout" "left" "LPommel$Side;", Cond.fieldLink RX3 202 "Pommel$Side" "fencer" "LPommel$Fencer;", Cond.fieldLink RX3 181 "Pommel$Bout" "right" "LPommel$Side;", Cond.fieldLink RX3 176 "Pommel$Side" "score" "I", Cond.fieldLink RX3 217 "Pommel$Bout" "winner" "LPommel$Fencer;", Cond.fieldLink RX3 220 "Pommel$Bout" "piste" "I", Cond.fieldLink RX3 223 "Pommel$Bout" "secondsLeft" "I", Cond.fieldLink RX3 226 "Pommel$Bout" "period" "I", Cond.fieldLink RX3 194 "Pommel$Side" "shown" "I", Cond.methodLink RX3 135 yX3_boutAt, Cond.instanceMethod yX3_boutAt, Cond.selects RX3 yX3_boutAt yX3_boutAt, Cond.code yX3_boutAt cX3_boutAt 2 (some (.object "Pommel$Bout")), Cond.classLink RX3 341 "java/lang/IndexOutOfBoundsException", Cond.initialized "java/lang/IndexOutOfBoundsException"]
def wsX3_withBout_r2 : List Cond := [Cond.fieldLink RX3 16 "Pommel" "bouts" "Ljava/util/ArrayList;", Cond.classLink RX3 19 "Pommel$Bout", Cond.methodLink RX3 49 yJx4a65c_size_8abf5, Cond.instanceMethod yJx4a65c_size_8abf5, Cond.selects RJx4a65c yJx4a65c_size_8abf5 yJx4a65c_size_8abf5, Cond.initialized RJx4a65c, Cond.code yJx4a65c_size_8abf5 cJx4a65c_size_8abf5 1 (some .int), Cond.fieldLink RJx4a65c 48 "java/util/ArrayList" "size" "I", Cond.methodLink RX3 38 yX3_isIn, Cond.static yX3_isIn, Cond.code yX3_isIn cX3_isIn 3 (some .boolean), Cond.methodLink RX3 124 yJx4a65c_get_915e3, Cond.instanceMethod yJx4a65c_get_915e3, Cond.selects RJx4a65c yJx4a65c_get_915e3 yJx4a65c_get_915e3, Cond.code yJx4a65c_get_915e3 cJx4a65c_get_915e3 2 (some (.object "java/lang/Object")), Cond.methodLink RJx4a65c 118 yJ15_checkIndex_7cf53, Cond.static yJ15_checkIndex_7cf53, Cond.initialized RJ15, Cond.code yJ15_checkIndex_7cf53 cJ15_checkIndex_7cf53 2 (some .int), Cond.methodLink RJ15 105 yJ3_checkIndex_8e157, Cond.static yJ3_checkIndex_8e157, Cond.initialized RJ3, Cond.code yJ3_checkIndex_8e157 cJ3_checkIndex_8e157 3 (some .int), Cond.methodLink RJx4a65c 123 yJx4a65c_elementData_915e3]
def wsX3_withBout_r3 : List Cond := [Cond.instanceMethod yJx4a65c_elementData_915e3, Cond.selects RJx4a65c yJx4a65c_elementData_915e3 yJx4a65c_elementData_915e3, Cond.code yJx4a65c_elementData_915e3 cJx4a65c_elementData_915e3 2 (some (.object "java/lang/Object")), Cond.fieldLink RJx4a65c 9 "java/util/ArrayList" "elementData" "[Ljava/lang/Object;", Cond.methodLink RX3 213 yX3_numberOf, Cond.static yX3_numberOf, Cond.code yX3_numberOf cX3_numberOf 1 (some .int), Cond.fieldLink RX3 414 "Pommel$Fencer" "number" "I", Cond.methodLink RX3 229 yX0_isInExtra, Cond.instanceMethod yX0_isInExtra, Cond.selects RX0 yX0_isInExtra yX0_isInExtra, Cond.initialized RX0, Cond.code yX0_isInExtra cX0_isInExtra 1 (some .boolean), Cond.fieldLink RX0 42 "Pommel$Bout" "period" "I", Cond.methodLink RX0 45 yX0_periods, Cond.instanceMethod yX0_periods, Cond.selects RX0 yX0_periods yX0_periods, Cond.code yX0_periods cX0_periods 1 (some .int), Cond.methodLink RX0 38 yX0_isOfTable, Cond.instanceMethod yX0_isOfTable, Cond.selects RX0 yX0_isOfTable yX0_isOfTable, Cond.code yX0_isOfTable cX0_isOfTable 1 (some .boolean), Cond.fieldLink RX0 31 "Pommel$Bout" "round" "I", Cond.methodLink RX3 232 yX0_withPriority]
def wsX3_withBout_r4 : List Cond := [Cond.instanceMethod yX0_withPriority, Cond.selects RX0 yX0_withPriority yX0_withPriority, Cond.code yX0_withPriority cX0_withPriority 1 (some (.object "Pommel$Side")), Cond.fieldLink RX0 28 "Pommel$Bout" "number" "I", Cond.fieldLink RX0 12 "Pommel$Bout" "left" "LPommel$Side;", Cond.fieldLink RX0 58 "Pommel$Side" "score" "I", Cond.fieldLink RX0 18 "Pommel$Bout" "right" "LPommel$Side;", Cond.methodLink RX3 411 yX3_reason, Cond.instanceMethod yX3_reason, Cond.selects RX3 yX3_reason yX3_reason, Cond.code yX3_reason cX3_reason 2 (some .int), Cond.methodLink RX3 145 yX3_whyNotReady, Cond.instanceMethod yX3_whyNotReady, Cond.selects RX3 yX3_whyNotReady yX3_whyNotReady, Cond.code yX3_whyNotReady cX3_whyNotReady 2 (some .int), Cond.fieldLink RX3 160 "Pommel" "now" "I", Cond.methodLink RX3 256 yX0_isKnown, Cond.instanceMethod yX0_isKnown, Cond.selects RX0 yX0_isKnown yX0_isKnown, Cond.code yX0_isKnown cX0_isKnown 1 (some .boolean), Cond.fieldLink RX0 34 "Pommel$Side" "fencer" "LPommel$Fencer;", Cond.methodLink RX3 259 yX2_isInLiveBout, Cond.instanceMethod yX2_isInLiveBout, Cond.selects RX2 yX2_isInLiveBout yX2_isInLiveBout]
def wsX3_withBout_r5 : List Cond := [Cond.initialized RX2, Cond.code yX2_isInLiveBout cX2_isInLiveBout 1 (some .boolean), Cond.fieldLink RX2 9 "Pommel$Side" "fencer" "LPommel$Fencer;", Cond.fieldLink RX2 15 "Pommel$Fencer" "liveBout" "LPommel$Bout;", Cond.methodLink RX3 238 yX0_restedAt, Cond.instanceMethod yX0_restedAt, Cond.selects RX0 yX0_restedAt yX0_restedAt, Cond.code yX0_restedAt cX0_restedAt 1 (some .int), Cond.methodLink RX0 52 Lib.Math.max.name, Cond.static Lib.Math.max.name, Cond.initialized "java/lang/Math", Cond.code Lib.Math.max.name Lib.Math.max.code 2 (some .int), Cond.methodLink RX0 49 yX2_restedAt, Cond.instanceMethod yX2_restedAt, Cond.selects RX2 yX2_restedAt yX2_restedAt, Cond.code yX2_restedAt cX2_restedAt 1 (some .int), Cond.fieldLink RX2 21 "Pommel$Fencer" "restedAt" "I"]
def wsX3_withBout : List Cond := .code yX3_withBout cX3_withBout 7 (some .long) :: ((wsX3_withBout_r1 ++ (wsX3_withBout_r2 ++ (wsX3_withBout_r3 ++ (wsX3_withBout_r4 ++ wsX3_withBout_r5)))) ++ wsX00 ++ wsX20 ++ wsX30 ++ wsJx4a65c0 ++ wsX10 ++ (vx_atS RX3 46 "java/lang/IllegalArgumentException" ["java/lang/RuntimeException", "java/lang/Exception"]).filter goodWord ++ (vx_atS RX3 345 "java/lang/IndexOutOfBoundsException" ["java/lang/RuntimeException", "java/lang/Exception"]).filter goodWord)
def wsX3_digest_r1 : List Cond := [Cond.constantLong RX3 376 (58101), Cond.constantLong RX3 378 (31), Cond.fieldLink RX3 12 "Pommel" "fencers" "Ljava/util/ArrayList;", Cond.fieldLink RX3 16 "Pommel" "bouts" "Ljava/util/ArrayList;", Cond.fieldLink RX3 247 "Pommel" "tableSize" "I", Cond.methodLink RX3 380 yX3_many, Cond.instanceMethod yX3_many, Cond.selects RX3 yX3_many yX3_many, Cond.initialized RX3, Cond.code yX3_many cX3_many 2 (some .int), Cond.classLink RX3 42 "java/lang/IllegalArgumentException", Cond.initialized "java/lang/IllegalArgumentException", Cond.fieldLink RX3 53 "Pommel" "pools" "I", Cond.fieldLink RX3 160 "Pommel" "now" "I", Cond.methodLink RX3 49 yJx4a65c_size_8abf5, Cond.instanceMethod yJx4a65c_size_8abf5, Cond.selects RJx4a65c yJx4a65c_size_8abf5 yJx4a65c_size_8abf5, Cond.initialized RJx4a65c, Cond.code yJx4a65c_size_8abf5 cJx4a65c_size_8abf5 1 (some .int), Cond.fieldLink RJx4a65c 48 "java/util/ArrayList" "size" "I", Cond.methodLink RX3 240 yX3_boutsIn, Cond.instanceMethod yX3_boutsIn, Cond.selects RX3 yX3_boutsIn yX3_boutsIn, Cond.code yX3_boutsIn cX3_boutsIn 4 (some .int)]
def wsX3_digest_r2 : List Cond := [Cond.classLink RX3 19 "Pommel$Bout", Cond.fieldLink RX3 210 "Pommel$Bout" "state" "I", Cond.methodLink RX3 124 yJx4a65c_get_915e3, Cond.instanceMethod yJx4a65c_get_915e3, Cond.selects RJx4a65c yJx4a65c_get_915e3 yJx4a65c_get_915e3, Cond.code yJx4a65c_get_915e3 cJx4a65c_get_915e3 2 (some (.object "java/lang/Object")), Cond.methodLink RJx4a65c 118 yJ15_checkIndex_7cf53, Cond.static yJ15_checkIndex_7cf53, Cond.initialized RJ15, Cond.code yJ15_checkIndex_7cf53 cJ15_checkIndex_7cf53 2 (some .int), Cond.methodLink RJ15 105 yJ3_checkIndex_8e157, Cond.static yJ3_checkIndex_8e157, Cond.initialized RJ3, Cond.code yJ3_checkIndex_8e157 cJ3_checkIndex_8e157 3 (some .int), Cond.methodLink RJx4a65c 123 yJx4a65c_elementData_915e3, Cond.instanceMethod yJx4a65c_elementData_915e3, Cond.selects RJx4a65c yJx4a65c_elementData_915e3 yJx4a65c_elementData_915e3, Cond.code yJx4a65c_elementData_915e3 cJx4a65c_elementData_915e3 2 (some (.object "java/lang/Object")), Cond.fieldLink RJx4a65c 9 "java/util/ArrayList" "elementData" "[Ljava/lang/Object;", Cond.methodLink RX3 244 yX3_fencersOut, Cond.instanceMethod yX3_fencersOut, Cond.selects RX3 yX3_fencersOut yX3_fencersOut, Cond.code yX3_fencersOut cX3_fencersOut 3 (some .int), Cond.classLink RX3 29 "Pommel$Fencer"]
def wsX3_digest_r3 : List Cond := [Cond.fieldLink RX3 100 "Pommel$Fencer" "out" "Z", Cond.methodLink RX3 250 yX3_winnerOfTable, Cond.instanceMethod yX3_winnerOfTable, Cond.selects RX3 yX3_winnerOfTable yX3_winnerOfTable, Cond.code yX3_winnerOfTable cX3_winnerOfTable 2 (some (.object "Pommel$Fencer")), Cond.fieldLink RX3 217 "Pommel$Bout" "winner" "LPommel$Fencer;", Cond.methodLink RX3 213 yX3_numberOf, Cond.static yX3_numberOf, Cond.code yX3_numberOf cX3_numberOf 1 (some .int), Cond.fieldLink RX3 414 "Pommel$Fencer" "number" "I", Cond.methodLink RX3 383 yX3_withFencer, Cond.instanceMethod yX3_withFencer, Cond.selects RX3 yX3_withFencer yX3_withFencer, Cond.code yX3_withFencer cX3_withFencer 7 (some .long), Cond.methodLink RX3 396 yX3_of, Cond.instanceMethod yX3_of, Cond.selects RX3 yX3_of yX3_of, Cond.code yX3_of cX3_of 4 (some .int), Cond.fieldLink RX3 88 "Pommel$Fencer" "rank" "I", Cond.fieldLink RX3 91 "Pommel$Fencer" "club" "I", Cond.fieldLink RX3 94 "Pommel$Fencer" "pool" "I", Cond.fieldLink RX3 97 "Pommel$Fencer" "spot" "I", Cond.fieldLink RX3 104 "Pommel$Fencer" "liveBout" "LPommel$Bout;", Cond.fieldLink RX3 108 "Pommel$Bout" "number" "I"]
def wsX3_digest_r4 : List Cond := [Cond.fieldLink RX3 111 "Pommel$Fencer" "restedAt" "I", Cond.methodLink RX3 85 yX3_fencerAt, Cond.instanceMethod yX3_fencerAt, Cond.selects RX3 yX3_fencerAt yX3_fencerAt, Cond.code yX3_fencerAt cX3_fencerAt 2 (some (.object "Pommel$Fencer")), Cond.classLink RX3 341 "java/lang/IndexOutOfBoundsException", Cond.initialized "java/lang/IndexOutOfBoundsException", Cond.methodLink RX3 38 yX3_isIn, Cond.static yX3_isIn, Cond.code yX3_isIn cX3_isIn 3 (some .boolean), Cond.methodLink RX3 399 yX3_order, Cond.instanceMethod yX3_order, Cond.selects RX3 yX3_order yX3_order, Cond.code yX3_order cX3_order 4 (some .int), Cond.fieldLink RX3 309 "Pommel$Fencer" "met" "I", Cond.fieldLink RX3 312 "Pommel$Fencer" "won" "I", Cond.fieldLink RX3 315 "Pommel$Fencer" "given" "I", Cond.fieldLink RX3 318 "Pommel$Fencer" "taken" "I", Cond.methodLink RX3 321 yX3_aheadInOrder, Cond.instanceMethod yX3_aheadInOrder, Cond.selects RX3 yX3_aheadInOrder yX3_aheadInOrder, Cond.code yX3_aheadInOrder cX3_aheadInOrder 4 (some .int), Cond.methodLink RX3 353 yX1_isAheadOf, Cond.instanceMethod yX1_isAheadOf]
def wsX3_digest_r5 : List Cond := [Cond.selects RX1 yX1_isAheadOf yX1_isAheadOf, Cond.initialized RX1, Cond.code yX1_isAheadOf cX1_isAheadOf 4 (some .boolean), Cond.fieldLink RX1 45 "Pommel$Fencer" "out" "Z", Cond.fieldLink RX1 36 "Pommel$Fencer" "won" "I", Cond.fieldLink RX1 33 "Pommel$Fencer" "met" "I", Cond.methodLink RX1 49 Lib.Math.max.name, Cond.static Lib.Math.max.name, Cond.initialized "java/lang/Math", Cond.code Lib.Math.max.name Lib.Math.max.code 2 (some .int), Cond.fieldLink RX1 39 "Pommel$Fencer" "given" "I", Cond.fieldLink RX1 42 "Pommel$Fencer" "taken" "I", Cond.fieldLink RX1 27 "Pommel$Fencer" "rank" "I", Cond.fieldLink RX1 24 "Pommel$Fencer" "number" "I", Cond.methodLink RX3 402 yX3_place, Cond.instanceMethod yX3_place, Cond.selects RX3 yX3_place yX3_place, Cond.code yX3_place cX3_place 5 (some .int), Cond.methodLink RX3 349 yX1_isPlacedAheadOf, Cond.instanceMethod yX1_isPlacedAheadOf, Cond.selects RX1 yX1_isPlacedAheadOf yX1_isPlacedAheadOf, Cond.code yX1_isPlacedAheadOf cX1_isPlacedAheadOf 2 (some .boolean), Cond.fieldLink RX1 21 "Pommel$Fencer" "standing" "I", Cond.methodLink RX1 55 yX1_isAheadOf]
def wsX3_digest_r6 : List Cond := [Cond.methodLink RX3 405 yX3_voidWith, Cond.instanceMethod yX3_voidWith, Cond.selects RX3 yX3_voidWith yX3_voidWith, Cond.code yX3_voidWith cX3_voidWith 2 (some .int), Cond.methodLink RX3 387 yX3_withBout, Cond.instanceMethod yX3_withBout, Cond.selects RX3 yX3_withBout yX3_withBout, Cond.code yX3_withBout cX3_withBout 7 (some .long), Cond.methodLink RX3 408 yX3_ofBout, Cond.instanceMethod yX3_ofBout, Cond.selects RX3 yX3_ofBout yX3_ofBout, Cond.code yX3_ofBout cX3_ofBout 4 (some .int), Cond.fieldLink RX3 172 "Pommel$Bout" "left" "LPommel$Side;", Cond.fieldLink RX3 202 "Pommel$Side" "fencer" "LPommel$Fencer;", Cond.fieldLink RX3 181 "Pommel$Bout" "right" "LPommel$Side;", Cond.fieldLink RX3 176 "Pommel$Side" "score" "I", Cond.fieldLink RX3 220 "Pommel$Bout" "piste" "I", Cond.fieldLink RX3 223 "Pommel$Bout" "secondsLeft" "I", Cond.fieldLink RX3 226 "Pommel$Bout" "period" "I", Cond.fieldLink RX3 194 "Pommel$Side" "shown" "I", Cond.methodLink RX3 135 yX3_boutAt, Cond.instanceMethod yX3_boutAt, Cond.selects RX3 yX3_boutAt yX3_boutAt, Cond.code yX3_boutAt cX3_boutAt 2 (some (.object "Pommel$Bout"))]
def wsX3_digest_r7 : List Cond := [Cond.methodLink RX3 229 yX0_isInExtra, Cond.instanceMethod yX0_isInExtra, Cond.selects RX0 yX0_isInExtra yX0_isInExtra, Cond.initialized RX0, Cond.code yX0_isInExtra cX0_isInExtra 1 (some .boolean), Cond.fieldLink RX0 42 "Pommel$Bout" "period" "I", Cond.methodLink RX0 45 yX0_periods, Cond.instanceMethod yX0_periods, Cond.selects RX0 yX0_periods yX0_periods, Cond.code yX0_periods cX0_periods 1 (some .int), Cond.methodLink RX0 38 yX0_isOfTable, Cond.instanceMethod yX0_isOfTable, Cond.selects RX0 yX0_isOfTable yX0_isOfTable, Cond.code yX0_isOfTable cX0_isOfTable 1 (some .boolean), Cond.fieldLink RX0 31 "Pommel$Bout" "round" "I", Cond.methodLink RX3 232 yX0_withPriority, Cond.instanceMethod yX0_withPriority, Cond.selects RX0 yX0_withPriority yX0_withPriority, Cond.code yX0_withPriority cX0_withPriority 1 (some (.object "Pommel$Side")), Cond.fieldLink RX0 28 "Pommel$Bout" "number" "I", Cond.fieldLink RX0 12 "Pommel$Bout" "left" "LPommel$Side;", Cond.fieldLink RX0 58 "Pommel$Side" "score" "I", Cond.fieldLink RX0 18 "Pommel$Bout" "right" "LPommel$Side;", Cond.methodLink RX3 411 yX3_reason]
def wsX3_digest_r8 : List Cond := [Cond.instanceMethod yX3_reason, Cond.selects RX3 yX3_reason yX3_reason, Cond.code yX3_reason cX3_reason 2 (some .int), Cond.methodLink RX3 145 yX3_whyNotReady, Cond.instanceMethod yX3_whyNotReady, Cond.selects RX3 yX3_whyNotReady yX3_whyNotReady, Cond.code yX3_whyNotReady cX3_whyNotReady 2 (some .int), Cond.methodLink RX3 256 yX0_isKnown, Cond.instanceMethod yX0_isKnown, Cond.selects RX0 yX0_isKnown yX0_isKnown, Cond.code yX0_isKnown cX0_isKnown 1 (some .boolean), Cond.fieldLink RX0 34 "Pommel$Side" "fencer" "LPommel$Fencer;", Cond.methodLink RX3 259 yX2_isInLiveBout, Cond.instanceMethod yX2_isInLiveBout, Cond.selects RX2 yX2_isInLiveBout yX2_isInLiveBout, Cond.initialized RX2, Cond.code yX2_isInLiveBout cX2_isInLiveBout 1 (some .boolean), Cond.fieldLink RX2 9 "Pommel$Side" "fencer" "LPommel$Fencer;", Cond.fieldLink RX2 15 "Pommel$Fencer" "liveBout" "LPommel$Bout;", Cond.methodLink RX3 238 yX0_restedAt, Cond.instanceMethod yX0_restedAt, Cond.selects RX0 yX0_restedAt yX0_restedAt, Cond.code yX0_restedAt cX0_restedAt 1 (some .int), Cond.methodLink RX0 52 Lib.Math.max.name]
def wsX3_digest_r9 : List Cond := [Cond.methodLink RX0 49 yX2_restedAt, Cond.instanceMethod yX2_restedAt, Cond.selects RX2 yX2_restedAt yX2_restedAt, Cond.code yX2_restedAt cX2_restedAt 1 (some .int), Cond.fieldLink RX2 21 "Pommel$Fencer" "restedAt" "I", Cond.methodLink RX3 390 yX3_next, Cond.instanceMethod yX3_next, Cond.selects RX3 yX3_next yX3_next, Cond.code yX3_next cX3_next 6 (some .int), Cond.methodLink RX3 393 yX3_line, Cond.instanceMethod yX3_line, Cond.selects RX3 yX3_line yX3_line, Cond.code yX3_line cX3_line 2 (some .int), Cond.methodLink RX3 346 yX3_fencerOnLine, Cond.instanceMethod yX3_fencerOnLine, Cond.selects RX3 yX3_fencerOnLine yX3_fencerOnLine, Cond.code yX3_fencerOnLine cX3_fencerOnLine 2 (some (.object "Pommel$Fencer")), Cond.fieldLink RX3 35 "Pommel" "seedsOfLines" "[I", Cond.fieldLink RX3 31 "Pommel" "seeded" "[LPommel$Fencer;"]
def wsX3_digest : List Cond := .code yX3_digest cX3_digest 4 (some .long) :: ((wsX3_digest_r1 ++ (wsX3_digest_r2 ++ (wsX3_digest_r3 ++ (wsX3_digest_r4 ++ (wsX3_digest_r5 ++ (wsX3_digest_r6 ++ (wsX3_digest_r7 ++ (wsX3_digest_r8 ++ wsX3_digest_r9)))))))) ++ wsX30 ++ wsJx4a65c0 ++ wsX00 ++ wsX10 ++ wsX20 ++ (vx_atS RX3 46 "java/lang/IllegalArgumentException" ["java/lang/RuntimeException", "java/lang/Exception"]).filter goodWord ++ (vx_atS RX3 345 "java/lang/IndexOutOfBoundsException" ["java/lang/RuntimeException", "java/lang/Exception"]).filter goodWord)
def wsJ9_max_7cf53 : List Cond := .code yJ9_max_7cf53 cJ9_max_7cf53 2 (some .int) :: ([])
def wsJ9_min_7cf53 : List Cond := .code yJ9_min_7cf53 cJ9_min_7cf53 2 (some .int) :: ([])
def wsL_below : List Cond := .code yL_below cL_below 2 (some .int) :: ([.constant RL 7 (2147483647)])
def wsL_cell : List Cond := .code yL_cell cL_cell 2 (some .int) :: ([.constant RL 8 (790386105)])
def wsL_isFair_r1 : List Cond := [Cond.arrayClass .int, Cond.methodLink RL 78 Lib.Math.max.name, Cond.static Lib.Math.max.name, Cond.initialized "java/lang/Math", Cond.code Lib.Math.max.name Lib.Math.max.code 2 (some .int), Cond.methodLink RL 29 yX3_many, Cond.instanceMethod yX3_many, Cond.selects RX3 yX3_many yX3_many, Cond.initialized RX3, Cond.code yX3_many cX3_many 2 (some .int), Cond.classLink RX3 42 "java/lang/IllegalArgumentException", Cond.initialized "java/lang/IllegalArgumentException", Cond.fieldLink RX3 12 "Pommel" "fencers" "Ljava/util/ArrayList;", Cond.fieldLink RX3 53 "Pommel" "pools" "I", Cond.fieldLink RX3 16 "Pommel" "bouts" "Ljava/util/ArrayList;", Cond.fieldLink RX3 160 "Pommel" "now" "I", Cond.fieldLink RX3 247 "Pommel" "tableSize" "I", Cond.methodLink RX3 49 yJx4a65c_size_8abf5, Cond.instanceMethod yJx4a65c_size_8abf5, Cond.selects RJx4a65c yJx4a65c_size_8abf5 yJx4a65c_size_8abf5, Cond.initialized RJx4a65c, Cond.code yJx4a65c_size_8abf5 cJx4a65c_size_8abf5 1 (some .int), Cond.fieldLink RJx4a65c 48 "java/util/ArrayList" "size" "I", Cond.methodLink RX3 240 yX3_boutsIn]
def wsL_isFair_r2 : List Cond := [Cond.instanceMethod yX3_boutsIn, Cond.selects RX3 yX3_boutsIn yX3_boutsIn, Cond.code yX3_boutsIn cX3_boutsIn 4 (some .int), Cond.classLink RX3 19 "Pommel$Bout", Cond.fieldLink RX3 210 "Pommel$Bout" "state" "I", Cond.methodLink RX3 124 yJx4a65c_get_915e3, Cond.instanceMethod yJx4a65c_get_915e3, Cond.selects RJx4a65c yJx4a65c_get_915e3 yJx4a65c_get_915e3, Cond.code yJx4a65c_get_915e3 cJx4a65c_get_915e3 2 (some (.object "java/lang/Object")), Cond.methodLink RJx4a65c 118 yJ15_checkIndex_7cf53, Cond.static yJ15_checkIndex_7cf53, Cond.initialized RJ15, Cond.code yJ15_checkIndex_7cf53 cJ15_checkIndex_7cf53 2 (some .int), Cond.methodLink RJ15 105 yJ3_checkIndex_8e157, Cond.static yJ3_checkIndex_8e157, Cond.initialized RJ3, Cond.code yJ3_checkIndex_8e157 cJ3_checkIndex_8e157 3 (some .int), Cond.methodLink RJx4a65c 123 yJx4a65c_elementData_915e3, Cond.instanceMethod yJx4a65c_elementData_915e3, Cond.selects RJx4a65c yJx4a65c_elementData_915e3 yJx4a65c_elementData_915e3, Cond.code yJx4a65c_elementData_915e3 cJx4a65c_elementData_915e3 2 (some (.object "java/lang/Object")), Cond.fieldLink RJx4a65c 9 "java/util/ArrayList" "elementData" "[Ljava/lang/Object;", Cond.methodLink RX3 244 yX3_fencersOut, Cond.instanceMethod yX3_fencersOut]
def wsL_isFair_r3 : List Cond := [Cond.selects RX3 yX3_fencersOut yX3_fencersOut, Cond.code yX3_fencersOut cX3_fencersOut 3 (some .int), Cond.classLink RX3 29 "Pommel$Fencer", Cond.fieldLink RX3 100 "Pommel$Fencer" "out" "Z", Cond.methodLink RX3 250 yX3_winnerOfTable, Cond.instanceMethod yX3_winnerOfTable, Cond.selects RX3 yX3_winnerOfTable yX3_winnerOfTable, Cond.code yX3_winnerOfTable cX3_winnerOfTable 2 (some (.object "Pommel$Fencer")), Cond.fieldLink RX3 217 "Pommel$Bout" "winner" "LPommel$Fencer;", Cond.methodLink RX3 213 yX3_numberOf, Cond.static yX3_numberOf, Cond.code yX3_numberOf cX3_numberOf 1 (some .int), Cond.fieldLink RX3 414 "Pommel$Fencer" "number" "I", Cond.methodLink RL 57 yX3_ofBout, Cond.instanceMethod yX3_ofBout, Cond.selects RX3 yX3_ofBout yX3_ofBout, Cond.code yX3_ofBout cX3_ofBout 4 (some .int), Cond.fieldLink RX3 172 "Pommel$Bout" "left" "LPommel$Side;", Cond.fieldLink RX3 202 "Pommel$Side" "fencer" "LPommel$Fencer;", Cond.fieldLink RX3 181 "Pommel$Bout" "right" "LPommel$Side;", Cond.fieldLink RX3 176 "Pommel$Side" "score" "I", Cond.fieldLink RX3 220 "Pommel$Bout" "piste" "I", Cond.fieldLink RX3 223 "Pommel$Bout" "secondsLeft" "I", Cond.fieldLink RX3 226 "Pommel$Bout" "period" "I"]
def wsL_isFair_r4 : List Cond := [Cond.fieldLink RX3 194 "Pommel$Side" "shown" "I", Cond.methodLink RX3 135 yX3_boutAt, Cond.instanceMethod yX3_boutAt, Cond.selects RX3 yX3_boutAt yX3_boutAt, Cond.code yX3_boutAt cX3_boutAt 2 (some (.object "Pommel$Bout")), Cond.classLink RX3 341 "java/lang/IndexOutOfBoundsException", Cond.initialized "java/lang/IndexOutOfBoundsException", Cond.methodLink RX3 38 yX3_isIn, Cond.static yX3_isIn, Cond.code yX3_isIn cX3_isIn 3 (some .boolean), Cond.methodLink RX3 229 yX0_isInExtra, Cond.instanceMethod yX0_isInExtra, Cond.selects RX0 yX0_isInExtra yX0_isInExtra, Cond.initialized RX0, Cond.code yX0_isInExtra cX0_isInExtra 1 (some .boolean), Cond.fieldLink RX0 42 "Pommel$Bout" "period" "I", Cond.methodLink RX0 45 yX0_periods, Cond.instanceMethod yX0_periods, Cond.selects RX0 yX0_periods yX0_periods, Cond.code yX0_periods cX0_periods 1 (some .int), Cond.methodLink RX0 38 yX0_isOfTable, Cond.instanceMethod yX0_isOfTable, Cond.selects RX0 yX0_isOfTable yX0_isOfTable, Cond.code yX0_isOfTable cX0_isOfTable 1 (some .boolean)]
def wsL_isFair_r5 : List Cond := [Cond.fieldLink RX0 31 "Pommel$Bout" "round" "I", Cond.methodLink RX3 232 yX0_withPriority, Cond.instanceMethod yX0_withPriority, Cond.selects RX0 yX0_withPriority yX0_withPriority, Cond.code yX0_withPriority cX0_withPriority 1 (some (.object "Pommel$Side")), Cond.fieldLink RX0 28 "Pommel$Bout" "number" "I", Cond.fieldLink RX0 12 "Pommel$Bout" "left" "LPommel$Side;", Cond.fieldLink RX0 58 "Pommel$Side" "score" "I", Cond.fieldLink RX0 18 "Pommel$Bout" "right" "LPommel$Side;", Cond.methodLink RL 71 yX3_of, Cond.instanceMethod yX3_of, Cond.selects RX3 yX3_of yX3_of, Cond.code yX3_of cX3_of 4 (some .int), Cond.fieldLink RX3 88 "Pommel$Fencer" "rank" "I", Cond.fieldLink RX3 91 "Pommel$Fencer" "club" "I", Cond.fieldLink RX3 94 "Pommel$Fencer" "pool" "I", Cond.fieldLink RX3 97 "Pommel$Fencer" "spot" "I", Cond.fieldLink RX3 104 "Pommel$Fencer" "liveBout" "LPommel$Bout;", Cond.fieldLink RX3 108 "Pommel$Bout" "number" "I", Cond.fieldLink RX3 111 "Pommel$Fencer" "restedAt" "I", Cond.methodLink RX3 85 yX3_fencerAt, Cond.instanceMethod yX3_fencerAt, Cond.selects RX3 yX3_fencerAt yX3_fencerAt, Cond.code yX3_fencerAt cX3_fencerAt 2 (some (.object "Pommel$Fencer"))]
def wsL_isFair_r6 : List Cond := [Cond.methodLink RL 83 yX3_order, Cond.instanceMethod yX3_order, Cond.selects RX3 yX3_order yX3_order, Cond.code yX3_order cX3_order 4 (some .int), Cond.fieldLink RX3 309 "Pommel$Fencer" "met" "I", Cond.fieldLink RX3 312 "Pommel$Fencer" "won" "I", Cond.fieldLink RX3 315 "Pommel$Fencer" "given" "I", Cond.fieldLink RX3 318 "Pommel$Fencer" "taken" "I", Cond.methodLink RX3 321 yX3_aheadInOrder, Cond.instanceMethod yX3_aheadInOrder, Cond.selects RX3 yX3_aheadInOrder yX3_aheadInOrder, Cond.code yX3_aheadInOrder cX3_aheadInOrder 4 (some .int), Cond.methodLink RX3 353 yX1_isAheadOf, Cond.instanceMethod yX1_isAheadOf, Cond.selects RX1 yX1_isAheadOf yX1_isAheadOf, Cond.initialized RX1, Cond.code yX1_isAheadOf cX1_isAheadOf 4 (some .boolean), Cond.fieldLink RX1 45 "Pommel$Fencer" "out" "Z", Cond.fieldLink RX1 36 "Pommel$Fencer" "won" "I", Cond.fieldLink RX1 33 "Pommel$Fencer" "met" "I", Cond.methodLink RX1 49 Lib.Math.max.name, Cond.fieldLink RX1 39 "Pommel$Fencer" "given" "I", Cond.fieldLink RX1 42 "Pommel$Fencer" "taken" "I", Cond.fieldLink RX1 27 "Pommel$Fencer" "rank" "I"]
def wsL_isFair_r7 : List Cond := [Cond.fieldLink RX1 24 "Pommel$Fencer" "number" "I", Cond.methodLink RL 86 yX3_place, Cond.instanceMethod yX3_place, Cond.selects RX3 yX3_place yX3_place, Cond.code yX3_place cX3_place 5 (some .int), Cond.methodLink RX3 349 yX1_isPlacedAheadOf, Cond.instanceMethod yX1_isPlacedAheadOf, Cond.selects RX1 yX1_isPlacedAheadOf yX1_isPlacedAheadOf, Cond.code yX1_isPlacedAheadOf cX1_isPlacedAheadOf 2 (some .boolean), Cond.fieldLink RX1 21 "Pommel$Fencer" "standing" "I", Cond.methodLink RX1 55 yX1_isAheadOf, Cond.methodLink RL 89 yX3_voidWith, Cond.instanceMethod yX3_voidWith, Cond.selects RX3 yX3_voidWith yX3_voidWith, Cond.code yX3_voidWith cX3_voidWith 2 (some .int)]
def wsL_isFair : List Cond := .code yL_isFair cL_isFair 10 (some .boolean) :: ((wsL_isFair_r1 ++ (wsL_isFair_r2 ++ (wsL_isFair_r3 ++ (wsL_isFair_r4 ++ (wsL_isFair_r5 ++ (wsL_isFair_r6 ++ wsL_isFair_r7)))))) ++ wsX30 ++ wsJx4a65c0 ++ wsX00 ++ wsX10 ++ wsX20 ++ (vx_atS RX3 46 "java/lang/IllegalArgumentException" ["java/lang/RuntimeException", "java/lang/Exception"]).filter goodWord ++ (vx_atS RX3 345 "java/lang/IndexOutOfBoundsException" ["java/lang/RuntimeException", "java/lang/Exception"]).filter goodWord)
def wsL_live_r1 : List Cond := [Cond.methodLink RL 29 yX3_many, Cond.instanceMethod yX3_many, Cond.selects RX3 yX3_many yX3_many, Cond.initialized RX3, Cond.code yX3_many cX3_many 2 (some .int), Cond.classLink RX3 42 "java/lang/IllegalArgumentException", Cond.initialized "java/lang/IllegalArgumentException", Cond.fieldLink RX3 12 "Pommel" "fencers" "Ljava/util/ArrayList;", Cond.fieldLink RX3 53 "Pommel" "pools" "I", Cond.fieldLink RX3 16 "Pommel" "bouts" "Ljava/util/ArrayList;", Cond.fieldLink RX3 160 "Pommel" "now" "I", Cond.fieldLink RX3 247 "Pommel" "tableSize" "I", Cond.methodLink RX3 49 yJx4a65c_size_8abf5, Cond.instanceMethod yJx4a65c_size_8abf5, Cond.selects RJx4a65c yJx4a65c_size_8abf5 yJx4a65c_size_8abf5, Cond.initialized RJx4a65c, Cond.code yJx4a65c_size_8abf5 cJx4a65c_size_8abf5 1 (some .int), Cond.fieldLink RJx4a65c 48 "java/util/ArrayList" "size" "I", Cond.methodLink RX3 240 yX3_boutsIn, Cond.instanceMethod yX3_boutsIn, Cond.selects RX3 yX3_boutsIn yX3_boutsIn, Cond.code yX3_boutsIn cX3_boutsIn 4 (some .int), Cond.classLink RX3 19 "Pommel$Bout", Cond.fieldLink RX3 210 "Pommel$Bout" "state" "I"]
def wsL_live_r2 : List Cond := [Cond.methodLink RX3 124 yJx4a65c_get_915e3, Cond.instanceMethod yJx4a65c_get_915e3, Cond.selects RJx4a65c yJx4a65c_get_915e3 yJx4a65c_get_915e3, Cond.code yJx4a65c_get_915e3 cJx4a65c_get_915e3 2 (some (.object "java/lang/Object")), Cond.methodLink RJx4a65c 118 yJ15_checkIndex_7cf53, Cond.static yJ15_checkIndex_7cf53, Cond.initialized RJ15, Cond.code yJ15_checkIndex_7cf53 cJ15_checkIndex_7cf53 2 (some .int), Cond.methodLink RJ15 105 yJ3_checkIndex_8e157, Cond.static yJ3_checkIndex_8e157, Cond.initialized RJ3, Cond.code yJ3_checkIndex_8e157 cJ3_checkIndex_8e157 3 (some .int), Cond.methodLink RJx4a65c 123 yJx4a65c_elementData_915e3, Cond.instanceMethod yJx4a65c_elementData_915e3, Cond.selects RJx4a65c yJx4a65c_elementData_915e3 yJx4a65c_elementData_915e3, Cond.code yJx4a65c_elementData_915e3 cJx4a65c_elementData_915e3 2 (some (.object "java/lang/Object")), Cond.fieldLink RJx4a65c 9 "java/util/ArrayList" "elementData" "[Ljava/lang/Object;", Cond.methodLink RX3 244 yX3_fencersOut, Cond.instanceMethod yX3_fencersOut, Cond.selects RX3 yX3_fencersOut yX3_fencersOut, Cond.code yX3_fencersOut cX3_fencersOut 3 (some .int), Cond.classLink RX3 29 "Pommel$Fencer", Cond.fieldLink RX3 100 "Pommel$Fencer" "out" "Z", Cond.methodLink RX3 250 yX3_winnerOfTable]
def wsL_live_r3 : List Cond := [Cond.instanceMethod yX3_winnerOfTable, Cond.selects RX3 yX3_winnerOfTable yX3_winnerOfTable, Cond.code yX3_winnerOfTable cX3_winnerOfTable 2 (some (.object "Pommel$Fencer")), Cond.fieldLink RX3 217 "Pommel$Bout" "winner" "LPommel$Fencer;", Cond.methodLink RX3 213 yX3_numberOf, Cond.static yX3_numberOf, Cond.code yX3_numberOf cX3_numberOf 1 (some .int), Cond.fieldLink RX3 414 "Pommel$Fencer" "number" "I", Cond.methodLink RL 57 yX3_ofBout, Cond.instanceMethod yX3_ofBout, Cond.selects RX3 yX3_ofBout yX3_ofBout, Cond.code yX3_ofBout cX3_ofBout 4 (some .int), Cond.fieldLink RX3 172 "Pommel$Bout" "left" "LPommel$Side;", Cond.fieldLink RX3 202 "Pommel$Side" "fencer" "LPommel$Fencer;", Cond.fieldLink RX3 181 "Pommel$Bout" "right" "LPommel$Side;", Cond.fieldLink RX3 176 "Pommel$Side" "score" "I", Cond.fieldLink RX3 220 "Pommel$Bout" "piste" "I", Cond.fieldLink RX3 223 "Pommel$Bout" "secondsLeft" "I", Cond.fieldLink RX3 226 "Pommel$Bout" "period" "I", Cond.fieldLink RX3 194 "Pommel$Side" "shown" "I", Cond.methodLink RX3 135 yX3_boutAt, Cond.instanceMethod yX3_boutAt, Cond.selects RX3 yX3_boutAt yX3_boutAt, Cond.code yX3_boutAt cX3_boutAt 2 (some (.object "Pommel$Bout"))]
def wsL_live_r4 : List Cond := [Cond.classLink RX3 341 "java/lang/IndexOutOfBoundsException", Cond.initialized "java/lang/IndexOutOfBoundsException", Cond.methodLink RX3 38 yX3_isIn, Cond.static yX3_isIn, Cond.code yX3_isIn cX3_isIn 3 (some .boolean), Cond.methodLink RX3 229 yX0_isInExtra, Cond.instanceMethod yX0_isInExtra, Cond.selects RX0 yX0_isInExtra yX0_isInExtra, Cond.initialized RX0, Cond.code yX0_isInExtra cX0_isInExtra 1 (some .boolean), Cond.fieldLink RX0 42 "Pommel$Bout" "period" "I", Cond.methodLink RX0 45 yX0_periods, Cond.instanceMethod yX0_periods, Cond.selects RX0 yX0_periods yX0_periods, Cond.code yX0_periods cX0_periods 1 (some .int), Cond.methodLink RX0 38 yX0_isOfTable, Cond.instanceMethod yX0_isOfTable, Cond.selects RX0 yX0_isOfTable yX0_isOfTable, Cond.code yX0_isOfTable cX0_isOfTable 1 (some .boolean), Cond.fieldLink RX0 31 "Pommel$Bout" "round" "I", Cond.methodLink RX3 232 yX0_withPriority, Cond.instanceMethod yX0_withPriority, Cond.selects RX0 yX0_withPriority yX0_withPriority, Cond.code yX0_withPriority cX0_withPriority 1 (some (.object "Pommel$Side"))]
def wsL_live_r5 : List Cond := [Cond.fieldLink RX0 28 "Pommel$Bout" "number" "I", Cond.fieldLink RX0 12 "Pommel$Bout" "left" "LPommel$Side;", Cond.fieldLink RX0 58 "Pommel$Side" "score" "I", Cond.fieldLink RX0 18 "Pommel$Bout" "right" "LPommel$Side;"]
def wsL_live : List Cond := .code yL_live cL_live 3 (some .int) :: ((wsL_live_r1 ++ (wsL_live_r2 ++ (wsL_live_r3 ++ (wsL_live_r4 ++ wsL_live_r5)))) ++ wsX30 ++ wsJx4a65c0 ++ wsX00 ++ wsX10 ++ wsX20 ++ (vx_atS RX3 46 "java/lang/IllegalArgumentException" ["java/lang/RuntimeException", "java/lang/Exception"]).filter goodWord ++ (vx_atS RX3 345 "java/lang/IndexOutOfBoundsException" ["java/lang/RuntimeException", "java/lang/Exception"]).filter goodWord)
def wsL_law0_r1 : List Cond := [Cond.classLink RL 9 RX3, Cond.instantiable RX3 10, Cond.initialized RX3, Cond.methodLink RL 11 yX3_init, Cond.instanceMethod yX3_init, Cond.code yX3_init cX3_init 1 none, Cond.methodLink RX3 3 objectInit, Cond.instanceMethod objectInit, Cond.code objectInit ⟨#[0xb1]⟩ 1 none, Cond.classLink RX3 9 RJx4a65c, Cond.instantiable RJx4a65c 3, Cond.initialized RJx4a65c, Cond.fieldLink RX3 12 "Pommel" "fencers" "Ljava/util/ArrayList;", Cond.fieldLink RX3 16 "Pommel" "bouts" "Ljava/util/ArrayList;", Cond.classLink RX3 19 RX0, Cond.fieldLink RX3 21 "Pommel" "pistes" "[LPommel$Bout;", Cond.arrayClass .int, Cond.fieldLink RX3 25 "Pommel" "poolSizes" "[I", Cond.classLink RX3 29 RX1, Cond.fieldLink RX3 31 "Pommel" "seeded" "[LPommel$Fencer;", Cond.fieldLink RX3 35 "Pommel" "seedsOfLines" "[I", Cond.methodLink RX3 11 yJx4a65c_init_da8c8, Cond.instanceMethod yJx4a65c_init_da8c8, Cond.code yJx4a65c_init_da8c8 cJx4a65c_init_da8c8 1 none]
def wsL_law0_r2 : List Cond := [Cond.fieldLink RJx4a65c 39 "java/util/ArrayList" "DEFAULTCAPACITY_EMPTY_ELEMENTDATA" "[Ljava/lang/Object;", Cond.fieldLink RJx4a65c 9 "java/util/ArrayList" "elementData" "[Ljava/lang/Object;", Cond.methodLink RJx4a65c 1 yJxc12de_init_da8c8, Cond.instanceMethod yJxc12de_init_da8c8, Cond.initialized RJxc12de, Cond.code yJxc12de_init_da8c8 cJxc12de_init_da8c8 1 none, Cond.fieldLink RJxc12de 7 "java/util/AbstractList" "modCount" "I", Cond.methodLink RJxc12de 1 yJxa1e45_init_da8c8, Cond.instanceMethod yJxa1e45_init_da8c8, Cond.initialized RJxa1e45, Cond.code yJxa1e45_init_da8c8 cJxa1e45_init_da8c8 1 none, Cond.methodLink RJxa1e45 1 objectInit, Cond.methodLink RL 12 yL_cell, Cond.static yL_cell, Cond.initialized RL, Cond.code yL_cell cL_cell 2 (some .int), Cond.constant RL 8 (790386105), Cond.methodLink RL 18 yL_below, Cond.static yL_below, Cond.code yL_below cL_below 2 (some .int), Cond.constant RL 7 (2147483647), Cond.methodLink RL 22 yX3_fencer, Cond.instanceMethod yX3_fencer, Cond.selects RX3 yX3_fencer yX3_fencer]
def wsL_law0_r3 : List Cond := [Cond.code yX3_fencer cX3_fencer 3 (some .int), Cond.classLink RX3 42 "java/lang/IllegalArgumentException", Cond.initialized "java/lang/IllegalArgumentException", Cond.classLink RX3 57 "java/lang/IllegalStateException", Cond.initialized "java/lang/IllegalStateException", Cond.fieldLink RX3 53 "Pommel" "pools" "I", Cond.instantiable RX1 14, Cond.initialized RX1, Cond.methodLink RX3 38 yX3_isIn, Cond.static yX3_isIn, Cond.code yX3_isIn cX3_isIn 3 (some .boolean), Cond.methodLink RX3 49 yJx4a65c_size_8abf5, Cond.instanceMethod yJx4a65c_size_8abf5, Cond.selects RJx4a65c yJx4a65c_size_8abf5 yJx4a65c_size_8abf5, Cond.code yJx4a65c_size_8abf5 cJx4a65c_size_8abf5 1 (some .int), Cond.fieldLink RJx4a65c 48 "java/util/ArrayList" "size" "I", Cond.methodLink RX3 62 yX1_init, Cond.instanceMethod yX1_init, Cond.code yX1_init cX1_init 4 none, Cond.methodLink RX1 3 objectInit, Cond.fieldLink RX1 9 "Pommel$Fencer" "pool" "I", Cond.fieldLink RX1 15 "Pommel$Fencer" "spot" "I", Cond.fieldLink RX1 18 "Pommel$Fencer" "tableLine" "I", Cond.fieldLink RX1 21 "Pommel$Fencer" "standing" "I"]
def wsL_law0_r4 : List Cond := [Cond.fieldLink RX1 24 "Pommel$Fencer" "number" "I", Cond.fieldLink RX1 27 "Pommel$Fencer" "rank" "I", Cond.fieldLink RX1 30 "Pommel$Fencer" "club" "I", Cond.methodLink RX3 65 yJx4a65c_add_9ea2d, Cond.instanceMethod yJx4a65c_add_9ea2d, Cond.selects RJx4a65c yJx4a65c_add_9ea2d yJx4a65c_add_9ea2d, Cond.code yJx4a65c_add_9ea2d cJx4a65c_add_9ea2d 2 (some .boolean), Cond.fieldLink RJx4a65c 63 "java/util/ArrayList" "modCount" "I", Cond.sameField "java/util/ArrayList" "java/util/AbstractList" "modCount" "I", Cond.methodLink RJx4a65c 131 yJx4a65c_add_72be8, Cond.instanceMethod yJx4a65c_add_72be8, Cond.selects RJx4a65c yJx4a65c_add_72be8 yJx4a65c_add_72be8, Cond.code yJx4a65c_add_72be8 cJx4a65c_add_72be8 4 none, Cond.methodLink RJx4a65c 129 yJx4a65c_grow_d5877, Cond.instanceMethod yJx4a65c_grow_d5877, Cond.selects RJx4a65c yJx4a65c_grow_d5877 yJx4a65c_grow_d5877, Cond.code yJx4a65c_grow_d5877 cJx4a65c_grow_d5877 1 (some (.array (.object "java/lang/Object"))), Cond.methodLink RJx4a65c 69 yJx4a65c_grow_92f84, Cond.instanceMethod yJx4a65c_grow_92f84, Cond.selects RJx4a65c yJx4a65c_grow_92f84 yJx4a65c_grow_92f84, Cond.code yJx4a65c_grow_92f84 cJx4a65c_grow_92f84 4 (some (.array (.object "java/lang/Object"))), Cond.methodLink RJx4a65c 79 Lib.Math.max.name, Cond.static Lib.Math.max.name, Cond.initialized "java/lang/Math"]
def wsL_law0_r5 : List Cond := [Cond.code Lib.Math.max.name Lib.Math.max.code 2 (some .int), Cond.classLink RJx4a65c 7 "java/lang/Object", Cond.methodLink RJx4a65c 73 yJ8_newLength_cabcc, Cond.static yJ8_newLength_cabcc, Cond.initialized RJ8, Cond.code yJ8_newLength_cabcc cJ8_newLength_cabcc 4 (some .int), Cond.methodLink RJ8 194 Lib.Math.max.name, Cond.constant RJ8 200 (2147483639), Cond.methodLink RJ8 201 yJ8_hugeLength_7cf53, Cond.static yJ8_hugeLength_7cf53, Cond.code yJ8_hugeLength_7cf53 cJ8_hugeLength_7cf53 3 (some .int), Cond.methodLink RJx4a65c 66 yJ7_copyOf_1904c, Cond.static yJ7_copyOf_1904c, Cond.initialized RJ7, Cond.code yJ7_copyOf_1904c cJ7_copyOf_1904c 2 (some (.array (.object "java/lang/Object"))), Cond.methodLink RJ7 86 ⟨"java/lang/Object", "getClass", "()Ljava/lang/Class;"⟩, Cond.selects "[Ljava/lang/Object;" ⟨"java/lang/Object", "getClass", "()Ljava/lang/Class;"⟩ ⟨"java/lang/Object", "getClass", "()Ljava/lang/Class;"⟩, Cond.instanceMethod ⟨"java/lang/Object", "getClass", "()Ljava/lang/Class;"⟩, Cond.native ⟨"java/lang/Object", "getClass", "()Ljava/lang/Class;"⟩, Cond.methodLink RJ7 300 yJ7_copyOf_6403c, Cond.static yJ7_copyOf_6403c, Cond.code yJ7_copyOf_6403c cJ7_copyOf_6403c 4 (some (.array (.object "java/lang/Object"))), Cond.classLink RJ7 110 "[Ljava/lang/Object;", Cond.classLink RJ7 2 "java/lang/Object"]
def wsL_law0_r6 : List Cond := [Cond.methodLink RJ7 304 Lib.Math.min.name, Cond.static Lib.Math.min.name, Cond.code Lib.Math.min.name Lib.Math.min.code 2 (some .int), Cond.methodLink RJ7 150 arraycopyName, Cond.native arraycopyName, Cond.static arraycopyName, Cond.initialized "java/lang/System", Cond.methodLink RL 25 yX3_form, Cond.instanceMethod yX3_form, Cond.selects RX3 yX3_form yX3_form, Cond.code yX3_form cX3_form 3 (some .int), Cond.methodLink RX3 73 yX3_fencerInOrder, Cond.instanceMethod yX3_fencerInOrder, Cond.selects RX3 yX3_fencerInOrder yX3_fencerInOrder, Cond.code yX3_fencerInOrder cX3_fencerInOrder 4 (some (.object "Pommel$Fencer")), Cond.classLink RX3 29 "Pommel$Fencer", Cond.methodLink RX3 124 yJx4a65c_get_915e3, Cond.instanceMethod yJx4a65c_get_915e3, Cond.selects RJx4a65c yJx4a65c_get_915e3 yJx4a65c_get_915e3, Cond.code yJx4a65c_get_915e3 cJx4a65c_get_915e3 2 (some (.object "java/lang/Object")), Cond.methodLink RJx4a65c 118 yJ15_checkIndex_7cf53, Cond.static yJ15_checkIndex_7cf53, Cond.initialized RJ15, Cond.code yJ15_checkIndex_7cf53 cJ15_checkIndex_7cf53 2 (some .int)]
def wsL_law0_r7 : List Cond := [Cond.methodLink RJ15 105 yJ3_checkIndex_8e157, Cond.static yJ3_checkIndex_8e157, Cond.initialized RJ3, Cond.code yJ3_checkIndex_8e157 cJ3_checkIndex_8e157 3 (some .int), Cond.methodLink RJx4a65c 123 yJx4a65c_elementData_915e3, Cond.instanceMethod yJx4a65c_elementData_915e3, Cond.selects RJx4a65c yJx4a65c_elementData_915e3 yJx4a65c_elementData_915e3, Cond.code yJx4a65c_elementData_915e3 cJx4a65c_elementData_915e3 2 (some (.object "java/lang/Object")), Cond.methodLink RX3 321 yX3_aheadInOrder, Cond.instanceMethod yX3_aheadInOrder, Cond.selects RX3 yX3_aheadInOrder yX3_aheadInOrder, Cond.code yX3_aheadInOrder cX3_aheadInOrder 4 (some .int), Cond.methodLink RX3 353 yX1_isAheadOf, Cond.instanceMethod yX1_isAheadOf, Cond.selects RX1 yX1_isAheadOf yX1_isAheadOf, Cond.code yX1_isAheadOf cX1_isAheadOf 4 (some .boolean), Cond.fieldLink RX1 45 "Pommel$Fencer" "out" "Z", Cond.fieldLink RX1 36 "Pommel$Fencer" "won" "I", Cond.fieldLink RX1 33 "Pommel$Fencer" "met" "I", Cond.methodLink RX1 49 Lib.Math.max.name, Cond.fieldLink RX1 39 "Pommel$Fencer" "given" "I", Cond.fieldLink RX1 42 "Pommel$Fencer" "taken" "I", Cond.methodLink RX3 77 yX3_putIntoPool, Cond.instanceMethod yX3_putIntoPool]
def wsL_law0_r8 : List Cond := [Cond.selects RX3 yX3_putIntoPool yX3_putIntoPool, Cond.code yX3_putIntoPool cX3_putIntoPool 4 none, Cond.fieldLink RX3 91 "Pommel$Fencer" "club" "I", Cond.fieldLink RX3 94 "Pommel$Fencer" "pool" "I", Cond.fieldLink RX3 97 "Pommel$Fencer" "spot" "I", Cond.methodLink RX3 116 yX3_poolInRow, Cond.instanceMethod yX3_poolInRow, Cond.selects RX3 yX3_poolInRow yX3_poolInRow, Cond.code yX3_poolInRow cX3_poolInRow 6 (some .int), Cond.methodLink RX3 120 yX3_hasClub, Cond.instanceMethod yX3_hasClub, Cond.selects RX3 yX3_hasClub yX3_hasClub, Cond.code yX3_hasClub cX3_hasClub 5 (some .boolean), Cond.methodLink RX3 81 yX3_addPoolBouts, Cond.instanceMethod yX3_addPoolBouts, Cond.selects RX3 yX3_addPoolBouts yX3_addPoolBouts, Cond.code yX3_addPoolBouts cX3_addPoolBouts 7 none, Cond.instantiable RX0 9, Cond.initialized RX0, Cond.methodLink RX3 128 yX3_fencerOnSpot, Cond.instanceMethod yX3_fencerOnSpot, Cond.selects RX3 yX3_fencerOnSpot yX3_fencerOnSpot, Cond.code yX3_fencerOnSpot cX3_fencerOnSpot 5 (some (.object "Pommel$Fencer")), Cond.methodLink RX3 132 yX0_init]
def wsL_law0_r9 : List Cond := [Cond.instanceMethod yX0_init, Cond.code yX0_init cX0_init 5 none, Cond.methodLink RX0 3 objectInit, Cond.classLink RX0 9 RX2, Cond.instantiable RX2 3, Cond.initialized RX2, Cond.fieldLink RX0 12 "Pommel$Bout" "left" "LPommel$Side;", Cond.fieldLink RX0 18 "Pommel$Bout" "right" "LPommel$Side;", Cond.fieldLink RX0 21 "Pommel$Bout" "state" "I", Cond.fieldLink RX0 25 "Pommel$Bout" "piste" "I", Cond.fieldLink RX0 28 "Pommel$Bout" "number" "I", Cond.fieldLink RX0 31 "Pommel$Bout" "round" "I", Cond.fieldLink RX0 34 "Pommel$Side" "fencer" "LPommel$Fencer;", Cond.instanceMethod yX2_init, Cond.code yX2_init cX2_init 1 none, Cond.methodLink RX2 3 objectInit, Cond.methodLink RL 29 yX3_many, Cond.instanceMethod yX3_many, Cond.selects RX3 yX3_many yX3_many, Cond.code yX3_many cX3_many 2 (some .int), Cond.fieldLink RX3 160 "Pommel" "now" "I", Cond.fieldLink RX3 247 "Pommel" "tableSize" "I", Cond.methodLink RX3 240 yX3_boutsIn, Cond.instanceMethod yX3_boutsIn]
def wsL_law0_r10 : List Cond := [Cond.selects RX3 yX3_boutsIn yX3_boutsIn, Cond.code yX3_boutsIn cX3_boutsIn 4 (some .int), Cond.classLink RX3 19 "Pommel$Bout", Cond.fieldLink RX3 210 "Pommel$Bout" "state" "I", Cond.methodLink RX3 244 yX3_fencersOut, Cond.instanceMethod yX3_fencersOut, Cond.selects RX3 yX3_fencersOut yX3_fencersOut, Cond.code yX3_fencersOut cX3_fencersOut 3 (some .int), Cond.fieldLink RX3 100 "Pommel$Fencer" "out" "Z", Cond.methodLink RX3 250 yX3_winnerOfTable, Cond.instanceMethod yX3_winnerOfTable, Cond.selects RX3 yX3_winnerOfTable yX3_winnerOfTable, Cond.code yX3_winnerOfTable cX3_winnerOfTable 2 (some (.object "Pommel$Fencer")), Cond.fieldLink RX3 217 "Pommel$Bout" "winner" "LPommel$Fencer;", Cond.methodLink RX3 213 yX3_numberOf, Cond.static yX3_numberOf, Cond.code yX3_numberOf cX3_numberOf 1 (some .int), Cond.fieldLink RX3 414 "Pommel$Fencer" "number" "I", Cond.methodLink RL 32 yL_isFair, Cond.static yL_isFair, Cond.code yL_isFair cL_isFair 10 (some .boolean), Cond.methodLink RL 78 Lib.Math.max.name, Cond.methodLink RL 57 yX3_ofBout, Cond.instanceMethod yX3_ofBout]
def wsL_law0_r11 : List Cond := [Cond.selects RX3 yX3_ofBout yX3_ofBout, Cond.code yX3_ofBout cX3_ofBout 4 (some .int), Cond.fieldLink RX3 172 "Pommel$Bout" "left" "LPommel$Side;", Cond.fieldLink RX3 202 "Pommel$Side" "fencer" "LPommel$Fencer;", Cond.fieldLink RX3 181 "Pommel$Bout" "right" "LPommel$Side;", Cond.fieldLink RX3 176 "Pommel$Side" "score" "I", Cond.fieldLink RX3 220 "Pommel$Bout" "piste" "I", Cond.fieldLink RX3 223 "Pommel$Bout" "secondsLeft" "I", Cond.fieldLink RX3 226 "Pommel$Bout" "period" "I", Cond.fieldLink RX3 194 "Pommel$Side" "shown" "I", Cond.methodLink RX3 135 yX3_boutAt, Cond.instanceMethod yX3_boutAt, Cond.selects RX3 yX3_boutAt yX3_boutAt, Cond.code yX3_boutAt cX3_boutAt 2 (some (.object "Pommel$Bout")), Cond.classLink RX3 341 "java/lang/IndexOutOfBoundsException", Cond.initialized "java/lang/IndexOutOfBoundsException", Cond.methodLink RX3 229 yX0_isInExtra, Cond.instanceMethod yX0_isInExtra, Cond.selects RX0 yX0_isInExtra yX0_isInExtra, Cond.code yX0_isInExtra cX0_isInExtra 1 (some .boolean), Cond.fieldLink RX0 42 "Pommel$Bout" "period" "I", Cond.methodLink RX0 45 yX0_periods, Cond.instanceMethod yX0_periods, Cond.selects RX0 yX0_periods yX0_periods]
def wsL_law0_r12 : List Cond := [Cond.code yX0_periods cX0_periods 1 (some .int), Cond.methodLink RX0 38 yX0_isOfTable, Cond.instanceMethod yX0_isOfTable, Cond.selects RX0 yX0_isOfTable yX0_isOfTable, Cond.code yX0_isOfTable cX0_isOfTable 1 (some .boolean), Cond.methodLink RX3 232 yX0_withPriority, Cond.instanceMethod yX0_withPriority, Cond.selects RX0 yX0_withPriority yX0_withPriority, Cond.code yX0_withPriority cX0_withPriority 1 (some (.object "Pommel$Side")), Cond.fieldLink RX0 58 "Pommel$Side" "score" "I", Cond.methodLink RL 71 yX3_of, Cond.instanceMethod yX3_of, Cond.selects RX3 yX3_of yX3_of, Cond.code yX3_of cX3_of 4 (some .int), Cond.fieldLink RX3 88 "Pommel$Fencer" "rank" "I", Cond.fieldLink RX3 104 "Pommel$Fencer" "liveBout" "LPommel$Bout;", Cond.fieldLink RX3 108 "Pommel$Bout" "number" "I", Cond.fieldLink RX3 111 "Pommel$Fencer" "restedAt" "I", Cond.methodLink RX3 85 yX3_fencerAt, Cond.instanceMethod yX3_fencerAt, Cond.selects RX3 yX3_fencerAt yX3_fencerAt, Cond.code yX3_fencerAt cX3_fencerAt 2 (some (.object "Pommel$Fencer")), Cond.methodLink RL 83 yX3_order, Cond.instanceMethod yX3_order]
def wsL_law0_r13 : List Cond := [Cond.selects RX3 yX3_order yX3_order, Cond.code yX3_order cX3_order 4 (some .int), Cond.fieldLink RX3 309 "Pommel$Fencer" "met" "I", Cond.fieldLink RX3 312 "Pommel$Fencer" "won" "I", Cond.fieldLink RX3 315 "Pommel$Fencer" "given" "I", Cond.fieldLink RX3 318 "Pommel$Fencer" "taken" "I", Cond.methodLink RL 86 yX3_place, Cond.instanceMethod yX3_place, Cond.selects RX3 yX3_place yX3_place, Cond.code yX3_place cX3_place 5 (some .int), Cond.methodLink RX3 349 yX1_isPlacedAheadOf, Cond.instanceMethod yX1_isPlacedAheadOf, Cond.selects RX1 yX1_isPlacedAheadOf yX1_isPlacedAheadOf, Cond.code yX1_isPlacedAheadOf cX1_isPlacedAheadOf 2 (some .boolean), Cond.methodLink RX1 55 yX1_isAheadOf, Cond.methodLink RL 89 yX3_voidWith, Cond.instanceMethod yX3_voidWith, Cond.selects RX3 yX3_voidWith yX3_voidWith, Cond.code yX3_voidWith cX3_voidWith 2 (some .int), Cond.methodLink RL 36 yX3_draw, Cond.instanceMethod yX3_draw, Cond.selects RX3 yX3_draw yX3_draw, Cond.code yX3_draw cX3_draw 4 (some .int), Cond.methodLink RX3 332 yX3_seed]
def wsL_law0_r14 : List Cond := [Cond.instanceMethod yX3_seed, Cond.selects RX3 yX3_seed yX3_seed, Cond.code yX3_seed cX3_seed 3 none, Cond.methodLink RX3 335 yX3_setLines, Cond.instanceMethod yX3_setLines, Cond.selects RX3 yX3_setLines yX3_setLines, Cond.code yX3_setLines cX3_setLines 5 none, Cond.methodLink RX3 338 yX3_addTableBouts, Cond.instanceMethod yX3_addTableBouts, Cond.selects RX3 yX3_addTableBouts yX3_addTableBouts, Cond.code yX3_addTableBouts cX3_addTableBouts 4 none, Cond.fieldLink RX3 356 "Pommel" "firstOfTable" "I", Cond.methodLink RX3 359 yX3_enteredOnLine, Cond.instanceMethod yX3_enteredOnLine, Cond.selects RX3 yX3_enteredOnLine yX3_enteredOnLine, Cond.code yX3_enteredOnLine cX3_enteredOnLine 3 (some (.object "Pommel$Fencer")), Cond.fieldLink RX3 365 "Pommel$Fencer" "tableLine" "I", Cond.fieldLink RX3 303 "Pommel$Fencer" "standing" "I", Cond.methodLink RX3 346 yX3_fencerOnLine, Cond.instanceMethod yX3_fencerOnLine, Cond.selects RX3 yX3_fencerOnLine yX3_fencerOnLine, Cond.code yX3_fencerOnLine cX3_fencerOnLine 2 (some (.object "Pommel$Fencer")), Cond.methodLink RX3 362 yX3_decideWithoutOther, Cond.instanceMethod yX3_decideWithoutOther]
def wsL_law0_r15 : List Cond := [Cond.selects RX3 yX3_decideWithoutOther yX3_decideWithoutOther, Cond.code yX3_decideWithoutOther cX3_decideWithoutOther 4 none, Cond.methodLink RX3 256 yX0_isKnown, Cond.instanceMethod yX0_isKnown, Cond.selects RX0 yX0_isKnown yX0_isKnown, Cond.code yX0_isKnown cX0_isKnown 1 (some .boolean), Cond.methodLink RX3 293 yX3_decide, Cond.instanceMethod yX3_decide, Cond.selects RX3 yX3_decide yX3_decide, Cond.code yX3_decide cX3_decide 4 none, Cond.fieldLink RX3 300 "Pommel$Bout" "round" "I", Cond.methodLink RX3 278 yX0_isOfTable, Cond.methodLink RX3 289 yX0_count, Cond.instanceMethod yX0_count, Cond.selects RX0 yX0_count yX0_count, Cond.code yX0_count cX0_count 5 none, Cond.methodLink RX0 82 yX2_count, Cond.instanceMethod yX2_count, Cond.selects RX2 yX2_count yX2_count, Cond.code yX2_count cX2_count 5 none, Cond.fieldLink RX2 9 "Pommel$Side" "fencer" "LPommel$Fencer;", Cond.methodLink RX2 25 yX1_count, Cond.instanceMethod yX1_count, Cond.selects RX1 yX1_count yX1_count]
def wsL_law0_r16 : List Cond := [Cond.code yX1_count cX1_count 5 none, Cond.methodLink RX3 306 yX3_goOnInTable, Cond.instanceMethod yX3_goOnInTable, Cond.selects RX3 yX3_goOnInTable yX3_goOnInTable, Cond.code yX3_goOnInTable cX3_goOnInTable 4 none, Cond.methodLink RX3 190 yX0_sideOf, Cond.instanceMethod yX0_sideOf, Cond.selects RX0 yX0_sideOf yX0_sideOf, Cond.code yX0_sideOf cX0_sideOf 2 (some (.object "Pommel$Side")), Cond.methodLink RL 39 yL_live, Cond.static yL_live, Cond.code yL_live cL_live 3 (some .int), Cond.methodLink RL 43 yX3_next, Cond.instanceMethod yX3_next, Cond.selects RX3 yX3_next yX3_next, Cond.code yX3_next cX3_next 6 (some .int), Cond.methodLink RX3 238 yX0_restedAt, Cond.instanceMethod yX0_restedAt, Cond.selects RX0 yX0_restedAt yX0_restedAt, Cond.code yX0_restedAt cX0_restedAt 1 (some .int), Cond.methodLink RX0 52 Lib.Math.max.name, Cond.methodLink RX0 49 yX2_restedAt, Cond.instanceMethod yX2_restedAt, Cond.selects RX2 yX2_restedAt yX2_restedAt]
def wsL_law0_r17 : List Cond := [Cond.code yX2_restedAt cX2_restedAt 1 (some .int), Cond.fieldLink RX2 21 "Pommel$Fencer" "restedAt" "I", Cond.methodLink RX3 145 yX3_whyNotReady, Cond.instanceMethod yX3_whyNotReady, Cond.selects RX3 yX3_whyNotReady yX3_whyNotReady, Cond.code yX3_whyNotReady cX3_whyNotReady 2 (some .int), Cond.methodLink RX3 259 yX2_isInLiveBout, Cond.instanceMethod yX2_isInLiveBout, Cond.selects RX2 yX2_isInLiveBout yX2_isInLiveBout, Cond.code yX2_isInLiveBout cX2_isInLiveBout 1 (some .boolean), Cond.fieldLink RX2 15 "Pommel$Fencer" "liveBout" "LPommel$Bout;", Cond.methodLink RL 47 yX3_pass, Cond.instanceMethod yX3_pass, Cond.selects RX3 yX3_pass yX3_pass, Cond.code yX3_pass cX3_pass 5 (some .int), Cond.methodLink RX3 156 yX3_isOverAfter, Cond.instanceMethod yX3_isOverAfter, Cond.selects RX3 yX3_isOverAfter yX3_isOverAfter, Cond.code yX3_isOverAfter cX3_isOverAfter 4 (some .boolean), Cond.methodLink RX3 262 yX0_secondsUntilOver, Cond.instanceMethod yX0_secondsUntilOver, Cond.selects RX0 yX0_secondsUntilOver yX0_secondsUntilOver, Cond.code yX0_secondsUntilOver cX0_secondsUntilOver 2 (some .int), Cond.fieldLink RX0 71 "Pommel$Bout" "secondsLeft" "I"]
def wsL_law0_r18 : List Cond := [Cond.methodLink RX0 65 yX0_isInExtra, Cond.methodLink RX3 265 yX0_goOn, Cond.instanceMethod yX0_goOn, Cond.selects RX0 yX0_goOn yX0_goOn, Cond.code yX0_goOn cX0_goOn 3 none, Cond.methodLink RX3 268 yX0_winnerAsItStands, Cond.instanceMethod yX0_winnerAsItStands, Cond.selects RX0 yX0_winnerAsItStands yX0_winnerAsItStands, Cond.code yX0_winnerAsItStands cX0_winnerAsItStands 1 (some (.object "Pommel$Fencer")), Cond.methodLink RX0 61 yX0_withPriority, Cond.methodLink RX3 271 yX3_finish, Cond.instanceMethod yX3_finish, Cond.selects RX3 yX3_finish yX3_finish, Cond.code yX3_finish cX3_finish 4 none, Cond.methodLink RX3 281 yX3_leavePiste, Cond.instanceMethod yX3_leavePiste, Cond.selects RX3 yX3_leavePiste yX3_leavePiste, Cond.code yX3_leavePiste cX3_leavePiste 3 none, Cond.methodLink RX3 139 yX3_isPiste, Cond.static yX3_isPiste, Cond.code yX3_isPiste cX3_isPiste 1 (some .boolean), Cond.methodLink RX3 297 yX0_end, Cond.instanceMethod yX0_end, Cond.selects RX0 yX0_end yX0_end]
def wsL_law0_r19 : List Cond := [Cond.code yX0_end cX0_end 2 none, Cond.methodLink RX0 78 yX2_end, Cond.instanceMethod yX2_end, Cond.selects RX2 yX2_end yX2_end, Cond.code yX2_end cX2_end 2 none, Cond.methodLink RL 50 yX3_reason, Cond.instanceMethod yX3_reason, Cond.selects RX3 yX3_reason yX3_reason, Cond.code yX3_reason cX3_reason 2 (some .int), Cond.methodLink RL 53 yX3_start, Cond.instanceMethod yX3_start, Cond.selects RX3 yX3_start yX3_start, Cond.code yX3_start cX3_start 4 none, Cond.methodLink RX3 151 yX0_begin, Cond.instanceMethod yX0_begin, Cond.selects RX0 yX0_begin yX0_begin, Cond.code yX0_begin cX0_begin 2 none, Cond.methodLink RX0 74 yX2_begin, Cond.instanceMethod yX2_begin, Cond.selects RX2 yX2_begin yX2_begin, Cond.code yX2_begin cX2_begin 2 none, Cond.methodLink RL 60 yX3_hit, Cond.instanceMethod yX3_hit, Cond.selects RX3 yX3_hit yX3_hit]
def wsL_law0_r20 : List Cond := [Cond.code yX3_hit cX3_hit 4 (some .boolean), Cond.methodLink RX3 165 yX3_liveBoutOn, Cond.instanceMethod yX3_liveBoutOn, Cond.selects RX3 yX3_liveBoutOn yX3_liveBoutOn, Cond.code yX3_liveBoutOn cX3_liveBoutOn 3 (some (.object "Pommel$Bout")), Cond.methodLink RX3 168 yX0_countsForBoth, Cond.instanceMethod yX0_countsForBoth, Cond.selects RX0 yX0_countsForBoth yX0_countsForBoth, Cond.code yX0_countsForBoth cX0_countsForBoth 1 (some .boolean), Cond.methodLink RX0 68 yX0_goal, Cond.instanceMethod yX0_goal, Cond.selects RX0 yX0_goal yX0_goal, Cond.code yX0_goal cX0_goal 1 (some .int), Cond.methodLink RX3 184 yX3_isOverByHit, Cond.instanceMethod yX3_isOverByHit, Cond.selects RX3 yX3_isOverByHit yX3_isOverByHit, Cond.code yX3_isOverByHit cX3_isOverByHit 2 (some .boolean), Cond.methodLink RX3 275 yX0_isDecidedByHit, Cond.instanceMethod yX0_isDecidedByHit, Cond.selects RX0 yX0_isDecidedByHit yX0_isDecidedByHit, Cond.code yX0_isDecidedByHit cX0_isDecidedByHit 1 (some .boolean), Cond.methodLink RL 64 yX3_winnerIn, Cond.instanceMethod yX3_winnerIn, Cond.selects RX3 yX3_winnerIn yX3_winnerIn]
def wsL_law0_r21 : List Cond := [Cond.code yX3_winnerIn cX3_winnerIn 4 (some .int), Cond.methodLink RL 67 yX3_card, Cond.instanceMethod yX3_card, Cond.selects RX3 yX3_card yX3_card, Cond.code yX3_card cX3_card 8 (some .int), Cond.methodLink RX3 197 Lib.Math.max.name, Cond.methodLink RX3 206 yX3_putOut, Cond.instanceMethod yX3_putOut, Cond.selects RX3 yX3_putOut yX3_putOut, Cond.code yX3_putOut cX3_putOut 6 none, Cond.methodLink RX3 285 yX3_makeVoid, Cond.instanceMethod yX3_makeVoid, Cond.selects RX3 yX3_makeVoid yX3_makeVoid, Cond.code yX3_makeVoid cX3_makeVoid 2 none, Cond.methodLink RL 74 yX3_digest, Cond.instanceMethod yX3_digest, Cond.selects RX3 yX3_digest yX3_digest, Cond.code yX3_digest cX3_digest 4 (some .long), Cond.constantLong RX3 376 (58101), Cond.constantLong RX3 378 (31), Cond.methodLink RX3 380 yX3_many, Cond.methodLink RX3 383 yX3_withFencer, Cond.instanceMethod yX3_withFencer, Cond.selects RX3 yX3_withFencer yX3_withFencer]
def wsL_law0_r22 : List Cond := [Cond.code yX3_withFencer cX3_withFencer 7 (some .long), Cond.methodLink RX3 396 yX3_of, Cond.methodLink RX3 399 yX3_order, Cond.methodLink RX3 402 yX3_place, Cond.methodLink RX3 405 yX3_voidWith, Cond.methodLink RX3 387 yX3_withBout, Cond.instanceMethod yX3_withBout, Cond.selects RX3 yX3_withBout yX3_withBout, Cond.code yX3_withBout cX3_withBout 7 (some .long), Cond.methodLink RX3 408 yX3_ofBout, Cond.methodLink RX3 411 yX3_reason, Cond.methodLink RX3 390 yX3_next, Cond.methodLink RX3 393 yX3_line, Cond.instanceMethod yX3_line, Cond.selects RX3 yX3_line yX3_line, Cond.code yX3_line cX3_line 2 (some .int)]
def wsL_law0 : List Cond := (wsL_law0_r1 ++ (wsL_law0_r2 ++ (wsL_law0_r3 ++ (wsL_law0_r4 ++ (wsL_law0_r5 ++ (wsL_law0_r6 ++ (wsL_law0_r7 ++ (wsL_law0_r8 ++ (wsL_law0_r9 ++ (wsL_law0_r10 ++ (wsL_law0_r11 ++ (wsL_law0_r12 ++ (wsL_law0_r13 ++ (wsL_law0_r14 ++ (wsL_law0_r15 ++ (wsL_law0_r16 ++ (wsL_law0_r17 ++ (wsL_law0_r18 ++ (wsL_law0_r19 ++ (wsL_law0_r20 ++ (wsL_law0_r21 ++ wsL_law0_r22))))))))))))))))))))) ++ wsX30 ++ wsJx4a65c0 ++ wsX10 ++ wsX00 ++ wsX20 ++ ([] : List Cond)
def wsL_law : List Cond := wsL_law0 ++ (vx_atS RX3 46 "java/lang/IllegalArgumentException" ["java/lang/RuntimeException", "java/lang/Exception"]).filter goodWord ++ (vx_atS RX3 61 "java/lang/IllegalStateException" ["java/lang/RuntimeException", "java/lang/Exception"]).filter goodWord ++ (vx_atS RX3 345 "java/lang/IndexOutOfBoundsException" ["java/lang/RuntimeException", "java/lang/Exception"]).filter goodWord
end
section
set_option maxRecDepth 20000 in
theorem ggX0_init_X2_init : GoodIn wsX0_init wsX2_init := goodIn_r _ [15, 16, 2, 3] (by decide +kernel) (by decide +kernel)
set_option maxRecDepth 20000 in
theorem gX0_init_X2_init_n11 : GoodIn wsX0_init (wsX2_init) := ggX0_init_X2_init
theorem dX0_init_0 : decode cX0_init 0 = .ok (.aload_n 0, 1) := by decide +kernel
theorem dX0_init_1 : decode cX0_init 1 = .ok (.invokespecial 3, 3) := by decide +kernel
theorem dX0_init_4 : decode cX0_init 4 = .ok (.aload_n 0, 1) := by decide +kernel
theorem dX0_init_5 : decode cX0_init 5 = .ok (.new 9, 3) := by decide +kernel
theorem dX0_init_8 : decode cX0_init 8 = .ok (.dup, 1) := by decide +kernel
theorem dX0_init_9 : decode cX0_init 9 = .ok (.invokespecial 11, 3) := by decide +kernel
theorem dX0_init_12 : decode cX0_init 12 = .ok (.putfield 12, 3) := by decide +kernel
theorem dX0_init_15 : decode cX0_init 15 = .ok (.aload_n 0, 1) := by decide +kernel
theorem dX0_init_16 : decode cX0_init 16 = .ok (.new 9, 3) := by decide +kernel
theorem dX0_init_19 : decode cX0_init 19 = .ok (.dup, 1) := by decide +kernel
theorem dX0_init_20 : decode cX0_init 20 = .ok (.invokespecial 11, 3) := by decide +kernel
theorem dX0_init_23 : decode cX0_init 23 = .ok (.putfield 18, 3) := by decide +kernel
theorem dX0_init_26 : decode cX0_init 26 = .ok (.aload_n 0, 1) := by decide +kernel
theorem dX0_init_27 : decode cX0_init 27 = .ok (.iconst 0, 1) := by decide +kernel
theorem dX0_init_28 : decode cX0_init 28 = .ok (.putfield 21, 3) := by decide +kernel
theorem dX0_init_31 : decode cX0_init 31 = .ok (.aload_n 0, 1) := by decide +kernel
theorem dX0_init_32 : decode cX0_init 32 = .ok (.iconst (-1), 1) := by decide +kernel
theorem dX0_init_33 : decode cX0_init 33 = .ok (.putfield 25, 3) := by decide +kernel
theorem dX0_init_36 : decode cX0_init 36 = .ok (.aload_n 0, 1) := by decide +kernel
theorem dX0_init_37 : decode cX0_init 37 = .ok (.iload_n 1, 1) := by decide +kernel
theorem dX0_init_38 : decode cX0_init 38 = .ok (.putfield 28, 3) := by decide +kernel
theorem dX0_init_41 : decode cX0_init 41 = .ok (.aload_n 0, 1) := by decide +kernel
theorem dX0_init_42 : decode cX0_init 42 = .ok (.iload_n 2, 1) := by decide +kernel
theorem dX0_init_43 : decode cX0_init 43 = .ok (.putfield 31, 3) := by decide +kernel
theorem dX0_init_46 : decode cX0_init 46 = .ok (.aload_n 0, 1) := by decide +kernel
theorem dX0_init_47 : decode cX0_init 47 = .ok (.getfield 12, 3) := by decide +kernel
theorem dX0_init_50 : decode cX0_init 50 = .ok (.aload_n 3, 1) := by decide +kernel
theorem dX0_init_51 : decode cX0_init 51 = .ok (.putfield 34, 3) := by decide +kernel
theorem dX0_init_54 : decode cX0_init 54 = .ok (.aload_n 0, 1) := by decide +kernel
theorem dX0_init_55 : decode cX0_init 55 = .ok (.getfield 18, 3) := by decide +kernel
theorem dX0_init_58 : decode cX0_init 58 = .ok (.aload 4, 2) := by decide +kernel
theorem dX0_init_60 : decode cX0_init 60 = .ok (.putfield 34, 3) := by decide +kernel
theorem dX0_init_63 : decode cX0_init 63 = .ok (.return_, 1) := by decide +kernel
theorem dX0_isOfTable_0 : decode cX0_isOfTable 0 = .ok (.aload_n 0, 1) := by decide +kernel
theorem dX0_isOfTable_1 : decode cX0_isOfTable 1 = .ok (.getfield 31, 3) := by decide +kernel
theorem dX0_isOfTable_4 : decode cX0_isOfTable 4 = .ok (.iconst (-1), 1) := by decide +kernel
theorem dX0_isOfTable_5 : decode cX0_isOfTable 5 = .ok (.if_icmp .eq 7, 3) := by decide +kernel
theorem dX0_isOfTable_8 : decode cX0_isOfTable 8 = .ok (.iconst 1, 1) := by decide +kernel
theorem dX0_isOfTable_9 : decode cX0_isOfTable 9 = .ok (.goto 4, 3) := by decide +kernel
theorem dX0_isOfTable_12 : decode cX0_isOfTable 12 = .ok (.iconst 0, 1) := by decide +kernel
theorem dX0_isOfTable_13 : decode cX0_isOfTable 13 = .ok (.ireturn, 1) := by decide +kernel
set_option maxRecDepth 20000 in
theorem ggX0_goal_X0_isOfTable : GoodIn wsX0_goal wsX0_isOfTable := goodIn_r _ [5, 6, 7, 8, 9, 10, 11, 12, 13, 14, 15] (by decide +kernel) (by decide +kernel)
set_option maxRecDepth 20000 in
theorem gX0_goal_X0_isOfTable : GoodIn wsX0_goal (wsV RX0 38 RX0 yX0_isOfTable wsX0_isOfTable) := goodIn_app (goodIn_of _ (by decide +kernel)) ggX0_goal_X0_isOfTable
theorem dX0_goal_0 : decode cX0_goal 0 = .ok (.aload_n 0, 1) := by decide +kernel
theorem dX0_goal_1 : decode cX0_goal 1 = .ok (.invokevirtual 38, 3) := by decide +kernel
theorem dX0_goal_4 : decode cX0_goal 4 = .ok (.ifCond .eq 8, 3) := by decide +kernel
theorem dX0_goal_7 : decode cX0_goal 7 = .ok (.bipush 15, 2) := by decide +kernel
theorem dX0_goal_9 : decode cX0_goal 9 = .ok (.goto 4, 3) := by decide +kernel
theorem dX0_goal_12 : decode cX0_goal 12 = .ok (.iconst 5, 1) := by decide +kernel
theorem dX0_goal_13 : decode cX0_goal 13 = .ok (.ireturn, 1) := by decide +kernel
set_option maxRecDepth 20000 in
theorem ggX0_periods_X0_isOfTable : GoodIn wsX0_periods wsX0_isOfTable := goodIn_r _ [5, 6, 7, 8, 9, 10, 11, 12, 13, 14, 15] (by decide +kernel) (by decide +kernel)
set_option maxRecDepth 20000 in
theorem gX0_periods_X0_isOfTable : GoodIn wsX0_periods (wsV RX0 38 RX0 yX0_isOfTable wsX0_isOfTable) := goodIn_app (goodIn_of _ (by decide +kernel)) ggX0_periods_X0_isOfTable
theorem dX0_periods_0 : decode cX0_periods 0 = .ok (.aload_n 0, 1) := by decide +kernel
theorem dX0_periods_1 : decode cX0_periods 1 = .ok (.invokevirtual 38, 3) := by decide +kernel
theorem dX0_periods_4 : decode cX0_periods 4 = .ok (.ifCond .eq 7, 3) := by decide +kernel
theorem dX0_periods_7 : decode cX0_periods 7 = .ok (.iconst 3, 1) := by decide +kernel
theorem dX0_periods_8 : decode cX0_periods 8 = .ok (.goto 4, 3) := by decide +kernel
theorem dX0_periods_11 : decode cX0_periods 11 = .ok (.iconst 1, 1) := by decide +kernel
theorem dX0_periods_12 : decode cX0_periods 12 = .ok (.ireturn, 1) := by decide +kernel
theorem dX0_sideOf_0 : decode cX0_sideOf 0 = .ok (.iload_n 1, 1) := by decide +kernel
theorem dX0_sideOf_1 : decode cX0_sideOf 1 = .ok (.ifCond .ne 10, 3) := by decide +kernel
theorem dX0_sideOf_4 : decode cX0_sideOf 4 = .ok (.aload_n 0, 1) := by decide +kernel
theorem dX0_sideOf_5 : decode cX0_sideOf 5 = .ok (.getfield 12, 3) := by decide +kernel
theorem dX0_sideOf_8 : decode cX0_sideOf 8 = .ok (.goto 7, 3) := by decide +kernel
theorem dX0_sideOf_11 : decode cX0_sideOf 11 = .ok (.aload_n 0, 1) := by decide +kernel
theorem dX0_sideOf_12 : decode cX0_sideOf 12 = .ok (.getfield 18, 3) := by decide +kernel
theorem dX0_sideOf_15 : decode cX0_sideOf 15 = .ok (.areturn, 1) := by decide +kernel
theorem dX0_isKnown_0 : decode cX0_isKnown 0 = .ok (.aload_n 0, 1) := by decide +kernel
theorem dX0_isKnown_1 : decode cX0_isKnown 1 = .ok (.getfield 12, 3) := by decide +kernel
theorem dX0_isKnown_4 : decode cX0_isKnown 4 = .ok (.getfield 34, 3) := by decide +kernel
theorem dX0_isKnown_7 : decode cX0_isKnown 7 = .ok (.ifnull 17, 3) := by decide +kernel
theorem dX0_isKnown_10 : decode cX0_isKnown 10 = .ok (.aload_n 0, 1) := by decide +kernel
theorem dX0_isKnown_11 : decode cX0_isKnown 11 = .ok (.getfield 18, 3) := by decide +kernel
theorem dX0_isKnown_14 : decode cX0_isKnown 14 = .ok (.getfield 34, 3) := by decide +kernel
theorem dX0_isKnown_17 : decode cX0_isKnown 17 = .ok (.ifnull 7, 3) := by decide +kernel
theorem dX0_isKnown_20 : decode cX0_isKnown 20 = .ok (.iconst 1, 1) := by decide +kernel
theorem dX0_isKnown_21 : decode cX0_isKnown 21 = .ok (.goto 4, 3) := by decide +kernel
theorem dX0_isKnown_24 : decode cX0_isKnown 24 = .ok (.iconst 0, 1) := by decide +kernel
theorem dX0_isKnown_25 : decode cX0_isKnown 25 = .ok (.ireturn, 1) := by decide +kernel
set_option maxRecDepth 20000 in
theorem ggX0_isInExtra_X0_periods : GoodIn wsX0_isInExtra wsX0_periods := goodIn_r _ [6, 7, 8, 9, 5, 10, 11, 12, 13, 14, 15, 16, 17, 18, 19, 20] (by decide +kernel) (by decide +kernel)
set_option maxRecDepth 20000 in
theorem gX0_isInExtra_X0_periods : GoodIn wsX0_isInExtra (wsV RX0 45 RX0 yX0_periods wsX0_periods) := goodIn_app (goodIn_of _ (by decide +kernel)) ggX0_isInExtra_X0_periods
theorem dX0_isInExtra_0 : decode cX0_isInExtra 0 = .ok (.aload_n 0, 1) := by decide +kernel
theorem dX0_isInExtra_1 : decode cX0_isInExtra 1 = .ok (.getfield 42, 3) := by decide +kernel
theorem dX0_isInExtra_4 : decode cX0_isInExtra 4 = .ok (.aload_n 0, 1) := by decide +kernel
theorem dX0_isInExtra_5 : decode cX0_isInExtra 5 = .ok (.invokevirtual 45, 3) := by decide +kernel
theorem dX0_isInExtra_8 : decode cX0_isInExtra 8 = .ok (.if_icmp .le 7, 3) := by decide +kernel
theorem dX0_isInExtra_11 : decode cX0_isInExtra 11 = .ok (.iconst 1, 1) := by decide +kernel
theorem dX0_isInExtra_12 : decode cX0_isInExtra 12 = .ok (.goto 4, 3) := by decide +kernel
theorem dX0_isInExtra_15 : decode cX0_isInExtra 15 = .ok (.iconst 0, 1) := by decide +kernel
theorem dX0_isInExtra_16 : decode cX0_isInExtra 16 = .ok (.ireturn, 1) := by decide +kernel
set_option maxRecDepth 20000 in
theorem ggX0_restedAt_X2_restedAt : GoodIn wsX0_restedAt wsX2_restedAt := goodIn_r _ [11, 12, 13, 23, 24, 25, 26, 27, 28, 29, 30, 31, 32, 33, 34, 35, 36, 37, 38, 39] (by decide +kernel) (by decide +kernel)
set_option maxRecDepth 20000 in
theorem gX0_restedAt_X2_restedAt : GoodIn wsX0_restedAt (wsV RX0 49 RX2 yX2_restedAt wsX2_restedAt) := goodIn_app (goodIn_of _ (by decide +kernel)) ggX0_restedAt_X2_restedAt
theorem dX0_restedAt_0 : decode cX0_restedAt 0 = .ok (.aload_n 0, 1) := by decide +kernel
theorem dX0_restedAt_1 : decode cX0_restedAt 1 = .ok (.getfield 12, 3) := by decide +kernel
theorem dX0_restedAt_4 : decode cX0_restedAt 4 = .ok (.invokevirtual 49, 3) := by decide +kernel
theorem dX0_restedAt_7 : decode cX0_restedAt 7 = .ok (.aload_n 0, 1) := by decide +kernel
theorem dX0_restedAt_8 : decode cX0_restedAt 8 = .ok (.getfield 18, 3) := by decide +kernel
theorem dX0_restedAt_11 : decode cX0_restedAt 11 = .ok (.invokevirtual 49, 3) := by decide +kernel
theorem dX0_restedAt_14 : decode cX0_restedAt 14 = .ok (.invokestatic 52, 3) := by decide +kernel
theorem dX0_restedAt_17 : decode cX0_restedAt 17 = .ok (.ireturn, 1) := by decide +kernel
theorem dX0_withPriority_0 : decode cX0_withPriority 0 = .ok (.aload_n 0, 1) := by decide +kernel
theorem dX0_withPriority_1 : decode cX0_withPriority 1 = .ok (.getfield 28, 3) := by decide +kernel
theorem dX0_withPriority_4 : decode cX0_withPriority 4 = .ok (.aload_n 0, 1) := by decide +kernel
theorem dX0_withPriority_5 : decode cX0_withPriority 5 = .ok (.getfield 12, 3) := by decide +kernel
theorem dX0_withPriority_8 : decode cX0_withPriority 8 = .ok (.getfield 58, 3) := by decide +kernel
theorem dX0_withPriority_11 : decode cX0_withPriority 11 = .ok (.iadd, 1) := by decide +kernel
theorem dX0_withPriority_12 : decode cX0_withPriority 12 = .ok (.iconst 2, 1) := by decide +kernel
theorem dX0_withPriority_13 : decode cX0_withPriority 13 = .ok (.irem, 1) := by decide +kernel
theorem dX0_withPriority_14 : decode cX0_withPriority 14 = .ok (.ifCond .ne 10, 3) := by decide +kernel
theorem dX0_withPriority_17 : decode cX0_withPriority 17 = .ok (.aload_n 0, 1) := by decide +kernel
theorem dX0_withPriority_18 : decode cX0_withPriority 18 = .ok (.getfield 12, 3) := by decide +kernel
theorem dX0_withPriority_21 : decode cX0_withPriority 21 = .ok (.goto 7, 3) := by decide +kernel
theorem dX0_withPriority_24 : decode cX0_withPriority 24 = .ok (.aload_n 0, 1) := by decide +kernel
theorem dX0_withPriority_25 : decode cX0_withPriority 25 = .ok (.getfield 18, 3) := by decide +kernel
theorem dX0_withPriority_28 : decode cX0_withPriority 28 = .ok (.areturn, 1) := by decide +kernel
set_option maxRecDepth 20000 in
theorem ggX0_winnerAsItStands_X0_withPriority : GoodIn wsX0_winnerAsItStands wsX0_withPriority := goodIn_r _ [9, 10, 1, 2, 3, 11, 12, 13, 14, 15, 16, 17, 18, 19, 20, 21, 22] (by decide +kernel) (by decide +kernel)
set_option maxRecDepth 20000 in
theorem gX0_winnerAsItStands_X0_withPriority : GoodIn wsX0_winnerAsItStands (wsV RX0 61 RX0 yX0_withPriority wsX0_withPriority) := goodIn_app (goodIn_of _ (by decide +kernel)) ggX0_winnerAsItStands_X0_withPriority
theorem dX0_winnerAsItStands_0 : decode cX0_winnerAsItStands 0 = .ok (.aload_n 0, 1) := by decide +kernel
theorem dX0_winnerAsItStands_1 : decode cX0_winnerAsItStands 1 = .ok (.getfield 12, 3) := by decide +kernel
theorem dX0_winnerAsItStands_4 : decode cX0_winnerAsItStands 4 = .ok (.getfield 58, 3) := by decide +kernel
theorem dX0_winnerAsItStands_7 : decode cX0_winnerAsItStands 7 = .ok (.aload_n 0, 1) := by decide +kernel
theorem dX0_winnerAsItStands_8 : decode cX0_winnerAsItStands 8 = .ok (.getfield 18, 3) := by decide +kernel
theorem dX0_winnerAsItStands_11 : decode cX0_winnerAsItStands 11 = .ok (.getfield 58, 3) := by decide +kernel
theorem dX0_winnerAsItStands_14 : decode cX0_winnerAsItStands 14 = .ok (.if_icmp .ne 11, 3) := by decide +kernel
theorem dX0_winnerAsItStands_17 : decode cX0_winnerAsItStands 17 = .ok (.aload_n 0, 1) := by decide +kernel
theorem dX0_winnerAsItStands_18 : decode cX0_winnerAsItStands 18 = .ok (.invokevirtual 61, 3) := by decide +kernel
theorem dX0_winnerAsItStands_21 : decode cX0_winnerAsItStands 21 = .ok (.getfield 34, 3) := by decide +kernel
theorem dX0_winnerAsItStands_24 : decode cX0_winnerAsItStands 24 = .ok (.areturn, 1) := by decide +kernel
theorem dX0_winnerAsItStands_25 : decode cX0_winnerAsItStands 25 = .ok (.aload_n 0, 1) := by decide +kernel
theorem dX0_winnerAsItStands_26 : decode cX0_winnerAsItStands 26 = .ok (.getfield 12, 3) := by decide +kernel
theorem dX0_winnerAsItStands_29 : decode cX0_winnerAsItStands 29 = .ok (.getfield 58, 3) := by decide +kernel
theorem dX0_winnerAsItStands_32 : decode cX0_winnerAsItStands 32 = .ok (.aload_n 0, 1) := by decide +kernel
theorem dX0_winnerAsItStands_33 : decode cX0_winnerAsItStands 33 = .ok (.getfield 18, 3) := by decide +kernel
theorem dX0_winnerAsItStands_36 : decode cX0_winnerAsItStands 36 = .ok (.getfield 58, 3) := by decide +kernel
theorem dX0_winnerAsItStands_39 : decode cX0_winnerAsItStands 39 = .ok (.if_icmp .le 13, 3) := by decide +kernel
theorem dX0_winnerAsItStands_42 : decode cX0_winnerAsItStands 42 = .ok (.aload_n 0, 1) := by decide +kernel
theorem dX0_winnerAsItStands_43 : decode cX0_winnerAsItStands 43 = .ok (.getfield 12, 3) := by decide +kernel
theorem dX0_winnerAsItStands_46 : decode cX0_winnerAsItStands 46 = .ok (.getfield 34, 3) := by decide +kernel
theorem dX0_winnerAsItStands_49 : decode cX0_winnerAsItStands 49 = .ok (.goto 10, 3) := by decide +kernel
theorem dX0_winnerAsItStands_52 : decode cX0_winnerAsItStands 52 = .ok (.aload_n 0, 1) := by decide +kernel
theorem dX0_winnerAsItStands_53 : decode cX0_winnerAsItStands 53 = .ok (.getfield 18, 3) := by decide +kernel
theorem dX0_winnerAsItStands_56 : decode cX0_winnerAsItStands 56 = .ok (.getfield 34, 3) := by decide +kernel
theorem dX0_winnerAsItStands_59 : decode cX0_winnerAsItStands 59 = .ok (.areturn, 1) := by decide +kernel
set_option maxRecDepth 20000 in
theorem ggX0_countsForBoth_X0_isInExtra : GoodIn wsX0_countsForBoth wsX0_isInExtra := goodIn_r _ [8, 9, 10, 11, 12, 7, 13, 14, 15, 16, 17, 18, 23, 24, 25, 26, 27, 28, 29, 30, 31] (by decide +kernel) (by decide +kernel)
set_option maxRecDepth 20000 in
theorem gX0_countsForBoth_X0_isInExtra : GoodIn wsX0_countsForBoth (wsV RX0 65 RX0 yX0_isInExtra wsX0_isInExtra) := goodIn_app (goodIn_of _ (by decide +kernel)) ggX0_countsForBoth_X0_isInExtra
set_option maxRecDepth 20000 in
theorem ggX0_countsForBoth_X0_goal : GoodIn wsX0_countsForBoth wsX0_goal := goodIn_r _ [22, 14, 15, 16, 7, 17, 18, 23, 24, 25, 26, 27, 28, 29, 30, 31] (by decide +kernel) (by decide +kernel)
set_option maxRecDepth 20000 in
theorem gX0_countsForBoth_X0_goal : GoodIn wsX0_countsForBoth (wsV RX0 68 RX0 yX0_goal wsX0_goal) := goodIn_app (goodIn_of _ (by decide +kernel)) ggX0_countsForBoth_X0_goal
theorem dX0_countsForBoth_0 : decode cX0_countsForBoth 0 = .ok (.aload_n 0, 1) := by decide +kernel
theorem dX0_countsForBoth_1 : decode cX0_countsForBoth 1 = .ok (.invokevirtual 65, 3) := by decide +kernel
theorem dX0_countsForBoth_4 : decode cX0_countsForBoth 4 = .ok (.ifCond .ne 39, 3) := by decide +kernel
theorem dX0_countsForBoth_7 : decode cX0_countsForBoth 7 = .ok (.aload_n 0, 1) := by decide +kernel
theorem dX0_countsForBoth_8 : decode cX0_countsForBoth 8 = .ok (.getfield 12, 3) := by decide +kernel
theorem dX0_countsForBoth_11 : decode cX0_countsForBoth 11 = .ok (.getfield 58, 3) := by decide +kernel
theorem dX0_countsForBoth_14 : decode cX0_countsForBoth 14 = .ok (.iconst 1, 1) := by decide +kernel
theorem dX0_countsForBoth_15 : decode cX0_countsForBoth 15 = .ok (.iadd, 1) := by decide +kernel
theorem dX0_countsForBoth_16 : decode cX0_countsForBoth 16 = .ok (.aload_n 0, 1) := by decide +kernel
theorem dX0_countsForBoth_17 : decode cX0_countsForBoth 17 = .ok (.invokevirtual 68, 3) := by decide +kernel
theorem dX0_countsForBoth_20 : decode cX0_countsForBoth 20 = .ok (.if_icmp .lt 19, 3) := by decide +kernel
theorem dX0_countsForBoth_23 : decode cX0_countsForBoth 23 = .ok (.aload_n 0, 1) := by decide +kernel
theorem dX0_countsForBoth_24 : decode cX0_countsForBoth 24 = .ok (.getfield 18, 3) := by decide +kernel
theorem dX0_countsForBoth_27 : decode cX0_countsForBoth 27 = .ok (.getfield 58, 3) := by decide +kernel
theorem dX0_countsForBoth_30 : decode cX0_countsForBoth 30 = .ok (.iconst 1, 1) := by decide +kernel
theorem dX0_countsForBoth_31 : decode cX0_countsForBoth 31 = .ok (.iadd, 1) := by decide +kernel
theorem dX0_countsForBoth_32 : decode cX0_countsForBoth 32 = .ok (.aload_n 0, 1) := by decide +kernel
theorem dX0_countsForBoth_33 : decode cX0_countsForBoth 33 = .ok (.invokevirtual 68, 3) := by decide +kernel
theorem dX0_countsForBoth_36 : decode cX0_countsForBoth 36 = .ok (.if_icmp .ge 7, 3) := by decide +kernel
theorem dX0_countsForBoth_39 : decode cX0_countsForBoth 39 = .ok (.iconst 1, 1) := by decide +kernel
theorem dX0_countsForBoth_40 : decode cX0_countsForBoth 40 = .ok (.goto 4, 3) := by decide +kernel
theorem dX0_countsForBoth_43 : decode cX0_countsForBoth 43 = .ok (.iconst 0, 1) := by decide +kernel
theorem dX0_countsForBoth_44 : decode cX0_countsForBoth 44 = .ok (.ireturn, 1) := by decide +kernel
set_option maxRecDepth 20000 in
theorem ggX0_isDecidedByHit_X0_isInExtra : GoodIn wsX0_isDecidedByHit wsX0_isInExtra := goodIn_r _ [8, 9, 10, 11, 12, 7, 13, 14, 15, 16, 17, 18, 23, 24, 25, 26, 27, 28, 29, 30, 31] (by decide +kernel) (by decide +kernel)
set_option maxRecDepth 20000 in
theorem gX0_isDecidedByHit_X0_isInExtra : GoodIn wsX0_isDecidedByHit (wsV RX0 65 RX0 yX0_isInExtra wsX0_isInExtra) := goodIn_app (goodIn_of _ (by decide +kernel)) ggX0_isDecidedByHit_X0_isInExtra
set_option maxRecDepth 20000 in
theorem ggX0_isDecidedByHit_X0_goal : GoodIn wsX0_isDecidedByHit wsX0_goal := goodIn_r _ [22, 14, 15, 16, 7, 17, 18, 23, 24, 25, 26, 27, 28, 29, 30, 31] (by decide +kernel) (by decide +kernel)
set_option maxRecDepth 20000 in
theorem gX0_isDecidedByHit_X0_goal : GoodIn wsX0_isDecidedByHit (wsV RX0 68 RX0 yX0_goal wsX0_goal) := goodIn_app (goodIn_of _ (by decide +kernel)) ggX0_isDecidedByHit_X0_goal
theorem dX0_isDecidedByHit_0 : decode cX0_isDecidedByHit 0 = .ok (.aload_n 0, 1) := by decide +kernel
theorem dX0_isDecidedByHit_1 : decode cX0_isDecidedByHit 1 = .ok (.invokevirtual 65, 3) := by decide +kernel
theorem dX0_isDecidedByHit_4 : decode cX0_isDecidedByHit 4 = .ok (.ifCond .ne 31, 3) := by decide +kernel
theorem dX0_isDecidedByHit_7 : decode cX0_isDecidedByHit 7 = .ok (.aload_n 0, 1) := by decide +kernel
theorem dX0_isDecidedByHit_8 : decode cX0_isDecidedByHit 8 = .ok (.getfield 12, 3) := by decide +kernel
theorem dX0_isDecidedByHit_11 : decode cX0_isDecidedByHit 11 = .ok (.getfield 58, 3) := by decide +kernel
theorem dX0_isDecidedByHit_14 : decode cX0_isDecidedByHit 14 = .ok (.aload_n 0, 1) := by decide +kernel
theorem dX0_isDecidedByHit_15 : decode cX0_isDecidedByHit 15 = .ok (.invokevirtual 68, 3) := by decide +kernel
theorem dX0_isDecidedByHit_18 : decode cX0_isDecidedByHit 18 = .ok (.if_icmp .ge 17, 3) := by decide +kernel
theorem dX0_isDecidedByHit_21 : decode cX0_isDecidedByHit 21 = .ok (.aload_n 0, 1) := by decide +kernel
theorem dX0_isDecidedByHit_22 : decode cX0_isDecidedByHit 22 = .ok (.getfield 18, 3) := by decide +kernel
theorem dX0_isDecidedByHit_25 : decode cX0_isDecidedByHit 25 = .ok (.getfield 58, 3) := by decide +kernel
theorem dX0_isDecidedByHit_28 : decode cX0_isDecidedByHit 28 = .ok (.aload_n 0, 1) := by decide +kernel
theorem dX0_isDecidedByHit_29 : decode cX0_isDecidedByHit 29 = .ok (.invokevirtual 68, 3) := by decide +kernel
theorem dX0_isDecidedByHit_32 : decode cX0_isDecidedByHit 32 = .ok (.if_icmp .lt 7, 3) := by decide +kernel
theorem dX0_isDecidedByHit_35 : decode cX0_isDecidedByHit 35 = .ok (.iconst 1, 1) := by decide +kernel
theorem dX0_isDecidedByHit_36 : decode cX0_isDecidedByHit 36 = .ok (.goto 4, 3) := by decide +kernel
theorem dX0_isDecidedByHit_39 : decode cX0_isDecidedByHit 39 = .ok (.iconst 0, 1) := by decide +kernel
theorem dX0_isDecidedByHit_40 : decode cX0_isDecidedByHit 40 = .ok (.ireturn, 1) := by decide +kernel
set_option maxRecDepth 20000 in
theorem ggX0_secondsUntilOver_X0_isInExtra : GoodIn wsX0_secondsUntilOver wsX0_isInExtra := goodIn_r _ [10, 2, 11, 12, 13, 9, 14, 15, 16, 17, 18, 19, 20, 21, 22, 23, 24, 25, 26, 27, 28] (by decide +kernel) (by decide +kernel)
set_option maxRecDepth 20000 in
theorem gX0_secondsUntilOver_X0_isInExtra : GoodIn wsX0_secondsUntilOver (wsV RX0 65 RX0 yX0_isInExtra wsX0_isInExtra) := goodIn_app (goodIn_of _ (by decide +kernel)) ggX0_secondsUntilOver_X0_isInExtra
set_option maxRecDepth 20000 in
theorem ggX0_secondsUntilOver_X0_periods : GoodIn wsX0_secondsUntilOver wsX0_periods := goodIn_r _ [14, 15, 16, 17, 9, 18, 19, 20, 21, 22, 23, 24, 25, 26, 27, 28] (by decide +kernel) (by decide +kernel)
set_option maxRecDepth 20000 in
theorem gX0_secondsUntilOver_X0_periods : GoodIn wsX0_secondsUntilOver (wsV RX0 45 RX0 yX0_periods wsX0_periods) := goodIn_app (goodIn_of _ (by decide +kernel)) ggX0_secondsUntilOver_X0_periods
theorem dX0_secondsUntilOver_0 : decode cX0_secondsUntilOver 0 = .ok (.aload_n 0, 1) := by decide +kernel
theorem dX0_secondsUntilOver_1 : decode cX0_secondsUntilOver 1 = .ok (.invokevirtual 65, 3) := by decide +kernel
theorem dX0_secondsUntilOver_4 : decode cX0_secondsUntilOver 4 = .ok (.ifCond .eq 8, 3) := by decide +kernel
theorem dX0_secondsUntilOver_7 : decode cX0_secondsUntilOver 7 = .ok (.aload_n 0, 1) := by decide +kernel
theorem dX0_secondsUntilOver_8 : decode cX0_secondsUntilOver 8 = .ok (.getfield 71, 3) := by decide +kernel
theorem dX0_secondsUntilOver_11 : decode cX0_secondsUntilOver 11 = .ok (.ireturn, 1) := by decide +kernel
theorem dX0_secondsUntilOver_12 : decode cX0_secondsUntilOver 12 = .ok (.aload_n 0, 1) := by decide +kernel
theorem dX0_secondsUntilOver_13 : decode cX0_secondsUntilOver 13 = .ok (.getfield 71, 3) := by decide +kernel
theorem dX0_secondsUntilOver_16 : decode cX0_secondsUntilOver 16 = .ok (.aload_n 0, 1) := by decide +kernel
theorem dX0_secondsUntilOver_17 : decode cX0_secondsUntilOver 17 = .ok (.invokevirtual 45, 3) := by decide +kernel
theorem dX0_secondsUntilOver_20 : decode cX0_secondsUntilOver 20 = .ok (.aload_n 0, 1) := by decide +kernel
theorem dX0_secondsUntilOver_21 : decode cX0_secondsUntilOver 21 = .ok (.getfield 42, 3) := by decide +kernel
theorem dX0_secondsUntilOver_24 : decode cX0_secondsUntilOver 24 = .ok (.isub, 1) := by decide +kernel
theorem dX0_secondsUntilOver_25 : decode cX0_secondsUntilOver 25 = .ok (.sipush 180, 3) := by decide +kernel
theorem dX0_secondsUntilOver_28 : decode cX0_secondsUntilOver 28 = .ok (.imul, 1) := by decide +kernel
theorem dX0_secondsUntilOver_29 : decode cX0_secondsUntilOver 29 = .ok (.iadd, 1) := by decide +kernel
theorem dX0_secondsUntilOver_30 : decode cX0_secondsUntilOver 30 = .ok (.istore_n 1, 1) := by decide +kernel
theorem dX0_secondsUntilOver_31 : decode cX0_secondsUntilOver 31 = .ok (.aload_n 0, 1) := by decide +kernel
theorem dX0_secondsUntilOver_32 : decode cX0_secondsUntilOver 32 = .ok (.getfield 12, 3) := by decide +kernel
theorem dX0_secondsUntilOver_35 : decode cX0_secondsUntilOver 35 = .ok (.getfield 58, 3) := by decide +kernel
theorem dX0_secondsUntilOver_38 : decode cX0_secondsUntilOver 38 = .ok (.aload_n 0, 1) := by decide +kernel
theorem dX0_secondsUntilOver_39 : decode cX0_secondsUntilOver 39 = .ok (.getfield 18, 3) := by decide +kernel
theorem dX0_secondsUntilOver_42 : decode cX0_secondsUntilOver 42 = .ok (.getfield 58, 3) := by decide +kernel
theorem dX0_secondsUntilOver_45 : decode cX0_secondsUntilOver 45 = .ok (.if_icmp .ne 10, 3) := by decide +kernel
theorem dX0_secondsUntilOver_48 : decode cX0_secondsUntilOver 48 = .ok (.iload_n 1, 1) := by decide +kernel
theorem dX0_secondsUntilOver_49 : decode cX0_secondsUntilOver 49 = .ok (.bipush 60, 2) := by decide +kernel
theorem dX0_secondsUntilOver_51 : decode cX0_secondsUntilOver 51 = .ok (.iadd, 1) := by decide +kernel
theorem dX0_secondsUntilOver_52 : decode cX0_secondsUntilOver 52 = .ok (.goto 4, 3) := by decide +kernel
theorem dX0_secondsUntilOver_55 : decode cX0_secondsUntilOver 55 = .ok (.iload_n 1, 1) := by decide +kernel
theorem dX0_secondsUntilOver_56 : decode cX0_secondsUntilOver 56 = .ok (.ireturn, 1) := by decide +kernel
set_option maxRecDepth 20000 in
theorem ggX0_begin_X2_begin : GoodIn wsX0_begin wsX2_begin := goodIn_r _ [11, 12, 13, 23, 24, 25, 26, 27, 28, 29, 30, 31, 32, 33, 34, 35, 36, 37, 38, 39] (by decide +kernel) (by decide +kernel)
set_option maxRecDepth 20000 in
theorem gX0_begin_X2_begin : GoodIn wsX0_begin (wsV RX0 74 RX2 yX2_begin wsX2_begin) := goodIn_app (goodIn_of _ (by decide +kernel)) ggX0_begin_X2_begin
theorem dX0_begin_0 : decode cX0_begin 0 = .ok (.aload_n 0, 1) := by decide +kernel
theorem dX0_begin_1 : decode cX0_begin 1 = .ok (.iconst 1, 1) := by decide +kernel
theorem dX0_begin_2 : decode cX0_begin 2 = .ok (.putfield 21, 3) := by decide +kernel
theorem dX0_begin_5 : decode cX0_begin 5 = .ok (.aload_n 0, 1) := by decide +kernel
theorem dX0_begin_6 : decode cX0_begin 6 = .ok (.iload_n 1, 1) := by decide +kernel
theorem dX0_begin_7 : decode cX0_begin 7 = .ok (.putfield 25, 3) := by decide +kernel
theorem dX0_begin_10 : decode cX0_begin 10 = .ok (.aload_n 0, 1) := by decide +kernel
theorem dX0_begin_11 : decode cX0_begin 11 = .ok (.iconst 1, 1) := by decide +kernel
theorem dX0_begin_12 : decode cX0_begin 12 = .ok (.putfield 42, 3) := by decide +kernel
theorem dX0_begin_15 : decode cX0_begin 15 = .ok (.aload_n 0, 1) := by decide +kernel
theorem dX0_begin_16 : decode cX0_begin 16 = .ok (.sipush 180, 3) := by decide +kernel
theorem dX0_begin_19 : decode cX0_begin 19 = .ok (.putfield 71, 3) := by decide +kernel
theorem dX0_begin_22 : decode cX0_begin 22 = .ok (.aload_n 0, 1) := by decide +kernel
theorem dX0_begin_23 : decode cX0_begin 23 = .ok (.getfield 12, 3) := by decide +kernel
theorem dX0_begin_26 : decode cX0_begin 26 = .ok (.aload_n 0, 1) := by decide +kernel
theorem dX0_begin_27 : decode cX0_begin 27 = .ok (.invokevirtual 74, 3) := by decide +kernel
theorem dX0_begin_30 : decode cX0_begin 30 = .ok (.aload_n 0, 1) := by decide +kernel
theorem dX0_begin_31 : decode cX0_begin 31 = .ok (.getfield 18, 3) := by decide +kernel
theorem dX0_begin_34 : decode cX0_begin 34 = .ok (.aload_n 0, 1) := by decide +kernel
theorem dX0_begin_35 : decode cX0_begin 35 = .ok (.invokevirtual 74, 3) := by decide +kernel
theorem dX0_begin_38 : decode cX0_begin 38 = .ok (.return_, 1) := by decide +kernel
set_option maxRecDepth 20000 in
theorem ggX0_goOn_X0_periods : GoodIn wsX0_goOn wsX0_periods := goodIn_r _ [7, 8, 9, 10, 6, 11, 12, 17, 18, 19, 20, 21, 22, 23, 24, 25] (by decide +kernel) (by decide +kernel)
set_option maxRecDepth 20000 in
theorem gX0_goOn_X0_periods : GoodIn wsX0_goOn (wsV RX0 45 RX0 yX0_periods wsX0_periods) := goodIn_app (goodIn_of _ (by decide +kernel)) ggX0_goOn_X0_periods
set_option maxRecDepth 20000 in
theorem ggX0_goOn_X0_isInExtra : GoodIn wsX0_goOn wsX0_isInExtra := goodIn_r _ [16, 2, 3, 4, 5, 6, 7, 8, 9, 10, 11, 12, 17, 18, 19, 20, 21, 22, 23, 24, 25] (by decide +kernel) (by decide +kernel)
set_option maxRecDepth 20000 in
theorem gX0_goOn_X0_isInExtra : GoodIn wsX0_goOn (wsV RX0 65 RX0 yX0_isInExtra wsX0_isInExtra) := goodIn_app (goodIn_of _ (by decide +kernel)) ggX0_goOn_X0_isInExtra
theorem dX0_goOn_0 : decode cX0_goOn 0 = .ok (.iload_n 1, 1) := by decide +kernel
theorem dX0_goOn_1 : decode cX0_goOn 1 = .ok (.istore_n 2, 1) := by decide +kernel
theorem dX0_goOn_2 : decode cX0_goOn 2 = .ok (.iload_n 2, 1) := by decide +kernel
theorem dX0_goOn_3 : decode cX0_goOn 3 = .ok (.aload_n 0, 1) := by decide +kernel
theorem dX0_goOn_4 : decode cX0_goOn 4 = .ok (.getfield 71, 3) := by decide +kernel
theorem dX0_goOn_7 : decode cX0_goOn 7 = .ok (.if_icmp .lt 53, 3) := by decide +kernel
theorem dX0_goOn_10 : decode cX0_goOn 10 = .ok (.aload_n 0, 1) := by decide +kernel
theorem dX0_goOn_11 : decode cX0_goOn 11 = .ok (.getfield 42, 3) := by decide +kernel
theorem dX0_goOn_14 : decode cX0_goOn 14 = .ok (.aload_n 0, 1) := by decide +kernel
theorem dX0_goOn_15 : decode cX0_goOn 15 = .ok (.invokevirtual 45, 3) := by decide +kernel
theorem dX0_goOn_18 : decode cX0_goOn 18 = .ok (.if_icmp .gt 42, 3) := by decide +kernel
theorem dX0_goOn_21 : decode cX0_goOn 21 = .ok (.iload_n 2, 1) := by decide +kernel
theorem dX0_goOn_22 : decode cX0_goOn 22 = .ok (.aload_n 0, 1) := by decide +kernel
theorem dX0_goOn_23 : decode cX0_goOn 23 = .ok (.getfield 71, 3) := by decide +kernel
theorem dX0_goOn_26 : decode cX0_goOn 26 = .ok (.isub, 1) := by decide +kernel
theorem dX0_goOn_27 : decode cX0_goOn 27 = .ok (.istore_n 2, 1) := by decide +kernel
theorem dX0_goOn_28 : decode cX0_goOn 28 = .ok (.aload_n 0, 1) := by decide +kernel
theorem dX0_goOn_29 : decode cX0_goOn 29 = .ok (.dup, 1) := by decide +kernel
theorem dX0_goOn_30 : decode cX0_goOn 30 = .ok (.getfield 42, 3) := by decide +kernel
theorem dX0_goOn_33 : decode cX0_goOn 33 = .ok (.iconst 1, 1) := by decide +kernel
theorem dX0_goOn_34 : decode cX0_goOn 34 = .ok (.iadd, 1) := by decide +kernel
theorem dX0_goOn_35 : decode cX0_goOn 35 = .ok (.putfield 42, 3) := by decide +kernel
theorem dX0_goOn_38 : decode cX0_goOn 38 = .ok (.aload_n 0, 1) := by decide +kernel
theorem dX0_goOn_39 : decode cX0_goOn 39 = .ok (.aload_n 0, 1) := by decide +kernel
theorem dX0_goOn_40 : decode cX0_goOn 40 = .ok (.invokevirtual 65, 3) := by decide +kernel
theorem dX0_goOn_43 : decode cX0_goOn 43 = .ok (.ifCond .eq 8, 3) := by decide +kernel
theorem dX0_goOn_46 : decode cX0_goOn 46 = .ok (.bipush 60, 2) := by decide +kernel
theorem dX0_goOn_48 : decode cX0_goOn 48 = .ok (.goto 6, 3) := by decide +kernel
theorem dX0_goOn_51 : decode cX0_goOn 51 = .ok (.sipush 180, 3) := by decide +kernel
theorem dX0_goOn_54 : decode cX0_goOn 54 = .ok (.putfield 71, 3) := by decide +kernel
theorem dX0_goOn_57 : decode cX0_goOn 57 = .ok (.goto (-55), 3) := by decide +kernel
theorem dX0_goOn_60 : decode cX0_goOn 60 = .ok (.aload_n 0, 1) := by decide +kernel
theorem dX0_goOn_61 : decode cX0_goOn 61 = .ok (.dup, 1) := by decide +kernel
theorem dX0_goOn_62 : decode cX0_goOn 62 = .ok (.getfield 71, 3) := by decide +kernel
theorem dX0_goOn_65 : decode cX0_goOn 65 = .ok (.iload_n 2, 1) := by decide +kernel
theorem dX0_goOn_66 : decode cX0_goOn 66 = .ok (.isub, 1) := by decide +kernel
theorem dX0_goOn_67 : decode cX0_goOn 67 = .ok (.putfield 71, 3) := by decide +kernel
theorem dX0_goOn_70 : decode cX0_goOn 70 = .ok (.return_, 1) := by decide +kernel
set_option maxRecDepth 20000 in
theorem ggX0_end_X2_end : GoodIn wsX0_end wsX2_end := goodIn_r _ [10, 11, 12, 13, 23, 24, 25, 26, 27, 28, 29, 30, 31, 32, 33, 34, 35, 36, 37, 38, 39] (by decide +kernel) (by decide +kernel)
set_option maxRecDepth 20000 in
theorem gX0_end_X2_end : GoodIn wsX0_end (wsV RX0 78 RX2 yX2_end wsX2_end) := goodIn_app (goodIn_of _ (by decide +kernel)) ggX0_end_X2_end
theorem dX0_end_0 : decode cX0_end 0 = .ok (.aload_n 0, 1) := by decide +kernel
theorem dX0_end_1 : decode cX0_end 1 = .ok (.iconst (-1), 1) := by decide +kernel
theorem dX0_end_2 : decode cX0_end 2 = .ok (.putfield 25, 3) := by decide +kernel
theorem dX0_end_5 : decode cX0_end 5 = .ok (.aload_n 0, 1) := by decide +kernel
theorem dX0_end_6 : decode cX0_end 6 = .ok (.iconst 0, 1) := by decide +kernel
theorem dX0_end_7 : decode cX0_end 7 = .ok (.putfield 42, 3) := by decide +kernel
theorem dX0_end_10 : decode cX0_end 10 = .ok (.aload_n 0, 1) := by decide +kernel
theorem dX0_end_11 : decode cX0_end 11 = .ok (.iconst 0, 1) := by decide +kernel
theorem dX0_end_12 : decode cX0_end 12 = .ok (.putfield 71, 3) := by decide +kernel
theorem dX0_end_15 : decode cX0_end 15 = .ok (.aload_n 0, 1) := by decide +kernel
theorem dX0_end_16 : decode cX0_end 16 = .ok (.getfield 12, 3) := by decide +kernel
theorem dX0_end_19 : decode cX0_end 19 = .ok (.iload_n 1, 1) := by decide +kernel
theorem dX0_end_20 : decode cX0_end 20 = .ok (.invokevirtual 78, 3) := by decide +kernel
theorem dX0_end_23 : decode cX0_end 23 = .ok (.aload_n 0, 1) := by decide +kernel
theorem dX0_end_24 : decode cX0_end 24 = .ok (.getfield 18, 3) := by decide +kernel
theorem dX0_end_27 : decode cX0_end 27 = .ok (.iload_n 1, 1) := by decide +kernel
theorem dX0_end_28 : decode cX0_end 28 = .ok (.invokevirtual 78, 3) := by decide +kernel
theorem dX0_end_31 : decode cX0_end 31 = .ok (.return_, 1) := by decide +kernel
set_option maxRecDepth 20000 in
theorem ggX0_count_X2_count : GoodIn wsX0_count wsX2_count := goodIn_r _ [7, 8, 9, 10, 11, 12, 13, 14, 15, 16, 17, 27, 28, 29, 30, 31, 32, 33, 34, 35, 36, 37, 38, 39, 40, 41, 42, 43] (by decide +kernel) (by decide +kernel)
set_option maxRecDepth 20000 in
theorem gX0_count_X2_count : GoodIn wsX0_count (wsV RX0 82 RX2 yX2_count wsX2_count) := goodIn_app (goodIn_of _ (by decide +kernel)) ggX0_count_X2_count
theorem dX0_count_0 : decode cX0_count 0 = .ok (.aload_n 0, 1) := by decide +kernel
theorem dX0_count_1 : decode cX0_count 1 = .ok (.getfield 12, 3) := by decide +kernel
theorem dX0_count_4 : decode cX0_count 4 = .ok (.aload_n 1, 1) := by decide +kernel
theorem dX0_count_5 : decode cX0_count 5 = .ok (.iload_n 2, 1) := by decide +kernel
theorem dX0_count_6 : decode cX0_count 6 = .ok (.iload_n 3, 1) := by decide +kernel
theorem dX0_count_7 : decode cX0_count 7 = .ok (.iload 4, 2) := by decide +kernel
theorem dX0_count_9 : decode cX0_count 9 = .ok (.invokevirtual 82, 3) := by decide +kernel
theorem dX0_count_12 : decode cX0_count 12 = .ok (.aload_n 0, 1) := by decide +kernel
theorem dX0_count_13 : decode cX0_count 13 = .ok (.getfield 18, 3) := by decide +kernel
theorem dX0_count_16 : decode cX0_count 16 = .ok (.aload_n 1, 1) := by decide +kernel
theorem dX0_count_17 : decode cX0_count 17 = .ok (.iload_n 3, 1) := by decide +kernel
theorem dX0_count_18 : decode cX0_count 18 = .ok (.iload_n 2, 1) := by decide +kernel
theorem dX0_count_19 : decode cX0_count 19 = .ok (.iload 4, 2) := by decide +kernel
theorem dX0_count_21 : decode cX0_count 21 = .ok (.invokevirtual 82, 3) := by decide +kernel
theorem dX0_count_24 : decode cX0_count 24 = .ok (.return_, 1) := by decide +kernel
theorem dX1_init_0 : decode cX1_init 0 = .ok (.aload_n 0, 1) := by decide +kernel
theorem dX1_init_1 : decode cX1_init 1 = .ok (.invokespecial 3, 3) := by decide +kernel
theorem dX1_init_4 : decode cX1_init 4 = .ok (.aload_n 0, 1) := by decide +kernel
theorem dX1_init_5 : decode cX1_init 5 = .ok (.iconst (-1), 1) := by decide +kernel
theorem dX1_init_6 : decode cX1_init 6 = .ok (.putfield 9, 3) := by decide +kernel
theorem dX1_init_9 : decode cX1_init 9 = .ok (.aload_n 0, 1) := by decide +kernel
theorem dX1_init_10 : decode cX1_init 10 = .ok (.iconst (-1), 1) := by decide +kernel
theorem dX1_init_11 : decode cX1_init 11 = .ok (.putfield 15, 3) := by decide +kernel
theorem dX1_init_14 : decode cX1_init 14 = .ok (.aload_n 0, 1) := by decide +kernel
theorem dX1_init_15 : decode cX1_init 15 = .ok (.iconst (-1), 1) := by decide +kernel
theorem dX1_init_16 : decode cX1_init 16 = .ok (.putfield 18, 3) := by decide +kernel
theorem dX1_init_19 : decode cX1_init 19 = .ok (.aload_n 0, 1) := by decide +kernel
theorem dX1_init_20 : decode cX1_init 20 = .ok (.iconst (-1), 1) := by decide +kernel
theorem dX1_init_21 : decode cX1_init 21 = .ok (.putfield 21, 3) := by decide +kernel
theorem dX1_init_24 : decode cX1_init 24 = .ok (.aload_n 0, 1) := by decide +kernel
theorem dX1_init_25 : decode cX1_init 25 = .ok (.iload_n 1, 1) := by decide +kernel
theorem dX1_init_26 : decode cX1_init 26 = .ok (.putfield 24, 3) := by decide +kernel
theorem dX1_init_29 : decode cX1_init 29 = .ok (.aload_n 0, 1) := by decide +kernel
theorem dX1_init_30 : decode cX1_init 30 = .ok (.iload_n 2, 1) := by decide +kernel
theorem dX1_init_31 : decode cX1_init 31 = .ok (.putfield 27, 3) := by decide +kernel
theorem dX1_init_34 : decode cX1_init 34 = .ok (.aload_n 0, 1) := by decide +kernel
theorem dX1_init_35 : decode cX1_init 35 = .ok (.iload_n 3, 1) := by decide +kernel
theorem dX1_init_36 : decode cX1_init 36 = .ok (.putfield 30, 3) := by decide +kernel
theorem dX1_init_39 : decode cX1_init 39 = .ok (.return_, 1) := by decide +kernel
theorem dX1_count_0 : decode cX1_count 0 = .ok (.aload_n 0, 1) := by decide +kernel
theorem dX1_count_1 : decode cX1_count 1 = .ok (.dup, 1) := by decide +kernel
theorem dX1_count_2 : decode cX1_count 2 = .ok (.getfield 33, 3) := by decide +kernel
theorem dX1_count_5 : decode cX1_count 5 = .ok (.iload 4, 2) := by decide +kernel
theorem dX1_count_7 : decode cX1_count 7 = .ok (.iadd, 1) := by decide +kernel
theorem dX1_count_8 : decode cX1_count 8 = .ok (.putfield 33, 3) := by decide +kernel
theorem dX1_count_11 : decode cX1_count 11 = .ok (.aload_n 0, 1) := by decide +kernel
theorem dX1_count_12 : decode cX1_count 12 = .ok (.dup, 1) := by decide +kernel
theorem dX1_count_13 : decode cX1_count 13 = .ok (.getfield 36, 3) := by decide +kernel
theorem dX1_count_16 : decode cX1_count 16 = .ok (.iload_n 1, 1) := by decide +kernel
theorem dX1_count_17 : decode cX1_count 17 = .ok (.ifCond .eq 8, 3) := by decide +kernel
theorem dX1_count_20 : decode cX1_count 20 = .ok (.iload 4, 2) := by decide +kernel
theorem dX1_count_22 : decode cX1_count 22 = .ok (.goto 4, 3) := by decide +kernel
theorem dX1_count_25 : decode cX1_count 25 = .ok (.iconst 0, 1) := by decide +kernel
theorem dX1_count_26 : decode cX1_count 26 = .ok (.iadd, 1) := by decide +kernel
theorem dX1_count_27 : decode cX1_count 27 = .ok (.putfield 36, 3) := by decide +kernel
theorem dX1_count_30 : decode cX1_count 30 = .ok (.aload_n 0, 1) := by decide +kernel
theorem dX1_count_31 : decode cX1_count 31 = .ok (.dup, 1) := by decide +kernel
theorem dX1_count_32 : decode cX1_count 32 = .ok (.getfield 39, 3) := by decide +kernel
theorem dX1_count_35 : decode cX1_count 35 = .ok (.iload_n 2, 1) := by decide +kernel
theorem dX1_count_36 : decode cX1_count 36 = .ok (.iload 4, 2) := by decide +kernel
theorem dX1_count_38 : decode cX1_count 38 = .ok (.imul, 1) := by decide +kernel
theorem dX1_count_39 : decode cX1_count 39 = .ok (.iadd, 1) := by decide +kernel
theorem dX1_count_40 : decode cX1_count 40 = .ok (.putfield 39, 3) := by decide +kernel
theorem dX1_count_43 : decode cX1_count 43 = .ok (.aload_n 0, 1) := by decide +kernel
theorem dX1_count_44 : decode cX1_count 44 = .ok (.dup, 1) := by decide +kernel
theorem dX1_count_45 : decode cX1_count 45 = .ok (.getfield 42, 3) := by decide +kernel
theorem dX1_count_48 : decode cX1_count 48 = .ok (.iload_n 3, 1) := by decide +kernel
theorem dX1_count_49 : decode cX1_count 49 = .ok (.iload 4, 2) := by decide +kernel
theorem dX1_count_51 : decode cX1_count 51 = .ok (.imul, 1) := by decide +kernel
theorem dX1_count_52 : decode cX1_count 52 = .ok (.iadd, 1) := by decide +kernel
theorem dX1_count_53 : decode cX1_count 53 = .ok (.putfield 42, 3) := by decide +kernel
theorem dX1_count_56 : decode cX1_count 56 = .ok (.return_, 1) := by decide +kernel
theorem dX1_isAheadOf_0 : decode cX1_isAheadOf 0 = .ok (.aload_n 0, 1) := by decide +kernel
theorem dX1_isAheadOf_1 : decode cX1_isAheadOf 1 = .ok (.getfield 45, 3) := by decide +kernel
theorem dX1_isAheadOf_4 : decode cX1_isAheadOf 4 = .ok (.aload_n 1, 1) := by decide +kernel
theorem dX1_isAheadOf_5 : decode cX1_isAheadOf 5 = .ok (.getfield 45, 3) := by decide +kernel
theorem dX1_isAheadOf_8 : decode cX1_isAheadOf 8 = .ok (.if_icmp .eq 8, 3) := by decide +kernel
theorem dX1_isAheadOf_11 : decode cX1_isAheadOf 11 = .ok (.aload_n 1, 1) := by decide +kernel
theorem dX1_isAheadOf_12 : decode cX1_isAheadOf 12 = .ok (.getfield 45, 3) := by decide +kernel
theorem dX1_isAheadOf_15 : decode cX1_isAheadOf 15 = .ok (.ireturn, 1) := by decide +kernel
theorem dX1_isAheadOf_16 : decode cX1_isAheadOf 16 = .ok (.aload_n 0, 1) := by decide +kernel
theorem dX1_isAheadOf_17 : decode cX1_isAheadOf 17 = .ok (.getfield 36, 3) := by decide +kernel
theorem dX1_isAheadOf_20 : decode cX1_isAheadOf 20 = .ok (.aload_n 1, 1) := by decide +kernel
theorem dX1_isAheadOf_21 : decode cX1_isAheadOf 21 = .ok (.getfield 33, 3) := by decide +kernel
theorem dX1_isAheadOf_24 : decode cX1_isAheadOf 24 = .ok (.iconst 1, 1) := by decide +kernel
theorem dX1_isAheadOf_25 : decode cX1_isAheadOf 25 = .ok (.invokestatic 49, 3) := by decide +kernel
theorem dX1_isAheadOf_28 : decode cX1_isAheadOf 28 = .ok (.imul, 1) := by decide +kernel
theorem dX1_isAheadOf_29 : decode cX1_isAheadOf 29 = .ok (.istore_n 2, 1) := by decide +kernel
theorem dX1_isAheadOf_30 : decode cX1_isAheadOf 30 = .ok (.aload_n 1, 1) := by decide +kernel
theorem dX1_isAheadOf_31 : decode cX1_isAheadOf 31 = .ok (.getfield 36, 3) := by decide +kernel
theorem dX1_isAheadOf_34 : decode cX1_isAheadOf 34 = .ok (.aload_n 0, 1) := by decide +kernel
theorem dX1_isAheadOf_35 : decode cX1_isAheadOf 35 = .ok (.getfield 33, 3) := by decide +kernel
theorem dX1_isAheadOf_38 : decode cX1_isAheadOf 38 = .ok (.iconst 1, 1) := by decide +kernel
theorem dX1_isAheadOf_39 : decode cX1_isAheadOf 39 = .ok (.invokestatic 49, 3) := by decide +kernel
theorem dX1_isAheadOf_42 : decode cX1_isAheadOf 42 = .ok (.imul, 1) := by decide +kernel
theorem dX1_isAheadOf_43 : decode cX1_isAheadOf 43 = .ok (.istore_n 3, 1) := by decide +kernel
theorem dX1_isAheadOf_44 : decode cX1_isAheadOf 44 = .ok (.iload_n 2, 1) := by decide +kernel
theorem dX1_isAheadOf_45 : decode cX1_isAheadOf 45 = .ok (.iload_n 3, 1) := by decide +kernel
theorem dX1_isAheadOf_46 : decode cX1_isAheadOf 46 = .ok (.if_icmp .eq 14, 3) := by decide +kernel
theorem dX1_isAheadOf_49 : decode cX1_isAheadOf 49 = .ok (.iload_n 2, 1) := by decide +kernel
theorem dX1_isAheadOf_50 : decode cX1_isAheadOf 50 = .ok (.iload_n 3, 1) := by decide +kernel
theorem dX1_isAheadOf_51 : decode cX1_isAheadOf 51 = .ok (.if_icmp .le 7, 3) := by decide +kernel
theorem dX1_isAheadOf_54 : decode cX1_isAheadOf 54 = .ok (.iconst 1, 1) := by decide +kernel
theorem dX1_isAheadOf_55 : decode cX1_isAheadOf 55 = .ok (.goto 4, 3) := by decide +kernel
theorem dX1_isAheadOf_58 : decode cX1_isAheadOf 58 = .ok (.iconst 0, 1) := by decide +kernel
theorem dX1_isAheadOf_59 : decode cX1_isAheadOf 59 = .ok (.ireturn, 1) := by decide +kernel
theorem dX1_isAheadOf_60 : decode cX1_isAheadOf 60 = .ok (.aload_n 0, 1) := by decide +kernel
theorem dX1_isAheadOf_61 : decode cX1_isAheadOf 61 = .ok (.getfield 39, 3) := by decide +kernel
theorem dX1_isAheadOf_64 : decode cX1_isAheadOf 64 = .ok (.aload_n 0, 1) := by decide +kernel
theorem dX1_isAheadOf_65 : decode cX1_isAheadOf 65 = .ok (.getfield 42, 3) := by decide +kernel
theorem dX1_isAheadOf_68 : decode cX1_isAheadOf 68 = .ok (.isub, 1) := by decide +kernel
theorem dX1_isAheadOf_69 : decode cX1_isAheadOf 69 = .ok (.aload_n 1, 1) := by decide +kernel
theorem dX1_isAheadOf_70 : decode cX1_isAheadOf 70 = .ok (.getfield 39, 3) := by decide +kernel
theorem dX1_isAheadOf_73 : decode cX1_isAheadOf 73 = .ok (.aload_n 1, 1) := by decide +kernel
theorem dX1_isAheadOf_74 : decode cX1_isAheadOf 74 = .ok (.getfield 42, 3) := by decide +kernel
theorem dX1_isAheadOf_77 : decode cX1_isAheadOf 77 = .ok (.isub, 1) := by decide +kernel
theorem dX1_isAheadOf_78 : decode cX1_isAheadOf 78 = .ok (.if_icmp .eq 30, 3) := by decide +kernel
theorem dX1_isAheadOf_81 : decode cX1_isAheadOf 81 = .ok (.aload_n 0, 1) := by decide +kernel
theorem dX1_isAheadOf_82 : decode cX1_isAheadOf 82 = .ok (.getfield 39, 3) := by decide +kernel
theorem dX1_isAheadOf_85 : decode cX1_isAheadOf 85 = .ok (.aload_n 0, 1) := by decide +kernel
theorem dX1_isAheadOf_86 : decode cX1_isAheadOf 86 = .ok (.getfield 42, 3) := by decide +kernel
theorem dX1_isAheadOf_89 : decode cX1_isAheadOf 89 = .ok (.isub, 1) := by decide +kernel
theorem dX1_isAheadOf_90 : decode cX1_isAheadOf 90 = .ok (.aload_n 1, 1) := by decide +kernel
theorem dX1_isAheadOf_91 : decode cX1_isAheadOf 91 = .ok (.getfield 39, 3) := by decide +kernel
theorem dX1_isAheadOf_94 : decode cX1_isAheadOf 94 = .ok (.aload_n 1, 1) := by decide +kernel
theorem dX1_isAheadOf_95 : decode cX1_isAheadOf 95 = .ok (.getfield 42, 3) := by decide +kernel
theorem dX1_isAheadOf_98 : decode cX1_isAheadOf 98 = .ok (.isub, 1) := by decide +kernel
theorem dX1_isAheadOf_99 : decode cX1_isAheadOf 99 = .ok (.if_icmp .le 7, 3) := by decide +kernel
theorem dX1_isAheadOf_102 : decode cX1_isAheadOf 102 = .ok (.iconst 1, 1) := by decide +kernel
theorem dX1_isAheadOf_103 : decode cX1_isAheadOf 103 = .ok (.goto 4, 3) := by decide +kernel
theorem dX1_isAheadOf_106 : decode cX1_isAheadOf 106 = .ok (.iconst 0, 1) := by decide +kernel
theorem dX1_isAheadOf_107 : decode cX1_isAheadOf 107 = .ok (.ireturn, 1) := by decide +kernel
theorem dX1_isAheadOf_108 : decode cX1_isAheadOf 108 = .ok (.aload_n 0, 1) := by decide +kernel
theorem dX1_isAheadOf_109 : decode cX1_isAheadOf 109 = .ok (.getfield 39, 3) := by decide +kernel
theorem dX1_isAheadOf_112 : decode cX1_isAheadOf 112 = .ok (.aload_n 1, 1) := by decide +kernel
theorem dX1_isAheadOf_113 : decode cX1_isAheadOf 113 = .ok (.getfield 39, 3) := by decide +kernel
theorem dX1_isAheadOf_116 : decode cX1_isAheadOf 116 = .ok (.if_icmp .eq 20, 3) := by decide +kernel
theorem dX1_isAheadOf_119 : decode cX1_isAheadOf 119 = .ok (.aload_n 0, 1) := by decide +kernel
theorem dX1_isAheadOf_120 : decode cX1_isAheadOf 120 = .ok (.getfield 39, 3) := by decide +kernel
theorem dX1_isAheadOf_123 : decode cX1_isAheadOf 123 = .ok (.aload_n 1, 1) := by decide +kernel
theorem dX1_isAheadOf_124 : decode cX1_isAheadOf 124 = .ok (.getfield 39, 3) := by decide +kernel
theorem dX1_isAheadOf_127 : decode cX1_isAheadOf 127 = .ok (.if_icmp .le 7, 3) := by decide +kernel
theorem dX1_isAheadOf_130 : decode cX1_isAheadOf 130 = .ok (.iconst 1, 1) := by decide +kernel
theorem dX1_isAheadOf_131 : decode cX1_isAheadOf 131 = .ok (.goto 4, 3) := by decide +kernel
theorem dX1_isAheadOf_134 : decode cX1_isAheadOf 134 = .ok (.iconst 0, 1) := by decide +kernel
theorem dX1_isAheadOf_135 : decode cX1_isAheadOf 135 = .ok (.ireturn, 1) := by decide +kernel
theorem dX1_isAheadOf_136 : decode cX1_isAheadOf 136 = .ok (.aload_n 0, 1) := by decide +kernel
theorem dX1_isAheadOf_137 : decode cX1_isAheadOf 137 = .ok (.getfield 27, 3) := by decide +kernel
theorem dX1_isAheadOf_140 : decode cX1_isAheadOf 140 = .ok (.aload_n 1, 1) := by decide +kernel
theorem dX1_isAheadOf_141 : decode cX1_isAheadOf 141 = .ok (.getfield 27, 3) := by decide +kernel
theorem dX1_isAheadOf_144 : decode cX1_isAheadOf 144 = .ok (.if_icmp .eq 20, 3) := by decide +kernel
theorem dX1_isAheadOf_147 : decode cX1_isAheadOf 147 = .ok (.aload_n 0, 1) := by decide +kernel
theorem dX1_isAheadOf_148 : decode cX1_isAheadOf 148 = .ok (.getfield 27, 3) := by decide +kernel
theorem dX1_isAheadOf_151 : decode cX1_isAheadOf 151 = .ok (.aload_n 1, 1) := by decide +kernel
theorem dX1_isAheadOf_152 : decode cX1_isAheadOf 152 = .ok (.getfield 27, 3) := by decide +kernel
theorem dX1_isAheadOf_155 : decode cX1_isAheadOf 155 = .ok (.if_icmp .ge 7, 3) := by decide +kernel
theorem dX1_isAheadOf_158 : decode cX1_isAheadOf 158 = .ok (.iconst 1, 1) := by decide +kernel
theorem dX1_isAheadOf_159 : decode cX1_isAheadOf 159 = .ok (.goto 4, 3) := by decide +kernel
theorem dX1_isAheadOf_162 : decode cX1_isAheadOf 162 = .ok (.iconst 0, 1) := by decide +kernel
theorem dX1_isAheadOf_163 : decode cX1_isAheadOf 163 = .ok (.ireturn, 1) := by decide +kernel
theorem dX1_isAheadOf_164 : decode cX1_isAheadOf 164 = .ok (.aload_n 0, 1) := by decide +kernel
theorem dX1_isAheadOf_165 : decode cX1_isAheadOf 165 = .ok (.getfield 24, 3) := by decide +kernel
theorem dX1_isAheadOf_168 : decode cX1_isAheadOf 168 = .ok (.aload_n 1, 1) := by decide +kernel
theorem dX1_isAheadOf_169 : decode cX1_isAheadOf 169 = .ok (.getfield 24, 3) := by decide +kernel
theorem dX1_isAheadOf_172 : decode cX1_isAheadOf 172 = .ok (.if_icmp .ge 7, 3) := by decide +kernel
theorem dX1_isAheadOf_175 : decode cX1_isAheadOf 175 = .ok (.iconst 1, 1) := by decide +kernel
theorem dX1_isAheadOf_176 : decode cX1_isAheadOf 176 = .ok (.goto 4, 3) := by decide +kernel
theorem dX1_isAheadOf_179 : decode cX1_isAheadOf 179 = .ok (.iconst 0, 1) := by decide +kernel
theorem dX1_isAheadOf_180 : decode cX1_isAheadOf 180 = .ok (.ireturn, 1) := by decide +kernel
set_option maxRecDepth 20000 in
theorem ggX1_isPlacedAheadOf_X1_isAheadOf : GoodIn wsX1_isPlacedAheadOf wsX1_isAheadOf := goodIn_r _ [7, 1, 8, 9, 10, 11, 12, 13, 14, 15, 16, 17, 18, 19, 20, 21, 22, 23, 24, 25, 26, 27, 28, 29, 30, 31] (by decide +kernel) (by decide +kernel)
set_option maxRecDepth 20000 in
theorem gX1_isPlacedAheadOf_X1_isAheadOf : GoodIn wsX1_isPlacedAheadOf (wsV RX1 55 RX1 yX1_isAheadOf wsX1_isAheadOf) := goodIn_app (goodIn_of _ (by decide +kernel)) ggX1_isPlacedAheadOf_X1_isAheadOf
theorem dX1_isPlacedAheadOf_0 : decode cX1_isPlacedAheadOf 0 = .ok (.aload_n 0, 1) := by decide +kernel
theorem dX1_isPlacedAheadOf_1 : decode cX1_isPlacedAheadOf 1 = .ok (.getfield 45, 3) := by decide +kernel
theorem dX1_isPlacedAheadOf_4 : decode cX1_isPlacedAheadOf 4 = .ok (.ifCond .ne 38, 3) := by decide +kernel
theorem dX1_isPlacedAheadOf_7 : decode cX1_isPlacedAheadOf 7 = .ok (.aload_n 1, 1) := by decide +kernel
theorem dX1_isPlacedAheadOf_8 : decode cX1_isPlacedAheadOf 8 = .ok (.getfield 45, 3) := by decide +kernel
theorem dX1_isPlacedAheadOf_11 : decode cX1_isPlacedAheadOf 11 = .ok (.ifCond .ne 31, 3) := by decide +kernel
theorem dX1_isPlacedAheadOf_14 : decode cX1_isPlacedAheadOf 14 = .ok (.aload_n 0, 1) := by decide +kernel
theorem dX1_isPlacedAheadOf_15 : decode cX1_isPlacedAheadOf 15 = .ok (.getfield 21, 3) := by decide +kernel
theorem dX1_isPlacedAheadOf_18 : decode cX1_isPlacedAheadOf 18 = .ok (.aload_n 1, 1) := by decide +kernel
theorem dX1_isPlacedAheadOf_19 : decode cX1_isPlacedAheadOf 19 = .ok (.getfield 21, 3) := by decide +kernel
theorem dX1_isPlacedAheadOf_22 : decode cX1_isPlacedAheadOf 22 = .ok (.if_icmp .eq 20, 3) := by decide +kernel
theorem dX1_isPlacedAheadOf_25 : decode cX1_isPlacedAheadOf 25 = .ok (.aload_n 0, 1) := by decide +kernel
theorem dX1_isPlacedAheadOf_26 : decode cX1_isPlacedAheadOf 26 = .ok (.getfield 21, 3) := by decide +kernel
theorem dX1_isPlacedAheadOf_29 : decode cX1_isPlacedAheadOf 29 = .ok (.aload_n 1, 1) := by decide +kernel
theorem dX1_isPlacedAheadOf_30 : decode cX1_isPlacedAheadOf 30 = .ok (.getfield 21, 3) := by decide +kernel
theorem dX1_isPlacedAheadOf_33 : decode cX1_isPlacedAheadOf 33 = .ok (.if_icmp .le 7, 3) := by decide +kernel
theorem dX1_isPlacedAheadOf_36 : decode cX1_isPlacedAheadOf 36 = .ok (.iconst 1, 1) := by decide +kernel
theorem dX1_isPlacedAheadOf_37 : decode cX1_isPlacedAheadOf 37 = .ok (.goto 4, 3) := by decide +kernel
theorem dX1_isPlacedAheadOf_40 : decode cX1_isPlacedAheadOf 40 = .ok (.iconst 0, 1) := by decide +kernel
theorem dX1_isPlacedAheadOf_41 : decode cX1_isPlacedAheadOf 41 = .ok (.ireturn, 1) := by decide +kernel
theorem dX1_isPlacedAheadOf_42 : decode cX1_isPlacedAheadOf 42 = .ok (.aload_n 0, 1) := by decide +kernel
theorem dX1_isPlacedAheadOf_43 : decode cX1_isPlacedAheadOf 43 = .ok (.aload_n 1, 1) := by decide +kernel
theorem dX1_isPlacedAheadOf_44 : decode cX1_isPlacedAheadOf 44 = .ok (.invokevirtual 55, 3) := by decide +kernel
theorem dX1_isPlacedAheadOf_47 : decode cX1_isPlacedAheadOf 47 = .ok (.ireturn, 1) := by decide +kernel
theorem dX2_init_0 : decode cX2_init 0 = .ok (.aload_n 0, 1) := by decide +kernel
theorem dX2_init_1 : decode cX2_init 1 = .ok (.invokespecial 3, 3) := by decide +kernel
theorem dX2_init_4 : decode cX2_init 4 = .ok (.return_, 1) := by decide +kernel
theorem dX2_isInLiveBout_0 : decode cX2_isInLiveBout 0 = .ok (.aload_n 0, 1) := by decide +kernel
theorem dX2_isInLiveBout_1 : decode cX2_isInLiveBout 1 = .ok (.getfield 9, 3) := by decide +kernel
theorem dX2_isInLiveBout_4 : decode cX2_isInLiveBout 4 = .ok (.ifnull 17, 3) := by decide +kernel
theorem dX2_isInLiveBout_7 : decode cX2_isInLiveBout 7 = .ok (.aload_n 0, 1) := by decide +kernel
theorem dX2_isInLiveBout_8 : decode cX2_isInLiveBout 8 = .ok (.getfield 9, 3) := by decide +kernel
theorem dX2_isInLiveBout_11 : decode cX2_isInLiveBout 11 = .ok (.getfield 15, 3) := by decide +kernel
theorem dX2_isInLiveBout_14 : decode cX2_isInLiveBout 14 = .ok (.ifnull 7, 3) := by decide +kernel
theorem dX2_isInLiveBout_17 : decode cX2_isInLiveBout 17 = .ok (.iconst 1, 1) := by decide +kernel
theorem dX2_isInLiveBout_18 : decode cX2_isInLiveBout 18 = .ok (.goto 4, 3) := by decide +kernel
theorem dX2_isInLiveBout_21 : decode cX2_isInLiveBout 21 = .ok (.iconst 0, 1) := by decide +kernel
theorem dX2_isInLiveBout_22 : decode cX2_isInLiveBout 22 = .ok (.ireturn, 1) := by decide +kernel
theorem dX2_restedAt_0 : decode cX2_restedAt 0 = .ok (.aload_n 0, 1) := by decide +kernel
theorem dX2_restedAt_1 : decode cX2_restedAt 1 = .ok (.getfield 9, 3) := by decide +kernel
theorem dX2_restedAt_4 : decode cX2_restedAt 4 = .ok (.ifnonnull 7, 3) := by decide +kernel
theorem dX2_restedAt_7 : decode cX2_restedAt 7 = .ok (.iconst 0, 1) := by decide +kernel
theorem dX2_restedAt_8 : decode cX2_restedAt 8 = .ok (.goto 10, 3) := by decide +kernel
theorem dX2_restedAt_11 : decode cX2_restedAt 11 = .ok (.aload_n 0, 1) := by decide +kernel
theorem dX2_restedAt_12 : decode cX2_restedAt 12 = .ok (.getfield 9, 3) := by decide +kernel
theorem dX2_restedAt_15 : decode cX2_restedAt 15 = .ok (.getfield 21, 3) := by decide +kernel
theorem dX2_restedAt_18 : decode cX2_restedAt 18 = .ok (.ireturn, 1) := by decide +kernel
theorem dX2_begin_0 : decode cX2_begin 0 = .ok (.aload_n 0, 1) := by decide +kernel
theorem dX2_begin_1 : decode cX2_begin 1 = .ok (.getfield 9, 3) := by decide +kernel
theorem dX2_begin_4 : decode cX2_begin 4 = .ok (.ifnull 11, 3) := by decide +kernel
theorem dX2_begin_7 : decode cX2_begin 7 = .ok (.aload_n 0, 1) := by decide +kernel
theorem dX2_begin_8 : decode cX2_begin 8 = .ok (.getfield 9, 3) := by decide +kernel
theorem dX2_begin_11 : decode cX2_begin 11 = .ok (.aload_n 1, 1) := by decide +kernel
theorem dX2_begin_12 : decode cX2_begin 12 = .ok (.putfield 15, 3) := by decide +kernel
theorem dX2_begin_15 : decode cX2_begin 15 = .ok (.return_, 1) := by decide +kernel
theorem dX2_end_0 : decode cX2_end 0 = .ok (.aload_n 0, 1) := by decide +kernel
theorem dX2_end_1 : decode cX2_end 1 = .ok (.getfield 9, 3) := by decide +kernel
theorem dX2_end_4 : decode cX2_end 4 = .ok (.ifnull 22, 3) := by decide +kernel
theorem dX2_end_7 : decode cX2_end 7 = .ok (.aload_n 0, 1) := by decide +kernel
theorem dX2_end_8 : decode cX2_end 8 = .ok (.getfield 9, 3) := by decide +kernel
theorem dX2_end_11 : decode cX2_end 11 = .ok (.aconst_null, 1) := by decide +kernel
theorem dX2_end_12 : decode cX2_end 12 = .ok (.putfield 15, 3) := by decide +kernel
theorem dX2_end_15 : decode cX2_end 15 = .ok (.aload_n 0, 1) := by decide +kernel
theorem dX2_end_16 : decode cX2_end 16 = .ok (.getfield 9, 3) := by decide +kernel
theorem dX2_end_19 : decode cX2_end 19 = .ok (.iload_n 1, 1) := by decide +kernel
theorem dX2_end_20 : decode cX2_end 20 = .ok (.bipush 120, 2) := by decide +kernel
theorem dX2_end_22 : decode cX2_end 22 = .ok (.iadd, 1) := by decide +kernel
theorem dX2_end_23 : decode cX2_end 23 = .ok (.putfield 21, 3) := by decide +kernel
theorem dX2_end_26 : decode cX2_end 26 = .ok (.return_, 1) := by decide +kernel
set_option maxRecDepth 20000 in
theorem ggX2_count_X1_count : GoodIn wsX2_count wsX1_count := goodIn_r _ [6, 7, 8, 9, 10, 14, 15, 16, 17, 18, 19, 20, 21, 22, 23, 24, 25, 26, 27] (by decide +kernel) (by decide +kernel)
set_option maxRecDepth 20000 in
theorem gX2_count_X1_count : GoodIn wsX2_count (wsV RX2 25 RX1 yX1_count wsX1_count) := goodIn_app (goodIn_of _ (by decide +kernel)) ggX2_count_X1_count
theorem dX2_count_0 : decode cX2_count 0 = .ok (.aload_n 0, 1) := by decide +kernel
theorem dX2_count_1 : decode cX2_count 1 = .ok (.getfield 9, 3) := by decide +kernel
theorem dX2_count_4 : decode cX2_count 4 = .ok (.ifnull 27, 3) := by decide +kernel
theorem dX2_count_7 : decode cX2_count 7 = .ok (.aload_n 0, 1) := by decide +kernel
theorem dX2_count_8 : decode cX2_count 8 = .ok (.getfield 9, 3) := by decide +kernel
theorem dX2_count_11 : decode cX2_count 11 = .ok (.aload_n 1, 1) := by decide +kernel
theorem dX2_count_12 : decode cX2_count 12 = .ok (.aload_n 0, 1) := by decide +kernel
theorem dX2_count_13 : decode cX2_count 13 = .ok (.getfield 9, 3) := by decide +kernel
theorem dX2_count_16 : decode cX2_count 16 = .ok (.if_acmp .ne 7, 3) := by decide +kernel
theorem dX2_count_19 : decode cX2_count 19 = .ok (.iconst 1, 1) := by decide +kernel
theorem dX2_count_20 : decode cX2_count 20 = .ok (.goto 4, 3) := by decide +kernel
theorem dX2_count_23 : decode cX2_count 23 = .ok (.iconst 0, 1) := by decide +kernel
theorem dX2_count_24 : decode cX2_count 24 = .ok (.iload_n 2, 1) := by decide +kernel
theorem dX2_count_25 : decode cX2_count 25 = .ok (.iload_n 3, 1) := by decide +kernel
theorem dX2_count_26 : decode cX2_count 26 = .ok (.iload 4, 2) := by decide +kernel
theorem dX2_count_28 : decode cX2_count 28 = .ok (.invokevirtual 25, 3) := by decide +kernel
theorem dX2_count_31 : decode cX2_count 31 = .ok (.return_, 1) := by decide +kernel
set_option maxRecDepth 20000 in
theorem ggX3_init_Jx4a65c_init_da8c8 : GoodIn wsX3_init wsJx4a65c_init_da8c8 := goodIn_r _ [18, 19, 20, 21, 22, 23, 24, 25, 26, 27, 28, 29, 30, 2, 3, 31, 32, 33] (by decide +kernel) (by decide +kernel)
set_option maxRecDepth 20000 in
theorem gX3_init_Jx4a65c_init_da8c8 : GoodIn wsX3_init (wsJx4a65c_init_da8c8) := ggX3_init_Jx4a65c_init_da8c8
theorem dX3_init_0 : decode cX3_init 0 = .ok (.aload_n 0, 1) := by decide +kernel
theorem dX3_init_1 : decode cX3_init 1 = .ok (.invokespecial 3, 3) := by decide +kernel
theorem dX3_init_4 : decode cX3_init 4 = .ok (.aload_n 0, 1) := by decide +kernel
theorem dX3_init_5 : decode cX3_init 5 = .ok (.new 9, 3) := by decide +kernel
theorem dX3_init_8 : decode cX3_init 8 = .ok (.dup, 1) := by decide +kernel
theorem dX3_init_9 : decode cX3_init 9 = .ok (.invokespecial 11, 3) := by decide +kernel
theorem dX3_init_12 : decode cX3_init 12 = .ok (.putfield 12, 3) := by decide +kernel
theorem dX3_init_15 : decode cX3_init 15 = .ok (.aload_n 0, 1) := by decide +kernel
theorem dX3_init_16 : decode cX3_init 16 = .ok (.new 9, 3) := by decide +kernel
theorem dX3_init_19 : decode cX3_init 19 = .ok (.dup, 1) := by decide +kernel
theorem dX3_init_20 : decode cX3_init 20 = .ok (.invokespecial 11, 3) := by decide +kernel
theorem dX3_init_23 : decode cX3_init 23 = .ok (.putfield 16, 3) := by decide +kernel
theorem dX3_init_26 : decode cX3_init 26 = .ok (.aload_n 0, 1) := by decide +kernel
theorem dX3_init_27 : decode cX3_init 27 = .ok (.iconst 3, 1) := by decide +kernel
theorem dX3_init_28 : decode cX3_init 28 = .ok (.anewarray 19, 3) := by decide +kernel
theorem dX3_init_31 : decode cX3_init 31 = .ok (.putfield 21, 3) := by decide +kernel
theorem dX3_init_34 : decode cX3_init 34 = .ok (.aload_n 0, 1) := by decide +kernel
theorem dX3_init_35 : decode cX3_init 35 = .ok (.iconst 4, 1) := by decide +kernel
theorem dX3_init_36 : decode cX3_init 36 = .ok (.newarray .int, 2) := by decide +kernel
theorem dX3_init_38 : decode cX3_init 38 = .ok (.putfield 25, 3) := by decide +kernel
theorem dX3_init_41 : decode cX3_init 41 = .ok (.aload_n 0, 1) := by decide +kernel
theorem dX3_init_42 : decode cX3_init 42 = .ok (.bipush 16, 2) := by decide +kernel
theorem dX3_init_44 : decode cX3_init 44 = .ok (.anewarray 29, 3) := by decide +kernel
theorem dX3_init_47 : decode cX3_init 47 = .ok (.putfield 31, 3) := by decide +kernel
theorem dX3_init_50 : decode cX3_init 50 = .ok (.aload_n 0, 1) := by decide +kernel
theorem dX3_init_51 : decode cX3_init 51 = .ok (.bipush 16, 2) := by decide +kernel
theorem dX3_init_53 : decode cX3_init 53 = .ok (.newarray .int, 2) := by decide +kernel
theorem dX3_init_55 : decode cX3_init 55 = .ok (.putfield 35, 3) := by decide +kernel
theorem dX3_init_58 : decode cX3_init 58 = .ok (.return_, 1) := by decide +kernel
set_option maxRecDepth 20000 in
theorem ggX3_fencer_X3_isIn : GoodIn wsX3_fencer wsX3_isIn := goodIn_r _ [13] (by decide +kernel) (by decide +kernel)
set_option maxRecDepth 20000 in
theorem gX3_fencer_X3_isIn : GoodIn wsX3_fencer (va_wsS RX3 38 yX3_isIn wsX3_isIn) := goodIn_app (goodIn_of _ (by decide +kernel)) ggX3_fencer_X3_isIn
set_option maxRecDepth 20000 in
theorem ggX3_fencer_Jx4a65c_size_8abf5 : GoodIn wsX3_fencer wsJx4a65c_size_8abf5 := goodIn_r _ [18, 19, 111, 112, 113] (by decide +kernel) (by decide +kernel)
set_option maxRecDepth 20000 in
theorem gX3_fencer_Jx4a65c_size_8abf5 : GoodIn wsX3_fencer (wsV RX3 49 RJx4a65c yJx4a65c_size_8abf5 wsJx4a65c_size_8abf5) := goodIn_app (goodIn_of _ (by decide +kernel)) ggX3_fencer_Jx4a65c_size_8abf5
set_option maxRecDepth 20000 in
theorem ggX3_fencer_X1_init : GoodIn wsX3_fencer wsX1_init := goodIn_r _ [22, 23, 24, 25, 26, 27, 28, 29, 30, 31, 32, 97, 98, 99, 100, 101, 102, 103, 104, 105, 106, 107, 108, 109, 110] (by decide +kernel) (by decide +kernel)
set_option maxRecDepth 20000 in
theorem gX3_fencer_X1_init : GoodIn wsX3_fencer (wsX1_init) := ggX3_fencer_X1_init
set_option maxRecDepth 20000 in
theorem ggX3_fencer_Jx4a65c_add_9ea2d : GoodIn wsX3_fencer wsJx4a65c_add_9ea2d := goodIn_r _ [36, 37, 38, 39, 19, 40, 41, 42, 17, 43, 44, 45, 46, 47, 48, 49, 50, 51, 52, 53, 54, 55, 56, 57, 58, 59, 60, 61, 62, 63, 64, 65, 66, 67, 68, 69, 70, 71, 72, 73, 74, 75, 76, 77, 78, 79, 80, 81, 82, 83, 84, 85, 86, 111, 112, 113] (by decide +kernel) (by decide +kernel)
set_option maxRecDepth 20000 in
theorem gX3_fencer_Jx4a65c_add_9ea2d : GoodIn wsX3_fencer (wsV RX3 65 RJx4a65c yJx4a65c_add_9ea2d wsJx4a65c_add_9ea2d) := goodIn_app (goodIn_of _ (by decide +kernel)) ggX3_fencer_Jx4a65c_add_9ea2d
theorem dX3_fencer_0 : decode cX3_fencer 0 = .ok (.iload_n 1, 1) := by decide +kernel
theorem dX3_fencer_1 : decode cX3_fencer 1 = .ok (.iconst 0, 1) := by decide +kernel
theorem dX3_fencer_2 : decode cX3_fencer 2 = .ok (.bipush 99, 2) := by decide +kernel
theorem dX3_fencer_4 : decode cX3_fencer 4 = .ok (.invokestatic 38, 3) := by decide +kernel
theorem dX3_fencer_7 : decode cX3_fencer 7 = .ok (.ifCond .eq 12, 3) := by decide +kernel
theorem dX3_fencer_10 : decode cX3_fencer 10 = .ok (.iload_n 2, 1) := by decide +kernel
theorem dX3_fencer_11 : decode cX3_fencer 11 = .ok (.iconst 0, 1) := by decide +kernel
theorem dX3_fencer_12 : decode cX3_fencer 12 = .ok (.iconst 5, 1) := by decide +kernel
theorem dX3_fencer_13 : decode cX3_fencer 13 = .ok (.invokestatic 38, 3) := by decide +kernel
theorem dX3_fencer_16 : decode cX3_fencer 16 = .ok (.ifCond .ne 13, 3) := by decide +kernel
theorem dX3_fencer_19 : decode cX3_fencer 19 = .ok (.new 42, 3) := by decide +kernel
theorem dX3_fencer_22 : decode cX3_fencer 22 = .ok (.dup, 1) := by decide +kernel
theorem dX3_fencer_23 : decode cX3_fencer 23 = .ok (.ldc 44, 2) := by decide +kernel
theorem dX3_fencer_25 : decode cX3_fencer 25 = .ok (.invokespecial 46, 3) := by decide +kernel
theorem dX3_fencer_28 : decode cX3_fencer 28 = .ok (.athrow, 1) := by decide +kernel
theorem dX3_fencer_29 : decode cX3_fencer 29 = .ok (.aload_n 0, 1) := by decide +kernel
theorem dX3_fencer_30 : decode cX3_fencer 30 = .ok (.getfield 12, 3) := by decide +kernel
theorem dX3_fencer_33 : decode cX3_fencer 33 = .ok (.invokevirtual 49, 3) := by decide +kernel
theorem dX3_fencer_36 : decode cX3_fencer 36 = .ok (.bipush 16, 2) := by decide +kernel
theorem dX3_fencer_38 : decode cX3_fencer 38 = .ok (.if_icmp .ge 10, 3) := by decide +kernel
theorem dX3_fencer_41 : decode cX3_fencer 41 = .ok (.aload_n 0, 1) := by decide +kernel
theorem dX3_fencer_42 : decode cX3_fencer 42 = .ok (.getfield 53, 3) := by decide +kernel
theorem dX3_fencer_45 : decode cX3_fencer 45 = .ok (.ifCond .le 13, 3) := by decide +kernel
theorem dX3_fencer_48 : decode cX3_fencer 48 = .ok (.new 57, 3) := by decide +kernel
theorem dX3_fencer_51 : decode cX3_fencer 51 = .ok (.dup, 1) := by decide +kernel
theorem dX3_fencer_52 : decode cX3_fencer 52 = .ok (.ldc 59, 2) := by decide +kernel
theorem dX3_fencer_54 : decode cX3_fencer 54 = .ok (.invokespecial 61, 3) := by decide +kernel
theorem dX3_fencer_57 : decode cX3_fencer 57 = .ok (.athrow, 1) := by decide +kernel
theorem dX3_fencer_58 : decode cX3_fencer 58 = .ok (.aload_n 0, 1) := by decide +kernel
theorem dX3_fencer_59 : decode cX3_fencer 59 = .ok (.getfield 12, 3) := by decide +kernel
theorem dX3_fencer_62 : decode cX3_fencer 62 = .ok (.new 29, 3) := by decide +kernel
theorem dX3_fencer_65 : decode cX3_fencer 65 = .ok (.dup, 1) := by decide +kernel
theorem dX3_fencer_66 : decode cX3_fencer 66 = .ok (.aload_n 0, 1) := by decide +kernel
theorem dX3_fencer_67 : decode cX3_fencer 67 = .ok (.getfield 12, 3) := by decide +kernel
theorem dX3_fencer_70 : decode cX3_fencer 70 = .ok (.invokevirtual 49, 3) := by decide +kernel
theorem dX3_fencer_73 : decode cX3_fencer 73 = .ok (.iload_n 1, 1) := by decide +kernel
theorem dX3_fencer_74 : decode cX3_fencer 74 = .ok (.iload_n 2, 1) := by decide +kernel
theorem dX3_fencer_75 : decode cX3_fencer 75 = .ok (.invokespecial 62, 3) := by decide +kernel
theorem dX3_fencer_78 : decode cX3_fencer 78 = .ok (.invokevirtual 65, 3) := by decide +kernel
theorem dX3_fencer_81 : decode cX3_fencer 81 = .ok (.pop, 1) := by decide +kernel
theorem dX3_fencer_82 : decode cX3_fencer 82 = .ok (.aload_n 0, 1) := by decide +kernel
theorem dX3_fencer_83 : decode cX3_fencer 83 = .ok (.getfield 12, 3) := by decide +kernel
theorem dX3_fencer_86 : decode cX3_fencer 86 = .ok (.invokevirtual 49, 3) := by decide +kernel
theorem dX3_fencer_89 : decode cX3_fencer 89 = .ok (.iconst 1, 1) := by decide +kernel
theorem dX3_fencer_90 : decode cX3_fencer 90 = .ok (.isub, 1) := by decide +kernel
theorem dX3_fencer_91 : decode cX3_fencer 91 = .ok (.ireturn, 1) := by decide +kernel
set_option maxRecDepth 20000 in
theorem ggX3_form_X3_isIn : GoodIn wsX3_form wsX3_isIn := goodIn_r _ [11] (by decide +kernel) (by decide +kernel)
set_option maxRecDepth 20000 in
theorem gX3_form_X3_isIn : GoodIn wsX3_form (va_wsS RX3 38 yX3_isIn wsX3_isIn) := goodIn_app (goodIn_of _ (by decide +kernel)) ggX3_form_X3_isIn
set_option maxRecDepth 20000 in
theorem ggX3_form_Jx4a65c_size_8abf5 : GoodIn wsX3_form wsJx4a65c_size_8abf5 := goodIn_r _ [16, 17, 166, 167, 168] (by decide +kernel) (by decide +kernel)
set_option maxRecDepth 20000 in
theorem gX3_form_Jx4a65c_size_8abf5 : GoodIn wsX3_form (wsV RX3 49 RJx4a65c yJx4a65c_size_8abf5 wsJx4a65c_size_8abf5) := goodIn_app (goodIn_of _ (by decide +kernel)) ggX3_form_Jx4a65c_size_8abf5
set_option maxRecDepth 20000 in
theorem ggX3_form_X3_fencerInOrder : GoodIn wsX3_form wsX3_fencerInOrder := goodIn_r _ [21, 6, 22, 12, 13, 14, 15, 16, 17, 23, 24, 25, 26, 27, 28, 29, 30, 31, 32, 33, 34, 35, 36, 37, 38, 39, 40, 41, 42, 10, 43, 44, 45, 46, 47, 48, 49, 50, 51, 52, 53, 54, 55, 56, 57, 58, 59, 156, 157, 158, 159, 160, 161, 162, 163, 164, 165, 166, 167, 168, 169, 170, 171, 172, 173, 174, 175, 176, 177, 178, 179, 180, 181, 182] (by decide +kernel) (by decide +kernel)
set_option maxRecDepth 20000 in
theorem gX3_form_X3_fencerInOrder : GoodIn wsX3_form (wsV RX3 73 RX3 yX3_fencerInOrder wsX3_fencerInOrder) := goodIn_app (goodIn_of _ (by decide +kernel)) ggX3_form_X3_fencerInOrder
set_option maxRecDepth 20000 in
theorem ggX3_form_X3_putIntoPool : GoodIn wsX3_form wsX3_putIntoPool := goodIn_r _ [63, 64, 5, 65, 66, 67, 68, 69, 70, 10, 71, 72, 73, 74, 75, 6, 22, 12, 13, 14, 15, 16, 17, 23, 24, 25, 26, 27, 28, 29, 30, 31, 32, 33, 34, 35, 36, 37, 38, 39, 8, 9, 11, 169, 170, 171, 172, 173, 174, 175, 176, 177, 178, 179, 180, 181, 182, 156, 157, 158, 159, 160, 161, 162, 163, 164, 165, 166, 167, 168] (by decide +kernel) (by decide +kernel)
set_option maxRecDepth 20000 in
theorem gX3_form_X3_putIntoPool : GoodIn wsX3_form (wsV RX3 77 RX3 yX3_putIntoPool wsX3_putIntoPool) := goodIn_app (goodIn_of _ (by decide +kernel)) ggX3_form_X3_putIntoPool
set_option maxRecDepth 20000 in
theorem ggX3_form_X3_addPoolBouts : GoodIn wsX3_form wsX3_addPoolBouts := goodIn_r _ [79, 66, 7, 80, 81, 82, 83, 84, 85, 10, 86, 6, 22, 65, 67, 12, 13, 14, 15, 16, 17, 23, 24, 25, 26, 27, 28, 29, 30, 31, 32, 33, 34, 35, 36, 37, 38, 39, 87, 88, 89, 90, 91, 92, 93, 94, 95, 96, 97, 98, 99, 100, 101, 102, 103, 104, 105, 106, 107, 108, 109, 110, 111, 112, 113, 114, 115, 116, 117, 118, 119, 120, 121, 122, 123, 124, 125, 53, 54, 55, 126, 127, 128, 129, 130, 131, 132, 133, 134, 135, 136, 137, 138, 139, 140, 141, 142, 143, 144, 145, 146, 147, 148, 149, 150, 151, 152, 153, 154, 155, 156, 157, 158, 159, 160, 161, 162, 163, 164, 165, 183, 184, 185, 186, 187, 188, 189, 190, 191, 169, 170, 171, 172, 173, 174, 175, 176, 177, 178, 179, 180, 181, 182, 166, 167, 168, 192, 193, 194] (by decide +kernel) (by decide +kernel)
set_option maxRecDepth 20000 in
theorem gX3_form_X3_addPoolBouts : GoodIn wsX3_form (wsV RX3 81 RX3 yX3_addPoolBouts wsX3_addPoolBouts) := goodIn_app (goodIn_of _ (by decide +kernel)) ggX3_form_X3_addPoolBouts
theorem dX3_form_0 : decode cX3_form 0 = .ok (.iload_n 1, 1) := by decide +kernel
theorem dX3_form_1 : decode cX3_form 1 = .ok (.iconst 1, 1) := by decide +kernel
theorem dX3_form_2 : decode cX3_form 2 = .ok (.iconst 4, 1) := by decide +kernel
theorem dX3_form_3 : decode cX3_form 3 = .ok (.invokestatic 38, 3) := by decide +kernel
theorem dX3_form_6 : decode cX3_form 6 = .ok (.ifCond .ne 13, 3) := by decide +kernel
theorem dX3_form_9 : decode cX3_form 9 = .ok (.new 42, 3) := by decide +kernel
theorem dX3_form_12 : decode cX3_form 12 = .ok (.dup, 1) := by decide +kernel
theorem dX3_form_13 : decode cX3_form 13 = .ok (.ldc 69, 2) := by decide +kernel
theorem dX3_form_15 : decode cX3_form 15 = .ok (.invokespecial 46, 3) := by decide +kernel
theorem dX3_form_18 : decode cX3_form 18 = .ok (.athrow, 1) := by decide +kernel
theorem dX3_form_19 : decode cX3_form 19 = .ok (.aload_n 0, 1) := by decide +kernel
theorem dX3_form_20 : decode cX3_form 20 = .ok (.getfield 53, 3) := by decide +kernel
theorem dX3_form_23 : decode cX3_form 23 = .ok (.ifCond .gt 16, 3) := by decide +kernel
theorem dX3_form_26 : decode cX3_form 26 = .ok (.aload_n 0, 1) := by decide +kernel
theorem dX3_form_27 : decode cX3_form 27 = .ok (.getfield 12, 3) := by decide +kernel
theorem dX3_form_30 : decode cX3_form 30 = .ok (.invokevirtual 49, 3) := by decide +kernel
theorem dX3_form_33 : decode cX3_form 33 = .ok (.iconst 3, 1) := by decide +kernel
theorem dX3_form_34 : decode cX3_form 34 = .ok (.iload_n 1, 1) := by decide +kernel
theorem dX3_form_35 : decode cX3_form 35 = .ok (.imul, 1) := by decide +kernel
theorem dX3_form_36 : decode cX3_form 36 = .ok (.if_icmp .ge 13, 3) := by decide +kernel
theorem dX3_form_39 : decode cX3_form 39 = .ok (.new 57, 3) := by decide +kernel
theorem dX3_form_42 : decode cX3_form 42 = .ok (.dup, 1) := by decide +kernel
theorem dX3_form_43 : decode cX3_form 43 = .ok (.ldc 71, 2) := by decide +kernel
theorem dX3_form_45 : decode cX3_form 45 = .ok (.invokespecial 61, 3) := by decide +kernel
theorem dX3_form_48 : decode cX3_form 48 = .ok (.athrow, 1) := by decide +kernel
theorem dX3_form_49 : decode cX3_form 49 = .ok (.aload_n 0, 1) := by decide +kernel
theorem dX3_form_50 : decode cX3_form 50 = .ok (.iload_n 1, 1) := by decide +kernel
theorem dX3_form_51 : decode cX3_form 51 = .ok (.putfield 53, 3) := by decide +kernel
theorem dX3_form_54 : decode cX3_form 54 = .ok (.iconst 0, 1) := by decide +kernel
theorem dX3_form_55 : decode cX3_form 55 = .ok (.istore_n 2, 1) := by decide +kernel
theorem dX3_form_56 : decode cX3_form 56 = .ok (.iload_n 2, 1) := by decide +kernel
theorem dX3_form_57 : decode cX3_form 57 = .ok (.aload_n 0, 1) := by decide +kernel
theorem dX3_form_58 : decode cX3_form 58 = .ok (.getfield 12, 3) := by decide +kernel
theorem dX3_form_61 : decode cX3_form 61 = .ok (.invokevirtual 49, 3) := by decide +kernel
theorem dX3_form_64 : decode cX3_form 64 = .ok (.if_icmp .ge 21, 3) := by decide +kernel
theorem dX3_form_67 : decode cX3_form 67 = .ok (.aload_n 0, 1) := by decide +kernel
theorem dX3_form_68 : decode cX3_form 68 = .ok (.aload_n 0, 1) := by decide +kernel
theorem dX3_form_69 : decode cX3_form 69 = .ok (.iload_n 2, 1) := by decide +kernel
theorem dX3_form_70 : decode cX3_form 70 = .ok (.invokevirtual 73, 3) := by decide +kernel
theorem dX3_form_73 : decode cX3_form 73 = .ok (.iload_n 2, 1) := by decide +kernel
theorem dX3_form_74 : decode cX3_form 74 = .ok (.iload_n 1, 1) := by decide +kernel
theorem dX3_form_75 : decode cX3_form 75 = .ok (.idiv, 1) := by decide +kernel
theorem dX3_form_76 : decode cX3_form 76 = .ok (.invokevirtual 77, 3) := by decide +kernel
theorem dX3_form_79 : decode cX3_form 79 = .ok (.iinc 2 1, 3) := by decide +kernel
theorem dX3_form_82 : decode cX3_form 82 = .ok (.goto (-26), 3) := by decide +kernel
theorem dX3_form_85 : decode cX3_form 85 = .ok (.iconst 0, 1) := by decide +kernel
theorem dX3_form_86 : decode cX3_form 86 = .ok (.istore_n 2, 1) := by decide +kernel
theorem dX3_form_87 : decode cX3_form 87 = .ok (.iload_n 2, 1) := by decide +kernel
theorem dX3_form_88 : decode cX3_form 88 = .ok (.iload_n 1, 1) := by decide +kernel
theorem dX3_form_89 : decode cX3_form 89 = .ok (.if_icmp .ge 14, 3) := by decide +kernel
theorem dX3_form_92 : decode cX3_form 92 = .ok (.aload_n 0, 1) := by decide +kernel
theorem dX3_form_93 : decode cX3_form 93 = .ok (.iload_n 2, 1) := by decide +kernel
theorem dX3_form_94 : decode cX3_form 94 = .ok (.invokevirtual 81, 3) := by decide +kernel
theorem dX3_form_97 : decode cX3_form 97 = .ok (.iinc 2 1, 3) := by decide +kernel
theorem dX3_form_100 : decode cX3_form 100 = .ok (.goto (-13), 3) := by decide +kernel
theorem dX3_form_103 : decode cX3_form 103 = .ok (.aload_n 0, 1) := by decide +kernel
theorem dX3_form_104 : decode cX3_form 104 = .ok (.getfield 16, 3) := by decide +kernel
theorem dX3_form_107 : decode cX3_form 107 = .ok (.invokevirtual 49, 3) := by decide +kernel
theorem dX3_form_110 : decode cX3_form 110 = .ok (.ireturn, 1) := by decide +kernel
set_option maxRecDepth 20000 in
theorem ggX3_of_X3_fencerAt : GoodIn wsX3_of wsX3_fencerAt := goodIn_ca (goodIn_r _ [15, 16, 17, 18, 19, 20, 21, 22, 23, 24, 25, 26, 27, 14, 28, 29, 30, 31, 32, 33, 34, 35, 36, 37, 38, 39, 40, 41, 42, 43, 44, 45, 69, 70, 71, 72, 73, 74, 75, 76, 77, 78, 79, 80, 81] (by decide +kernel) (by decide +kernel)) (goodIn_sub (fun _ h => List.mem_cons_of_mem _ (List.mem_append_right _ h)) (by decide +kernel))
set_option maxRecDepth 20000 in
theorem gX3_of_X3_fencerAt : GoodIn wsX3_of (wsV RX3 85 RX3 yX3_fencerAt wsX3_fencerAt) := goodIn_app (goodIn_of _ (by decide +kernel)) ggX3_of_X3_fencerAt
theorem dX3_of_0 : decode cX3_of 0 = .ok (.aload_n 0, 1) := by decide +kernel
theorem dX3_of_1 : decode cX3_of 1 = .ok (.iload_n 1, 1) := by decide +kernel
theorem dX3_of_2 : decode cX3_of 2 = .ok (.invokevirtual 85, 3) := by decide +kernel
theorem dX3_of_5 : decode cX3_of 5 = .ok (.astore_n 3, 1) := by decide +kernel
theorem dX3_of_6 : decode cX3_of 6 = .ok (.iload_n 2, 1) := by decide +kernel
theorem dX3_of_7 : decode cX3_of 7 = .ok (.tableswitch 98 0 6 #[41, 46, 51, 56, 61, 74, 93], 41) := by decide +kernel
theorem dX3_of_48 : decode cX3_of 48 = .ok (.aload_n 3, 1) := by decide +kernel
theorem dX3_of_49 : decode cX3_of 49 = .ok (.getfield 88, 3) := by decide +kernel
theorem dX3_of_52 : decode cX3_of 52 = .ok (.ireturn, 1) := by decide +kernel
theorem dX3_of_53 : decode cX3_of 53 = .ok (.aload_n 3, 1) := by decide +kernel
theorem dX3_of_54 : decode cX3_of 54 = .ok (.getfield 91, 3) := by decide +kernel
theorem dX3_of_57 : decode cX3_of 57 = .ok (.ireturn, 1) := by decide +kernel
theorem dX3_of_58 : decode cX3_of 58 = .ok (.aload_n 3, 1) := by decide +kernel
theorem dX3_of_59 : decode cX3_of 59 = .ok (.getfield 94, 3) := by decide +kernel
theorem dX3_of_62 : decode cX3_of 62 = .ok (.ireturn, 1) := by decide +kernel
theorem dX3_of_63 : decode cX3_of 63 = .ok (.aload_n 3, 1) := by decide +kernel
theorem dX3_of_64 : decode cX3_of 64 = .ok (.getfield 97, 3) := by decide +kernel
theorem dX3_of_67 : decode cX3_of 67 = .ok (.ireturn, 1) := by decide +kernel
theorem dX3_of_68 : decode cX3_of 68 = .ok (.aload_n 3, 1) := by decide +kernel
theorem dX3_of_69 : decode cX3_of 69 = .ok (.getfield 100, 3) := by decide +kernel
theorem dX3_of_72 : decode cX3_of 72 = .ok (.ifCond .eq 7, 3) := by decide +kernel
theorem dX3_of_75 : decode cX3_of 75 = .ok (.iconst 1, 1) := by decide +kernel
theorem dX3_of_76 : decode cX3_of 76 = .ok (.goto 4, 3) := by decide +kernel
theorem dX3_of_79 : decode cX3_of 79 = .ok (.iconst 0, 1) := by decide +kernel
theorem dX3_of_80 : decode cX3_of 80 = .ok (.ireturn, 1) := by decide +kernel
theorem dX3_of_81 : decode cX3_of 81 = .ok (.aload_n 3, 1) := by decide +kernel
theorem dX3_of_82 : decode cX3_of 82 = .ok (.getfield 104, 3) := by decide +kernel
theorem dX3_of_85 : decode cX3_of 85 = .ok (.ifnonnull 7, 3) := by decide +kernel
theorem dX3_of_88 : decode cX3_of 88 = .ok (.iconst (-1), 1) := by decide +kernel
theorem dX3_of_89 : decode cX3_of 89 = .ok (.goto 10, 3) := by decide +kernel
theorem dX3_of_92 : decode cX3_of 92 = .ok (.aload_n 3, 1) := by decide +kernel
theorem dX3_of_93 : decode cX3_of 93 = .ok (.getfield 104, 3) := by decide +kernel
theorem dX3_of_96 : decode cX3_of 96 = .ok (.getfield 108, 3) := by decide +kernel
theorem dX3_of_99 : decode cX3_of 99 = .ok (.ireturn, 1) := by decide +kernel
theorem dX3_of_100 : decode cX3_of 100 = .ok (.aload_n 3, 1) := by decide +kernel
theorem dX3_of_101 : decode cX3_of 101 = .ok (.getfield 111, 3) := by decide +kernel
theorem dX3_of_104 : decode cX3_of 104 = .ok (.ireturn, 1) := by decide +kernel
theorem dX3_of_105 : decode cX3_of 105 = .ok (.new 42, 3) := by decide +kernel
theorem dX3_of_108 : decode cX3_of 108 = .ok (.dup, 1) := by decide +kernel
theorem dX3_of_109 : decode cX3_of 109 = .ok (.ldc 114, 2) := by decide +kernel
theorem dX3_of_111 : decode cX3_of 111 = .ok (.invokespecial 46, 3) := by decide +kernel
theorem dX3_of_114 : decode cX3_of 114 = .ok (.athrow, 1) := by decide +kernel
set_option maxRecDepth 20000 in
theorem ggX3_putIntoPool_X3_poolInRow : GoodIn wsX3_putIntoPool wsX3_poolInRow := goodIn_r _ [10, 2, 4, 11, 12, 13, 9, 14, 15, 16, 3, 1, 17, 18, 19, 20, 21, 22, 23, 24, 25, 26, 27, 28, 29, 30, 31, 32, 33, 34, 35, 36, 37, 38, 39, 57, 58, 59, 60, 61, 62, 63, 64, 65, 66, 43, 44, 45, 46, 47, 48, 49, 50, 51, 52, 53, 54, 55, 56, 67, 68, 69] (by decide +kernel) (by decide +kernel)
set_option maxRecDepth 20000 in
theorem gX3_putIntoPool_X3_poolInRow : GoodIn wsX3_putIntoPool (wsV RX3 116 RX3 yX3_poolInRow wsX3_poolInRow) := goodIn_app (goodIn_of _ (by decide +kernel)) ggX3_putIntoPool_X3_poolInRow
set_option maxRecDepth 20000 in
theorem ggX3_putIntoPool_X3_isIn : GoodIn wsX3_putIntoPool wsX3_isIn := goodIn_r _ [42] (by decide +kernel) (by decide +kernel)
set_option maxRecDepth 20000 in
theorem gX3_putIntoPool_X3_isIn : GoodIn wsX3_putIntoPool (va_wsS RX3 38 yX3_isIn wsX3_isIn) := goodIn_app (goodIn_of _ (by decide +kernel)) ggX3_putIntoPool_X3_isIn
theorem dX3_putIntoPool_0 : decode cX3_putIntoPool 0 = .ok (.aload_n 1, 1) := by decide +kernel
theorem dX3_putIntoPool_1 : decode cX3_putIntoPool 1 = .ok (.ifnonnull 7, 3) := by decide +kernel
theorem dX3_putIntoPool_4 : decode cX3_putIntoPool 4 = .ok (.iconst (-1), 1) := by decide +kernel
theorem dX3_putIntoPool_5 : decode cX3_putIntoPool 5 = .ok (.goto 12, 3) := by decide +kernel
theorem dX3_putIntoPool_8 : decode cX3_putIntoPool 8 = .ok (.aload_n 0, 1) := by decide +kernel
theorem dX3_putIntoPool_9 : decode cX3_putIntoPool 9 = .ok (.iload_n 2, 1) := by decide +kernel
theorem dX3_putIntoPool_10 : decode cX3_putIntoPool 10 = .ok (.aload_n 1, 1) := by decide +kernel
theorem dX3_putIntoPool_11 : decode cX3_putIntoPool 11 = .ok (.getfield 91, 3) := by decide +kernel
theorem dX3_putIntoPool_14 : decode cX3_putIntoPool 14 = .ok (.invokevirtual 116, 3) := by decide +kernel
theorem dX3_putIntoPool_17 : decode cX3_putIntoPool 17 = .ok (.istore_n 3, 1) := by decide +kernel
theorem dX3_putIntoPool_18 : decode cX3_putIntoPool 18 = .ok (.iload_n 3, 1) := by decide +kernel
theorem dX3_putIntoPool_19 : decode cX3_putIntoPool 19 = .ok (.iconst 0, 1) := by decide +kernel
theorem dX3_putIntoPool_20 : decode cX3_putIntoPool 20 = .ok (.aload_n 0, 1) := by decide +kernel
theorem dX3_putIntoPool_21 : decode cX3_putIntoPool 21 = .ok (.getfield 53, 3) := by decide +kernel
theorem dX3_putIntoPool_24 : decode cX3_putIntoPool 24 = .ok (.iconst 1, 1) := by decide +kernel
theorem dX3_putIntoPool_25 : decode cX3_putIntoPool 25 = .ok (.isub, 1) := by decide +kernel
theorem dX3_putIntoPool_26 : decode cX3_putIntoPool 26 = .ok (.invokestatic 38, 3) := by decide +kernel
theorem dX3_putIntoPool_29 : decode cX3_putIntoPool 29 = .ok (.ifCond .eq 28, 3) := by decide +kernel
theorem dX3_putIntoPool_32 : decode cX3_putIntoPool 32 = .ok (.aload_n 1, 1) := by decide +kernel
theorem dX3_putIntoPool_33 : decode cX3_putIntoPool 33 = .ok (.iload_n 3, 1) := by decide +kernel
theorem dX3_putIntoPool_34 : decode cX3_putIntoPool 34 = .ok (.putfield 94, 3) := by decide +kernel
theorem dX3_putIntoPool_37 : decode cX3_putIntoPool 37 = .ok (.aload_n 1, 1) := by decide +kernel
theorem dX3_putIntoPool_38 : decode cX3_putIntoPool 38 = .ok (.aload_n 0, 1) := by decide +kernel
theorem dX3_putIntoPool_39 : decode cX3_putIntoPool 39 = .ok (.getfield 25, 3) := by decide +kernel
theorem dX3_putIntoPool_42 : decode cX3_putIntoPool 42 = .ok (.iload_n 3, 1) := by decide +kernel
theorem dX3_putIntoPool_43 : decode cX3_putIntoPool 43 = .ok (.iaload, 1) := by decide +kernel
theorem dX3_putIntoPool_44 : decode cX3_putIntoPool 44 = .ok (.putfield 97, 3) := by decide +kernel
theorem dX3_putIntoPool_47 : decode cX3_putIntoPool 47 = .ok (.aload_n 0, 1) := by decide +kernel
theorem dX3_putIntoPool_48 : decode cX3_putIntoPool 48 = .ok (.getfield 25, 3) := by decide +kernel
theorem dX3_putIntoPool_51 : decode cX3_putIntoPool 51 = .ok (.iload_n 3, 1) := by decide +kernel
theorem dX3_putIntoPool_52 : decode cX3_putIntoPool 52 = .ok (.dup2, 1) := by decide +kernel
theorem dX3_putIntoPool_53 : decode cX3_putIntoPool 53 = .ok (.iaload, 1) := by decide +kernel
theorem dX3_putIntoPool_54 : decode cX3_putIntoPool 54 = .ok (.iconst 1, 1) := by decide +kernel
theorem dX3_putIntoPool_55 : decode cX3_putIntoPool 55 = .ok (.iadd, 1) := by decide +kernel
theorem dX3_putIntoPool_56 : decode cX3_putIntoPool 56 = .ok (.iastore, 1) := by decide +kernel
theorem dX3_putIntoPool_57 : decode cX3_putIntoPool 57 = .ok (.return_, 1) := by decide +kernel
set_option maxRecDepth 20000 in
theorem ggX3_poolInRow_X3_hasClub : GoodIn wsX3_poolInRow wsX3_hasClub := goodIn_r _ [7, 8, 9, 10, 11, 12, 13, 14, 15, 16, 17, 18, 19, 20, 21, 22, 23, 24, 25, 26, 27, 28, 29, 30, 31, 32, 33, 34, 35, 36, 37, 38, 39, 40, 41, 42, 43, 44, 45, 46, 47, 48, 49, 50, 51, 52, 53, 54, 55, 56, 57, 58, 59, 60, 61] (by decide +kernel) (by decide +kernel)
set_option maxRecDepth 20000 in
theorem gX3_poolInRow_X3_hasClub : GoodIn wsX3_poolInRow (wsV RX3 120 RX3 yX3_hasClub wsX3_hasClub) := goodIn_app (goodIn_of _ (by decide +kernel)) ggX3_poolInRow_X3_hasClub
theorem dX3_poolInRow_0 : decode cX3_poolInRow 0 = .ok (.iconst (-1), 1) := by decide +kernel
theorem dX3_poolInRow_1 : decode cX3_poolInRow 1 = .ok (.istore_n 3, 1) := by decide +kernel
theorem dX3_poolInRow_2 : decode cX3_poolInRow 2 = .ok (.iconst 0, 1) := by decide +kernel
theorem dX3_poolInRow_3 : decode cX3_poolInRow 3 = .ok (.istore 4, 2) := by decide +kernel
theorem dX3_poolInRow_5 : decode cX3_poolInRow 5 = .ok (.iload 4, 2) := by decide +kernel
theorem dX3_poolInRow_7 : decode cX3_poolInRow 7 = .ok (.aload_n 0, 1) := by decide +kernel
theorem dX3_poolInRow_8 : decode cX3_poolInRow 8 = .ok (.getfield 53, 3) := by decide +kernel
theorem dX3_poolInRow_11 : decode cX3_poolInRow 11 = .ok (.if_icmp .ge 66, 3) := by decide +kernel
theorem dX3_poolInRow_14 : decode cX3_poolInRow 14 = .ok (.iload_n 1, 1) := by decide +kernel
theorem dX3_poolInRow_15 : decode cX3_poolInRow 15 = .ok (.iconst 2, 1) := by decide +kernel
theorem dX3_poolInRow_16 : decode cX3_poolInRow 16 = .ok (.irem, 1) := by decide +kernel
theorem dX3_poolInRow_17 : decode cX3_poolInRow 17 = .ok (.ifCond .ne 8, 3) := by decide +kernel
theorem dX3_poolInRow_20 : decode cX3_poolInRow 20 = .ok (.iload 4, 2) := by decide +kernel
theorem dX3_poolInRow_22 : decode cX3_poolInRow 22 = .ok (.goto 12, 3) := by decide +kernel
theorem dX3_poolInRow_25 : decode cX3_poolInRow 25 = .ok (.aload_n 0, 1) := by decide +kernel
theorem dX3_poolInRow_26 : decode cX3_poolInRow 26 = .ok (.getfield 53, 3) := by decide +kernel
theorem dX3_poolInRow_29 : decode cX3_poolInRow 29 = .ok (.iconst 1, 1) := by decide +kernel
theorem dX3_poolInRow_30 : decode cX3_poolInRow 30 = .ok (.isub, 1) := by decide +kernel
theorem dX3_poolInRow_31 : decode cX3_poolInRow 31 = .ok (.iload 4, 2) := by decide +kernel
theorem dX3_poolInRow_33 : decode cX3_poolInRow 33 = .ok (.isub, 1) := by decide +kernel
theorem dX3_poolInRow_34 : decode cX3_poolInRow 34 = .ok (.istore 5, 2) := by decide +kernel
theorem dX3_poolInRow_36 : decode cX3_poolInRow 36 = .ok (.aload_n 0, 1) := by decide +kernel
theorem dX3_poolInRow_37 : decode cX3_poolInRow 37 = .ok (.getfield 25, 3) := by decide +kernel
theorem dX3_poolInRow_40 : decode cX3_poolInRow 40 = .ok (.iload 5, 2) := by decide +kernel
theorem dX3_poolInRow_42 : decode cX3_poolInRow 42 = .ok (.iaload, 1) := by decide +kernel
theorem dX3_poolInRow_43 : decode cX3_poolInRow 43 = .ok (.iload_n 1, 1) := by decide +kernel
theorem dX3_poolInRow_44 : decode cX3_poolInRow 44 = .ok (.if_icmp .le 6, 3) := by decide +kernel
theorem dX3_poolInRow_47 : decode cX3_poolInRow 47 = .ok (.goto 24, 3) := by decide +kernel
theorem dX3_poolInRow_50 : decode cX3_poolInRow 50 = .ok (.aload_n 0, 1) := by decide +kernel
theorem dX3_poolInRow_51 : decode cX3_poolInRow 51 = .ok (.iload 5, 2) := by decide +kernel
theorem dX3_poolInRow_53 : decode cX3_poolInRow 53 = .ok (.iload_n 2, 1) := by decide +kernel
theorem dX3_poolInRow_54 : decode cX3_poolInRow 54 = .ok (.invokevirtual 120, 3) := by decide +kernel
theorem dX3_poolInRow_57 : decode cX3_poolInRow 57 = .ok (.ifCond .ne 6, 3) := by decide +kernel
theorem dX3_poolInRow_60 : decode cX3_poolInRow 60 = .ok (.iload 5, 2) := by decide +kernel
theorem dX3_poolInRow_62 : decode cX3_poolInRow 62 = .ok (.ireturn, 1) := by decide +kernel
theorem dX3_poolInRow_63 : decode cX3_poolInRow 63 = .ok (.iload_n 3, 1) := by decide +kernel
theorem dX3_poolInRow_64 : decode cX3_poolInRow 64 = .ok (.iconst (-1), 1) := by decide +kernel
theorem dX3_poolInRow_65 : decode cX3_poolInRow 65 = .ok (.if_icmp .ne 6, 3) := by decide +kernel
theorem dX3_poolInRow_68 : decode cX3_poolInRow 68 = .ok (.iload 5, 2) := by decide +kernel
theorem dX3_poolInRow_70 : decode cX3_poolInRow 70 = .ok (.istore_n 3, 1) := by decide +kernel
theorem dX3_poolInRow_71 : decode cX3_poolInRow 71 = .ok (.iinc 4 1, 3) := by decide +kernel
theorem dX3_poolInRow_74 : decode cX3_poolInRow 74 = .ok (.goto (-69), 3) := by decide +kernel
theorem dX3_poolInRow_77 : decode cX3_poolInRow 77 = .ok (.iload_n 3, 1) := by decide +kernel
theorem dX3_poolInRow_78 : decode cX3_poolInRow 78 = .ok (.ireturn, 1) := by decide +kernel
set_option maxRecDepth 20000 in
theorem ggX3_hasClub_Jx4a65c_size_8abf5 : GoodIn wsX3_hasClub wsJx4a65c_size_8abf5 := goodIn_r _ [9, 10, 52, 53, 54] (by decide +kernel) (by decide +kernel)
set_option maxRecDepth 20000 in
theorem gX3_hasClub_Jx4a65c_size_8abf5 : GoodIn wsX3_hasClub (wsV RX3 49 RJx4a65c yJx4a65c_size_8abf5 wsJx4a65c_size_8abf5) := goodIn_app (goodIn_of _ (by decide +kernel)) ggX3_hasClub_Jx4a65c_size_8abf5
set_option maxRecDepth 20000 in
theorem ggX3_hasClub_Jx4a65c_get_915e3 : GoodIn wsX3_hasClub wsJx4a65c_get_915e3 := goodIn_r _ [14, 10, 15, 16, 17, 18, 19, 20, 21, 22, 23, 24, 25, 8, 26, 27, 52, 53, 54] (by decide +kernel) (by decide +kernel)
set_option maxRecDepth 20000 in
theorem gX3_hasClub_Jx4a65c_get_915e3 : GoodIn wsX3_hasClub (wsV RX3 124 RJx4a65c yJx4a65c_get_915e3 wsJx4a65c_get_915e3) := goodIn_app (goodIn_of _ (by decide +kernel)) ggX3_hasClub_Jx4a65c_get_915e3
theorem dX3_hasClub_0 : decode cX3_hasClub 0 = .ok (.iconst 0, 1) := by decide +kernel
theorem dX3_hasClub_1 : decode cX3_hasClub 1 = .ok (.istore_n 3, 1) := by decide +kernel
theorem dX3_hasClub_2 : decode cX3_hasClub 2 = .ok (.iload_n 3, 1) := by decide +kernel
theorem dX3_hasClub_3 : decode cX3_hasClub 3 = .ok (.aload_n 0, 1) := by decide +kernel
theorem dX3_hasClub_4 : decode cX3_hasClub 4 = .ok (.getfield 12, 3) := by decide +kernel
theorem dX3_hasClub_7 : decode cX3_hasClub 7 = .ok (.invokevirtual 49, 3) := by decide +kernel
theorem dX3_hasClub_10 : decode cX3_hasClub 10 = .ok (.if_icmp .ge 42, 3) := by decide +kernel
theorem dX3_hasClub_13 : decode cX3_hasClub 13 = .ok (.aload_n 0, 1) := by decide +kernel
theorem dX3_hasClub_14 : decode cX3_hasClub 14 = .ok (.getfield 12, 3) := by decide +kernel
theorem dX3_hasClub_17 : decode cX3_hasClub 17 = .ok (.iload_n 3, 1) := by decide +kernel
theorem dX3_hasClub_18 : decode cX3_hasClub 18 = .ok (.invokevirtual 124, 3) := by decide +kernel
theorem dX3_hasClub_21 : decode cX3_hasClub 21 = .ok (.checkcast 29, 3) := by decide +kernel
theorem dX3_hasClub_24 : decode cX3_hasClub 24 = .ok (.astore 4, 2) := by decide +kernel
theorem dX3_hasClub_26 : decode cX3_hasClub 26 = .ok (.aload 4, 2) := by decide +kernel
theorem dX3_hasClub_28 : decode cX3_hasClub 28 = .ok (.getfield 94, 3) := by decide +kernel
theorem dX3_hasClub_31 : decode cX3_hasClub 31 = .ok (.iload_n 1, 1) := by decide +kernel
theorem dX3_hasClub_32 : decode cX3_hasClub 32 = .ok (.if_icmp .ne 14, 3) := by decide +kernel
theorem dX3_hasClub_35 : decode cX3_hasClub 35 = .ok (.aload 4, 2) := by decide +kernel
theorem dX3_hasClub_37 : decode cX3_hasClub 37 = .ok (.getfield 91, 3) := by decide +kernel
theorem dX3_hasClub_40 : decode cX3_hasClub 40 = .ok (.iload_n 2, 1) := by decide +kernel
theorem dX3_hasClub_41 : decode cX3_hasClub 41 = .ok (.if_icmp .ne 5, 3) := by decide +kernel
theorem dX3_hasClub_44 : decode cX3_hasClub 44 = .ok (.iconst 1, 1) := by decide +kernel
theorem dX3_hasClub_45 : decode cX3_hasClub 45 = .ok (.ireturn, 1) := by decide +kernel
theorem dX3_hasClub_46 : decode cX3_hasClub 46 = .ok (.iinc 3 1, 3) := by decide +kernel
theorem dX3_hasClub_49 : decode cX3_hasClub 49 = .ok (.goto (-47), 3) := by decide +kernel
theorem dX3_hasClub_52 : decode cX3_hasClub 52 = .ok (.iconst 0, 1) := by decide +kernel
theorem dX3_hasClub_53 : decode cX3_hasClub 53 = .ok (.ireturn, 1) := by decide +kernel
set_option maxRecDepth 20000 in
theorem ggX3_addPoolBouts_X3_fencerOnSpot : GoodIn wsX3_addPoolBouts wsX3_fencerOnSpot := goodIn_r _ [10, 11, 12, 13, 14, 15, 16, 17, 18, 19, 20, 21, 22, 23, 24, 25, 26, 27, 28, 29, 30, 31, 32, 33, 34, 35, 36, 37, 110, 111, 112, 113, 114, 115, 116, 117, 118, 119, 129, 130, 131, 132, 133, 134, 135, 136, 137, 138, 139, 140, 141, 142, 143, 144, 145] (by decide +kernel) (by decide +kernel)
set_option maxRecDepth 20000 in
theorem gX3_addPoolBouts_X3_fencerOnSpot : GoodIn wsX3_addPoolBouts (wsV RX3 128 RX3 yX3_fencerOnSpot wsX3_fencerOnSpot) := goodIn_app (goodIn_of _ (by decide +kernel)) ggX3_addPoolBouts_X3_fencerOnSpot
set_option maxRecDepth 20000 in
theorem ggX3_addPoolBouts_Jx4a65c_size_8abf5 : GoodIn wsX3_addPoolBouts wsJx4a65c_size_8abf5 := goodIn_r _ [19, 20, 143, 144, 145] (by decide +kernel) (by decide +kernel)
set_option maxRecDepth 20000 in
theorem gX3_addPoolBouts_Jx4a65c_size_8abf5 : GoodIn wsX3_addPoolBouts (wsV RX3 49 RJx4a65c yJx4a65c_size_8abf5 wsJx4a65c_size_8abf5) := goodIn_app (goodIn_of _ (by decide +kernel)) ggX3_addPoolBouts_Jx4a65c_size_8abf5
set_option maxRecDepth 20000 in
theorem ggX3_addPoolBouts_X0_init : GoodIn wsX3_addPoolBouts wsX0_init := goodIn_r _ [40, 41, 42, 43, 44, 45, 46, 47, 48, 49, 50, 51, 52, 53, 54, 55, 56, 146, 147, 148, 120, 121, 122, 123, 124, 125, 126, 127, 128] (by decide +kernel) (by decide +kernel)
set_option maxRecDepth 20000 in
theorem gX3_addPoolBouts_X0_init : GoodIn wsX3_addPoolBouts (wsX0_init) := ggX3_addPoolBouts_X0_init
set_option maxRecDepth 20000 in
theorem ggX3_addPoolBouts_Jx4a65c_add_9ea2d : GoodIn wsX3_addPoolBouts wsJx4a65c_add_9ea2d := goodIn_r _ [60, 61, 62, 37, 20, 63, 64, 65, 18, 66, 67, 68, 69, 70, 71, 72, 73, 74, 75, 76, 77, 78, 79, 80, 81, 82, 83, 84, 85, 86, 87, 88, 89, 90, 91, 92, 93, 94, 95, 96, 97, 98, 99, 100, 101, 102, 103, 104, 105, 106, 107, 108, 109, 143, 144, 145] (by decide +kernel) (by decide +kernel)
set_option maxRecDepth 20000 in
theorem gX3_addPoolBouts_Jx4a65c_add_9ea2d : GoodIn wsX3_addPoolBouts (wsV RX3 65 RJx4a65c yJx4a65c_add_9ea2d wsJx4a65c_add_9ea2d) := goodIn_app (goodIn_of _ (by decide +kernel)) ggX3_addPoolBouts_Jx4a65c_add_9ea2d
theorem dX3_addPoolBouts_0 : decode cX3_addPoolBouts 0 = .ok (.aload_n 0, 1) := by decide +kernel
theorem dX3_addPoolBouts_1 : decode cX3_addPoolBouts 1 = .ok (.getfield 25, 3) := by decide +kernel
theorem dX3_addPoolBouts_4 : decode cX3_addPoolBouts 4 = .ok (.iload_n 1, 1) := by decide +kernel
theorem dX3_addPoolBouts_5 : decode cX3_addPoolBouts 5 = .ok (.iaload, 1) := by decide +kernel
theorem dX3_addPoolBouts_6 : decode cX3_addPoolBouts 6 = .ok (.istore_n 2, 1) := by decide +kernel
theorem dX3_addPoolBouts_7 : decode cX3_addPoolBouts 7 = .ok (.iconst 1, 1) := by decide +kernel
theorem dX3_addPoolBouts_8 : decode cX3_addPoolBouts 8 = .ok (.istore_n 3, 1) := by decide +kernel
theorem dX3_addPoolBouts_9 : decode cX3_addPoolBouts 9 = .ok (.iload_n 3, 1) := by decide +kernel
theorem dX3_addPoolBouts_10 : decode cX3_addPoolBouts 10 = .ok (.iconst 2, 1) := by decide +kernel
theorem dX3_addPoolBouts_11 : decode cX3_addPoolBouts 11 = .ok (.iload_n 2, 1) := by decide +kernel
theorem dX3_addPoolBouts_12 : decode cX3_addPoolBouts 12 = .ok (.imul, 1) := by decide +kernel
theorem dX3_addPoolBouts_13 : decode cX3_addPoolBouts 13 = .ok (.iconst 3, 1) := by decide +kernel
theorem dX3_addPoolBouts_14 : decode cX3_addPoolBouts 14 = .ok (.isub, 1) := by decide +kernel
theorem dX3_addPoolBouts_15 : decode cX3_addPoolBouts 15 = .ok (.if_icmp .gt 84, 3) := by decide +kernel
theorem dX3_addPoolBouts_18 : decode cX3_addPoolBouts 18 = .ok (.iconst 0, 1) := by decide +kernel
theorem dX3_addPoolBouts_19 : decode cX3_addPoolBouts 19 = .ok (.istore 4, 2) := by decide +kernel
theorem dX3_addPoolBouts_21 : decode cX3_addPoolBouts 21 = .ok (.iload 4, 2) := by decide +kernel
theorem dX3_addPoolBouts_23 : decode cX3_addPoolBouts 23 = .ok (.iload_n 3, 1) := by decide +kernel
theorem dX3_addPoolBouts_24 : decode cX3_addPoolBouts 24 = .ok (.iload 4, 2) := by decide +kernel
theorem dX3_addPoolBouts_26 : decode cX3_addPoolBouts 26 = .ok (.isub, 1) := by decide +kernel
theorem dX3_addPoolBouts_27 : decode cX3_addPoolBouts 27 = .ok (.if_icmp .ge 66, 3) := by decide +kernel
theorem dX3_addPoolBouts_30 : decode cX3_addPoolBouts 30 = .ok (.aload_n 0, 1) := by decide +kernel
theorem dX3_addPoolBouts_31 : decode cX3_addPoolBouts 31 = .ok (.iload_n 1, 1) := by decide +kernel
theorem dX3_addPoolBouts_32 : decode cX3_addPoolBouts 32 = .ok (.iload 4, 2) := by decide +kernel
theorem dX3_addPoolBouts_34 : decode cX3_addPoolBouts 34 = .ok (.invokevirtual 128, 3) := by decide +kernel
theorem dX3_addPoolBouts_37 : decode cX3_addPoolBouts 37 = .ok (.astore 5, 2) := by decide +kernel
theorem dX3_addPoolBouts_39 : decode cX3_addPoolBouts 39 = .ok (.aload_n 0, 1) := by decide +kernel
theorem dX3_addPoolBouts_40 : decode cX3_addPoolBouts 40 = .ok (.iload_n 1, 1) := by decide +kernel
theorem dX3_addPoolBouts_41 : decode cX3_addPoolBouts 41 = .ok (.iload_n 3, 1) := by decide +kernel
theorem dX3_addPoolBouts_42 : decode cX3_addPoolBouts 42 = .ok (.iload 4, 2) := by decide +kernel
theorem dX3_addPoolBouts_44 : decode cX3_addPoolBouts 44 = .ok (.isub, 1) := by decide +kernel
theorem dX3_addPoolBouts_45 : decode cX3_addPoolBouts 45 = .ok (.invokevirtual 128, 3) := by decide +kernel
theorem dX3_addPoolBouts_48 : decode cX3_addPoolBouts 48 = .ok (.astore 6, 2) := by decide +kernel
theorem dX3_addPoolBouts_50 : decode cX3_addPoolBouts 50 = .ok (.aload 5, 2) := by decide +kernel
theorem dX3_addPoolBouts_52 : decode cX3_addPoolBouts 52 = .ok (.ifnull 35, 3) := by decide +kernel
theorem dX3_addPoolBouts_55 : decode cX3_addPoolBouts 55 = .ok (.aload 6, 2) := by decide +kernel
theorem dX3_addPoolBouts_57 : decode cX3_addPoolBouts 57 = .ok (.ifnull 30, 3) := by decide +kernel
theorem dX3_addPoolBouts_60 : decode cX3_addPoolBouts 60 = .ok (.aload_n 0, 1) := by decide +kernel
theorem dX3_addPoolBouts_61 : decode cX3_addPoolBouts 61 = .ok (.getfield 16, 3) := by decide +kernel
theorem dX3_addPoolBouts_64 : decode cX3_addPoolBouts 64 = .ok (.new 19, 3) := by decide +kernel
theorem dX3_addPoolBouts_67 : decode cX3_addPoolBouts 67 = .ok (.dup, 1) := by decide +kernel
theorem dX3_addPoolBouts_68 : decode cX3_addPoolBouts 68 = .ok (.aload_n 0, 1) := by decide +kernel
theorem dX3_addPoolBouts_69 : decode cX3_addPoolBouts 69 = .ok (.getfield 16, 3) := by decide +kernel
theorem dX3_addPoolBouts_72 : decode cX3_addPoolBouts 72 = .ok (.invokevirtual 49, 3) := by decide +kernel
theorem dX3_addPoolBouts_75 : decode cX3_addPoolBouts 75 = .ok (.iconst (-1), 1) := by decide +kernel
theorem dX3_addPoolBouts_76 : decode cX3_addPoolBouts 76 = .ok (.aload 5, 2) := by decide +kernel
theorem dX3_addPoolBouts_78 : decode cX3_addPoolBouts 78 = .ok (.aload 6, 2) := by decide +kernel
theorem dX3_addPoolBouts_80 : decode cX3_addPoolBouts 80 = .ok (.invokespecial 132, 3) := by decide +kernel
theorem dX3_addPoolBouts_83 : decode cX3_addPoolBouts 83 = .ok (.invokevirtual 65, 3) := by decide +kernel
theorem dX3_addPoolBouts_86 : decode cX3_addPoolBouts 86 = .ok (.pop, 1) := by decide +kernel
theorem dX3_addPoolBouts_87 : decode cX3_addPoolBouts 87 = .ok (.iinc 4 1, 3) := by decide +kernel
theorem dX3_addPoolBouts_90 : decode cX3_addPoolBouts 90 = .ok (.goto (-69), 3) := by decide +kernel
theorem dX3_addPoolBouts_93 : decode cX3_addPoolBouts 93 = .ok (.iinc 3 1, 3) := by decide +kernel
theorem dX3_addPoolBouts_96 : decode cX3_addPoolBouts 96 = .ok (.goto (-87), 3) := by decide +kernel
theorem dX3_addPoolBouts_99 : decode cX3_addPoolBouts 99 = .ok (.return_, 1) := by decide +kernel
set_option maxRecDepth 20000 in
theorem ggX3_fencerOnSpot_Jx4a65c_size_8abf5 : GoodIn wsX3_fencerOnSpot wsJx4a65c_size_8abf5 := goodIn_r _ [9, 10, 52, 53, 54] (by decide +kernel) (by decide +kernel)
set_option maxRecDepth 20000 in
theorem gX3_fencerOnSpot_Jx4a65c_size_8abf5 : GoodIn wsX3_fencerOnSpot (wsV RX3 49 RJx4a65c yJx4a65c_size_8abf5 wsJx4a65c_size_8abf5) := goodIn_app (goodIn_of _ (by decide +kernel)) ggX3_fencerOnSpot_Jx4a65c_size_8abf5
set_option maxRecDepth 20000 in
theorem ggX3_fencerOnSpot_Jx4a65c_get_915e3 : GoodIn wsX3_fencerOnSpot wsJx4a65c_get_915e3 := goodIn_r _ [14, 10, 15, 16, 17, 18, 19, 20, 21, 22, 23, 24, 25, 8, 26, 27, 52, 53, 54] (by decide +kernel) (by decide +kernel)
set_option maxRecDepth 20000 in
theorem gX3_fencerOnSpot_Jx4a65c_get_915e3 : GoodIn wsX3_fencerOnSpot (wsV RX3 124 RJx4a65c yJx4a65c_get_915e3 wsJx4a65c_get_915e3) := goodIn_app (goodIn_of _ (by decide +kernel)) ggX3_fencerOnSpot_Jx4a65c_get_915e3
theorem dX3_fencerOnSpot_0 : decode cX3_fencerOnSpot 0 = .ok (.iconst 0, 1) := by decide +kernel
theorem dX3_fencerOnSpot_1 : decode cX3_fencerOnSpot 1 = .ok (.istore_n 3, 1) := by decide +kernel
theorem dX3_fencerOnSpot_2 : decode cX3_fencerOnSpot 2 = .ok (.iload_n 3, 1) := by decide +kernel
theorem dX3_fencerOnSpot_3 : decode cX3_fencerOnSpot 3 = .ok (.aload_n 0, 1) := by decide +kernel
theorem dX3_fencerOnSpot_4 : decode cX3_fencerOnSpot 4 = .ok (.getfield 12, 3) := by decide +kernel
theorem dX3_fencerOnSpot_7 : decode cX3_fencerOnSpot 7 = .ok (.invokevirtual 49, 3) := by decide +kernel
theorem dX3_fencerOnSpot_10 : decode cX3_fencerOnSpot 10 = .ok (.if_icmp .ge 43, 3) := by decide +kernel
theorem dX3_fencerOnSpot_13 : decode cX3_fencerOnSpot 13 = .ok (.aload_n 0, 1) := by decide +kernel
theorem dX3_fencerOnSpot_14 : decode cX3_fencerOnSpot 14 = .ok (.getfield 12, 3) := by decide +kernel
theorem dX3_fencerOnSpot_17 : decode cX3_fencerOnSpot 17 = .ok (.iload_n 3, 1) := by decide +kernel
theorem dX3_fencerOnSpot_18 : decode cX3_fencerOnSpot 18 = .ok (.invokevirtual 124, 3) := by decide +kernel
theorem dX3_fencerOnSpot_21 : decode cX3_fencerOnSpot 21 = .ok (.checkcast 29, 3) := by decide +kernel
theorem dX3_fencerOnSpot_24 : decode cX3_fencerOnSpot 24 = .ok (.astore 4, 2) := by decide +kernel
theorem dX3_fencerOnSpot_26 : decode cX3_fencerOnSpot 26 = .ok (.aload 4, 2) := by decide +kernel
theorem dX3_fencerOnSpot_28 : decode cX3_fencerOnSpot 28 = .ok (.getfield 94, 3) := by decide +kernel
theorem dX3_fencerOnSpot_31 : decode cX3_fencerOnSpot 31 = .ok (.iload_n 1, 1) := by decide +kernel
theorem dX3_fencerOnSpot_32 : decode cX3_fencerOnSpot 32 = .ok (.if_icmp .ne 15, 3) := by decide +kernel
theorem dX3_fencerOnSpot_35 : decode cX3_fencerOnSpot 35 = .ok (.aload 4, 2) := by decide +kernel
theorem dX3_fencerOnSpot_37 : decode cX3_fencerOnSpot 37 = .ok (.getfield 97, 3) := by decide +kernel
theorem dX3_fencerOnSpot_40 : decode cX3_fencerOnSpot 40 = .ok (.iload_n 2, 1) := by decide +kernel
theorem dX3_fencerOnSpot_41 : decode cX3_fencerOnSpot 41 = .ok (.if_icmp .ne 6, 3) := by decide +kernel
theorem dX3_fencerOnSpot_44 : decode cX3_fencerOnSpot 44 = .ok (.aload 4, 2) := by decide +kernel
theorem dX3_fencerOnSpot_46 : decode cX3_fencerOnSpot 46 = .ok (.areturn, 1) := by decide +kernel
theorem dX3_fencerOnSpot_47 : decode cX3_fencerOnSpot 47 = .ok (.iinc 3 1, 3) := by decide +kernel
theorem dX3_fencerOnSpot_50 : decode cX3_fencerOnSpot 50 = .ok (.goto (-48), 3) := by decide +kernel
theorem dX3_fencerOnSpot_53 : decode cX3_fencerOnSpot 53 = .ok (.aconst_null, 1) := by decide +kernel
theorem dX3_fencerOnSpot_54 : decode cX3_fencerOnSpot 54 = .ok (.areturn, 1) := by decide +kernel
set_option maxRecDepth 20000 in
theorem ggX3_start_X3_boutAt : GoodIn wsX3_start wsX3_boutAt := goodIn_ca (goodIn_r _ [10, 11, 12, 13, 14, 15, 16, 17, 18, 19, 20, 21, 22, 9, 23, 24, 25, 26, 27, 28, 29, 30, 31, 32, 33, 34, 35, 36, 37, 38, 39, 40, 92, 93, 94, 95, 96, 97, 98, 99, 100, 101, 102, 103, 104] (by decide +kernel) (by decide +kernel)) (goodIn_sub (fun _ h => List.mem_cons_of_mem _ (List.mem_append_right _ h)) (by decide +kernel))
set_option maxRecDepth 20000 in
theorem gX3_start_X3_boutAt : GoodIn wsX3_start (wsV RX3 135 RX3 yX3_boutAt wsX3_boutAt) := goodIn_app (goodIn_of _ (by decide +kernel)) ggX3_start_X3_boutAt
set_option maxRecDepth 20000 in
theorem ggX3_start_X3_isPiste : GoodIn wsX3_start wsX3_isPiste := goodIn_r _ [43, 21, 22, 9, 23] (by decide +kernel) (by decide +kernel)
set_option maxRecDepth 20000 in
theorem gX3_start_X3_isPiste : GoodIn wsX3_start (va_wsS RX3 139 yX3_isPiste wsX3_isPiste) := goodIn_app (goodIn_of _ (by decide +kernel)) ggX3_start_X3_isPiste
set_option maxRecDepth 20000 in
theorem ggX3_start_X3_whyNotReady : GoodIn wsX3_start wsX3_whyNotReady := goodIn_r _ [47, 48, 49, 50, 51, 52, 53, 54, 55, 56, 57, 58, 59, 60, 61, 62, 63, 64, 65, 66, 67, 68, 69, 70, 71, 72, 73, 74, 75, 76, 77, 78, 79, 105, 106, 107, 108, 109, 110, 111, 112, 113, 92, 93, 94, 95, 96, 97, 98, 99, 100, 101, 114, 115, 116, 117, 118, 119, 120, 121, 122, 123, 124, 125, 126, 127, 128, 129, 130] (by decide +kernel) (by decide +kernel)
set_option maxRecDepth 20000 in
theorem gX3_start_X3_whyNotReady : GoodIn wsX3_start (wsV RX3 145 RX3 yX3_whyNotReady wsX3_whyNotReady) := goodIn_app (goodIn_of _ (by decide +kernel)) ggX3_start_X3_whyNotReady
set_option maxRecDepth 20000 in
theorem ggX3_start_X0_begin : GoodIn wsX3_start wsX0_begin := goodIn_r _ [83, 84, 85, 86, 87, 57, 59, 88, 89, 90, 63, 91, 65, 66, 105, 106, 107, 108, 109, 110, 111, 112, 113, 114, 115, 116, 117, 118, 119, 120, 121, 122, 123, 124, 125, 126, 127, 128, 129, 130] (by decide +kernel) (by decide +kernel)
set_option maxRecDepth 20000 in
theorem gX3_start_X0_begin : GoodIn wsX3_start (wsV RX3 151 RX0 yX0_begin wsX0_begin) := goodIn_app (goodIn_of _ (by decide +kernel)) ggX3_start_X0_begin
theorem dX3_start_0 : decode cX3_start 0 = .ok (.aload_n 0, 1) := by decide +kernel
theorem dX3_start_1 : decode cX3_start 1 = .ok (.iload_n 1, 1) := by decide +kernel
theorem dX3_start_2 : decode cX3_start 2 = .ok (.invokevirtual 135, 3) := by decide +kernel
theorem dX3_start_5 : decode cX3_start 5 = .ok (.astore_n 3, 1) := by decide +kernel
theorem dX3_start_6 : decode cX3_start 6 = .ok (.iload_n 2, 1) := by decide +kernel
theorem dX3_start_7 : decode cX3_start 7 = .ok (.invokestatic 139, 3) := by decide +kernel
theorem dX3_start_10 : decode cX3_start 10 = .ok (.ifCond .ne 13, 3) := by decide +kernel
theorem dX3_start_13 : decode cX3_start 13 = .ok (.new 42, 3) := by decide +kernel
theorem dX3_start_16 : decode cX3_start 16 = .ok (.dup, 1) := by decide +kernel
theorem dX3_start_17 : decode cX3_start 17 = .ok (.ldc 143, 2) := by decide +kernel
theorem dX3_start_19 : decode cX3_start 19 = .ok (.invokespecial 46, 3) := by decide +kernel
theorem dX3_start_22 : decode cX3_start 22 = .ok (.athrow, 1) := by decide +kernel
theorem dX3_start_23 : decode cX3_start 23 = .ok (.aload_n 0, 1) := by decide +kernel
theorem dX3_start_24 : decode cX3_start 24 = .ok (.aload_n 3, 1) := by decide +kernel
theorem dX3_start_25 : decode cX3_start 25 = .ok (.invokevirtual 145, 3) := by decide +kernel
theorem dX3_start_28 : decode cX3_start 28 = .ok (.ifCond .ne 12, 3) := by decide +kernel
theorem dX3_start_31 : decode cX3_start 31 = .ok (.aload_n 0, 1) := by decide +kernel
theorem dX3_start_32 : decode cX3_start 32 = .ok (.getfield 21, 3) := by decide +kernel
theorem dX3_start_35 : decode cX3_start 35 = .ok (.iload_n 2, 1) := by decide +kernel
theorem dX3_start_36 : decode cX3_start 36 = .ok (.aaload, 1) := by decide +kernel
theorem dX3_start_37 : decode cX3_start 37 = .ok (.ifnull 13, 3) := by decide +kernel
theorem dX3_start_40 : decode cX3_start 40 = .ok (.new 57, 3) := by decide +kernel
theorem dX3_start_43 : decode cX3_start 43 = .ok (.dup, 1) := by decide +kernel
theorem dX3_start_44 : decode cX3_start 44 = .ok (.ldc 149, 2) := by decide +kernel
theorem dX3_start_46 : decode cX3_start 46 = .ok (.invokespecial 61, 3) := by decide +kernel
theorem dX3_start_49 : decode cX3_start 49 = .ok (.athrow, 1) := by decide +kernel
theorem dX3_start_50 : decode cX3_start 50 = .ok (.aload_n 3, 1) := by decide +kernel
theorem dX3_start_51 : decode cX3_start 51 = .ok (.iload_n 2, 1) := by decide +kernel
theorem dX3_start_52 : decode cX3_start 52 = .ok (.invokevirtual 151, 3) := by decide +kernel
theorem dX3_start_55 : decode cX3_start 55 = .ok (.aload_n 0, 1) := by decide +kernel
theorem dX3_start_56 : decode cX3_start 56 = .ok (.getfield 21, 3) := by decide +kernel
theorem dX3_start_59 : decode cX3_start 59 = .ok (.iload_n 2, 1) := by decide +kernel
theorem dX3_start_60 : decode cX3_start 60 = .ok (.aload_n 3, 1) := by decide +kernel
theorem dX3_start_61 : decode cX3_start 61 = .ok (.aastore, 1) := by decide +kernel
theorem dX3_start_62 : decode cX3_start 62 = .ok (.return_, 1) := by decide +kernel
set_option maxRecDepth 20000 in
theorem ggX3_pass_X3_isIn : GoodIn wsX3_pass wsX3_isIn := goodIn_r _ [8] (by decide +kernel) (by decide +kernel)
set_option maxRecDepth 20000 in
theorem gX3_pass_X3_isIn : GoodIn wsX3_pass (va_wsS RX3 38 yX3_isIn wsX3_isIn) := goodIn_app (goodIn_of _ (by decide +kernel)) ggX3_pass_X3_isIn
set_option maxRecDepth 20000 in
theorem ggX3_pass_X3_isOverAfter : GoodIn wsX3_pass wsX3_isOverAfter := goodIn_r _ [12, 4, 13, 14, 15, 16, 17, 18, 19, 20, 21, 22, 23, 24, 25, 26, 27, 28, 29, 30, 31, 32, 33, 34, 35, 36, 37, 38, 39, 40, 41, 42, 43, 44, 45, 46, 47, 48, 49, 50, 51, 52, 7, 53, 54, 55, 56, 57, 58, 3, 59, 60, 61, 5, 6, 8, 62, 63, 64, 65, 66, 67, 68, 69, 70, 71, 72, 73, 74, 75, 76, 77, 78, 79, 80, 81, 82, 83, 84, 85, 86, 87, 88, 89, 90, 91, 92, 93, 94, 95, 96, 97, 98, 99, 100, 101, 102, 103, 104, 105, 106, 107, 108, 109, 110, 111, 112, 113, 114, 115, 116, 117, 118, 119, 120, 121, 122, 123, 124, 125, 126, 127, 128, 129, 130, 131, 132, 133, 134, 135, 136, 137, 138, 139, 140, 141, 142, 143, 144, 145, 146, 147, 148, 149, 150, 151, 152, 153, 154, 155, 156, 157, 158, 159, 160, 161, 162, 163, 164, 165, 166, 167, 168, 169, 170, 171, 172, 173, 174, 175, 176, 177, 178, 179] (by decide +kernel) (by decide +kernel)
set_option maxRecDepth 20000 in
theorem gX3_pass_X3_isOverAfter : GoodIn wsX3_pass (wsV RX3 156 RX3 yX3_isOverAfter wsX3_isOverAfter) := goodIn_app (goodIn_of _ (by decide +kernel)) ggX3_pass_X3_isOverAfter
theorem dX3_pass_0 : decode cX3_pass 0 = .ok (.iload_n 1, 1) := by decide +kernel
theorem dX3_pass_1 : decode cX3_pass 1 = .ok (.iconst 1, 1) := by decide +kernel
theorem dX3_pass_2 : decode cX3_pass 2 = .ok (.sipush 600, 3) := by decide +kernel
theorem dX3_pass_5 : decode cX3_pass 5 = .ok (.invokestatic 38, 3) := by decide +kernel
theorem dX3_pass_8 : decode cX3_pass 8 = .ok (.ifCond .ne 13, 3) := by decide +kernel
theorem dX3_pass_11 : decode cX3_pass 11 = .ok (.new 42, 3) := by decide +kernel
theorem dX3_pass_14 : decode cX3_pass 14 = .ok (.dup, 1) := by decide +kernel
theorem dX3_pass_15 : decode cX3_pass 15 = .ok (.ldc 154, 2) := by decide +kernel
theorem dX3_pass_17 : decode cX3_pass 17 = .ok (.invokespecial 46, 3) := by decide +kernel
theorem dX3_pass_20 : decode cX3_pass 20 = .ok (.athrow, 1) := by decide +kernel
theorem dX3_pass_21 : decode cX3_pass 21 = .ok (.iconst 0, 1) := by decide +kernel
theorem dX3_pass_22 : decode cX3_pass 22 = .ok (.istore_n 2, 1) := by decide +kernel
theorem dX3_pass_23 : decode cX3_pass 23 = .ok (.iconst 0, 1) := by decide +kernel
theorem dX3_pass_24 : decode cX3_pass 24 = .ok (.istore_n 3, 1) := by decide +kernel
theorem dX3_pass_25 : decode cX3_pass 25 = .ok (.iload_n 3, 1) := by decide +kernel
theorem dX3_pass_26 : decode cX3_pass 26 = .ok (.iconst 3, 1) := by decide +kernel
theorem dX3_pass_27 : decode cX3_pass 27 = .ok (.if_icmp .ge 35, 3) := by decide +kernel
theorem dX3_pass_30 : decode cX3_pass 30 = .ok (.aload_n 0, 1) := by decide +kernel
theorem dX3_pass_31 : decode cX3_pass 31 = .ok (.getfield 21, 3) := by decide +kernel
theorem dX3_pass_34 : decode cX3_pass 34 = .ok (.iload_n 3, 1) := by decide +kernel
theorem dX3_pass_35 : decode cX3_pass 35 = .ok (.aaload, 1) := by decide +kernel
theorem dX3_pass_36 : decode cX3_pass 36 = .ok (.astore 4, 2) := by decide +kernel
theorem dX3_pass_38 : decode cX3_pass 38 = .ok (.aload 4, 2) := by decide +kernel
theorem dX3_pass_40 : decode cX3_pass 40 = .ok (.ifnull 16, 3) := by decide +kernel
theorem dX3_pass_43 : decode cX3_pass 43 = .ok (.aload_n 0, 1) := by decide +kernel
theorem dX3_pass_44 : decode cX3_pass 44 = .ok (.aload 4, 2) := by decide +kernel
theorem dX3_pass_46 : decode cX3_pass 46 = .ok (.iload_n 1, 1) := by decide +kernel
theorem dX3_pass_47 : decode cX3_pass 47 = .ok (.invokevirtual 156, 3) := by decide +kernel
theorem dX3_pass_50 : decode cX3_pass 50 = .ok (.ifCond .eq 6, 3) := by decide +kernel
theorem dX3_pass_53 : decode cX3_pass 53 = .ok (.iinc 2 1, 3) := by decide +kernel
theorem dX3_pass_56 : decode cX3_pass 56 = .ok (.iinc 3 1, 3) := by decide +kernel
theorem dX3_pass_59 : decode cX3_pass 59 = .ok (.goto (-34), 3) := by decide +kernel
theorem dX3_pass_62 : decode cX3_pass 62 = .ok (.aload_n 0, 1) := by decide +kernel
theorem dX3_pass_63 : decode cX3_pass 63 = .ok (.dup, 1) := by decide +kernel
theorem dX3_pass_64 : decode cX3_pass 64 = .ok (.getfield 160, 3) := by decide +kernel
theorem dX3_pass_67 : decode cX3_pass 67 = .ok (.iload_n 1, 1) := by decide +kernel
theorem dX3_pass_68 : decode cX3_pass 68 = .ok (.iadd, 1) := by decide +kernel
theorem dX3_pass_69 : decode cX3_pass 69 = .ok (.putfield 160, 3) := by decide +kernel
theorem dX3_pass_72 : decode cX3_pass 72 = .ok (.iload_n 2, 1) := by decide +kernel
theorem dX3_pass_73 : decode cX3_pass 73 = .ok (.ireturn, 1) := by decide +kernel
set_option maxRecDepth 20000 in
theorem ggX3_hit_X3_isPiste : GoodIn wsX3_hit wsX3_isPiste := goodIn_r _ [9, 10, 11, 8, 12] (by decide +kernel) (by decide +kernel)
set_option maxRecDepth 20000 in
theorem gX3_hit_X3_isPiste : GoodIn wsX3_hit (va_wsS RX3 139 yX3_isPiste wsX3_isPiste) := goodIn_app (goodIn_of _ (by decide +kernel)) ggX3_hit_X3_isPiste
set_option maxRecDepth 20000 in
theorem ggX3_hit_X3_isIn : GoodIn wsX3_hit wsX3_isIn := goodIn_r _ [12] (by decide +kernel) (by decide +kernel)
set_option maxRecDepth 20000 in
theorem gX3_hit_X3_isIn : GoodIn wsX3_hit (va_wsS RX3 38 yX3_isIn wsX3_isIn) := goodIn_app (goodIn_of _ (by decide +kernel)) ggX3_hit_X3_isIn
set_option maxRecDepth 20000 in
theorem ggX3_hit_X3_liveBoutOn : GoodIn wsX3_hit wsX3_liveBoutOn := goodIn_ca (goodIn_r _ [16, 17, 18, 19, 6, 7, 8, 9, 10, 11, 12, 163, 164, 165, 166, 167, 168, 169, 170, 171, 172] (by decide +kernel) (by decide +kernel)) (goodIn_sub (fun _ h => List.mem_cons_of_mem _ (List.mem_append_right _ h)) (by decide +kernel))
set_option maxRecDepth 20000 in
theorem gX3_hit_X3_liveBoutOn : GoodIn wsX3_hit (wsV RX3 165 RX3 yX3_liveBoutOn wsX3_liveBoutOn) := goodIn_app (goodIn_of _ (by decide +kernel)) ggX3_hit_X3_liveBoutOn
set_option maxRecDepth 20000 in
theorem ggX3_hit_X0_countsForBoth : GoodIn wsX3_hit wsX0_countsForBoth := goodIn_r _ [24, 25, 26, 27, 28, 29, 30, 23, 31, 32, 33, 34, 35, 36, 37, 38, 39, 40, 41, 42, 43, 44, 45, 151, 152, 153, 154, 155, 156, 157, 158, 159, 160, 161, 162] (by decide +kernel) (by decide +kernel)
set_option maxRecDepth 20000 in
theorem gX3_hit_X0_countsForBoth : GoodIn wsX3_hit (wsV RX3 168 RX0 yX0_countsForBoth wsX0_countsForBoth) := goodIn_app (goodIn_of _ (by decide +kernel)) ggX3_hit_X0_countsForBoth
set_option maxRecDepth 20000 in
theorem ggX3_hit_X3_isOverByHit : GoodIn wsX3_hit wsX3_isOverByHit := goodIn_r _ [49, 50, 51, 52, 53, 23, 54, 25, 26, 27, 28, 29, 30, 31, 32, 33, 34, 35, 36, 37, 38, 39, 40, 41, 42, 43, 44, 45, 55, 56, 57, 58, 59, 60, 61, 62, 63, 64, 65, 66, 67, 8, 68, 69, 70, 71, 72, 73, 19, 6, 7, 9, 10, 11, 12, 74, 75, 76, 77, 78, 79, 80, 81, 82, 83, 84, 85, 86, 87, 88, 89, 90, 91, 92, 93, 3, 4, 5, 94, 95, 96, 97, 98, 99, 100, 101, 102, 103, 104, 105, 106, 107, 108, 109, 110, 111, 112, 113, 114, 115, 116, 117, 118, 119, 120, 121, 122, 123, 124, 125, 126, 127, 128, 129, 130, 131, 132, 133, 134, 135, 136, 137, 138, 139, 140, 141, 142, 143, 144, 145, 146, 147, 148, 149, 150, 163, 164, 165, 166, 167, 168, 169, 170, 171, 172, 151, 152, 153, 154, 155, 156, 157, 158, 159, 160, 161, 162, 173, 174, 175, 176, 177, 178, 179, 180, 181, 182, 183, 184, 185, 186, 187, 188, 189] (by decide +kernel) (by decide +kernel)
set_option maxRecDepth 20000 in
theorem gX3_hit_X3_isOverByHit : GoodIn wsX3_hit (wsV RX3 184 RX3 yX3_isOverByHit wsX3_isOverByHit) := goodIn_app (goodIn_of _ (by decide +kernel)) ggX3_hit_X3_isOverByHit
theorem dX3_hit_0 : decode cX3_hit 0 = .ok (.iload_n 1, 1) := by decide +kernel
theorem dX3_hit_1 : decode cX3_hit 1 = .ok (.invokestatic 139, 3) := by decide +kernel
theorem dX3_hit_4 : decode cX3_hit 4 = .ok (.ifCond .eq 12, 3) := by decide +kernel
theorem dX3_hit_7 : decode cX3_hit 7 = .ok (.iload_n 2, 1) := by decide +kernel
theorem dX3_hit_8 : decode cX3_hit 8 = .ok (.iconst 0, 1) := by decide +kernel
theorem dX3_hit_9 : decode cX3_hit 9 = .ok (.iconst 2, 1) := by decide +kernel
theorem dX3_hit_10 : decode cX3_hit 10 = .ok (.invokestatic 38, 3) := by decide +kernel
theorem dX3_hit_13 : decode cX3_hit 13 = .ok (.ifCond .ne 13, 3) := by decide +kernel
theorem dX3_hit_16 : decode cX3_hit 16 = .ok (.new 42, 3) := by decide +kernel
theorem dX3_hit_19 : decode cX3_hit 19 = .ok (.dup, 1) := by decide +kernel
theorem dX3_hit_20 : decode cX3_hit 20 = .ok (.ldc 163, 2) := by decide +kernel
theorem dX3_hit_22 : decode cX3_hit 22 = .ok (.invokespecial 46, 3) := by decide +kernel
theorem dX3_hit_25 : decode cX3_hit 25 = .ok (.athrow, 1) := by decide +kernel
theorem dX3_hit_26 : decode cX3_hit 26 = .ok (.aload_n 0, 1) := by decide +kernel
theorem dX3_hit_27 : decode cX3_hit 27 = .ok (.iload_n 1, 1) := by decide +kernel
theorem dX3_hit_28 : decode cX3_hit 28 = .ok (.invokevirtual 165, 3) := by decide +kernel
theorem dX3_hit_31 : decode cX3_hit 31 = .ok (.astore_n 3, 1) := by decide +kernel
theorem dX3_hit_32 : decode cX3_hit 32 = .ok (.iload_n 2, 1) := by decide +kernel
theorem dX3_hit_33 : decode cX3_hit 33 = .ok (.iconst 2, 1) := by decide +kernel
theorem dX3_hit_34 : decode cX3_hit 34 = .ok (.if_icmp .ne 12, 3) := by decide +kernel
theorem dX3_hit_37 : decode cX3_hit 37 = .ok (.aload_n 3, 1) := by decide +kernel
theorem dX3_hit_38 : decode cX3_hit 38 = .ok (.invokevirtual 168, 3) := by decide +kernel
theorem dX3_hit_41 : decode cX3_hit 41 = .ok (.ifCond .ne 5, 3) := by decide +kernel
theorem dX3_hit_44 : decode cX3_hit 44 = .ok (.iconst 0, 1) := by decide +kernel
theorem dX3_hit_45 : decode cX3_hit 45 = .ok (.ireturn, 1) := by decide +kernel
theorem dX3_hit_46 : decode cX3_hit 46 = .ok (.iload_n 2, 1) := by decide +kernel
theorem dX3_hit_47 : decode cX3_hit 47 = .ok (.iconst 1, 1) := by decide +kernel
theorem dX3_hit_48 : decode cX3_hit 48 = .ok (.if_icmp .eq 16, 3) := by decide +kernel
theorem dX3_hit_51 : decode cX3_hit 51 = .ok (.aload_n 3, 1) := by decide +kernel
theorem dX3_hit_52 : decode cX3_hit 52 = .ok (.getfield 172, 3) := by decide +kernel
theorem dX3_hit_55 : decode cX3_hit 55 = .ok (.dup, 1) := by decide +kernel
theorem dX3_hit_56 : decode cX3_hit 56 = .ok (.getfield 176, 3) := by decide +kernel
theorem dX3_hit_59 : decode cX3_hit 59 = .ok (.iconst 1, 1) := by decide +kernel
theorem dX3_hit_60 : decode cX3_hit 60 = .ok (.iadd, 1) := by decide +kernel
theorem dX3_hit_61 : decode cX3_hit 61 = .ok (.putfield 176, 3) := by decide +kernel
theorem dX3_hit_64 : decode cX3_hit 64 = .ok (.iload_n 2, 1) := by decide +kernel
theorem dX3_hit_65 : decode cX3_hit 65 = .ok (.ifCond .eq 16, 3) := by decide +kernel
theorem dX3_hit_68 : decode cX3_hit 68 = .ok (.aload_n 3, 1) := by decide +kernel
theorem dX3_hit_69 : decode cX3_hit 69 = .ok (.getfield 181, 3) := by decide +kernel
theorem dX3_hit_72 : decode cX3_hit 72 = .ok (.dup, 1) := by decide +kernel
theorem dX3_hit_73 : decode cX3_hit 73 = .ok (.getfield 176, 3) := by decide +kernel
theorem dX3_hit_76 : decode cX3_hit 76 = .ok (.iconst 1, 1) := by decide +kernel
theorem dX3_hit_77 : decode cX3_hit 77 = .ok (.iadd, 1) := by decide +kernel
theorem dX3_hit_78 : decode cX3_hit 78 = .ok (.putfield 176, 3) := by decide +kernel
theorem dX3_hit_81 : decode cX3_hit 81 = .ok (.aload_n 0, 1) := by decide +kernel
theorem dX3_hit_82 : decode cX3_hit 82 = .ok (.aload_n 3, 1) := by decide +kernel
theorem dX3_hit_83 : decode cX3_hit 83 = .ok (.invokevirtual 184, 3) := by decide +kernel
theorem dX3_hit_86 : decode cX3_hit 86 = .ok (.ireturn, 1) := by decide +kernel
set_option maxRecDepth 20000 in
theorem ggX3_card_X3_isPiste : GoodIn wsX3_card wsX3_isPiste := goodIn_r _ [13, 14, 15, 12, 16] (by decide +kernel) (by decide +kernel)
set_option maxRecDepth 20000 in
theorem gX3_card_X3_isPiste : GoodIn wsX3_card (va_wsS RX3 139 yX3_isPiste wsX3_isPiste) := goodIn_app (goodIn_of _ (by decide +kernel)) ggX3_card_X3_isPiste
set_option maxRecDepth 20000 in
theorem ggX3_card_X3_isIn : GoodIn wsX3_card wsX3_isIn := goodIn_r _ [16] (by decide +kernel) (by decide +kernel)
set_option maxRecDepth 20000 in
theorem gX3_card_X3_isIn : GoodIn wsX3_card (va_wsS RX3 38 yX3_isIn wsX3_isIn) := goodIn_app (goodIn_of _ (by decide +kernel)) ggX3_card_X3_isIn
set_option maxRecDepth 20000 in
theorem ggX3_card_X3_liveBoutOn : GoodIn wsX3_card wsX3_liveBoutOn := goodIn_ca (goodIn_r _ [20, 21, 22, 23, 10, 11, 12, 13, 14, 15, 16, 164, 165, 166, 167, 168, 169, 170, 171, 172, 173] (by decide +kernel) (by decide +kernel)) (goodIn_sub (fun _ h => List.mem_cons_of_mem _ (List.mem_append_right _ h)) (by decide +kernel))
set_option maxRecDepth 20000 in
theorem gX3_card_X3_liveBoutOn : GoodIn wsX3_card (wsV RX3 165 RX3 yX3_liveBoutOn wsX3_liveBoutOn) := goodIn_app (goodIn_of _ (by decide +kernel)) ggX3_card_X3_liveBoutOn
set_option maxRecDepth 20000 in
theorem ggX3_card_X0_sideOf : GoodIn wsX3_card wsX0_sideOf := goodIn_r _ [28, 29, 30, 174, 175, 176, 177, 178, 179, 180, 181, 182] (by decide +kernel) (by decide +kernel)
set_option maxRecDepth 20000 in
theorem gX3_card_X0_sideOf : GoodIn wsX3_card (wsV RX3 190 RX0 yX0_sideOf wsX0_sideOf) := goodIn_app (goodIn_of _ (by decide +kernel)) ggX3_card_X0_sideOf
set_option maxRecDepth 20000 in
theorem ggX3_card_X3_isOverByHit : GoodIn wsX3_card wsX3_isOverByHit := goodIn_r _ [34, 35, 36, 37, 38, 27, 39, 29, 40, 30, 41, 42, 43, 44, 45, 46, 47, 48, 49, 50, 51, 52, 53, 54, 55, 56, 57, 58, 59, 60, 61, 62, 63, 64, 65, 66, 67, 68, 69, 70, 71, 12, 72, 73, 74, 75, 76, 77, 23, 10, 11, 13, 14, 15, 16, 78, 79, 80, 81, 82, 83, 84, 85, 86, 87, 88, 89, 90, 91, 92, 93, 94, 95, 96, 97, 98, 8, 99, 9, 100, 101, 102, 103, 104, 105, 106, 107, 108, 109, 110, 111, 112, 113, 114, 115, 116, 117, 118, 119, 120, 121, 122, 123, 124, 125, 126, 127, 128, 129, 130, 131, 132, 133, 134, 135, 136, 137, 138, 139, 140, 141, 142, 143, 144, 145, 146, 147, 148, 149, 150, 151, 24, 25, 26, 28, 164, 165, 166, 167, 168, 169, 170, 171, 172, 173, 174, 175, 176, 177, 178, 179, 180, 181, 182, 161, 162, 163, 183, 184, 185, 186, 187, 188, 189, 190, 191, 192, 193, 194, 195, 196, 197, 198, 199] (by decide +kernel) (by decide +kernel)
set_option maxRecDepth 20000 in
theorem gX3_card_X3_isOverByHit : GoodIn wsX3_card (wsV RX3 184 RX3 yX3_isOverByHit wsX3_isOverByHit) := goodIn_app (goodIn_of _ (by decide +kernel)) ggX3_card_X3_isOverByHit
set_option maxRecDepth 20000 in
theorem ggX3_card_X3_putOut : GoodIn wsX3_card wsX3_putOut := goodIn_r _ [155, 156, 35, 127, 128, 98, 9, 99, 102, 51, 52, 27, 53, 54, 69, 70, 71, 12, 72, 73, 74, 75, 76, 77, 23, 10, 11, 13, 14, 15, 16, 78, 79, 80, 81, 82, 45, 83, 29, 30, 84, 85, 86, 87, 88, 89, 90, 91, 92, 93, 94, 95, 96, 97, 8, 100, 101, 103, 104, 105, 106, 107, 108, 109, 110, 111, 112, 113, 114, 115, 116, 117, 118, 119, 120, 121, 122, 123, 124, 125, 126, 129, 130, 131, 132, 133, 134, 135, 136, 137, 138, 139, 140, 141, 142, 143, 144, 145, 146, 147, 148, 149, 150, 151, 24, 25, 26, 28, 157, 158, 159, 160, 183, 184, 185, 186, 187, 188, 189, 190, 191, 192, 193, 194, 195, 196, 164, 165, 166, 167, 168, 169, 170, 171, 172, 173, 174, 175, 176, 177, 178, 179, 180, 181, 182, 161, 162, 163, 197, 198, 199] (by decide +kernel) (by decide +kernel)
set_option maxRecDepth 20000 in
theorem gX3_card_X3_putOut : GoodIn wsX3_card (wsV RX3 206 RX3 yX3_putOut wsX3_putOut) := goodIn_app (goodIn_of _ (by decide +kernel)) ggX3_card_X3_putOut
theorem dX3_card_0 : decode cX3_card 0 = .ok (.iload_n 1, 1) := by decide +kernel
theorem dX3_card_1 : decode cX3_card 1 = .ok (.invokestatic 139, 3) := by decide +kernel
theorem dX3_card_4 : decode cX3_card 4 = .ok (.ifCond .eq 21, 3) := by decide +kernel
theorem dX3_card_7 : decode cX3_card 7 = .ok (.iload_n 2, 1) := by decide +kernel
theorem dX3_card_8 : decode cX3_card 8 = .ok (.iconst 0, 1) := by decide +kernel
theorem dX3_card_9 : decode cX3_card 9 = .ok (.iconst 1, 1) := by decide +kernel
theorem dX3_card_10 : decode cX3_card 10 = .ok (.invokestatic 38, 3) := by decide +kernel
theorem dX3_card_13 : decode cX3_card 13 = .ok (.ifCond .eq 12, 3) := by decide +kernel
theorem dX3_card_16 : decode cX3_card 16 = .ok (.iload_n 3, 1) := by decide +kernel
theorem dX3_card_17 : decode cX3_card 17 = .ok (.iconst 0, 1) := by decide +kernel
theorem dX3_card_18 : decode cX3_card 18 = .ok (.iconst 2, 1) := by decide +kernel
theorem dX3_card_19 : decode cX3_card 19 = .ok (.invokestatic 38, 3) := by decide +kernel
theorem dX3_card_22 : decode cX3_card 22 = .ok (.ifCond .ne 13, 3) := by decide +kernel
theorem dX3_card_25 : decode cX3_card 25 = .ok (.new 42, 3) := by decide +kernel
theorem dX3_card_28 : decode cX3_card 28 = .ok (.dup, 1) := by decide +kernel
theorem dX3_card_29 : decode cX3_card 29 = .ok (.ldc 188, 2) := by decide +kernel
theorem dX3_card_31 : decode cX3_card 31 = .ok (.invokespecial 46, 3) := by decide +kernel
theorem dX3_card_34 : decode cX3_card 34 = .ok (.athrow, 1) := by decide +kernel
theorem dX3_card_35 : decode cX3_card 35 = .ok (.aload_n 0, 1) := by decide +kernel
theorem dX3_card_36 : decode cX3_card 36 = .ok (.iload_n 1, 1) := by decide +kernel
theorem dX3_card_37 : decode cX3_card 37 = .ok (.invokevirtual 165, 3) := by decide +kernel
theorem dX3_card_40 : decode cX3_card 40 = .ok (.astore 4, 2) := by decide +kernel
theorem dX3_card_42 : decode cX3_card 42 = .ok (.aload 4, 2) := by decide +kernel
theorem dX3_card_44 : decode cX3_card 44 = .ok (.iload_n 2, 1) := by decide +kernel
theorem dX3_card_45 : decode cX3_card 45 = .ok (.invokevirtual 190, 3) := by decide +kernel
theorem dX3_card_48 : decode cX3_card 48 = .ok (.astore 5, 2) := by decide +kernel
theorem dX3_card_50 : decode cX3_card 50 = .ok (.aload 4, 2) := by decide +kernel
theorem dX3_card_52 : decode cX3_card 52 = .ok (.iconst 1, 1) := by decide +kernel
theorem dX3_card_53 : decode cX3_card 53 = .ok (.iload_n 2, 1) := by decide +kernel
theorem dX3_card_54 : decode cX3_card 54 = .ok (.isub, 1) := by decide +kernel
theorem dX3_card_55 : decode cX3_card 55 = .ok (.invokevirtual 190, 3) := by decide +kernel
theorem dX3_card_58 : decode cX3_card 58 = .ok (.astore 6, 2) := by decide +kernel
theorem dX3_card_60 : decode cX3_card 60 = .ok (.iload_n 3, 1) := by decide +kernel
theorem dX3_card_61 : decode cX3_card 61 = .ok (.ifCond .ne 15, 3) := by decide +kernel
theorem dX3_card_64 : decode cX3_card 64 = .ok (.aload 5, 2) := by decide +kernel
theorem dX3_card_66 : decode cX3_card 66 = .ok (.getfield 194, 3) := by decide +kernel
theorem dX3_card_69 : decode cX3_card 69 = .ok (.ifCond .le 7, 3) := by decide +kernel
theorem dX3_card_72 : decode cX3_card 72 = .ok (.iconst 1, 1) := by decide +kernel
theorem dX3_card_73 : decode cX3_card 73 = .ok (.goto 4, 3) := by decide +kernel
theorem dX3_card_76 : decode cX3_card 76 = .ok (.iload_n 3, 1) := by decide +kernel
theorem dX3_card_77 : decode cX3_card 77 = .ok (.istore 7, 2) := by decide +kernel
theorem dX3_card_79 : decode cX3_card 79 = .ok (.aload 5, 2) := by decide +kernel
theorem dX3_card_81 : decode cX3_card 81 = .ok (.aload 5, 2) := by decide +kernel
theorem dX3_card_83 : decode cX3_card 83 = .ok (.getfield 194, 3) := by decide +kernel
theorem dX3_card_86 : decode cX3_card 86 = .ok (.iload 7, 2) := by decide +kernel
theorem dX3_card_88 : decode cX3_card 88 = .ok (.iconst 1, 1) := by decide +kernel
theorem dX3_card_89 : decode cX3_card 89 = .ok (.iadd, 1) := by decide +kernel
theorem dX3_card_90 : decode cX3_card 90 = .ok (.invokestatic 197, 3) := by decide +kernel
theorem dX3_card_93 : decode cX3_card 93 = .ok (.putfield 194, 3) := by decide +kernel
theorem dX3_card_96 : decode cX3_card 96 = .ok (.iload 7, 2) := by decide +kernel
theorem dX3_card_98 : decode cX3_card 98 = .ok (.iconst 1, 1) := by decide +kernel
theorem dX3_card_99 : decode cX3_card 99 = .ok (.if_icmp .ne 24, 3) := by decide +kernel
theorem dX3_card_102 : decode cX3_card 102 = .ok (.aload 6, 2) := by decide +kernel
theorem dX3_card_104 : decode cX3_card 104 = .ok (.dup, 1) := by decide +kernel
theorem dX3_card_105 : decode cX3_card 105 = .ok (.getfield 176, 3) := by decide +kernel
theorem dX3_card_108 : decode cX3_card 108 = .ok (.iconst 1, 1) := by decide +kernel
theorem dX3_card_109 : decode cX3_card 109 = .ok (.iadd, 1) := by decide +kernel
theorem dX3_card_110 : decode cX3_card 110 = .ok (.putfield 176, 3) := by decide +kernel
theorem dX3_card_113 : decode cX3_card 113 = .ok (.aload_n 0, 1) := by decide +kernel
theorem dX3_card_114 : decode cX3_card 114 = .ok (.aload 4, 2) := by decide +kernel
theorem dX3_card_116 : decode cX3_card 116 = .ok (.invokevirtual 184, 3) := by decide +kernel
theorem dX3_card_119 : decode cX3_card 119 = .ok (.pop, 1) := by decide +kernel
theorem dX3_card_120 : decode cX3_card 120 = .ok (.goto 25, 3) := by decide +kernel
theorem dX3_card_123 : decode cX3_card 123 = .ok (.iload 7, 2) := by decide +kernel
theorem dX3_card_125 : decode cX3_card 125 = .ok (.iconst 2, 1) := by decide +kernel
theorem dX3_card_126 : decode cX3_card 126 = .ok (.if_icmp .ne 19, 3) := by decide +kernel
theorem dX3_card_129 : decode cX3_card 129 = .ok (.aload_n 0, 1) := by decide +kernel
theorem dX3_card_130 : decode cX3_card 130 = .ok (.aload 4, 2) := by decide +kernel
theorem dX3_card_132 : decode cX3_card 132 = .ok (.aload 5, 2) := by decide +kernel
theorem dX3_card_134 : decode cX3_card 134 = .ok (.getfield 202, 3) := by decide +kernel
theorem dX3_card_137 : decode cX3_card 137 = .ok (.aload 6, 2) := by decide +kernel
theorem dX3_card_139 : decode cX3_card 139 = .ok (.getfield 202, 3) := by decide +kernel
theorem dX3_card_142 : decode cX3_card 142 = .ok (.invokevirtual 206, 3) := by decide +kernel
theorem dX3_card_145 : decode cX3_card 145 = .ok (.iload 7, 2) := by decide +kernel
theorem dX3_card_147 : decode cX3_card 147 = .ok (.ireturn, 1) := by decide +kernel
set_option maxRecDepth 20000 in
theorem ggX3_ofBout_X3_boutAt : GoodIn wsX3_ofBout wsX3_boutAt := goodIn_ca (goodIn_r _ [17, 18, 19, 20, 21, 22, 23, 24, 25, 26, 27, 28, 29, 16, 30, 31, 32, 33, 34, 35, 36, 37, 38, 39, 40, 41, 42, 43, 44, 45, 46, 47, 87, 88, 89, 90, 91, 92, 93, 94, 95, 96, 97, 98, 99] (by decide +kernel) (by decide +kernel)) (goodIn_sub (fun _ h => List.mem_cons_of_mem _ (List.mem_append_right _ h)) (by decide +kernel))
set_option maxRecDepth 20000 in
theorem gX3_ofBout_X3_boutAt : GoodIn wsX3_ofBout (wsV RX3 135 RX3 yX3_boutAt wsX3_boutAt) := goodIn_app (goodIn_of _ (by decide +kernel)) ggX3_ofBout_X3_boutAt
set_option maxRecDepth 20000 in
theorem ggX3_ofBout_X3_numberOf : GoodIn wsX3_ofBout wsX3_numberOf := goodIn_r _ [50, 51, 100, 101, 102, 103, 104, 105, 106, 107, 108, 109, 110, 111, 112, 113] (by decide +kernel) (by decide +kernel)
set_option maxRecDepth 20000 in
theorem gX3_ofBout_X3_numberOf : GoodIn wsX3_ofBout (va_wsS RX3 213 yX3_numberOf wsX3_numberOf) := goodIn_app (goodIn_of _ (by decide +kernel)) ggX3_ofBout_X3_numberOf
set_option maxRecDepth 20000 in
theorem ggX3_ofBout_X0_isInExtra : GoodIn wsX3_ofBout wsX0_isInExtra := goodIn_r _ [56, 57, 58, 59, 60, 55, 61, 62, 63, 64, 65, 66, 75, 76, 77, 78, 79, 80, 81, 82, 83] (by decide +kernel) (by decide +kernel)
set_option maxRecDepth 20000 in
theorem gX3_ofBout_X0_isInExtra : GoodIn wsX3_ofBout (wsV RX3 229 RX0 yX0_isInExtra wsX0_isInExtra) := goodIn_app (goodIn_of _ (by decide +kernel)) ggX3_ofBout_X0_isInExtra
set_option maxRecDepth 20000 in
theorem ggX3_ofBout_X0_withPriority : GoodIn wsX3_ofBout wsX0_withPriority := goodIn_r _ [70, 71, 72, 73, 74, 75, 76, 77, 78, 79, 80, 81, 82, 83, 84, 85, 86] (by decide +kernel) (by decide +kernel)
set_option maxRecDepth 20000 in
theorem gX3_ofBout_X0_withPriority : GoodIn wsX3_ofBout (wsV RX3 232 RX0 yX0_withPriority wsX0_withPriority) := goodIn_app (goodIn_of _ (by decide +kernel)) ggX3_ofBout_X0_withPriority
theorem dX3_ofBout_0 : decode cX3_ofBout 0 = .ok (.aload_n 0, 1) := by decide +kernel
theorem dX3_ofBout_1 : decode cX3_ofBout 1 = .ok (.iload_n 1, 1) := by decide +kernel
theorem dX3_ofBout_2 : decode cX3_ofBout 2 = .ok (.invokevirtual 135, 3) := by decide +kernel
theorem dX3_ofBout_5 : decode cX3_ofBout 5 = .ok (.astore_n 3, 1) := by decide +kernel
theorem dX3_ofBout_6 : decode cX3_ofBout 6 = .ok (.iload_n 2, 1) := by decide +kernel
theorem dX3_ofBout_7 : decode cX3_ofBout 7 = .ok (.tableswitch 165 0 11 #[61, 66, 77, 88, 96, 104, 112, 117, 122, 127, 149, 157], 61) := by decide +kernel
theorem dX3_ofBout_68 : decode cX3_ofBout 68 = .ok (.aload_n 3, 1) := by decide +kernel
theorem dX3_ofBout_69 : decode cX3_ofBout 69 = .ok (.getfield 210, 3) := by decide +kernel
theorem dX3_ofBout_72 : decode cX3_ofBout 72 = .ok (.ireturn, 1) := by decide +kernel
theorem dX3_ofBout_73 : decode cX3_ofBout 73 = .ok (.aload_n 3, 1) := by decide +kernel
theorem dX3_ofBout_74 : decode cX3_ofBout 74 = .ok (.getfield 172, 3) := by decide +kernel
theorem dX3_ofBout_77 : decode cX3_ofBout 77 = .ok (.getfield 202, 3) := by decide +kernel
theorem dX3_ofBout_80 : decode cX3_ofBout 80 = .ok (.invokestatic 213, 3) := by decide +kernel
theorem dX3_ofBout_83 : decode cX3_ofBout 83 = .ok (.ireturn, 1) := by decide +kernel
theorem dX3_ofBout_84 : decode cX3_ofBout 84 = .ok (.aload_n 3, 1) := by decide +kernel
theorem dX3_ofBout_85 : decode cX3_ofBout 85 = .ok (.getfield 181, 3) := by decide +kernel
theorem dX3_ofBout_88 : decode cX3_ofBout 88 = .ok (.getfield 202, 3) := by decide +kernel
theorem dX3_ofBout_91 : decode cX3_ofBout 91 = .ok (.invokestatic 213, 3) := by decide +kernel
theorem dX3_ofBout_94 : decode cX3_ofBout 94 = .ok (.ireturn, 1) := by decide +kernel
theorem dX3_ofBout_95 : decode cX3_ofBout 95 = .ok (.aload_n 3, 1) := by decide +kernel
theorem dX3_ofBout_96 : decode cX3_ofBout 96 = .ok (.getfield 172, 3) := by decide +kernel
theorem dX3_ofBout_99 : decode cX3_ofBout 99 = .ok (.getfield 176, 3) := by decide +kernel
theorem dX3_ofBout_102 : decode cX3_ofBout 102 = .ok (.ireturn, 1) := by decide +kernel
theorem dX3_ofBout_103 : decode cX3_ofBout 103 = .ok (.aload_n 3, 1) := by decide +kernel
theorem dX3_ofBout_104 : decode cX3_ofBout 104 = .ok (.getfield 181, 3) := by decide +kernel
theorem dX3_ofBout_107 : decode cX3_ofBout 107 = .ok (.getfield 176, 3) := by decide +kernel
theorem dX3_ofBout_110 : decode cX3_ofBout 110 = .ok (.ireturn, 1) := by decide +kernel
theorem dX3_ofBout_111 : decode cX3_ofBout 111 = .ok (.aload_n 3, 1) := by decide +kernel
theorem dX3_ofBout_112 : decode cX3_ofBout 112 = .ok (.getfield 217, 3) := by decide +kernel
theorem dX3_ofBout_115 : decode cX3_ofBout 115 = .ok (.invokestatic 213, 3) := by decide +kernel
theorem dX3_ofBout_118 : decode cX3_ofBout 118 = .ok (.ireturn, 1) := by decide +kernel
theorem dX3_ofBout_119 : decode cX3_ofBout 119 = .ok (.aload_n 3, 1) := by decide +kernel
theorem dX3_ofBout_120 : decode cX3_ofBout 120 = .ok (.getfield 220, 3) := by decide +kernel
theorem dX3_ofBout_123 : decode cX3_ofBout 123 = .ok (.ireturn, 1) := by decide +kernel
theorem dX3_ofBout_124 : decode cX3_ofBout 124 = .ok (.aload_n 3, 1) := by decide +kernel
theorem dX3_ofBout_125 : decode cX3_ofBout 125 = .ok (.getfield 223, 3) := by decide +kernel
theorem dX3_ofBout_128 : decode cX3_ofBout 128 = .ok (.ireturn, 1) := by decide +kernel
theorem dX3_ofBout_129 : decode cX3_ofBout 129 = .ok (.aload_n 3, 1) := by decide +kernel
theorem dX3_ofBout_130 : decode cX3_ofBout 130 = .ok (.getfield 226, 3) := by decide +kernel
theorem dX3_ofBout_133 : decode cX3_ofBout 133 = .ok (.ireturn, 1) := by decide +kernel
theorem dX3_ofBout_134 : decode cX3_ofBout 134 = .ok (.aload_n 3, 1) := by decide +kernel
theorem dX3_ofBout_135 : decode cX3_ofBout 135 = .ok (.invokevirtual 229, 3) := by decide +kernel
theorem dX3_ofBout_138 : decode cX3_ofBout 138 = .ok (.ifCond .eq 16, 3) := by decide +kernel
theorem dX3_ofBout_141 : decode cX3_ofBout 141 = .ok (.aload_n 3, 1) := by decide +kernel
theorem dX3_ofBout_142 : decode cX3_ofBout 142 = .ok (.invokevirtual 232, 3) := by decide +kernel
theorem dX3_ofBout_145 : decode cX3_ofBout 145 = .ok (.getfield 202, 3) := by decide +kernel
theorem dX3_ofBout_148 : decode cX3_ofBout 148 = .ok (.invokestatic 213, 3) := by decide +kernel
theorem dX3_ofBout_151 : decode cX3_ofBout 151 = .ok (.goto 4, 3) := by decide +kernel
theorem dX3_ofBout_154 : decode cX3_ofBout 154 = .ok (.iconst (-1), 1) := by decide +kernel
theorem dX3_ofBout_155 : decode cX3_ofBout 155 = .ok (.ireturn, 1) := by decide +kernel
theorem dX3_ofBout_156 : decode cX3_ofBout 156 = .ok (.aload_n 3, 1) := by decide +kernel
theorem dX3_ofBout_157 : decode cX3_ofBout 157 = .ok (.getfield 172, 3) := by decide +kernel
theorem dX3_ofBout_160 : decode cX3_ofBout 160 = .ok (.getfield 194, 3) := by decide +kernel
theorem dX3_ofBout_163 : decode cX3_ofBout 163 = .ok (.ireturn, 1) := by decide +kernel
theorem dX3_ofBout_164 : decode cX3_ofBout 164 = .ok (.aload_n 3, 1) := by decide +kernel
theorem dX3_ofBout_165 : decode cX3_ofBout 165 = .ok (.getfield 181, 3) := by decide +kernel
theorem dX3_ofBout_168 : decode cX3_ofBout 168 = .ok (.getfield 194, 3) := by decide +kernel
theorem dX3_ofBout_171 : decode cX3_ofBout 171 = .ok (.ireturn, 1) := by decide +kernel
theorem dX3_ofBout_172 : decode cX3_ofBout 172 = .ok (.new 42, 3) := by decide +kernel
theorem dX3_ofBout_175 : decode cX3_ofBout 175 = .ok (.dup, 1) := by decide +kernel
theorem dX3_ofBout_176 : decode cX3_ofBout 176 = .ok (.ldc 236, 2) := by decide +kernel
theorem dX3_ofBout_178 : decode cX3_ofBout 178 = .ok (.invokespecial 46, 3) := by decide +kernel
theorem dX3_ofBout_181 : decode cX3_ofBout 181 = .ok (.athrow, 1) := by decide +kernel
set_option maxRecDepth 20000 in
theorem ggX3_reason_X3_boutAt : GoodIn wsX3_reason wsX3_boutAt := goodIn_ca (goodIn_r _ [5, 6, 7, 8, 9, 10, 11, 12, 13, 14, 15, 16, 17, 4, 18, 19, 20, 21, 22, 23, 24, 25, 26, 27, 28, 29, 30, 31, 32, 33, 34, 35, 72, 73, 74, 75, 76, 77, 78, 79, 80, 81, 82, 83, 84] (by decide +kernel) (by decide +kernel)) (goodIn_sub (fun _ h => List.mem_cons_of_mem _ (List.mem_append_right _ h)) (by decide +kernel))
set_option maxRecDepth 20000 in
theorem gX3_reason_X3_boutAt : GoodIn wsX3_reason (wsV RX3 135 RX3 yX3_boutAt wsX3_boutAt) := goodIn_app (goodIn_of _ (by decide +kernel)) ggX3_reason_X3_boutAt
set_option maxRecDepth 20000 in
theorem ggX3_reason_X3_whyNotReady : GoodIn wsX3_reason wsX3_whyNotReady := goodIn_r _ [39, 40, 41, 42, 43, 44, 45, 46, 47, 48, 49, 50, 51, 52, 53, 54, 55, 56, 57, 58, 59, 60, 61, 62, 63, 64, 65, 66, 67, 68, 69, 70, 71, 85, 86, 87, 88, 89, 90, 91, 92, 93, 72, 73, 74, 75, 76, 77, 78, 79, 80, 81, 94, 95, 96, 97, 98, 99, 100, 101, 102, 103, 104, 105, 106, 107, 108, 109, 110] (by decide +kernel) (by decide +kernel)
set_option maxRecDepth 20000 in
theorem gX3_reason_X3_whyNotReady : GoodIn wsX3_reason (wsV RX3 145 RX3 yX3_whyNotReady wsX3_whyNotReady) := goodIn_app (goodIn_of _ (by decide +kernel)) ggX3_reason_X3_whyNotReady
end
section
theorem dX3_reason_0 : decode cX3_reason 0 = .ok (.aload_n 0, 1) := by decide +kernel
theorem dX3_reason_1 : decode cX3_reason 1 = .ok (.aload_n 0, 1) := by decide +kernel
theorem dX3_reason_2 : decode cX3_reason 2 = .ok (.iload_n 1, 1) := by decide +kernel
theorem dX3_reason_3 : decode cX3_reason 3 = .ok (.invokevirtual 135, 3) := by decide +kernel
theorem dX3_reason_6 : decode cX3_reason 6 = .ok (.invokevirtual 145, 3) := by decide +kernel
theorem dX3_reason_9 : decode cX3_reason 9 = .ok (.ireturn, 1) := by decide +kernel
set_option maxRecDepth 20000 in
theorem ggX3_next_Jx4a65c_size_8abf5 : GoodIn wsX3_next wsJx4a65c_size_8abf5 := goodIn_r _ [7, 8, 73, 74, 75] (by decide +kernel) (by decide +kernel)
set_option maxRecDepth 20000 in
theorem gX3_next_Jx4a65c_size_8abf5 : GoodIn wsX3_next (wsV RX3 49 RJx4a65c yJx4a65c_size_8abf5 wsJx4a65c_size_8abf5) := goodIn_app (goodIn_of _ (by decide +kernel)) ggX3_next_Jx4a65c_size_8abf5
set_option maxRecDepth 20000 in
theorem ggX3_next_Jx4a65c_get_915e3 : GoodIn wsX3_next wsJx4a65c_get_915e3 := goodIn_r _ [12, 8, 13, 14, 15, 16, 17, 18, 19, 20, 21, 22, 23, 6, 24, 25, 73, 74, 75] (by decide +kernel) (by decide +kernel)
set_option maxRecDepth 20000 in
theorem gX3_next_Jx4a65c_get_915e3 : GoodIn wsX3_next (wsV RX3 124 RJx4a65c yJx4a65c_get_915e3 wsJx4a65c_get_915e3) := goodIn_app (goodIn_of _ (by decide +kernel)) ggX3_next_Jx4a65c_get_915e3
set_option maxRecDepth 20000 in
theorem ggX3_next_X0_restedAt : GoodIn wsX3_next wsX0_restedAt := goodIn_r _ [30, 31, 32, 33, 34, 35, 36, 37, 38, 39, 40, 41, 42, 43, 76, 77, 78, 79, 80, 81, 82, 83, 84, 85, 86, 87, 88, 89, 90, 91, 92, 93, 94, 95, 96, 97, 98, 99, 100, 101] (by decide +kernel) (by decide +kernel)
set_option maxRecDepth 20000 in
theorem gX3_next_X0_restedAt : GoodIn wsX3_next (wsV RX3 238 RX0 yX0_restedAt wsX0_restedAt) := goodIn_app (goodIn_of _ (by decide +kernel)) ggX3_next_X0_restedAt
set_option maxRecDepth 20000 in
theorem ggX3_next_X3_whyNotReady : GoodIn wsX3_next wsX3_whyNotReady := goodIn_r _ [48, 49, 50, 51, 52, 53, 54, 55, 29, 56, 31, 57, 32, 58, 59, 60, 40, 61, 42, 62, 26, 27, 28, 30, 33, 34, 35, 36, 37, 38, 39, 41, 43, 76, 77, 78, 79, 80, 81, 82, 83, 84, 63, 64, 65, 66, 67, 68, 69, 70, 71, 72, 85, 86, 87, 88, 89, 90, 91, 92, 93, 94, 95, 96, 97, 98, 99, 100, 101] (by decide +kernel) (by decide +kernel)
set_option maxRecDepth 20000 in
theorem gX3_next_X3_whyNotReady : GoodIn wsX3_next (wsV RX3 145 RX3 yX3_whyNotReady wsX3_whyNotReady) := goodIn_app (goodIn_of _ (by decide +kernel)) ggX3_next_X3_whyNotReady
theorem dX3_next_0 : decode cX3_next 0 = .ok (.iconst (-1), 1) := by decide +kernel
theorem dX3_next_1 : decode cX3_next 1 = .ok (.istore_n 1, 1) := by decide +kernel
theorem dX3_next_2 : decode cX3_next 2 = .ok (.iconst 0, 1) := by decide +kernel
theorem dX3_next_3 : decode cX3_next 3 = .ok (.istore_n 2, 1) := by decide +kernel
theorem dX3_next_4 : decode cX3_next 4 = .ok (.iconst 0, 1) := by decide +kernel
theorem dX3_next_5 : decode cX3_next 5 = .ok (.istore_n 3, 1) := by decide +kernel
theorem dX3_next_6 : decode cX3_next 6 = .ok (.iload_n 3, 1) := by decide +kernel
theorem dX3_next_7 : decode cX3_next 7 = .ok (.aload_n 0, 1) := by decide +kernel
theorem dX3_next_8 : decode cX3_next 8 = .ok (.getfield 16, 3) := by decide +kernel
theorem dX3_next_11 : decode cX3_next 11 = .ok (.invokevirtual 49, 3) := by decide +kernel
theorem dX3_next_14 : decode cX3_next 14 = .ok (.if_icmp .ge 65, 3) := by decide +kernel
theorem dX3_next_17 : decode cX3_next 17 = .ok (.aload_n 0, 1) := by decide +kernel
theorem dX3_next_18 : decode cX3_next 18 = .ok (.getfield 16, 3) := by decide +kernel
theorem dX3_next_21 : decode cX3_next 21 = .ok (.iload_n 3, 1) := by decide +kernel
theorem dX3_next_22 : decode cX3_next 22 = .ok (.invokevirtual 124, 3) := by decide +kernel
theorem dX3_next_25 : decode cX3_next 25 = .ok (.checkcast 19, 3) := by decide +kernel
theorem dX3_next_28 : decode cX3_next 28 = .ok (.astore 4, 2) := by decide +kernel
theorem dX3_next_30 : decode cX3_next 30 = .ok (.iload_n 1, 1) := by decide +kernel
theorem dX3_next_31 : decode cX3_next 31 = .ok (.iconst (-1), 1) := by decide +kernel
theorem dX3_next_32 : decode cX3_next 32 = .ok (.if_icmp .eq 12, 3) := by decide +kernel
theorem dX3_next_35 : decode cX3_next 35 = .ok (.aload 4, 2) := by decide +kernel
theorem dX3_next_37 : decode cX3_next 37 = .ok (.invokevirtual 238, 3) := by decide +kernel
theorem dX3_next_40 : decode cX3_next 40 = .ok (.iload_n 2, 1) := by decide +kernel
theorem dX3_next_41 : decode cX3_next 41 = .ok (.if_icmp .ge 7, 3) := by decide +kernel
theorem dX3_next_44 : decode cX3_next 44 = .ok (.iconst 1, 1) := by decide +kernel
theorem dX3_next_45 : decode cX3_next 45 = .ok (.goto 4, 3) := by decide +kernel
theorem dX3_next_48 : decode cX3_next 48 = .ok (.iconst 0, 1) := by decide +kernel
theorem dX3_next_49 : decode cX3_next 49 = .ok (.istore 5, 2) := by decide +kernel
theorem dX3_next_51 : decode cX3_next 51 = .ok (.iload 5, 2) := by decide +kernel
theorem dX3_next_53 : decode cX3_next 53 = .ok (.ifCond .eq 20, 3) := by decide +kernel
theorem dX3_next_56 : decode cX3_next 56 = .ok (.aload_n 0, 1) := by decide +kernel
theorem dX3_next_57 : decode cX3_next 57 = .ok (.aload 4, 2) := by decide +kernel
theorem dX3_next_59 : decode cX3_next 59 = .ok (.invokevirtual 145, 3) := by decide +kernel
theorem dX3_next_62 : decode cX3_next 62 = .ok (.ifCond .ne 11, 3) := by decide +kernel
theorem dX3_next_65 : decode cX3_next 65 = .ok (.iload_n 3, 1) := by decide +kernel
theorem dX3_next_66 : decode cX3_next 66 = .ok (.istore_n 1, 1) := by decide +kernel
theorem dX3_next_67 : decode cX3_next 67 = .ok (.aload 4, 2) := by decide +kernel
theorem dX3_next_69 : decode cX3_next 69 = .ok (.invokevirtual 238, 3) := by decide +kernel
theorem dX3_next_72 : decode cX3_next 72 = .ok (.istore_n 2, 1) := by decide +kernel
theorem dX3_next_73 : decode cX3_next 73 = .ok (.iinc 3 1, 3) := by decide +kernel
theorem dX3_next_76 : decode cX3_next 76 = .ok (.goto (-70), 3) := by decide +kernel
theorem dX3_next_79 : decode cX3_next 79 = .ok (.iload_n 1, 1) := by decide +kernel
theorem dX3_next_80 : decode cX3_next 80 = .ok (.ireturn, 1) := by decide +kernel
set_option maxRecDepth 20000 in
theorem ggX3_many_Jx4a65c_size_8abf5 : GoodIn wsX3_many wsJx4a65c_size_8abf5 := goodIn_r _ [12, 13, 63, 64, 65] (by decide +kernel) (by decide +kernel)
set_option maxRecDepth 20000 in
theorem gX3_many_Jx4a65c_size_8abf5 : GoodIn wsX3_many (wsV RX3 49 RJx4a65c yJx4a65c_size_8abf5 wsJx4a65c_size_8abf5) := goodIn_app (goodIn_of _ (by decide +kernel)) ggX3_many_Jx4a65c_size_8abf5
set_option maxRecDepth 20000 in
theorem ggX3_many_X3_boutsIn : GoodIn wsX3_many wsX3_boutsIn := goodIn_r _ [18, 5, 19, 20, 8, 9, 10, 11, 12, 13, 21, 22, 23, 24, 25, 26, 27, 28, 29, 30, 31, 32, 33, 34, 35, 36, 37, 53, 54, 55, 56, 57, 58, 59, 60, 61, 62, 66, 67, 68, 69, 70, 71, 72, 73, 74, 63, 64, 65] (by decide +kernel) (by decide +kernel)
set_option maxRecDepth 20000 in
theorem gX3_many_X3_boutsIn : GoodIn wsX3_many (wsV RX3 240 RX3 yX3_boutsIn wsX3_boutsIn) := goodIn_app (goodIn_of _ (by decide +kernel)) ggX3_many_X3_boutsIn
set_option maxRecDepth 20000 in
theorem ggX3_many_X3_fencersOut : GoodIn wsX3_many wsX3_fencersOut := goodIn_r _ [41, 3, 42, 43, 8, 9, 10, 11, 12, 13, 21, 22, 23, 24, 25, 26, 27, 28, 29, 30, 31, 32, 33, 34, 35, 36, 37, 53, 54, 55, 56, 57, 58, 59, 60, 61, 62, 75, 76, 77, 78, 79, 80, 81, 82, 83, 84, 85, 86, 87, 88, 63, 64, 65] (by decide +kernel) (by decide +kernel)
set_option maxRecDepth 20000 in
theorem gX3_many_X3_fencersOut : GoodIn wsX3_many (wsV RX3 244 RX3 yX3_fencersOut wsX3_fencersOut) := goodIn_app (goodIn_of _ (by decide +kernel)) ggX3_many_X3_fencersOut
set_option maxRecDepth 20000 in
theorem ggX3_many_X3_winnerOfTable : GoodIn wsX3_many wsX3_winnerOfTable := goodIn_r _ [47, 5, 7, 19, 48, 8, 9, 10, 11, 12, 13, 21, 22, 23, 24, 25, 26, 27, 28, 29, 30, 31, 32, 33, 34, 35, 36, 37, 53, 54, 55, 56, 57, 58, 59, 60, 61, 62, 66, 67, 68, 69, 70, 71, 72, 73, 74, 63, 64, 65] (by decide +kernel) (by decide +kernel)
set_option maxRecDepth 20000 in
theorem gX3_many_X3_winnerOfTable : GoodIn wsX3_many (wsV RX3 250 RX3 yX3_winnerOfTable wsX3_winnerOfTable) := goodIn_app (goodIn_of _ (by decide +kernel)) ggX3_many_X3_winnerOfTable
set_option maxRecDepth 20000 in
theorem ggX3_many_X3_numberOf : GoodIn wsX3_many wsX3_numberOf := goodIn_r _ [51, 52, 75, 76, 77, 78, 79, 80, 81, 82, 83, 84, 85, 86, 87, 88] (by decide +kernel) (by decide +kernel)
set_option maxRecDepth 20000 in
theorem gX3_many_X3_numberOf : GoodIn wsX3_many (va_wsS RX3 213 yX3_numberOf wsX3_numberOf) := goodIn_app (goodIn_of _ (by decide +kernel)) ggX3_many_X3_numberOf
theorem dX3_many_0 : decode cX3_many 0 = .ok (.iload_n 1, 1) := by decide +kernel
theorem dX3_many_1 : decode cX3_many 1 = .ok (.tableswitch 127 0 10 #[59, 67, 72, 80, 86, 92, 98, 104, 109, 114, 119], 59) := by decide +kernel
theorem dX3_many_60 : decode cX3_many 60 = .ok (.aload_n 0, 1) := by decide +kernel
theorem dX3_many_61 : decode cX3_many 61 = .ok (.getfield 12, 3) := by decide +kernel
theorem dX3_many_64 : decode cX3_many 64 = .ok (.invokevirtual 49, 3) := by decide +kernel
theorem dX3_many_67 : decode cX3_many 67 = .ok (.ireturn, 1) := by decide +kernel
theorem dX3_many_68 : decode cX3_many 68 = .ok (.aload_n 0, 1) := by decide +kernel
theorem dX3_many_69 : decode cX3_many 69 = .ok (.getfield 53, 3) := by decide +kernel
theorem dX3_many_72 : decode cX3_many 72 = .ok (.ireturn, 1) := by decide +kernel
theorem dX3_many_73 : decode cX3_many 73 = .ok (.aload_n 0, 1) := by decide +kernel
theorem dX3_many_74 : decode cX3_many 74 = .ok (.getfield 16, 3) := by decide +kernel
theorem dX3_many_77 : decode cX3_many 77 = .ok (.invokevirtual 49, 3) := by decide +kernel
theorem dX3_many_80 : decode cX3_many 80 = .ok (.ireturn, 1) := by decide +kernel
theorem dX3_many_81 : decode cX3_many 81 = .ok (.aload_n 0, 1) := by decide +kernel
theorem dX3_many_82 : decode cX3_many 82 = .ok (.iconst 0, 1) := by decide +kernel
theorem dX3_many_83 : decode cX3_many 83 = .ok (.invokevirtual 240, 3) := by decide +kernel
theorem dX3_many_86 : decode cX3_many 86 = .ok (.ireturn, 1) := by decide +kernel
theorem dX3_many_87 : decode cX3_many 87 = .ok (.aload_n 0, 1) := by decide +kernel
theorem dX3_many_88 : decode cX3_many 88 = .ok (.iconst 1, 1) := by decide +kernel
theorem dX3_many_89 : decode cX3_many 89 = .ok (.invokevirtual 240, 3) := by decide +kernel
theorem dX3_many_92 : decode cX3_many 92 = .ok (.ireturn, 1) := by decide +kernel
theorem dX3_many_93 : decode cX3_many 93 = .ok (.aload_n 0, 1) := by decide +kernel
theorem dX3_many_94 : decode cX3_many 94 = .ok (.iconst 2, 1) := by decide +kernel
theorem dX3_many_95 : decode cX3_many 95 = .ok (.invokevirtual 240, 3) := by decide +kernel
theorem dX3_many_98 : decode cX3_many 98 = .ok (.ireturn, 1) := by decide +kernel
theorem dX3_many_99 : decode cX3_many 99 = .ok (.aload_n 0, 1) := by decide +kernel
theorem dX3_many_100 : decode cX3_many 100 = .ok (.iconst 3, 1) := by decide +kernel
theorem dX3_many_101 : decode cX3_many 101 = .ok (.invokevirtual 240, 3) := by decide +kernel
theorem dX3_many_104 : decode cX3_many 104 = .ok (.ireturn, 1) := by decide +kernel
theorem dX3_many_105 : decode cX3_many 105 = .ok (.aload_n 0, 1) := by decide +kernel
theorem dX3_many_106 : decode cX3_many 106 = .ok (.getfield 160, 3) := by decide +kernel
theorem dX3_many_109 : decode cX3_many 109 = .ok (.ireturn, 1) := by decide +kernel
theorem dX3_many_110 : decode cX3_many 110 = .ok (.aload_n 0, 1) := by decide +kernel
theorem dX3_many_111 : decode cX3_many 111 = .ok (.invokevirtual 244, 3) := by decide +kernel
theorem dX3_many_114 : decode cX3_many 114 = .ok (.ireturn, 1) := by decide +kernel
theorem dX3_many_115 : decode cX3_many 115 = .ok (.aload_n 0, 1) := by decide +kernel
theorem dX3_many_116 : decode cX3_many 116 = .ok (.getfield 247, 3) := by decide +kernel
theorem dX3_many_119 : decode cX3_many 119 = .ok (.ireturn, 1) := by decide +kernel
theorem dX3_many_120 : decode cX3_many 120 = .ok (.aload_n 0, 1) := by decide +kernel
theorem dX3_many_121 : decode cX3_many 121 = .ok (.invokevirtual 250, 3) := by decide +kernel
theorem dX3_many_124 : decode cX3_many 124 = .ok (.invokestatic 213, 3) := by decide +kernel
theorem dX3_many_127 : decode cX3_many 127 = .ok (.ireturn, 1) := by decide +kernel
theorem dX3_many_128 : decode cX3_many 128 = .ok (.new 42, 3) := by decide +kernel
theorem dX3_many_131 : decode cX3_many 131 = .ok (.dup, 1) := by decide +kernel
theorem dX3_many_132 : decode cX3_many 132 = .ok (.ldc 254, 2) := by decide +kernel
theorem dX3_many_134 : decode cX3_many 134 = .ok (.invokespecial 46, 3) := by decide +kernel
theorem dX3_many_137 : decode cX3_many 137 = .ok (.athrow, 1) := by decide +kernel
set_option maxRecDepth 20000 in
theorem ggX3_whyNotReady_X0_isKnown : GoodIn wsX3_whyNotReady wsX0_isKnown := goodIn_r _ [9, 10, 11, 12, 33, 34, 35, 36, 37, 38, 39, 40, 41, 52, 53, 54] (by decide +kernel) (by decide +kernel)
set_option maxRecDepth 20000 in
theorem gX3_whyNotReady_X0_isKnown : GoodIn wsX3_whyNotReady (wsV RX3 256 RX0 yX0_isKnown wsX0_isKnown) := goodIn_app (goodIn_of _ (by decide +kernel)) ggX3_whyNotReady_X0_isKnown
set_option maxRecDepth 20000 in
theorem ggX3_whyNotReady_X2_isInLiveBout : GoodIn wsX3_whyNotReady wsX2_isInLiveBout := goodIn_r _ [17, 18, 19, 52, 53, 54, 55, 56, 57, 58, 59, 60, 61, 62, 63, 64, 65, 66, 67, 68] (by decide +kernel) (by decide +kernel)
set_option maxRecDepth 20000 in
theorem gX3_whyNotReady_X2_isInLiveBout : GoodIn wsX3_whyNotReady (wsV RX3 259 RX2 yX2_isInLiveBout wsX2_isInLiveBout) := goodIn_app (goodIn_of _ (by decide +kernel)) ggX3_whyNotReady_X2_isInLiveBout
set_option maxRecDepth 20000 in
theorem ggX3_whyNotReady_X0_restedAt : GoodIn wsX3_whyNotReady wsX0_restedAt := goodIn_r _ [23, 10, 12, 24, 25, 26, 27, 28, 29, 30, 16, 31, 18, 32, 33, 34, 35, 36, 37, 38, 39, 40, 41, 52, 53, 54, 55, 56, 57, 58, 59, 60, 61, 62, 63, 64, 65, 66, 67, 68] (by decide +kernel) (by decide +kernel)
set_option maxRecDepth 20000 in
theorem gX3_whyNotReady_X0_restedAt : GoodIn wsX3_whyNotReady (wsV RX3 238 RX0 yX0_restedAt wsX0_restedAt) := goodIn_app (goodIn_of _ (by decide +kernel)) ggX3_whyNotReady_X0_restedAt
theorem dX3_whyNotReady_0 : decode cX3_whyNotReady 0 = .ok (.aload_n 1, 1) := by decide +kernel
theorem dX3_whyNotReady_1 : decode cX3_whyNotReady 1 = .ok (.getfield 210, 3) := by decide +kernel
theorem dX3_whyNotReady_4 : decode cX3_whyNotReady 4 = .ok (.ifCond .eq 5, 3) := by decide +kernel
theorem dX3_whyNotReady_7 : decode cX3_whyNotReady 7 = .ok (.iconst 1, 1) := by decide +kernel
theorem dX3_whyNotReady_8 : decode cX3_whyNotReady 8 = .ok (.ireturn, 1) := by decide +kernel
theorem dX3_whyNotReady_9 : decode cX3_whyNotReady 9 = .ok (.aload_n 1, 1) := by decide +kernel
theorem dX3_whyNotReady_10 : decode cX3_whyNotReady 10 = .ok (.invokevirtual 256, 3) := by decide +kernel
theorem dX3_whyNotReady_13 : decode cX3_whyNotReady 13 = .ok (.ifCond .ne 5, 3) := by decide +kernel
theorem dX3_whyNotReady_16 : decode cX3_whyNotReady 16 = .ok (.iconst 2, 1) := by decide +kernel
theorem dX3_whyNotReady_17 : decode cX3_whyNotReady 17 = .ok (.ireturn, 1) := by decide +kernel
theorem dX3_whyNotReady_18 : decode cX3_whyNotReady 18 = .ok (.aload_n 1, 1) := by decide +kernel
theorem dX3_whyNotReady_19 : decode cX3_whyNotReady 19 = .ok (.getfield 172, 3) := by decide +kernel
theorem dX3_whyNotReady_22 : decode cX3_whyNotReady 22 = .ok (.invokevirtual 259, 3) := by decide +kernel
theorem dX3_whyNotReady_25 : decode cX3_whyNotReady 25 = .ok (.ifCond .ne 13, 3) := by decide +kernel
theorem dX3_whyNotReady_28 : decode cX3_whyNotReady 28 = .ok (.aload_n 1, 1) := by decide +kernel
theorem dX3_whyNotReady_29 : decode cX3_whyNotReady 29 = .ok (.getfield 181, 3) := by decide +kernel
theorem dX3_whyNotReady_32 : decode cX3_whyNotReady 32 = .ok (.invokevirtual 259, 3) := by decide +kernel
theorem dX3_whyNotReady_35 : decode cX3_whyNotReady 35 = .ok (.ifCond .eq 5, 3) := by decide +kernel
theorem dX3_whyNotReady_38 : decode cX3_whyNotReady 38 = .ok (.iconst 3, 1) := by decide +kernel
theorem dX3_whyNotReady_39 : decode cX3_whyNotReady 39 = .ok (.ireturn, 1) := by decide +kernel
theorem dX3_whyNotReady_40 : decode cX3_whyNotReady 40 = .ok (.aload_n 0, 1) := by decide +kernel
theorem dX3_whyNotReady_41 : decode cX3_whyNotReady 41 = .ok (.getfield 160, 3) := by decide +kernel
theorem dX3_whyNotReady_44 : decode cX3_whyNotReady 44 = .ok (.aload_n 1, 1) := by decide +kernel
theorem dX3_whyNotReady_45 : decode cX3_whyNotReady 45 = .ok (.invokevirtual 238, 3) := by decide +kernel
theorem dX3_whyNotReady_48 : decode cX3_whyNotReady 48 = .ok (.if_icmp .ge 7, 3) := by decide +kernel
theorem dX3_whyNotReady_51 : decode cX3_whyNotReady 51 = .ok (.iconst 4, 1) := by decide +kernel
theorem dX3_whyNotReady_52 : decode cX3_whyNotReady 52 = .ok (.goto 4, 3) := by decide +kernel
theorem dX3_whyNotReady_55 : decode cX3_whyNotReady 55 = .ok (.iconst 0, 1) := by decide +kernel
theorem dX3_whyNotReady_56 : decode cX3_whyNotReady 56 = .ok (.ireturn, 1) := by decide +kernel
set_option maxRecDepth 20000 in
theorem ggX3_isOverAfter_X0_secondsUntilOver : GoodIn wsX3_isOverAfter wsX0_secondsUntilOver := goodIn_r _ [6, 7, 8, 9, 10, 11, 12, 13, 14, 5, 15, 16, 17, 18, 19, 20, 21, 22, 23, 24, 145, 146, 147, 148, 149, 150, 151, 152, 153, 154, 155, 156] (by decide +kernel) (by decide +kernel)
set_option maxRecDepth 20000 in
theorem gX3_isOverAfter_X0_secondsUntilOver : GoodIn wsX3_isOverAfter (wsV RX3 262 RX0 yX0_secondsUntilOver wsX0_secondsUntilOver) := goodIn_app (goodIn_of _ (by decide +kernel)) ggX3_isOverAfter_X0_secondsUntilOver
set_option maxRecDepth 20000 in
theorem ggX3_isOverAfter_X0_goOn : GoodIn wsX3_isOverAfter wsX0_goOn := goodIn_r _ [28, 7, 8, 16, 17, 18, 5, 19, 20, 21, 22, 23, 24, 12, 13, 14, 15, 145, 146, 147, 148, 149, 150, 151, 152, 153] (by decide +kernel) (by decide +kernel)
set_option maxRecDepth 20000 in
theorem gX3_isOverAfter_X0_goOn : GoodIn wsX3_isOverAfter (wsV RX3 265 RX0 yX0_goOn wsX0_goOn) := goodIn_app (goodIn_of _ (by decide +kernel)) ggX3_isOverAfter_X0_goOn
set_option maxRecDepth 20000 in
theorem ggX3_isOverAfter_X0_winnerAsItStands : GoodIn wsX3_isOverAfter wsX0_winnerAsItStands := goodIn_r _ [32, 9, 10, 11, 33, 34, 35, 36, 5, 37, 38, 145, 146, 147, 148, 149, 150, 151, 152, 153, 154, 155, 156] (by decide +kernel) (by decide +kernel)
set_option maxRecDepth 20000 in
theorem gX3_isOverAfter_X0_winnerAsItStands : GoodIn wsX3_isOverAfter (wsV RX3 268 RX0 yX0_winnerAsItStands wsX0_winnerAsItStands) := goodIn_app (goodIn_of _ (by decide +kernel)) ggX3_isOverAfter_X0_winnerAsItStands
set_option maxRecDepth 20000 in
theorem ggX3_isOverAfter_X3_finish : GoodIn wsX3_isOverAfter wsX3_finish := goodIn_r _ [43, 44, 45, 46, 42, 47, 48, 49, 50, 51, 52, 53, 54, 55, 56, 57, 58, 5, 59, 60, 8, 7, 9, 11, 61, 62, 63, 64, 65, 66, 67, 68, 69, 70, 71, 72, 73, 74, 75, 76, 77, 78, 79, 80, 81, 21, 22, 23, 24, 82, 83, 84, 85, 86, 87, 88, 89, 90, 91, 92, 93, 94, 95, 96, 97, 98, 99, 100, 101, 102, 103, 104, 105, 106, 107, 108, 109, 110, 111, 112, 113, 114, 115, 116, 117, 118, 119, 120, 121, 122, 123, 124, 125, 126, 127, 128, 129, 130, 131, 132, 133, 134, 145, 146, 147, 148, 149, 150, 151, 152, 153, 135, 136, 137, 138, 139, 140, 141, 142, 143, 144, 154, 155, 156, 157, 158, 159, 160, 161, 162, 163, 164, 165, 166, 167, 168, 169, 170, 171, 172, 173] (by decide +kernel) (by decide +kernel)
set_option maxRecDepth 20000 in
theorem gX3_isOverAfter_X3_finish : GoodIn wsX3_isOverAfter (wsV RX3 271 RX3 yX3_finish wsX3_finish) := goodIn_app (goodIn_of _ (by decide +kernel)) ggX3_isOverAfter_X3_finish
theorem dX3_isOverAfter_0 : decode cX3_isOverAfter 0 = .ok (.aload_n 1, 1) := by decide +kernel
theorem dX3_isOverAfter_1 : decode cX3_isOverAfter 1 = .ok (.invokevirtual 262, 3) := by decide +kernel
theorem dX3_isOverAfter_4 : decode cX3_isOverAfter 4 = .ok (.istore_n 3, 1) := by decide +kernel
theorem dX3_isOverAfter_5 : decode cX3_isOverAfter 5 = .ok (.iload_n 2, 1) := by decide +kernel
theorem dX3_isOverAfter_6 : decode cX3_isOverAfter 6 = .ok (.iload_n 3, 1) := by decide +kernel
theorem dX3_isOverAfter_7 : decode cX3_isOverAfter 7 = .ok (.if_icmp .ge 10, 3) := by decide +kernel
theorem dX3_isOverAfter_10 : decode cX3_isOverAfter 10 = .ok (.aload_n 1, 1) := by decide +kernel
theorem dX3_isOverAfter_11 : decode cX3_isOverAfter 11 = .ok (.iload_n 2, 1) := by decide +kernel
theorem dX3_isOverAfter_12 : decode cX3_isOverAfter 12 = .ok (.invokevirtual 265, 3) := by decide +kernel
theorem dX3_isOverAfter_15 : decode cX3_isOverAfter 15 = .ok (.iconst 0, 1) := by decide +kernel
theorem dX3_isOverAfter_16 : decode cX3_isOverAfter 16 = .ok (.ireturn, 1) := by decide +kernel
theorem dX3_isOverAfter_17 : decode cX3_isOverAfter 17 = .ok (.aload_n 0, 1) := by decide +kernel
theorem dX3_isOverAfter_18 : decode cX3_isOverAfter 18 = .ok (.aload_n 1, 1) := by decide +kernel
theorem dX3_isOverAfter_19 : decode cX3_isOverAfter 19 = .ok (.aload_n 1, 1) := by decide +kernel
theorem dX3_isOverAfter_20 : decode cX3_isOverAfter 20 = .ok (.invokevirtual 268, 3) := by decide +kernel
theorem dX3_isOverAfter_23 : decode cX3_isOverAfter 23 = .ok (.aload_n 0, 1) := by decide +kernel
theorem dX3_isOverAfter_24 : decode cX3_isOverAfter 24 = .ok (.getfield 160, 3) := by decide +kernel
theorem dX3_isOverAfter_27 : decode cX3_isOverAfter 27 = .ok (.iload_n 3, 1) := by decide +kernel
theorem dX3_isOverAfter_28 : decode cX3_isOverAfter 28 = .ok (.iadd, 1) := by decide +kernel
theorem dX3_isOverAfter_29 : decode cX3_isOverAfter 29 = .ok (.invokevirtual 271, 3) := by decide +kernel
theorem dX3_isOverAfter_32 : decode cX3_isOverAfter 32 = .ok (.iconst 1, 1) := by decide +kernel
theorem dX3_isOverAfter_33 : decode cX3_isOverAfter 33 = .ok (.ireturn, 1) := by decide +kernel
set_option maxRecDepth 20000 in
theorem ggX3_isOverByHit_X0_isDecidedByHit : GoodIn wsX3_isOverByHit wsX0_isDecidedByHit := goodIn_r _ [6, 7, 8, 9, 10, 11, 12, 5, 13, 14, 15, 16, 17, 18, 19, 20, 21, 22, 23, 24, 25, 26, 27, 145, 146, 147, 148, 149, 150, 151, 152, 153, 154, 155, 156] (by decide +kernel) (by decide +kernel)
set_option maxRecDepth 20000 in
theorem gX3_isOverByHit_X0_isDecidedByHit : GoodIn wsX3_isOverByHit (wsV RX3 275 RX0 yX0_isDecidedByHit wsX0_isDecidedByHit) := goodIn_app (goodIn_of _ (by decide +kernel)) ggX3_isOverByHit_X0_isDecidedByHit
set_option maxRecDepth 20000 in
theorem ggX3_isOverByHit_X0_winnerAsItStands : GoodIn wsX3_isOverByHit wsX0_winnerAsItStands := goodIn_r _ [31, 7, 8, 9, 32, 33, 34, 35, 5, 36, 37, 145, 146, 147, 148, 149, 150, 151, 152, 153, 154, 155, 156] (by decide +kernel) (by decide +kernel)
set_option maxRecDepth 20000 in
theorem gX3_isOverByHit_X0_winnerAsItStands : GoodIn wsX3_isOverByHit (wsV RX3 268 RX0 yX0_winnerAsItStands wsX0_winnerAsItStands) := goodIn_app (goodIn_of _ (by decide +kernel)) ggX3_isOverByHit_X0_winnerAsItStands
set_option maxRecDepth 20000 in
theorem ggX3_isOverByHit_X3_finish : GoodIn wsX3_isOverByHit wsX3_finish := goodIn_r _ [42, 43, 44, 45, 41, 46, 47, 48, 49, 50, 51, 52, 53, 54, 55, 56, 57, 5, 58, 59, 14, 60, 7, 9, 61, 62, 63, 64, 65, 66, 67, 68, 69, 70, 71, 72, 73, 74, 75, 76, 77, 78, 79, 80, 81, 20, 21, 22, 23, 82, 83, 84, 85, 86, 87, 88, 89, 90, 91, 92, 93, 94, 95, 96, 97, 98, 99, 100, 101, 102, 103, 104, 105, 106, 107, 108, 109, 110, 111, 112, 113, 114, 115, 116, 117, 118, 119, 120, 121, 122, 123, 124, 125, 126, 127, 128, 129, 130, 131, 132, 133, 134, 145, 146, 147, 148, 149, 150, 151, 152, 153, 135, 136, 137, 138, 139, 140, 141, 142, 143, 144, 154, 155, 156, 157, 158, 159, 160, 161, 162, 163, 164, 165, 166, 167, 168, 169, 170, 171, 172, 173] (by decide +kernel) (by decide +kernel)
set_option maxRecDepth 20000 in
theorem gX3_isOverByHit_X3_finish : GoodIn wsX3_isOverByHit (wsV RX3 271 RX3 yX3_finish wsX3_finish) := goodIn_app (goodIn_of _ (by decide +kernel)) ggX3_isOverByHit_X3_finish
theorem dX3_isOverByHit_0 : decode cX3_isOverByHit 0 = .ok (.aload_n 1, 1) := by decide +kernel
theorem dX3_isOverByHit_1 : decode cX3_isOverByHit 1 = .ok (.invokevirtual 275, 3) := by decide +kernel
theorem dX3_isOverByHit_4 : decode cX3_isOverByHit 4 = .ok (.ifCond .ne 5, 3) := by decide +kernel
theorem dX3_isOverByHit_7 : decode cX3_isOverByHit 7 = .ok (.iconst 0, 1) := by decide +kernel
theorem dX3_isOverByHit_8 : decode cX3_isOverByHit 8 = .ok (.ireturn, 1) := by decide +kernel
theorem dX3_isOverByHit_9 : decode cX3_isOverByHit 9 = .ok (.aload_n 0, 1) := by decide +kernel
theorem dX3_isOverByHit_10 : decode cX3_isOverByHit 10 = .ok (.aload_n 1, 1) := by decide +kernel
theorem dX3_isOverByHit_11 : decode cX3_isOverByHit 11 = .ok (.aload_n 1, 1) := by decide +kernel
theorem dX3_isOverByHit_12 : decode cX3_isOverByHit 12 = .ok (.invokevirtual 268, 3) := by decide +kernel
theorem dX3_isOverByHit_15 : decode cX3_isOverByHit 15 = .ok (.aload_n 0, 1) := by decide +kernel
theorem dX3_isOverByHit_16 : decode cX3_isOverByHit 16 = .ok (.getfield 160, 3) := by decide +kernel
theorem dX3_isOverByHit_19 : decode cX3_isOverByHit 19 = .ok (.invokevirtual 271, 3) := by decide +kernel
theorem dX3_isOverByHit_22 : decode cX3_isOverByHit 22 = .ok (.iconst 1, 1) := by decide +kernel
theorem dX3_isOverByHit_23 : decode cX3_isOverByHit 23 = .ok (.ireturn, 1) := by decide +kernel
set_option maxRecDepth 20000 in
theorem ggX3_putOut_X0_isOfTable : GoodIn wsX3_putOut wsX0_isOfTable := goodIn_r _ [12, 13, 136, 137, 138, 139, 140, 141, 142, 143, 144] (by decide +kernel) (by decide +kernel)
set_option maxRecDepth 20000 in
theorem gX3_putOut_X0_isOfTable : GoodIn wsX3_putOut (wsV RX3 278 RX0 yX0_isOfTable wsX0_isOfTable) := goodIn_app (goodIn_of _ (by decide +kernel)) ggX3_putOut_X0_isOfTable
set_option maxRecDepth 20000 in
theorem ggX3_putOut_X3_finish : GoodIn wsX3_putOut wsX3_finish := goodIn_r _ [18, 19, 20, 21, 17, 22, 23, 24, 25, 26, 27, 28, 29, 30, 31, 32, 33, 11, 34, 35, 36, 37, 38, 39, 40, 41, 42, 43, 44, 45, 46, 47, 48, 49, 50, 51, 52, 53, 5, 54, 7, 6, 55, 56, 8, 9, 10, 12, 13, 57, 58, 59, 60, 61, 62, 63, 64, 65, 66, 67, 68, 69, 70, 71, 72, 73, 74, 75, 76, 77, 78, 79, 80, 3, 4, 81, 82, 83, 84, 85, 86, 87, 88, 89, 90, 91, 92, 93, 94, 95, 96, 97, 98, 99, 100, 101, 102, 103, 104, 105, 106, 107, 136, 137, 138, 139, 140, 141, 142, 143, 144, 126, 127, 128, 129, 130, 131, 132, 133, 134, 135, 145, 146, 147, 112, 113, 114, 115, 116, 117, 118, 119, 120, 121, 122, 123, 124, 125, 148, 149, 150] (by decide +kernel) (by decide +kernel)
set_option maxRecDepth 20000 in
theorem gX3_putOut_X3_finish : GoodIn wsX3_putOut (wsV RX3 271 RX3 yX3_finish wsX3_finish) := goodIn_app (goodIn_of _ (by decide +kernel)) ggX3_putOut_X3_finish
set_option maxRecDepth 20000 in
theorem ggX3_putOut_X3_leavePiste : GoodIn wsX3_putOut wsX3_leavePiste := goodIn_r _ [22, 23, 24, 25, 26, 17, 27, 28, 29, 30, 31, 32, 33, 11, 34, 35, 36, 37, 38, 39, 40, 41, 42, 43, 44, 45, 46, 47, 136, 137, 138, 139, 140, 141, 142, 143, 144, 126, 127, 128, 129, 130, 131, 132, 133, 134, 135, 145, 146, 147, 112, 113, 114, 115, 116, 117, 118, 119, 120, 121, 122, 123, 124, 125] (by decide +kernel) (by decide +kernel)
set_option maxRecDepth 20000 in
theorem gX3_putOut_X3_leavePiste : GoodIn wsX3_putOut (wsV RX3 281 RX3 yX3_leavePiste wsX3_leavePiste) := goodIn_app (goodIn_of _ (by decide +kernel)) ggX3_putOut_X3_leavePiste
set_option maxRecDepth 20000 in
theorem ggX3_putOut_Jx4a65c_size_8abf5 : GoodIn wsX3_putOut wsJx4a65c_size_8abf5 := goodIn_r _ [85, 86, 148, 149, 150] (by decide +kernel) (by decide +kernel)
set_option maxRecDepth 20000 in
theorem gX3_putOut_Jx4a65c_size_8abf5 : GoodIn wsX3_putOut (wsV RX3 49 RJx4a65c yJx4a65c_size_8abf5 wsJx4a65c_size_8abf5) := goodIn_app (goodIn_of _ (by decide +kernel)) ggX3_putOut_Jx4a65c_size_8abf5
set_option maxRecDepth 20000 in
theorem ggX3_putOut_Jx4a65c_get_915e3 : GoodIn wsX3_putOut wsJx4a65c_get_915e3 := goodIn_r _ [90, 86, 91, 92, 93, 94, 95, 96, 97, 98, 99, 100, 101, 84, 102, 103, 148, 149, 150] (by decide +kernel) (by decide +kernel)
set_option maxRecDepth 20000 in
theorem gX3_putOut_Jx4a65c_get_915e3 : GoodIn wsX3_putOut (wsV RX3 124 RJx4a65c yJx4a65c_get_915e3 wsJx4a65c_get_915e3) := goodIn_app (goodIn_of _ (by decide +kernel)) ggX3_putOut_Jx4a65c_get_915e3
set_option maxRecDepth 20000 in
theorem ggX3_putOut_X3_makeVoid : GoodIn wsX3_putOut wsX3_makeVoid := goodIn_r _ [111, 52, 53, 5, 54, 7, 57, 58, 59, 11, 60, 38, 39, 61, 62, 63, 43, 64, 45, 65, 66, 67, 68, 69, 70, 71, 72, 73, 136, 137, 138, 139, 140, 141, 142, 143, 144, 145, 146, 147, 112, 113, 114, 115, 116, 117, 118, 119, 120, 121, 122, 123, 124, 125] (by decide +kernel) (by decide +kernel)
set_option maxRecDepth 20000 in
theorem gX3_putOut_X3_makeVoid : GoodIn wsX3_putOut (wsV RX3 285 RX3 yX3_makeVoid wsX3_makeVoid) := goodIn_app (goodIn_of _ (by decide +kernel)) ggX3_putOut_X3_makeVoid
theorem dX3_putOut_0 : decode cX3_putOut 0 = .ok (.aload_n 2, 1) := by decide +kernel
theorem dX3_putOut_1 : decode cX3_putOut 1 = .ok (.ifnonnull 4, 3) := by decide +kernel
theorem dX3_putOut_4 : decode cX3_putOut 4 = .ok (.return_, 1) := by decide +kernel
theorem dX3_putOut_5 : decode cX3_putOut 5 = .ok (.aload_n 2, 1) := by decide +kernel
theorem dX3_putOut_6 : decode cX3_putOut 6 = .ok (.iconst 1, 1) := by decide +kernel
theorem dX3_putOut_7 : decode cX3_putOut 7 = .ok (.putfield 100, 3) := by decide +kernel
theorem dX3_putOut_10 : decode cX3_putOut 10 = .ok (.aload_n 1, 1) := by decide +kernel
theorem dX3_putOut_11 : decode cX3_putOut 11 = .ok (.invokevirtual 278, 3) := by decide +kernel
theorem dX3_putOut_14 : decode cX3_putOut 14 = .ok (.ifCond .eq 14, 3) := by decide +kernel
theorem dX3_putOut_17 : decode cX3_putOut 17 = .ok (.aload_n 0, 1) := by decide +kernel
theorem dX3_putOut_18 : decode cX3_putOut 18 = .ok (.aload_n 1, 1) := by decide +kernel
theorem dX3_putOut_19 : decode cX3_putOut 19 = .ok (.aload_n 3, 1) := by decide +kernel
theorem dX3_putOut_20 : decode cX3_putOut 20 = .ok (.aload_n 0, 1) := by decide +kernel
theorem dX3_putOut_21 : decode cX3_putOut 21 = .ok (.getfield 160, 3) := by decide +kernel
theorem dX3_putOut_24 : decode cX3_putOut 24 = .ok (.invokevirtual 271, 3) := by decide +kernel
theorem dX3_putOut_27 : decode cX3_putOut 27 = .ok (.return_, 1) := by decide +kernel
theorem dX3_putOut_28 : decode cX3_putOut 28 = .ok (.aload_n 0, 1) := by decide +kernel
theorem dX3_putOut_29 : decode cX3_putOut 29 = .ok (.aload_n 1, 1) := by decide +kernel
theorem dX3_putOut_30 : decode cX3_putOut 30 = .ok (.aload_n 0, 1) := by decide +kernel
theorem dX3_putOut_31 : decode cX3_putOut 31 = .ok (.getfield 160, 3) := by decide +kernel
theorem dX3_putOut_34 : decode cX3_putOut 34 = .ok (.invokevirtual 281, 3) := by decide +kernel
theorem dX3_putOut_37 : decode cX3_putOut 37 = .ok (.iconst 0, 1) := by decide +kernel
theorem dX3_putOut_38 : decode cX3_putOut 38 = .ok (.istore 4, 2) := by decide +kernel
theorem dX3_putOut_40 : decode cX3_putOut 40 = .ok (.iload 4, 2) := by decide +kernel
theorem dX3_putOut_42 : decode cX3_putOut 42 = .ok (.aload_n 0, 1) := by decide +kernel
theorem dX3_putOut_43 : decode cX3_putOut 43 = .ok (.getfield 16, 3) := by decide +kernel
theorem dX3_putOut_46 : decode cX3_putOut 46 = .ok (.invokevirtual 49, 3) := by decide +kernel
theorem dX3_putOut_49 : decode cX3_putOut 49 = .ok (.if_icmp .ge 53, 3) := by decide +kernel
theorem dX3_putOut_52 : decode cX3_putOut 52 = .ok (.aload_n 0, 1) := by decide +kernel
theorem dX3_putOut_53 : decode cX3_putOut 53 = .ok (.getfield 16, 3) := by decide +kernel
theorem dX3_putOut_56 : decode cX3_putOut 56 = .ok (.iload 4, 2) := by decide +kernel
theorem dX3_putOut_58 : decode cX3_putOut 58 = .ok (.invokevirtual 124, 3) := by decide +kernel
theorem dX3_putOut_61 : decode cX3_putOut 61 = .ok (.checkcast 19, 3) := by decide +kernel
theorem dX3_putOut_64 : decode cX3_putOut 64 = .ok (.astore 5, 2) := by decide +kernel
theorem dX3_putOut_66 : decode cX3_putOut 66 = .ok (.aload 5, 2) := by decide +kernel
theorem dX3_putOut_68 : decode cX3_putOut 68 = .ok (.getfield 172, 3) := by decide +kernel
theorem dX3_putOut_71 : decode cX3_putOut 71 = .ok (.getfield 202, 3) := by decide +kernel
theorem dX3_putOut_74 : decode cX3_putOut 74 = .ok (.aload_n 2, 1) := by decide +kernel
theorem dX3_putOut_75 : decode cX3_putOut 75 = .ok (.if_acmp .eq 15, 3) := by decide +kernel
theorem dX3_putOut_78 : decode cX3_putOut 78 = .ok (.aload 5, 2) := by decide +kernel
theorem dX3_putOut_80 : decode cX3_putOut 80 = .ok (.getfield 181, 3) := by decide +kernel
theorem dX3_putOut_83 : decode cX3_putOut 83 = .ok (.getfield 202, 3) := by decide +kernel
theorem dX3_putOut_86 : decode cX3_putOut 86 = .ok (.aload_n 2, 1) := by decide +kernel
theorem dX3_putOut_87 : decode cX3_putOut 87 = .ok (.if_acmp .ne 9, 3) := by decide +kernel
theorem dX3_putOut_90 : decode cX3_putOut 90 = .ok (.aload_n 0, 1) := by decide +kernel
theorem dX3_putOut_91 : decode cX3_putOut 91 = .ok (.aload 5, 2) := by decide +kernel
theorem dX3_putOut_93 : decode cX3_putOut 93 = .ok (.invokevirtual 285, 3) := by decide +kernel
theorem dX3_putOut_96 : decode cX3_putOut 96 = .ok (.iinc 4 1, 3) := by decide +kernel
theorem dX3_putOut_99 : decode cX3_putOut 99 = .ok (.goto (-59), 3) := by decide +kernel
theorem dX3_putOut_102 : decode cX3_putOut 102 = .ok (.return_, 1) := by decide +kernel
set_option maxRecDepth 20000 in
theorem ggX3_makeVoid_X0_count : GoodIn wsX3_makeVoid wsX0_count := goodIn_r _ [10, 11, 12, 13, 14, 15, 16, 17, 18, 19, 20, 21, 22, 23, 24, 25, 26, 27, 28, 29, 30, 31, 32, 33, 34, 35, 36, 37, 38, 39, 40, 41, 42, 43, 44, 45, 46, 47, 48, 49, 50, 51, 52, 53] (by decide +kernel) (by decide +kernel)
set_option maxRecDepth 20000 in
theorem gX3_makeVoid_X0_count : GoodIn wsX3_makeVoid (wsV RX3 289 RX0 yX0_count wsX0_count) := goodIn_app (goodIn_of _ (by decide +kernel)) ggX3_makeVoid_X0_count
theorem dX3_makeVoid_0 : decode cX3_makeVoid 0 = .ok (.aload_n 1, 1) := by decide +kernel
theorem dX3_makeVoid_1 : decode cX3_makeVoid 1 = .ok (.getfield 210, 3) := by decide +kernel
theorem dX3_makeVoid_4 : decode cX3_makeVoid 4 = .ok (.iconst 2, 1) := by decide +kernel
theorem dX3_makeVoid_5 : decode cX3_makeVoid 5 = .ok (.if_icmp .ne 26, 3) := by decide +kernel
theorem dX3_makeVoid_8 : decode cX3_makeVoid 8 = .ok (.aload_n 1, 1) := by decide +kernel
theorem dX3_makeVoid_9 : decode cX3_makeVoid 9 = .ok (.aload_n 1, 1) := by decide +kernel
theorem dX3_makeVoid_10 : decode cX3_makeVoid 10 = .ok (.getfield 217, 3) := by decide +kernel
theorem dX3_makeVoid_13 : decode cX3_makeVoid 13 = .ok (.aload_n 1, 1) := by decide +kernel
theorem dX3_makeVoid_14 : decode cX3_makeVoid 14 = .ok (.getfield 172, 3) := by decide +kernel
theorem dX3_makeVoid_17 : decode cX3_makeVoid 17 = .ok (.getfield 176, 3) := by decide +kernel
theorem dX3_makeVoid_20 : decode cX3_makeVoid 20 = .ok (.aload_n 1, 1) := by decide +kernel
theorem dX3_makeVoid_21 : decode cX3_makeVoid 21 = .ok (.getfield 181, 3) := by decide +kernel
theorem dX3_makeVoid_24 : decode cX3_makeVoid 24 = .ok (.getfield 176, 3) := by decide +kernel
theorem dX3_makeVoid_27 : decode cX3_makeVoid 27 = .ok (.iconst (-1), 1) := by decide +kernel
theorem dX3_makeVoid_28 : decode cX3_makeVoid 28 = .ok (.invokevirtual 289, 3) := by decide +kernel
theorem dX3_makeVoid_31 : decode cX3_makeVoid 31 = .ok (.aload_n 1, 1) := by decide +kernel
theorem dX3_makeVoid_32 : decode cX3_makeVoid 32 = .ok (.iconst 3, 1) := by decide +kernel
theorem dX3_makeVoid_33 : decode cX3_makeVoid 33 = .ok (.putfield 210, 3) := by decide +kernel
theorem dX3_makeVoid_36 : decode cX3_makeVoid 36 = .ok (.aload_n 1, 1) := by decide +kernel
theorem dX3_makeVoid_37 : decode cX3_makeVoid 37 = .ok (.aconst_null, 1) := by decide +kernel
theorem dX3_makeVoid_38 : decode cX3_makeVoid 38 = .ok (.putfield 217, 3) := by decide +kernel
theorem dX3_makeVoid_41 : decode cX3_makeVoid 41 = .ok (.return_, 1) := by decide +kernel
set_option maxRecDepth 20000 in
theorem ggX3_finish_X3_leavePiste : GoodIn wsX3_finish wsX3_leavePiste := goodIn_r _ [5, 6, 7, 8, 9, 4, 10, 11, 12, 13, 14, 15, 16, 17, 18, 19, 20, 21, 22, 23, 24, 25, 26, 27, 28, 29, 30, 31, 102, 103, 104, 105, 106, 107, 108, 109, 110, 111, 112, 113, 114, 115, 116, 117, 118, 119, 120, 121, 122, 123, 124, 125, 126, 127, 128, 129, 130, 131, 132, 133, 134, 135, 136, 137] (by decide +kernel) (by decide +kernel)
set_option maxRecDepth 20000 in
theorem gX3_finish_X3_leavePiste : GoodIn wsX3_finish (wsV RX3 281 RX3 yX3_leavePiste wsX3_leavePiste) := goodIn_app (goodIn_of _ (by decide +kernel)) ggX3_finish_X3_leavePiste
set_option maxRecDepth 20000 in
theorem ggX3_finish_X3_decide : GoodIn wsX3_finish wsX3_decide := goodIn_r _ [35, 36, 37, 38, 39, 40, 41, 42, 43, 44, 45, 46, 17, 47, 48, 49, 50, 51, 52, 22, 23, 53, 54, 55, 27, 56, 29, 57, 58, 59, 60, 61, 62, 63, 64, 65, 66, 67, 68, 4, 69, 70, 71, 72, 73, 74, 75, 76, 77, 78, 79, 80, 11, 12, 13, 81, 82, 83, 84, 85, 86, 87, 88, 89, 90, 91, 92, 93, 94, 95, 96, 97, 98, 99, 100, 101, 102, 103, 104, 105, 106, 107, 108, 109, 110, 121, 122, 123, 124, 125, 126, 127, 128, 129, 130, 131, 132, 133, 134, 135, 136, 137, 111, 112, 113, 114, 115, 116, 117, 118, 119, 120, 138, 139, 140] (by decide +kernel) (by decide +kernel)
set_option maxRecDepth 20000 in
theorem gX3_finish_X3_decide : GoodIn wsX3_finish (wsV RX3 293 RX3 yX3_decide wsX3_decide) := goodIn_app (goodIn_of _ (by decide +kernel)) ggX3_finish_X3_decide
theorem dX3_finish_0 : decode cX3_finish 0 = .ok (.aload_n 0, 1) := by decide +kernel
theorem dX3_finish_1 : decode cX3_finish 1 = .ok (.aload_n 1, 1) := by decide +kernel
theorem dX3_finish_2 : decode cX3_finish 2 = .ok (.iload_n 3, 1) := by decide +kernel
theorem dX3_finish_3 : decode cX3_finish 3 = .ok (.invokevirtual 281, 3) := by decide +kernel
theorem dX3_finish_6 : decode cX3_finish 6 = .ok (.aload_n 0, 1) := by decide +kernel
theorem dX3_finish_7 : decode cX3_finish 7 = .ok (.aload_n 1, 1) := by decide +kernel
theorem dX3_finish_8 : decode cX3_finish 8 = .ok (.aload_n 2, 1) := by decide +kernel
theorem dX3_finish_9 : decode cX3_finish 9 = .ok (.invokevirtual 293, 3) := by decide +kernel
theorem dX3_finish_12 : decode cX3_finish 12 = .ok (.return_, 1) := by decide +kernel
set_option maxRecDepth 20000 in
theorem ggX3_leavePiste_X3_isPiste : GoodIn wsX3_leavePiste wsX3_isPiste := goodIn_r _ [6, 7, 8, 5, 9] (by decide +kernel) (by decide +kernel)
set_option maxRecDepth 20000 in
theorem gX3_leavePiste_X3_isPiste : GoodIn wsX3_leavePiste (va_wsS RX3 139 yX3_isPiste wsX3_isPiste) := goodIn_app (goodIn_of _ (by decide +kernel)) ggX3_leavePiste_X3_isPiste
set_option maxRecDepth 20000 in
theorem ggX3_leavePiste_X0_end : GoodIn wsX3_leavePiste wsX0_end := goodIn_r _ [14, 15, 16, 17, 18, 19, 20, 21, 22, 23, 24, 25, 26, 27, 28, 29, 30, 31, 32, 33, 34, 35, 36, 47, 48, 49, 50, 51, 52, 53, 54, 55, 56, 57, 58, 59, 60, 61, 62, 63] (by decide +kernel) (by decide +kernel)
set_option maxRecDepth 20000 in
theorem gX3_leavePiste_X0_end : GoodIn wsX3_leavePiste (wsV RX3 297 RX0 yX0_end wsX0_end) := goodIn_app (goodIn_of _ (by decide +kernel)) ggX3_leavePiste_X0_end
theorem dX3_leavePiste_0 : decode cX3_leavePiste 0 = .ok (.aload_n 1, 1) := by decide +kernel
theorem dX3_leavePiste_1 : decode cX3_leavePiste 1 = .ok (.getfield 220, 3) := by decide +kernel
theorem dX3_leavePiste_4 : decode cX3_leavePiste 4 = .ok (.invokestatic 139, 3) := by decide +kernel
theorem dX3_leavePiste_7 : decode cX3_leavePiste 7 = .ok (.ifCond .eq 13, 3) := by decide +kernel
theorem dX3_leavePiste_10 : decode cX3_leavePiste 10 = .ok (.aload_n 0, 1) := by decide +kernel
theorem dX3_leavePiste_11 : decode cX3_leavePiste 11 = .ok (.getfield 21, 3) := by decide +kernel
theorem dX3_leavePiste_14 : decode cX3_leavePiste 14 = .ok (.aload_n 1, 1) := by decide +kernel
theorem dX3_leavePiste_15 : decode cX3_leavePiste 15 = .ok (.getfield 220, 3) := by decide +kernel
theorem dX3_leavePiste_18 : decode cX3_leavePiste 18 = .ok (.aconst_null, 1) := by decide +kernel
theorem dX3_leavePiste_19 : decode cX3_leavePiste 19 = .ok (.aastore, 1) := by decide +kernel
theorem dX3_leavePiste_20 : decode cX3_leavePiste 20 = .ok (.aload_n 1, 1) := by decide +kernel
theorem dX3_leavePiste_21 : decode cX3_leavePiste 21 = .ok (.iload_n 2, 1) := by decide +kernel
theorem dX3_leavePiste_22 : decode cX3_leavePiste 22 = .ok (.invokevirtual 297, 3) := by decide +kernel
theorem dX3_leavePiste_25 : decode cX3_leavePiste 25 = .ok (.return_, 1) := by decide +kernel
set_option maxRecDepth 20000 in
theorem ggX3_decide_X0_isOfTable : GoodIn wsX3_decide wsX0_isOfTable := goodIn_r _ [13, 14, 76, 77, 78, 79, 80, 81, 82, 83, 84] (by decide +kernel) (by decide +kernel)
set_option maxRecDepth 20000 in
theorem gX3_decide_X0_isOfTable : GoodIn wsX3_decide (wsV RX3 278 RX0 yX0_isOfTable wsX0_isOfTable) := goodIn_app (goodIn_of _ (by decide +kernel)) ggX3_decide_X0_isOfTable
set_option maxRecDepth 20000 in
theorem ggX3_decide_X0_count : GoodIn wsX3_decide wsX0_count := goodIn_r _ [18, 19, 20, 21, 22, 23, 24, 25, 26, 27, 28, 29, 30, 31, 32, 33, 34, 35, 76, 77, 78, 79, 80, 81, 82, 83, 84, 85, 86, 87, 88, 89, 90, 91, 92, 93, 94, 95, 96, 97, 98, 99, 100, 101] (by decide +kernel) (by decide +kernel)
set_option maxRecDepth 20000 in
theorem gX3_decide_X0_count : GoodIn wsX3_decide (wsV RX3 289 RX0 yX0_count wsX0_count) := goodIn_app (goodIn_of _ (by decide +kernel)) ggX3_decide_X0_count
set_option maxRecDepth 20000 in
theorem ggX3_decide_X3_goOnInTable : GoodIn wsX3_decide wsX3_goOnInTable := goodIn_r _ [40, 41, 42, 43, 44, 45, 2, 6, 46, 47, 48, 49, 50, 51, 52, 53, 39, 54, 55, 56, 57, 58, 59, 60, 61, 62, 63, 64, 65, 66, 67, 68, 69, 70, 71, 72, 73, 74, 12, 75, 19, 20, 76, 77, 78, 79, 80, 81, 82, 83, 84, 102, 103, 104, 105, 106, 107, 108, 109, 110, 111, 85, 86, 87, 112, 113, 114] (by decide +kernel) (by decide +kernel)
set_option maxRecDepth 20000 in
theorem gX3_decide_X3_goOnInTable : GoodIn wsX3_decide (wsV RX3 306 RX3 yX3_goOnInTable wsX3_goOnInTable) := goodIn_app (goodIn_of _ (by decide +kernel)) ggX3_decide_X3_goOnInTable
theorem dX3_decide_0 : decode cX3_decide 0 = .ok (.aload_n 1, 1) := by decide +kernel
theorem dX3_decide_1 : decode cX3_decide 1 = .ok (.iconst 2, 1) := by decide +kernel
theorem dX3_decide_2 : decode cX3_decide 2 = .ok (.putfield 210, 3) := by decide +kernel
theorem dX3_decide_5 : decode cX3_decide 5 = .ok (.aload_n 1, 1) := by decide +kernel
theorem dX3_decide_6 : decode cX3_decide 6 = .ok (.aload_n 2, 1) := by decide +kernel
theorem dX3_decide_7 : decode cX3_decide 7 = .ok (.putfield 217, 3) := by decide +kernel
theorem dX3_decide_10 : decode cX3_decide 10 = .ok (.aload_n 1, 1) := by decide +kernel
theorem dX3_decide_11 : decode cX3_decide 11 = .ok (.invokevirtual 278, 3) := by decide +kernel
theorem dX3_decide_14 : decode cX3_decide 14 = .ok (.ifCond .ne 24, 3) := by decide +kernel
theorem dX3_decide_17 : decode cX3_decide 17 = .ok (.aload_n 1, 1) := by decide +kernel
theorem dX3_decide_18 : decode cX3_decide 18 = .ok (.aload_n 2, 1) := by decide +kernel
theorem dX3_decide_19 : decode cX3_decide 19 = .ok (.aload_n 1, 1) := by decide +kernel
theorem dX3_decide_20 : decode cX3_decide 20 = .ok (.getfield 172, 3) := by decide +kernel
theorem dX3_decide_23 : decode cX3_decide 23 = .ok (.getfield 176, 3) := by decide +kernel
theorem dX3_decide_26 : decode cX3_decide 26 = .ok (.aload_n 1, 1) := by decide +kernel
theorem dX3_decide_27 : decode cX3_decide 27 = .ok (.getfield 181, 3) := by decide +kernel
theorem dX3_decide_30 : decode cX3_decide 30 = .ok (.getfield 176, 3) := by decide +kernel
theorem dX3_decide_33 : decode cX3_decide 33 = .ok (.iconst 1, 1) := by decide +kernel
theorem dX3_decide_34 : decode cX3_decide 34 = .ok (.invokevirtual 289, 3) := by decide +kernel
theorem dX3_decide_37 : decode cX3_decide 37 = .ok (.return_, 1) := by decide +kernel
theorem dX3_decide_38 : decode cX3_decide 38 = .ok (.aload_n 1, 1) := by decide +kernel
theorem dX3_decide_39 : decode cX3_decide 39 = .ok (.getfield 172, 3) := by decide +kernel
theorem dX3_decide_42 : decode cX3_decide 42 = .ok (.getfield 202, 3) := by decide +kernel
theorem dX3_decide_45 : decode cX3_decide 45 = .ok (.aload_n 2, 1) := by decide +kernel
theorem dX3_decide_46 : decode cX3_decide 46 = .ok (.if_acmp .ne 13, 3) := by decide +kernel
theorem dX3_decide_49 : decode cX3_decide 49 = .ok (.aload_n 1, 1) := by decide +kernel
theorem dX3_decide_50 : decode cX3_decide 50 = .ok (.getfield 181, 3) := by decide +kernel
theorem dX3_decide_53 : decode cX3_decide 53 = .ok (.getfield 202, 3) := by decide +kernel
theorem dX3_decide_56 : decode cX3_decide 56 = .ok (.goto 10, 3) := by decide +kernel
theorem dX3_decide_59 : decode cX3_decide 59 = .ok (.aload_n 1, 1) := by decide +kernel
theorem dX3_decide_60 : decode cX3_decide 60 = .ok (.getfield 172, 3) := by decide +kernel
theorem dX3_decide_63 : decode cX3_decide 63 = .ok (.getfield 202, 3) := by decide +kernel
theorem dX3_decide_66 : decode cX3_decide 66 = .ok (.astore_n 3, 1) := by decide +kernel
theorem dX3_decide_67 : decode cX3_decide 67 = .ok (.aload_n 3, 1) := by decide +kernel
theorem dX3_decide_68 : decode cX3_decide 68 = .ok (.ifnull 11, 3) := by decide +kernel
theorem dX3_decide_71 : decode cX3_decide 71 = .ok (.aload_n 3, 1) := by decide +kernel
theorem dX3_decide_72 : decode cX3_decide 72 = .ok (.aload_n 1, 1) := by decide +kernel
theorem dX3_decide_73 : decode cX3_decide 73 = .ok (.getfield 300, 3) := by decide +kernel
theorem dX3_decide_76 : decode cX3_decide 76 = .ok (.putfield 303, 3) := by decide +kernel
theorem dX3_decide_79 : decode cX3_decide 79 = .ok (.aload_n 0, 1) := by decide +kernel
theorem dX3_decide_80 : decode cX3_decide 80 = .ok (.aload_n 1, 1) := by decide +kernel
theorem dX3_decide_81 : decode cX3_decide 81 = .ok (.invokevirtual 306, 3) := by decide +kernel
theorem dX3_decide_84 : decode cX3_decide 84 = .ok (.return_, 1) := by decide +kernel
set_option maxRecDepth 20000 in
theorem ggX3_boutsIn_Jx4a65c_size_8abf5 : GoodIn wsX3_boutsIn wsJx4a65c_size_8abf5 := goodIn_r _ [8, 9, 46, 47, 48] (by decide +kernel) (by decide +kernel)
set_option maxRecDepth 20000 in
theorem gX3_boutsIn_Jx4a65c_size_8abf5 : GoodIn wsX3_boutsIn (wsV RX3 49 RJx4a65c yJx4a65c_size_8abf5 wsJx4a65c_size_8abf5) := goodIn_app (goodIn_of _ (by decide +kernel)) ggX3_boutsIn_Jx4a65c_size_8abf5
set_option maxRecDepth 20000 in
theorem ggX3_boutsIn_Jx4a65c_get_915e3 : GoodIn wsX3_boutsIn wsJx4a65c_get_915e3 := goodIn_r _ [13, 9, 14, 15, 16, 17, 18, 19, 20, 21, 22, 23, 24, 7, 25, 26, 46, 47, 48] (by decide +kernel) (by decide +kernel)
set_option maxRecDepth 20000 in
theorem gX3_boutsIn_Jx4a65c_get_915e3 : GoodIn wsX3_boutsIn (wsV RX3 124 RJx4a65c yJx4a65c_get_915e3 wsJx4a65c_get_915e3) := goodIn_app (goodIn_of _ (by decide +kernel)) ggX3_boutsIn_Jx4a65c_get_915e3
theorem dX3_boutsIn_0 : decode cX3_boutsIn 0 = .ok (.iconst 0, 1) := by decide +kernel
theorem dX3_boutsIn_1 : decode cX3_boutsIn 1 = .ok (.istore_n 2, 1) := by decide +kernel
theorem dX3_boutsIn_2 : decode cX3_boutsIn 2 = .ok (.iconst 0, 1) := by decide +kernel
theorem dX3_boutsIn_3 : decode cX3_boutsIn 3 = .ok (.istore_n 3, 1) := by decide +kernel
theorem dX3_boutsIn_4 : decode cX3_boutsIn 4 = .ok (.iload_n 3, 1) := by decide +kernel
theorem dX3_boutsIn_5 : decode cX3_boutsIn 5 = .ok (.aload_n 0, 1) := by decide +kernel
theorem dX3_boutsIn_6 : decode cX3_boutsIn 6 = .ok (.getfield 16, 3) := by decide +kernel
theorem dX3_boutsIn_9 : decode cX3_boutsIn 9 = .ok (.invokevirtual 49, 3) := by decide +kernel
theorem dX3_boutsIn_12 : decode cX3_boutsIn 12 = .ok (.if_icmp .ge 30, 3) := by decide +kernel
theorem dX3_boutsIn_15 : decode cX3_boutsIn 15 = .ok (.aload_n 0, 1) := by decide +kernel
theorem dX3_boutsIn_16 : decode cX3_boutsIn 16 = .ok (.getfield 16, 3) := by decide +kernel
theorem dX3_boutsIn_19 : decode cX3_boutsIn 19 = .ok (.iload_n 3, 1) := by decide +kernel
theorem dX3_boutsIn_20 : decode cX3_boutsIn 20 = .ok (.invokevirtual 124, 3) := by decide +kernel
theorem dX3_boutsIn_23 : decode cX3_boutsIn 23 = .ok (.checkcast 19, 3) := by decide +kernel
theorem dX3_boutsIn_26 : decode cX3_boutsIn 26 = .ok (.getfield 210, 3) := by decide +kernel
theorem dX3_boutsIn_29 : decode cX3_boutsIn 29 = .ok (.iload_n 1, 1) := by decide +kernel
theorem dX3_boutsIn_30 : decode cX3_boutsIn 30 = .ok (.if_icmp .ne 6, 3) := by decide +kernel
theorem dX3_boutsIn_33 : decode cX3_boutsIn 33 = .ok (.iinc 2 1, 3) := by decide +kernel
theorem dX3_boutsIn_36 : decode cX3_boutsIn 36 = .ok (.iinc 3 1, 3) := by decide +kernel
theorem dX3_boutsIn_39 : decode cX3_boutsIn 39 = .ok (.goto (-35), 3) := by decide +kernel
theorem dX3_boutsIn_42 : decode cX3_boutsIn 42 = .ok (.iload_n 2, 1) := by decide +kernel
theorem dX3_boutsIn_43 : decode cX3_boutsIn 43 = .ok (.ireturn, 1) := by decide +kernel
set_option maxRecDepth 20000 in
theorem ggX3_fencersOut_Jx4a65c_size_8abf5 : GoodIn wsX3_fencersOut wsJx4a65c_size_8abf5 := goodIn_r _ [8, 9, 51, 52, 53] (by decide +kernel) (by decide +kernel)
set_option maxRecDepth 20000 in
theorem gX3_fencersOut_Jx4a65c_size_8abf5 : GoodIn wsX3_fencersOut (wsV RX3 49 RJx4a65c yJx4a65c_size_8abf5 wsJx4a65c_size_8abf5) := goodIn_app (goodIn_of _ (by decide +kernel)) ggX3_fencersOut_Jx4a65c_size_8abf5
set_option maxRecDepth 20000 in
theorem ggX3_fencersOut_Jx4a65c_get_915e3 : GoodIn wsX3_fencersOut wsJx4a65c_get_915e3 := goodIn_r _ [13, 9, 14, 15, 16, 17, 18, 19, 20, 21, 22, 23, 24, 7, 25, 26, 51, 52, 53] (by decide +kernel) (by decide +kernel)
set_option maxRecDepth 20000 in
theorem gX3_fencersOut_Jx4a65c_get_915e3 : GoodIn wsX3_fencersOut (wsV RX3 124 RJx4a65c yJx4a65c_get_915e3 wsJx4a65c_get_915e3) := goodIn_app (goodIn_of _ (by decide +kernel)) ggX3_fencersOut_Jx4a65c_get_915e3
theorem dX3_fencersOut_0 : decode cX3_fencersOut 0 = .ok (.iconst 0, 1) := by decide +kernel
theorem dX3_fencersOut_1 : decode cX3_fencersOut 1 = .ok (.istore_n 1, 1) := by decide +kernel
theorem dX3_fencersOut_2 : decode cX3_fencersOut 2 = .ok (.iconst 0, 1) := by decide +kernel
theorem dX3_fencersOut_3 : decode cX3_fencersOut 3 = .ok (.istore_n 2, 1) := by decide +kernel
theorem dX3_fencersOut_4 : decode cX3_fencersOut 4 = .ok (.iload_n 2, 1) := by decide +kernel
theorem dX3_fencersOut_5 : decode cX3_fencersOut 5 = .ok (.aload_n 0, 1) := by decide +kernel
theorem dX3_fencersOut_6 : decode cX3_fencersOut 6 = .ok (.getfield 12, 3) := by decide +kernel
theorem dX3_fencersOut_9 : decode cX3_fencersOut 9 = .ok (.invokevirtual 49, 3) := by decide +kernel
theorem dX3_fencersOut_12 : decode cX3_fencersOut 12 = .ok (.if_icmp .ge 29, 3) := by decide +kernel
theorem dX3_fencersOut_15 : decode cX3_fencersOut 15 = .ok (.aload_n 0, 1) := by decide +kernel
theorem dX3_fencersOut_16 : decode cX3_fencersOut 16 = .ok (.getfield 12, 3) := by decide +kernel
theorem dX3_fencersOut_19 : decode cX3_fencersOut 19 = .ok (.iload_n 2, 1) := by decide +kernel
theorem dX3_fencersOut_20 : decode cX3_fencersOut 20 = .ok (.invokevirtual 124, 3) := by decide +kernel
theorem dX3_fencersOut_23 : decode cX3_fencersOut 23 = .ok (.checkcast 29, 3) := by decide +kernel
theorem dX3_fencersOut_26 : decode cX3_fencersOut 26 = .ok (.getfield 100, 3) := by decide +kernel
theorem dX3_fencersOut_29 : decode cX3_fencersOut 29 = .ok (.ifCond .eq 6, 3) := by decide +kernel
theorem dX3_fencersOut_32 : decode cX3_fencersOut 32 = .ok (.iinc 1 1, 3) := by decide +kernel
theorem dX3_fencersOut_35 : decode cX3_fencersOut 35 = .ok (.iinc 2 1, 3) := by decide +kernel
theorem dX3_fencersOut_38 : decode cX3_fencersOut 38 = .ok (.goto (-34), 3) := by decide +kernel
theorem dX3_fencersOut_41 : decode cX3_fencersOut 41 = .ok (.iload_n 1, 1) := by decide +kernel
theorem dX3_fencersOut_42 : decode cX3_fencersOut 42 = .ok (.ireturn, 1) := by decide +kernel
set_option maxRecDepth 20000 in
theorem ggX3_order_X3_fencerAt : GoodIn wsX3_order wsX3_fencerAt := goodIn_ca (goodIn_r _ [11, 12, 13, 14, 15, 16, 17, 18, 19, 20, 21, 22, 23, 10, 24, 25, 26, 27, 28, 29, 30, 31, 32, 33, 34, 35, 36, 37, 38, 39, 40, 41, 76, 77, 78, 79, 80, 81, 82, 83, 84, 85, 86, 87, 88] (by decide +kernel) (by decide +kernel)) (goodIn_sub (fun _ h => List.mem_cons_of_mem _ (List.mem_append_right _ h)) (by decide +kernel))
set_option maxRecDepth 20000 in
theorem gX3_order_X3_fencerAt : GoodIn wsX3_order (wsV RX3 85 RX3 yX3_fencerAt wsX3_fencerAt) := goodIn_app (goodIn_of _ (by decide +kernel)) ggX3_order_X3_fencerAt
set_option maxRecDepth 20000 in
theorem ggX3_order_X3_aheadInOrder : GoodIn wsX3_order wsX3_aheadInOrder := goodIn_r _ [45, 14, 15, 16, 17, 18, 19, 20, 21, 25, 26, 27, 28, 29, 30, 31, 32, 33, 34, 35, 36, 37, 38, 39, 40, 41, 46, 47, 48, 49, 50, 51, 52, 53, 54, 55, 56, 57, 58, 59, 60, 61, 76, 77, 78, 79, 80, 81, 82, 83, 84, 85, 86, 87, 88, 62, 63, 64, 65, 66, 67, 68, 69, 70, 71, 72, 73, 74, 75] (by decide +kernel) (by decide +kernel)
set_option maxRecDepth 20000 in
theorem gX3_order_X3_aheadInOrder : GoodIn wsX3_order (wsV RX3 321 RX3 yX3_aheadInOrder wsX3_aheadInOrder) := goodIn_app (goodIn_of _ (by decide +kernel)) ggX3_order_X3_aheadInOrder
theorem dX3_order_0 : decode cX3_order 0 = .ok (.aload_n 0, 1) := by decide +kernel
theorem dX3_order_1 : decode cX3_order 1 = .ok (.iload_n 1, 1) := by decide +kernel
theorem dX3_order_2 : decode cX3_order 2 = .ok (.invokevirtual 85, 3) := by decide +kernel
theorem dX3_order_5 : decode cX3_order 5 = .ok (.astore_n 3, 1) := by decide +kernel
theorem dX3_order_6 : decode cX3_order 6 = .ok (.iload_n 2, 1) := by decide +kernel
theorem dX3_order_7 : decode cX3_order 7 = .ok (.tableswitch 59 0 4 #[33, 38, 43, 48, 53], 33) := by decide +kernel
theorem dX3_order_40 : decode cX3_order 40 = .ok (.aload_n 3, 1) := by decide +kernel
theorem dX3_order_41 : decode cX3_order 41 = .ok (.getfield 309, 3) := by decide +kernel
theorem dX3_order_44 : decode cX3_order 44 = .ok (.ireturn, 1) := by decide +kernel
theorem dX3_order_45 : decode cX3_order 45 = .ok (.aload_n 3, 1) := by decide +kernel
theorem dX3_order_46 : decode cX3_order 46 = .ok (.getfield 312, 3) := by decide +kernel
theorem dX3_order_49 : decode cX3_order 49 = .ok (.ireturn, 1) := by decide +kernel
theorem dX3_order_50 : decode cX3_order 50 = .ok (.aload_n 3, 1) := by decide +kernel
theorem dX3_order_51 : decode cX3_order 51 = .ok (.getfield 315, 3) := by decide +kernel
theorem dX3_order_54 : decode cX3_order 54 = .ok (.ireturn, 1) := by decide +kernel
theorem dX3_order_55 : decode cX3_order 55 = .ok (.aload_n 3, 1) := by decide +kernel
theorem dX3_order_56 : decode cX3_order 56 = .ok (.getfield 318, 3) := by decide +kernel
theorem dX3_order_59 : decode cX3_order 59 = .ok (.ireturn, 1) := by decide +kernel
theorem dX3_order_60 : decode cX3_order 60 = .ok (.aload_n 0, 1) := by decide +kernel
theorem dX3_order_61 : decode cX3_order 61 = .ok (.aload_n 3, 1) := by decide +kernel
theorem dX3_order_62 : decode cX3_order 62 = .ok (.invokevirtual 321, 3) := by decide +kernel
theorem dX3_order_65 : decode cX3_order 65 = .ok (.ireturn, 1) := by decide +kernel
theorem dX3_order_66 : decode cX3_order 66 = .ok (.new 42, 3) := by decide +kernel
theorem dX3_order_69 : decode cX3_order 69 = .ok (.dup, 1) := by decide +kernel
theorem dX3_order_70 : decode cX3_order 70 = .ok (.ldc_w 324, 3) := by decide +kernel
theorem dX3_order_73 : decode cX3_order 73 = .ok (.invokespecial 46, 3) := by decide +kernel
theorem dX3_order_76 : decode cX3_order 76 = .ok (.athrow, 1) := by decide +kernel
set_option maxRecDepth 20000 in
theorem ggX3_draw_X3_isIn : GoodIn wsX3_draw wsX3_isIn := goodIn_r _ [11] (by decide +kernel) (by decide +kernel)
set_option maxRecDepth 20000 in
theorem gX3_draw_X3_isIn : GoodIn wsX3_draw (va_wsS RX3 38 yX3_isIn wsX3_isIn) := goodIn_app (goodIn_of _ (by decide +kernel)) ggX3_draw_X3_isIn
set_option maxRecDepth 20000 in
theorem ggX3_draw_X3_boutsIn : GoodIn wsX3_draw wsX3_boutsIn := goodIn_r _ [15, 16, 17, 18, 19, 20, 21, 22, 23, 24, 25, 26, 27, 28, 29, 30, 31, 32, 33, 34, 35, 36, 37, 38, 39, 40, 41, 213, 214, 215, 216, 217, 218, 219, 220, 221, 222, 223, 224, 225, 226, 227, 228, 229, 230, 231, 232, 233, 234] (by decide +kernel) (by decide +kernel)
set_option maxRecDepth 20000 in
theorem gX3_draw_X3_boutsIn : GoodIn wsX3_draw (wsV RX3 240 RX3 yX3_boutsIn wsX3_boutsIn) := goodIn_app (goodIn_of _ (by decide +kernel)) ggX3_draw_X3_boutsIn
set_option maxRecDepth 20000 in
theorem ggX3_draw_Jx4a65c_size_8abf5 : GoodIn wsX3_draw wsJx4a65c_size_8abf5 := goodIn_r _ [23, 24, 232, 233, 234] (by decide +kernel) (by decide +kernel)
set_option maxRecDepth 20000 in
theorem gX3_draw_Jx4a65c_size_8abf5 : GoodIn wsX3_draw (wsV RX3 49 RJx4a65c yJx4a65c_size_8abf5 wsJx4a65c_size_8abf5) := goodIn_app (goodIn_of _ (by decide +kernel)) ggX3_draw_Jx4a65c_size_8abf5
set_option maxRecDepth 20000 in
theorem ggX3_draw_X3_fencersOut : GoodIn wsX3_draw wsX3_fencersOut := goodIn_r _ [45, 7, 46, 47, 19, 20, 21, 22, 23, 24, 25, 26, 27, 28, 29, 30, 31, 32, 33, 34, 35, 36, 37, 38, 39, 40, 41, 213, 214, 215, 216, 217, 218, 219, 220, 221, 222, 235, 236, 237, 238, 239, 240, 241, 242, 243, 244, 245, 246, 247, 248, 232, 233, 234] (by decide +kernel) (by decide +kernel)
set_option maxRecDepth 20000 in
theorem gX3_draw_X3_fencersOut : GoodIn wsX3_draw (wsV RX3 244 RX3 yX3_fencersOut wsX3_fencersOut) := goodIn_app (goodIn_of _ (by decide +kernel)) ggX3_draw_X3_fencersOut
set_option maxRecDepth 20000 in
theorem ggX3_draw_X3_seed : GoodIn wsX3_draw wsX3_seed := goodIn_r _ [51, 52, 53, 54, 55, 10, 56, 7, 46, 19, 20, 21, 22, 23, 24, 25, 26, 27, 28, 29, 30, 31, 32, 33, 34, 35, 36, 37, 38, 39, 40, 41, 57, 58, 59, 60, 61, 62, 63, 64, 65, 66, 67, 68, 69, 70, 71, 72, 73, 74, 75, 76, 213, 214, 215, 216, 217, 218, 219, 220, 221, 222, 232, 233, 234, 235, 236, 237, 238, 239, 240, 241, 242, 243, 244, 245, 246, 247, 248] (by decide +kernel) (by decide +kernel)
set_option maxRecDepth 20000 in
theorem gX3_draw_X3_seed : GoodIn wsX3_draw (wsV RX3 332 RX3 yX3_seed wsX3_seed) := goodIn_app (goodIn_of _ (by decide +kernel)) ggX3_draw_X3_seed
set_option maxRecDepth 20000 in
theorem ggX3_draw_X3_setLines : GoodIn wsX3_draw wsX3_setLines := goodIn_r _ [80, 81, 6, 213, 214, 215, 216, 217, 218, 219, 220, 221, 222] (by decide +kernel) (by decide +kernel)
set_option maxRecDepth 20000 in
theorem gX3_draw_X3_setLines : GoodIn wsX3_draw (wsV RX3 335 RX3 yX3_setLines wsX3_setLines) := goodIn_app (goodIn_of _ (by decide +kernel)) ggX3_draw_X3_setLines
set_option maxRecDepth 20000 in
theorem ggX3_draw_X3_addTableBouts : GoodIn wsX3_draw wsX3_addTableBouts := goodIn_r _ [85, 16, 86, 6, 87, 88, 89, 19, 20, 21, 22, 23, 24, 90, 91, 92, 10, 93, 94, 95, 96, 97, 98, 99, 81, 52, 8, 9, 11, 100, 101, 102, 103, 104, 105, 106, 107, 108, 109, 110, 111, 112, 113, 114, 115, 116, 117, 118, 119, 120, 121, 122, 123, 124, 41, 125, 126, 127, 128, 129, 130, 131, 132, 133, 134, 135, 136, 137, 138, 70, 71, 72, 139, 140, 141, 142, 143, 144, 145, 146, 147, 148, 149, 150, 151, 152, 153, 154, 155, 156, 157, 158, 159, 160, 161, 162, 163, 164, 165, 166, 167, 168, 169, 170, 171, 172, 17, 173, 174, 175, 25, 26, 27, 28, 29, 30, 31, 32, 33, 34, 35, 36, 37, 38, 39, 40, 176, 177, 178, 179, 180, 181, 182, 183, 18, 184, 185, 186, 187, 188, 189, 190, 191, 192, 193, 194, 195, 196, 197, 198, 199, 200, 201, 202, 64, 203, 68, 67, 73, 74, 204, 205, 206, 207, 208, 209, 210, 211, 212, 213, 214, 215, 216, 217, 218, 219, 220, 221, 222, 223, 224, 225, 226, 227, 228, 229, 230, 231, 232, 233, 234, 235, 236, 237, 238, 239, 240, 241, 242, 243, 244, 245, 246, 247, 248, 249, 250, 251] (by decide +kernel) (by decide +kernel)
set_option maxRecDepth 20000 in
theorem gX3_draw_X3_addTableBouts : GoodIn wsX3_draw (wsV RX3 338 RX3 yX3_addTableBouts wsX3_addTableBouts) := goodIn_app (goodIn_of _ (by decide +kernel)) ggX3_draw_X3_addTableBouts
theorem dX3_draw_0 : decode cX3_draw 0 = .ok (.iload_n 1, 1) := by decide +kernel
theorem dX3_draw_1 : decode cX3_draw 1 = .ok (.iconst 0, 1) := by decide +kernel
theorem dX3_draw_2 : decode cX3_draw 2 = .ok (.bipush 50, 2) := by decide +kernel
theorem dX3_draw_4 : decode cX3_draw 4 = .ok (.invokestatic 38, 3) := by decide +kernel
theorem dX3_draw_7 : decode cX3_draw 7 = .ok (.ifCond .ne 14, 3) := by decide +kernel
theorem dX3_draw_10 : decode cX3_draw 10 = .ok (.new 42, 3) := by decide +kernel
theorem dX3_draw_13 : decode cX3_draw 13 = .ok (.dup, 1) := by decide +kernel
theorem dX3_draw_14 : decode cX3_draw 14 = .ok (.ldc_w 326, 3) := by decide +kernel
theorem dX3_draw_17 : decode cX3_draw 17 = .ok (.invokespecial 46, 3) := by decide +kernel
theorem dX3_draw_20 : decode cX3_draw 20 = .ok (.athrow, 1) := by decide +kernel
theorem dX3_draw_21 : decode cX3_draw 21 = .ok (.aload_n 0, 1) := by decide +kernel
theorem dX3_draw_22 : decode cX3_draw 22 = .ok (.getfield 53, 3) := by decide +kernel
theorem dX3_draw_25 : decode cX3_draw 25 = .ok (.ifCond .eq 26, 3) := by decide +kernel
theorem dX3_draw_28 : decode cX3_draw 28 = .ok (.aload_n 0, 1) := by decide +kernel
theorem dX3_draw_29 : decode cX3_draw 29 = .ok (.getfield 247, 3) := by decide +kernel
theorem dX3_draw_32 : decode cX3_draw 32 = .ok (.ifCond .gt 19, 3) := by decide +kernel
theorem dX3_draw_35 : decode cX3_draw 35 = .ok (.aload_n 0, 1) := by decide +kernel
theorem dX3_draw_36 : decode cX3_draw 36 = .ok (.iconst 0, 1) := by decide +kernel
theorem dX3_draw_37 : decode cX3_draw 37 = .ok (.invokevirtual 240, 3) := by decide +kernel
theorem dX3_draw_40 : decode cX3_draw 40 = .ok (.ifCond .gt 11, 3) := by decide +kernel
theorem dX3_draw_43 : decode cX3_draw 43 = .ok (.aload_n 0, 1) := by decide +kernel
theorem dX3_draw_44 : decode cX3_draw 44 = .ok (.iconst 1, 1) := by decide +kernel
theorem dX3_draw_45 : decode cX3_draw 45 = .ok (.invokevirtual 240, 3) := by decide +kernel
theorem dX3_draw_48 : decode cX3_draw 48 = .ok (.ifCond .le 14, 3) := by decide +kernel
theorem dX3_draw_51 : decode cX3_draw 51 = .ok (.new 57, 3) := by decide +kernel
theorem dX3_draw_54 : decode cX3_draw 54 = .ok (.dup, 1) := by decide +kernel
theorem dX3_draw_55 : decode cX3_draw 55 = .ok (.ldc_w 328, 3) := by decide +kernel
theorem dX3_draw_58 : decode cX3_draw 58 = .ok (.invokespecial 61, 3) := by decide +kernel
theorem dX3_draw_61 : decode cX3_draw 61 = .ok (.athrow, 1) := by decide +kernel
theorem dX3_draw_62 : decode cX3_draw 62 = .ok (.aload_n 0, 1) := by decide +kernel
theorem dX3_draw_63 : decode cX3_draw 63 = .ok (.getfield 12, 3) := by decide +kernel
theorem dX3_draw_66 : decode cX3_draw 66 = .ok (.invokevirtual 49, 3) := by decide +kernel
theorem dX3_draw_69 : decode cX3_draw 69 = .ok (.aload_n 0, 1) := by decide +kernel
theorem dX3_draw_70 : decode cX3_draw 70 = .ok (.invokevirtual 244, 3) := by decide +kernel
theorem dX3_draw_73 : decode cX3_draw 73 = .ok (.isub, 1) := by decide +kernel
theorem dX3_draw_74 : decode cX3_draw 74 = .ok (.istore_n 2, 1) := by decide +kernel
theorem dX3_draw_75 : decode cX3_draw 75 = .ok (.iload_n 2, 1) := by decide +kernel
theorem dX3_draw_76 : decode cX3_draw 76 = .ok (.iload_n 2, 1) := by decide +kernel
theorem dX3_draw_77 : decode cX3_draw 77 = .ok (.iload_n 1, 1) := by decide +kernel
theorem dX3_draw_78 : decode cX3_draw 78 = .ok (.imul, 1) := by decide +kernel
theorem dX3_draw_79 : decode cX3_draw 79 = .ok (.bipush 100, 2) := by decide +kernel
theorem dX3_draw_81 : decode cX3_draw 81 = .ok (.idiv, 1) := by decide +kernel
theorem dX3_draw_82 : decode cX3_draw 82 = .ok (.isub, 1) := by decide +kernel
theorem dX3_draw_83 : decode cX3_draw 83 = .ok (.istore_n 3, 1) := by decide +kernel
theorem dX3_draw_84 : decode cX3_draw 84 = .ok (.iload_n 3, 1) := by decide +kernel
theorem dX3_draw_85 : decode cX3_draw 85 = .ok (.iconst 2, 1) := by decide +kernel
theorem dX3_draw_86 : decode cX3_draw 86 = .ok (.if_icmp .ge 14, 3) := by decide +kernel
theorem dX3_draw_89 : decode cX3_draw 89 = .ok (.new 57, 3) := by decide +kernel
theorem dX3_draw_92 : decode cX3_draw 92 = .ok (.dup, 1) := by decide +kernel
theorem dX3_draw_93 : decode cX3_draw 93 = .ok (.ldc_w 330, 3) := by decide +kernel
theorem dX3_draw_96 : decode cX3_draw 96 = .ok (.invokespecial 61, 3) := by decide +kernel
theorem dX3_draw_99 : decode cX3_draw 99 = .ok (.athrow, 1) := by decide +kernel
theorem dX3_draw_100 : decode cX3_draw 100 = .ok (.aload_n 0, 1) := by decide +kernel
theorem dX3_draw_101 : decode cX3_draw 101 = .ok (.iload_n 3, 1) := by decide +kernel
theorem dX3_draw_102 : decode cX3_draw 102 = .ok (.invokevirtual 332, 3) := by decide +kernel
theorem dX3_draw_105 : decode cX3_draw 105 = .ok (.aload_n 0, 1) := by decide +kernel
theorem dX3_draw_106 : decode cX3_draw 106 = .ok (.iload_n 3, 1) := by decide +kernel
theorem dX3_draw_107 : decode cX3_draw 107 = .ok (.invokevirtual 335, 3) := by decide +kernel
theorem dX3_draw_110 : decode cX3_draw 110 = .ok (.aload_n 0, 1) := by decide +kernel
theorem dX3_draw_111 : decode cX3_draw 111 = .ok (.invokevirtual 338, 3) := by decide +kernel
theorem dX3_draw_114 : decode cX3_draw 114 = .ok (.iload_n 3, 1) := by decide +kernel
theorem dX3_draw_115 : decode cX3_draw 115 = .ok (.ireturn, 1) := by decide +kernel
set_option maxRecDepth 20000 in
theorem ggX3_line_X3_isIn : GoodIn wsX3_line wsX3_isIn := goodIn_r _ [7] (by decide +kernel) (by decide +kernel)
set_option maxRecDepth 20000 in
theorem gX3_line_X3_isIn : GoodIn wsX3_line (va_wsS RX3 38 yX3_isIn wsX3_isIn) := goodIn_app (goodIn_of _ (by decide +kernel)) ggX3_line_X3_isIn
set_option maxRecDepth 20000 in
theorem ggX3_line_X3_fencerOnLine : GoodIn wsX3_line wsX3_fencerOnLine := goodIn_r _ [11, 3, 12, 13, 4, 5, 6, 7, 18, 19, 20, 21, 22, 23, 24, 25, 26, 27] (by decide +kernel) (by decide +kernel)
set_option maxRecDepth 20000 in
theorem gX3_line_X3_fencerOnLine : GoodIn wsX3_line (wsV RX3 346 RX3 yX3_fencerOnLine wsX3_fencerOnLine) := goodIn_app (goodIn_of _ (by decide +kernel)) ggX3_line_X3_fencerOnLine
set_option maxRecDepth 20000 in
theorem ggX3_line_X3_numberOf : GoodIn wsX3_line wsX3_numberOf := goodIn_r _ [16, 17, 28, 29, 30, 31, 32, 33, 34, 35, 36, 37, 38, 39, 40, 41] (by decide +kernel) (by decide +kernel)
set_option maxRecDepth 20000 in
theorem gX3_line_X3_numberOf : GoodIn wsX3_line (va_wsS RX3 213 yX3_numberOf wsX3_numberOf) := goodIn_app (goodIn_of _ (by decide +kernel)) ggX3_line_X3_numberOf
theorem dX3_line_0 : decode cX3_line 0 = .ok (.iload_n 1, 1) := by decide +kernel
theorem dX3_line_1 : decode cX3_line 1 = .ok (.iconst 0, 1) := by decide +kernel
theorem dX3_line_2 : decode cX3_line 2 = .ok (.aload_n 0, 1) := by decide +kernel
theorem dX3_line_3 : decode cX3_line 3 = .ok (.getfield 247, 3) := by decide +kernel
theorem dX3_line_6 : decode cX3_line 6 = .ok (.iconst 1, 1) := by decide +kernel
theorem dX3_line_7 : decode cX3_line 7 = .ok (.isub, 1) := by decide +kernel
theorem dX3_line_8 : decode cX3_line 8 = .ok (.invokestatic 38, 3) := by decide +kernel
theorem dX3_line_11 : decode cX3_line 11 = .ok (.ifCond .ne 14, 3) := by decide +kernel
theorem dX3_line_14 : decode cX3_line 14 = .ok (.new 341, 3) := by decide +kernel
theorem dX3_line_17 : decode cX3_line 17 = .ok (.dup, 1) := by decide +kernel
theorem dX3_line_18 : decode cX3_line 18 = .ok (.ldc_w 343, 3) := by decide +kernel
theorem dX3_line_21 : decode cX3_line 21 = .ok (.invokespecial 345, 3) := by decide +kernel
theorem dX3_line_24 : decode cX3_line 24 = .ok (.athrow, 1) := by decide +kernel
theorem dX3_line_25 : decode cX3_line 25 = .ok (.aload_n 0, 1) := by decide +kernel
theorem dX3_line_26 : decode cX3_line 26 = .ok (.iload_n 1, 1) := by decide +kernel
theorem dX3_line_27 : decode cX3_line 27 = .ok (.invokevirtual 346, 3) := by decide +kernel
theorem dX3_line_30 : decode cX3_line 30 = .ok (.invokestatic 213, 3) := by decide +kernel
theorem dX3_line_33 : decode cX3_line 33 = .ok (.ireturn, 1) := by decide +kernel
set_option maxRecDepth 20000 in
theorem ggX3_place_X3_fencerAt : GoodIn wsX3_place wsX3_fencerAt := goodIn_ca (goodIn_r _ [7, 8, 9, 1, 2, 10, 11, 12, 13, 14, 15, 16, 17, 6, 18, 19, 20, 21, 22, 23, 24, 25, 26, 27, 28, 29, 30, 31, 32, 33, 34, 35, 57, 58, 59, 60, 61, 62, 63, 64, 65, 66, 67, 68, 69] (by decide +kernel) (by decide +kernel)) (goodIn_sub (fun _ h => List.mem_cons_of_mem _ (List.mem_append_right _ h)) (by decide +kernel))
set_option maxRecDepth 20000 in
theorem gX3_place_X3_fencerAt : GoodIn wsX3_place (wsV RX3 85 RX3 yX3_fencerAt wsX3_fencerAt) := goodIn_app (goodIn_of _ (by decide +kernel)) ggX3_place_X3_fencerAt
set_option maxRecDepth 20000 in
theorem ggX3_place_Jx4a65c_size_8abf5 : GoodIn wsX3_place wsJx4a65c_size_8abf5 := goodIn_r _ [14, 15, 67, 68, 69] (by decide +kernel) (by decide +kernel)
set_option maxRecDepth 20000 in
theorem gX3_place_Jx4a65c_size_8abf5 : GoodIn wsX3_place (wsV RX3 49 RJx4a65c yJx4a65c_size_8abf5 wsJx4a65c_size_8abf5) := goodIn_app (goodIn_of _ (by decide +kernel)) ggX3_place_Jx4a65c_size_8abf5
set_option maxRecDepth 20000 in
theorem ggX3_place_Jx4a65c_get_915e3 : GoodIn wsX3_place wsJx4a65c_get_915e3 := goodIn_r _ [22, 15, 23, 24, 25, 26, 27, 28, 29, 30, 31, 32, 33, 13, 34, 35, 67, 68, 69] (by decide +kernel) (by decide +kernel)
set_option maxRecDepth 20000 in
theorem gX3_place_Jx4a65c_get_915e3 : GoodIn wsX3_place (wsV RX3 124 RJx4a65c yJx4a65c_get_915e3 wsJx4a65c_get_915e3) := goodIn_app (goodIn_of _ (by decide +kernel)) ggX3_place_Jx4a65c_get_915e3
set_option maxRecDepth 20000 in
theorem ggX3_place_X1_isPlacedAheadOf : GoodIn wsX3_place wsX1_isPlacedAheadOf := goodIn_r _ [40, 41, 42, 43, 44, 45, 39, 46, 47, 48, 49, 50, 51, 52, 53, 54, 55, 56, 70, 71, 72, 73, 74, 75, 76, 77, 78, 79, 80, 81, 82, 83] (by decide +kernel) (by decide +kernel)
set_option maxRecDepth 20000 in
theorem gX3_place_X1_isPlacedAheadOf : GoodIn wsX3_place (wsV RX3 349 RX1 yX1_isPlacedAheadOf wsX1_isPlacedAheadOf) := goodIn_app (goodIn_of _ (by decide +kernel)) ggX3_place_X1_isPlacedAheadOf
theorem dX3_place_0 : decode cX3_place 0 = .ok (.aload_n 0, 1) := by decide +kernel
theorem dX3_place_1 : decode cX3_place 1 = .ok (.iload_n 1, 1) := by decide +kernel
theorem dX3_place_2 : decode cX3_place 2 = .ok (.invokevirtual 85, 3) := by decide +kernel
theorem dX3_place_5 : decode cX3_place 5 = .ok (.astore_n 2, 1) := by decide +kernel
theorem dX3_place_6 : decode cX3_place 6 = .ok (.iconst 0, 1) := by decide +kernel
theorem dX3_place_7 : decode cX3_place 7 = .ok (.istore_n 3, 1) := by decide +kernel
theorem dX3_place_8 : decode cX3_place 8 = .ok (.iconst 0, 1) := by decide +kernel
theorem dX3_place_9 : decode cX3_place 9 = .ok (.istore 4, 2) := by decide +kernel
theorem dX3_place_11 : decode cX3_place 11 = .ok (.iload 4, 2) := by decide +kernel
theorem dX3_place_13 : decode cX3_place 13 = .ok (.aload_n 0, 1) := by decide +kernel
theorem dX3_place_14 : decode cX3_place 14 = .ok (.getfield 12, 3) := by decide +kernel
theorem dX3_place_17 : decode cX3_place 17 = .ok (.invokevirtual 49, 3) := by decide +kernel
theorem dX3_place_20 : decode cX3_place 20 = .ok (.if_icmp .ge 31, 3) := by decide +kernel
theorem dX3_place_23 : decode cX3_place 23 = .ok (.aload_n 0, 1) := by decide +kernel
theorem dX3_place_24 : decode cX3_place 24 = .ok (.getfield 12, 3) := by decide +kernel
theorem dX3_place_27 : decode cX3_place 27 = .ok (.iload 4, 2) := by decide +kernel
theorem dX3_place_29 : decode cX3_place 29 = .ok (.invokevirtual 124, 3) := by decide +kernel
theorem dX3_place_32 : decode cX3_place 32 = .ok (.checkcast 29, 3) := by decide +kernel
theorem dX3_place_35 : decode cX3_place 35 = .ok (.aload_n 2, 1) := by decide +kernel
theorem dX3_place_36 : decode cX3_place 36 = .ok (.invokevirtual 349, 3) := by decide +kernel
theorem dX3_place_39 : decode cX3_place 39 = .ok (.ifCond .eq 6, 3) := by decide +kernel
theorem dX3_place_42 : decode cX3_place 42 = .ok (.iinc 3 1, 3) := by decide +kernel
theorem dX3_place_45 : decode cX3_place 45 = .ok (.iinc 4 1, 3) := by decide +kernel
theorem dX3_place_48 : decode cX3_place 48 = .ok (.goto (-37), 3) := by decide +kernel
theorem dX3_place_51 : decode cX3_place 51 = .ok (.iload_n 3, 1) := by decide +kernel
theorem dX3_place_52 : decode cX3_place 52 = .ok (.ireturn, 1) := by decide +kernel
set_option maxRecDepth 20000 in
theorem ggX3_aheadInOrder_Jx4a65c_size_8abf5 : GoodIn wsX3_aheadInOrder wsJx4a65c_size_8abf5 := goodIn_r _ [7, 8, 52, 53, 54] (by decide +kernel) (by decide +kernel)
set_option maxRecDepth 20000 in
theorem gX3_aheadInOrder_Jx4a65c_size_8abf5 : GoodIn wsX3_aheadInOrder (wsV RX3 49 RJx4a65c yJx4a65c_size_8abf5 wsJx4a65c_size_8abf5) := goodIn_app (goodIn_of _ (by decide +kernel)) ggX3_aheadInOrder_Jx4a65c_size_8abf5
set_option maxRecDepth 20000 in
theorem ggX3_aheadInOrder_Jx4a65c_get_915e3 : GoodIn wsX3_aheadInOrder wsJx4a65c_get_915e3 := goodIn_r _ [12, 8, 13, 14, 15, 16, 17, 18, 19, 20, 21, 22, 23, 6, 24, 25, 52, 53, 54] (by decide +kernel) (by decide +kernel)
set_option maxRecDepth 20000 in
theorem gX3_aheadInOrder_Jx4a65c_get_915e3 : GoodIn wsX3_aheadInOrder (wsV RX3 124 RJx4a65c yJx4a65c_get_915e3 wsJx4a65c_get_915e3) := goodIn_app (goodIn_of _ (by decide +kernel)) ggX3_aheadInOrder_Jx4a65c_get_915e3
set_option maxRecDepth 20000 in
theorem ggX3_aheadInOrder_X1_isAheadOf : GoodIn wsX3_aheadInOrder wsX1_isAheadOf := goodIn_r _ [30, 31, 32, 33, 34, 35, 36, 37, 38, 39, 40, 41, 55, 56, 57, 58, 59, 60, 61, 62, 63, 64, 65, 66, 67, 68] (by decide +kernel) (by decide +kernel)
set_option maxRecDepth 20000 in
theorem gX3_aheadInOrder_X1_isAheadOf : GoodIn wsX3_aheadInOrder (wsV RX3 353 RX1 yX1_isAheadOf wsX1_isAheadOf) := goodIn_app (goodIn_of _ (by decide +kernel)) ggX3_aheadInOrder_X1_isAheadOf
theorem dX3_aheadInOrder_0 : decode cX3_aheadInOrder 0 = .ok (.iconst 0, 1) := by decide +kernel
theorem dX3_aheadInOrder_1 : decode cX3_aheadInOrder 1 = .ok (.istore_n 2, 1) := by decide +kernel
theorem dX3_aheadInOrder_2 : decode cX3_aheadInOrder 2 = .ok (.iconst 0, 1) := by decide +kernel
theorem dX3_aheadInOrder_3 : decode cX3_aheadInOrder 3 = .ok (.istore_n 3, 1) := by decide +kernel
theorem dX3_aheadInOrder_4 : decode cX3_aheadInOrder 4 = .ok (.iload_n 3, 1) := by decide +kernel
theorem dX3_aheadInOrder_5 : decode cX3_aheadInOrder 5 = .ok (.aload_n 0, 1) := by decide +kernel
theorem dX3_aheadInOrder_6 : decode cX3_aheadInOrder 6 = .ok (.getfield 12, 3) := by decide +kernel
theorem dX3_aheadInOrder_9 : decode cX3_aheadInOrder 9 = .ok (.invokevirtual 49, 3) := by decide +kernel
theorem dX3_aheadInOrder_12 : decode cX3_aheadInOrder 12 = .ok (.if_icmp .ge 30, 3) := by decide +kernel
theorem dX3_aheadInOrder_15 : decode cX3_aheadInOrder 15 = .ok (.aload_n 0, 1) := by decide +kernel
theorem dX3_aheadInOrder_16 : decode cX3_aheadInOrder 16 = .ok (.getfield 12, 3) := by decide +kernel
theorem dX3_aheadInOrder_19 : decode cX3_aheadInOrder 19 = .ok (.iload_n 3, 1) := by decide +kernel
theorem dX3_aheadInOrder_20 : decode cX3_aheadInOrder 20 = .ok (.invokevirtual 124, 3) := by decide +kernel
theorem dX3_aheadInOrder_23 : decode cX3_aheadInOrder 23 = .ok (.checkcast 29, 3) := by decide +kernel
theorem dX3_aheadInOrder_26 : decode cX3_aheadInOrder 26 = .ok (.aload_n 1, 1) := by decide +kernel
theorem dX3_aheadInOrder_27 : decode cX3_aheadInOrder 27 = .ok (.invokevirtual 353, 3) := by decide +kernel
theorem dX3_aheadInOrder_30 : decode cX3_aheadInOrder 30 = .ok (.ifCond .eq 6, 3) := by decide +kernel
theorem dX3_aheadInOrder_33 : decode cX3_aheadInOrder 33 = .ok (.iinc 2 1, 3) := by decide +kernel
theorem dX3_aheadInOrder_36 : decode cX3_aheadInOrder 36 = .ok (.iinc 3 1, 3) := by decide +kernel
theorem dX3_aheadInOrder_39 : decode cX3_aheadInOrder 39 = .ok (.goto (-35), 3) := by decide +kernel
theorem dX3_aheadInOrder_42 : decode cX3_aheadInOrder 42 = .ok (.iload_n 2, 1) := by decide +kernel
theorem dX3_aheadInOrder_43 : decode cX3_aheadInOrder 43 = .ok (.ireturn, 1) := by decide +kernel
set_option maxRecDepth 20000 in
theorem ggX3_fencerInOrder_Jx4a65c_size_8abf5 : GoodIn wsX3_fencerInOrder wsJx4a65c_size_8abf5 := goodIn_r _ [7, 8, 57, 58, 59] (by decide +kernel) (by decide +kernel)
set_option maxRecDepth 20000 in
theorem gX3_fencerInOrder_Jx4a65c_size_8abf5 : GoodIn wsX3_fencerInOrder (wsV RX3 49 RJx4a65c yJx4a65c_size_8abf5 wsJx4a65c_size_8abf5) := goodIn_app (goodIn_of _ (by decide +kernel)) ggX3_fencerInOrder_Jx4a65c_size_8abf5
set_option maxRecDepth 20000 in
theorem ggX3_fencerInOrder_Jx4a65c_get_915e3 : GoodIn wsX3_fencerInOrder wsJx4a65c_get_915e3 := goodIn_r _ [12, 8, 13, 14, 15, 16, 17, 18, 19, 20, 21, 22, 23, 6, 24, 25, 57, 58, 59] (by decide +kernel) (by decide +kernel)
set_option maxRecDepth 20000 in
theorem gX3_fencerInOrder_Jx4a65c_get_915e3 : GoodIn wsX3_fencerInOrder (wsV RX3 124 RJx4a65c yJx4a65c_get_915e3 wsJx4a65c_get_915e3) := goodIn_app (goodIn_of _ (by decide +kernel)) ggX3_fencerInOrder_Jx4a65c_get_915e3
set_option maxRecDepth 20000 in
theorem ggX3_fencerInOrder_X3_aheadInOrder : GoodIn wsX3_fencerInOrder wsX3_aheadInOrder := goodIn_r _ [30, 1, 2, 3, 4, 5, 6, 7, 8, 9, 10, 11, 12, 13, 14, 15, 16, 17, 18, 19, 20, 21, 22, 23, 24, 25, 31, 32, 33, 34, 35, 36, 37, 38, 39, 40, 41, 42, 43, 44, 45, 46, 47, 48, 49, 50, 51, 52, 53, 54, 55, 56, 57, 58, 59, 60, 61, 62, 63, 64, 65, 66, 67, 68, 69, 70, 71, 72, 73] (by decide +kernel) (by decide +kernel)
set_option maxRecDepth 20000 in
theorem gX3_fencerInOrder_X3_aheadInOrder : GoodIn wsX3_fencerInOrder (wsV RX3 321 RX3 yX3_aheadInOrder wsX3_aheadInOrder) := goodIn_app (goodIn_of _ (by decide +kernel)) ggX3_fencerInOrder_X3_aheadInOrder
theorem dX3_fencerInOrder_0 : decode cX3_fencerInOrder 0 = .ok (.iconst 0, 1) := by decide +kernel
theorem dX3_fencerInOrder_1 : decode cX3_fencerInOrder 1 = .ok (.istore_n 2, 1) := by decide +kernel
theorem dX3_fencerInOrder_2 : decode cX3_fencerInOrder 2 = .ok (.iload_n 2, 1) := by decide +kernel
theorem dX3_fencerInOrder_3 : decode cX3_fencerInOrder 3 = .ok (.aload_n 0, 1) := by decide +kernel
theorem dX3_fencerInOrder_4 : decode cX3_fencerInOrder 4 = .ok (.getfield 12, 3) := by decide +kernel
theorem dX3_fencerInOrder_7 : decode cX3_fencerInOrder 7 = .ok (.invokevirtual 49, 3) := by decide +kernel
theorem dX3_fencerInOrder_10 : decode cX3_fencerInOrder 10 = .ok (.if_icmp .ge 32, 3) := by decide +kernel
theorem dX3_fencerInOrder_13 : decode cX3_fencerInOrder 13 = .ok (.aload_n 0, 1) := by decide +kernel
theorem dX3_fencerInOrder_14 : decode cX3_fencerInOrder 14 = .ok (.getfield 12, 3) := by decide +kernel
theorem dX3_fencerInOrder_17 : decode cX3_fencerInOrder 17 = .ok (.iload_n 2, 1) := by decide +kernel
theorem dX3_fencerInOrder_18 : decode cX3_fencerInOrder 18 = .ok (.invokevirtual 124, 3) := by decide +kernel
theorem dX3_fencerInOrder_21 : decode cX3_fencerInOrder 21 = .ok (.checkcast 29, 3) := by decide +kernel
theorem dX3_fencerInOrder_24 : decode cX3_fencerInOrder 24 = .ok (.astore_n 3, 1) := by decide +kernel
theorem dX3_fencerInOrder_25 : decode cX3_fencerInOrder 25 = .ok (.aload_n 0, 1) := by decide +kernel
theorem dX3_fencerInOrder_26 : decode cX3_fencerInOrder 26 = .ok (.aload_n 3, 1) := by decide +kernel
theorem dX3_fencerInOrder_27 : decode cX3_fencerInOrder 27 = .ok (.invokevirtual 321, 3) := by decide +kernel
theorem dX3_fencerInOrder_30 : decode cX3_fencerInOrder 30 = .ok (.iload_n 1, 1) := by decide +kernel
theorem dX3_fencerInOrder_31 : decode cX3_fencerInOrder 31 = .ok (.if_icmp .ne 5, 3) := by decide +kernel
theorem dX3_fencerInOrder_34 : decode cX3_fencerInOrder 34 = .ok (.aload_n 3, 1) := by decide +kernel
theorem dX3_fencerInOrder_35 : decode cX3_fencerInOrder 35 = .ok (.areturn, 1) := by decide +kernel
theorem dX3_fencerInOrder_36 : decode cX3_fencerInOrder 36 = .ok (.iinc 2 1, 3) := by decide +kernel
theorem dX3_fencerInOrder_39 : decode cX3_fencerInOrder 39 = .ok (.goto (-37), 3) := by decide +kernel
theorem dX3_fencerInOrder_42 : decode cX3_fencerInOrder 42 = .ok (.aconst_null, 1) := by decide +kernel
theorem dX3_fencerInOrder_43 : decode cX3_fencerInOrder 43 = .ok (.areturn, 1) := by decide +kernel
set_option maxRecDepth 20000 in
theorem ggX3_seed_X3_fencerInOrder : GoodIn wsX3_seed wsX3_fencerInOrder := goodIn_r _ [6, 7, 8, 9, 10, 11, 12, 13, 14, 15, 16, 17, 18, 19, 20, 21, 22, 23, 24, 25, 26, 27, 28, 29, 30, 31, 32, 33, 34, 5, 35, 36, 37, 38, 39, 40, 41, 42, 43, 44, 45, 46, 47, 48, 49, 50, 51, 52, 53, 54, 55, 56, 57, 58, 59, 60, 61, 62, 63, 64, 65, 66, 67, 68, 69, 70, 71, 72, 73, 74, 75, 76, 77, 78] (by decide +kernel) (by decide +kernel)
set_option maxRecDepth 20000 in
theorem gX3_seed_X3_fencerInOrder : GoodIn wsX3_seed (wsV RX3 73 RX3 yX3_fencerInOrder wsX3_fencerInOrder) := goodIn_app (goodIn_of _ (by decide +kernel)) ggX3_seed_X3_fencerInOrder
theorem dX3_seed_0 : decode cX3_seed 0 = .ok (.iconst 0, 1) := by decide +kernel
theorem dX3_seed_1 : decode cX3_seed 1 = .ok (.istore_n 2, 1) := by decide +kernel
theorem dX3_seed_2 : decode cX3_seed 2 = .ok (.iload_n 2, 1) := by decide +kernel
theorem dX3_seed_3 : decode cX3_seed 3 = .ok (.iload_n 1, 1) := by decide +kernel
theorem dX3_seed_4 : decode cX3_seed 4 = .ok (.if_icmp .ge 26, 3) := by decide +kernel
theorem dX3_seed_7 : decode cX3_seed 7 = .ok (.iload_n 2, 1) := by decide +kernel
theorem dX3_seed_8 : decode cX3_seed 8 = .ok (.bipush 16, 2) := by decide +kernel
theorem dX3_seed_10 : decode cX3_seed 10 = .ok (.if_icmp .ge 20, 3) := by decide +kernel
theorem dX3_seed_13 : decode cX3_seed 13 = .ok (.aload_n 0, 1) := by decide +kernel
theorem dX3_seed_14 : decode cX3_seed 14 = .ok (.getfield 31, 3) := by decide +kernel
theorem dX3_seed_17 : decode cX3_seed 17 = .ok (.iload_n 2, 1) := by decide +kernel
theorem dX3_seed_18 : decode cX3_seed 18 = .ok (.aload_n 0, 1) := by decide +kernel
theorem dX3_seed_19 : decode cX3_seed 19 = .ok (.iload_n 2, 1) := by decide +kernel
theorem dX3_seed_20 : decode cX3_seed 20 = .ok (.invokevirtual 73, 3) := by decide +kernel
theorem dX3_seed_23 : decode cX3_seed 23 = .ok (.aastore, 1) := by decide +kernel
theorem dX3_seed_24 : decode cX3_seed 24 = .ok (.iinc 2 1, 3) := by decide +kernel
theorem dX3_seed_27 : decode cX3_seed 27 = .ok (.goto (-25), 3) := by decide +kernel
theorem dX3_seed_30 : decode cX3_seed 30 = .ok (.return_, 1) := by decide +kernel
theorem dX3_setLines_0 : decode cX3_setLines 0 = .ok (.iconst 1, 1) := by decide +kernel
theorem dX3_setLines_1 : decode cX3_setLines 1 = .ok (.istore_n 2, 1) := by decide +kernel
theorem dX3_setLines_2 : decode cX3_setLines 2 = .ok (.aload_n 0, 1) := by decide +kernel
theorem dX3_setLines_3 : decode cX3_setLines 3 = .ok (.getfield 35, 3) := by decide +kernel
theorem dX3_setLines_6 : decode cX3_setLines 6 = .ok (.iconst 0, 1) := by decide +kernel
theorem dX3_setLines_7 : decode cX3_setLines 7 = .ok (.iconst 0, 1) := by decide +kernel
theorem dX3_setLines_8 : decode cX3_setLines 8 = .ok (.iastore, 1) := by decide +kernel
theorem dX3_setLines_9 : decode cX3_setLines 9 = .ok (.iload_n 2, 1) := by decide +kernel
theorem dX3_setLines_10 : decode cX3_setLines 10 = .ok (.iload_n 1, 1) := by decide +kernel
theorem dX3_setLines_11 : decode cX3_setLines 11 = .ok (.if_icmp .ge 68, 3) := by decide +kernel
theorem dX3_setLines_14 : decode cX3_setLines 14 = .ok (.iconst 2, 1) := by decide +kernel
theorem dX3_setLines_15 : decode cX3_setLines 15 = .ok (.iload_n 2, 1) := by decide +kernel
theorem dX3_setLines_16 : decode cX3_setLines 16 = .ok (.imul, 1) := by decide +kernel
theorem dX3_setLines_17 : decode cX3_setLines 17 = .ok (.bipush 16, 2) := by decide +kernel
theorem dX3_setLines_19 : decode cX3_setLines 19 = .ok (.if_icmp .gt 60, 3) := by decide +kernel
theorem dX3_setLines_22 : decode cX3_setLines 22 = .ok (.iload_n 2, 1) := by decide +kernel
theorem dX3_setLines_23 : decode cX3_setLines 23 = .ok (.iconst 1, 1) := by decide +kernel
theorem dX3_setLines_24 : decode cX3_setLines 24 = .ok (.isub, 1) := by decide +kernel
theorem dX3_setLines_25 : decode cX3_setLines 25 = .ok (.istore_n 3, 1) := by decide +kernel
theorem dX3_setLines_26 : decode cX3_setLines 26 = .ok (.iload_n 3, 1) := by decide +kernel
theorem dX3_setLines_27 : decode cX3_setLines 27 = .ok (.ifCond .lt 45, 3) := by decide +kernel
theorem dX3_setLines_30 : decode cX3_setLines 30 = .ok (.aload_n 0, 1) := by decide +kernel
theorem dX3_setLines_31 : decode cX3_setLines 31 = .ok (.getfield 35, 3) := by decide +kernel
theorem dX3_setLines_34 : decode cX3_setLines 34 = .ok (.iload_n 3, 1) := by decide +kernel
theorem dX3_setLines_35 : decode cX3_setLines 35 = .ok (.iaload, 1) := by decide +kernel
theorem dX3_setLines_36 : decode cX3_setLines 36 = .ok (.istore 4, 2) := by decide +kernel
theorem dX3_setLines_38 : decode cX3_setLines 38 = .ok (.aload_n 0, 1) := by decide +kernel
theorem dX3_setLines_39 : decode cX3_setLines 39 = .ok (.getfield 35, 3) := by decide +kernel
theorem dX3_setLines_42 : decode cX3_setLines 42 = .ok (.iconst 2, 1) := by decide +kernel
theorem dX3_setLines_43 : decode cX3_setLines 43 = .ok (.iload_n 3, 1) := by decide +kernel
theorem dX3_setLines_44 : decode cX3_setLines 44 = .ok (.imul, 1) := by decide +kernel
theorem dX3_setLines_45 : decode cX3_setLines 45 = .ok (.iload 4, 2) := by decide +kernel
theorem dX3_setLines_47 : decode cX3_setLines 47 = .ok (.iastore, 1) := by decide +kernel
theorem dX3_setLines_48 : decode cX3_setLines 48 = .ok (.aload_n 0, 1) := by decide +kernel
theorem dX3_setLines_49 : decode cX3_setLines 49 = .ok (.getfield 35, 3) := by decide +kernel
theorem dX3_setLines_52 : decode cX3_setLines 52 = .ok (.iconst 2, 1) := by decide +kernel
theorem dX3_setLines_53 : decode cX3_setLines 53 = .ok (.iload_n 3, 1) := by decide +kernel
theorem dX3_setLines_54 : decode cX3_setLines 54 = .ok (.imul, 1) := by decide +kernel
theorem dX3_setLines_55 : decode cX3_setLines 55 = .ok (.iconst 1, 1) := by decide +kernel
theorem dX3_setLines_56 : decode cX3_setLines 56 = .ok (.iadd, 1) := by decide +kernel
theorem dX3_setLines_57 : decode cX3_setLines 57 = .ok (.iconst 2, 1) := by decide +kernel
theorem dX3_setLines_58 : decode cX3_setLines 58 = .ok (.iload_n 2, 1) := by decide +kernel
theorem dX3_setLines_59 : decode cX3_setLines 59 = .ok (.imul, 1) := by decide +kernel
theorem dX3_setLines_60 : decode cX3_setLines 60 = .ok (.iconst 1, 1) := by decide +kernel
theorem dX3_setLines_61 : decode cX3_setLines 61 = .ok (.isub, 1) := by decide +kernel
theorem dX3_setLines_62 : decode cX3_setLines 62 = .ok (.iload 4, 2) := by decide +kernel
theorem dX3_setLines_64 : decode cX3_setLines 64 = .ok (.isub, 1) := by decide +kernel
theorem dX3_setLines_65 : decode cX3_setLines 65 = .ok (.iastore, 1) := by decide +kernel
theorem dX3_setLines_66 : decode cX3_setLines 66 = .ok (.iinc 3 (-1), 3) := by decide +kernel
theorem dX3_setLines_69 : decode cX3_setLines 69 = .ok (.goto (-43), 3) := by decide +kernel
theorem dX3_setLines_72 : decode cX3_setLines 72 = .ok (.iload_n 2, 1) := by decide +kernel
theorem dX3_setLines_73 : decode cX3_setLines 73 = .ok (.iconst 2, 1) := by decide +kernel
theorem dX3_setLines_74 : decode cX3_setLines 74 = .ok (.imul, 1) := by decide +kernel
theorem dX3_setLines_75 : decode cX3_setLines 75 = .ok (.istore_n 2, 1) := by decide +kernel
theorem dX3_setLines_76 : decode cX3_setLines 76 = .ok (.goto (-67), 3) := by decide +kernel
theorem dX3_setLines_79 : decode cX3_setLines 79 = .ok (.aload_n 0, 1) := by decide +kernel
theorem dX3_setLines_80 : decode cX3_setLines 80 = .ok (.iload_n 2, 1) := by decide +kernel
theorem dX3_setLines_81 : decode cX3_setLines 81 = .ok (.putfield 247, 3) := by decide +kernel
theorem dX3_setLines_84 : decode cX3_setLines 84 = .ok (.return_, 1) := by decide +kernel
set_option maxRecDepth 20000 in
theorem ggX3_addTableBouts_Jx4a65c_size_8abf5 : GoodIn wsX3_addTableBouts wsJx4a65c_size_8abf5 := goodIn_r _ [11, 12, 188, 189, 190] (by decide +kernel) (by decide +kernel)
set_option maxRecDepth 20000 in
theorem gX3_addTableBouts_Jx4a65c_size_8abf5 : GoodIn wsX3_addTableBouts (wsV RX3 49 RJx4a65c yJx4a65c_size_8abf5 wsJx4a65c_size_8abf5) := goodIn_app (goodIn_of _ (by decide +kernel)) ggX3_addTableBouts_Jx4a65c_size_8abf5
set_option maxRecDepth 20000 in
theorem ggX3_addTableBouts_X3_enteredOnLine : GoodIn wsX3_addTableBouts wsX3_enteredOnLine := goodIn_r _ [17, 18, 19, 20, 21, 22, 16, 23, 3, 24, 25, 26, 27, 28, 191, 192, 193, 194, 195, 196, 197, 198, 199, 200, 201, 202, 203, 204, 169, 170, 171, 172, 173, 174, 175, 176, 177, 178] (by decide +kernel) (by decide +kernel)
set_option maxRecDepth 20000 in
theorem gX3_addTableBouts_X3_enteredOnLine : GoodIn wsX3_addTableBouts (wsV RX3 359 RX3 yX3_enteredOnLine wsX3_enteredOnLine) := goodIn_app (goodIn_of _ (by decide +kernel)) ggX3_addTableBouts_X3_enteredOnLine
set_option maxRecDepth 20000 in
theorem ggX3_addTableBouts_X0_init : GoodIn wsX3_addTableBouts wsX0_init := goodIn_r _ [31, 32, 33, 34, 35, 36, 37, 38, 39, 40, 41, 42, 43, 44, 45, 46, 47, 205, 206, 207, 179, 180, 181, 182, 183, 184, 185, 186, 187] (by decide +kernel) (by decide +kernel)
set_option maxRecDepth 20000 in
theorem gX3_addTableBouts_X0_init : GoodIn wsX3_addTableBouts (wsX0_init) := ggX3_addTableBouts_X0_init
set_option maxRecDepth 20000 in
theorem ggX3_addTableBouts_Jx4a65c_add_9ea2d : GoodIn wsX3_addTableBouts wsJx4a65c_add_9ea2d := goodIn_r _ [51, 52, 53, 54, 12, 55, 56, 57, 10, 58, 59, 60, 61, 62, 63, 64, 65, 66, 67, 68, 69, 70, 71, 72, 73, 74, 75, 76, 77, 78, 79, 80, 81, 82, 83, 84, 85, 86, 87, 88, 89, 90, 91, 92, 93, 94, 95, 96, 97, 98, 99, 100, 101, 188, 189, 190] (by decide +kernel) (by decide +kernel)
set_option maxRecDepth 20000 in
theorem gX3_addTableBouts_Jx4a65c_add_9ea2d : GoodIn wsX3_addTableBouts (wsV RX3 65 RJx4a65c yJx4a65c_add_9ea2d wsJx4a65c_add_9ea2d) := goodIn_app (goodIn_of _ (by decide +kernel)) ggX3_addTableBouts_Jx4a65c_add_9ea2d
set_option maxRecDepth 20000 in
theorem ggX3_addTableBouts_X3_decideWithoutOther : GoodIn wsX3_addTableBouts wsX3_decideWithoutOther := goodIn_r _ [105, 3, 2, 1, 106, 107, 108, 109, 7, 8, 9, 10, 11, 12, 26, 27, 16, 28, 110, 111, 112, 113, 114, 115, 116, 117, 118, 119, 120, 121, 122, 123, 124, 125, 54, 126, 127, 128, 6, 129, 38, 44, 39, 130, 131, 132, 133, 134, 135, 136, 137, 19, 138, 139, 140, 141, 43, 142, 143, 144, 145, 146, 147, 148, 37, 149, 150, 151, 152, 153, 154, 155, 156, 157, 158, 159, 160, 161, 162, 163, 164, 165, 166, 167, 168, 169, 170, 171, 172, 173, 174, 175, 176, 177, 178, 179, 180, 181, 182, 183, 184, 185, 186, 187, 205, 206, 207, 188, 189, 190, 191, 192, 193, 194, 195, 196, 197, 198, 199, 200, 201, 202, 203, 204] (by decide +kernel) (by decide +kernel)
set_option maxRecDepth 20000 in
theorem gX3_addTableBouts_X3_decideWithoutOther : GoodIn wsX3_addTableBouts (wsV RX3 362 RX3 yX3_decideWithoutOther wsX3_decideWithoutOther) := goodIn_app (goodIn_of _ (by decide +kernel)) ggX3_addTableBouts_X3_decideWithoutOther
theorem dX3_addTableBouts_0 : decode cX3_addTableBouts 0 = .ok (.aload_n 0, 1) := by decide +kernel
theorem dX3_addTableBouts_1 : decode cX3_addTableBouts 1 = .ok (.aload_n 0, 1) := by decide +kernel
theorem dX3_addTableBouts_2 : decode cX3_addTableBouts 2 = .ok (.getfield 16, 3) := by decide +kernel
theorem dX3_addTableBouts_5 : decode cX3_addTableBouts 5 = .ok (.invokevirtual 49, 3) := by decide +kernel
theorem dX3_addTableBouts_8 : decode cX3_addTableBouts 8 = .ok (.putfield 356, 3) := by decide +kernel
theorem dX3_addTableBouts_11 : decode cX3_addTableBouts 11 = .ok (.iconst 0, 1) := by decide +kernel
theorem dX3_addTableBouts_12 : decode cX3_addTableBouts 12 = .ok (.istore_n 1, 1) := by decide +kernel
theorem dX3_addTableBouts_13 : decode cX3_addTableBouts 13 = .ok (.iload_n 1, 1) := by decide +kernel
theorem dX3_addTableBouts_14 : decode cX3_addTableBouts 14 = .ok (.aload_n 0, 1) := by decide +kernel
theorem dX3_addTableBouts_15 : decode cX3_addTableBouts 15 = .ok (.getfield 247, 3) := by decide +kernel
theorem dX3_addTableBouts_18 : decode cX3_addTableBouts 18 = .ok (.iconst 2, 1) := by decide +kernel
theorem dX3_addTableBouts_19 : decode cX3_addTableBouts 19 = .ok (.idiv, 1) := by decide +kernel
theorem dX3_addTableBouts_20 : decode cX3_addTableBouts 20 = .ok (.if_icmp .ge 52, 3) := by decide +kernel
theorem dX3_addTableBouts_23 : decode cX3_addTableBouts 23 = .ok (.aload_n 0, 1) := by decide +kernel
theorem dX3_addTableBouts_24 : decode cX3_addTableBouts 24 = .ok (.iconst 2, 1) := by decide +kernel
theorem dX3_addTableBouts_25 : decode cX3_addTableBouts 25 = .ok (.iload_n 1, 1) := by decide +kernel
theorem dX3_addTableBouts_26 : decode cX3_addTableBouts 26 = .ok (.imul, 1) := by decide +kernel
theorem dX3_addTableBouts_27 : decode cX3_addTableBouts 27 = .ok (.invokevirtual 359, 3) := by decide +kernel
theorem dX3_addTableBouts_30 : decode cX3_addTableBouts 30 = .ok (.astore_n 2, 1) := by decide +kernel
theorem dX3_addTableBouts_31 : decode cX3_addTableBouts 31 = .ok (.aload_n 0, 1) := by decide +kernel
theorem dX3_addTableBouts_32 : decode cX3_addTableBouts 32 = .ok (.iconst 2, 1) := by decide +kernel
theorem dX3_addTableBouts_33 : decode cX3_addTableBouts 33 = .ok (.iload_n 1, 1) := by decide +kernel
theorem dX3_addTableBouts_34 : decode cX3_addTableBouts 34 = .ok (.imul, 1) := by decide +kernel
theorem dX3_addTableBouts_35 : decode cX3_addTableBouts 35 = .ok (.iconst 1, 1) := by decide +kernel
theorem dX3_addTableBouts_36 : decode cX3_addTableBouts 36 = .ok (.iadd, 1) := by decide +kernel
theorem dX3_addTableBouts_37 : decode cX3_addTableBouts 37 = .ok (.invokevirtual 359, 3) := by decide +kernel
theorem dX3_addTableBouts_40 : decode cX3_addTableBouts 40 = .ok (.astore_n 3, 1) := by decide +kernel
theorem dX3_addTableBouts_41 : decode cX3_addTableBouts 41 = .ok (.aload_n 0, 1) := by decide +kernel
theorem dX3_addTableBouts_42 : decode cX3_addTableBouts 42 = .ok (.getfield 16, 3) := by decide +kernel
theorem dX3_addTableBouts_45 : decode cX3_addTableBouts 45 = .ok (.new 19, 3) := by decide +kernel
theorem dX3_addTableBouts_48 : decode cX3_addTableBouts 48 = .ok (.dup, 1) := by decide +kernel
theorem dX3_addTableBouts_49 : decode cX3_addTableBouts 49 = .ok (.aload_n 0, 1) := by decide +kernel
theorem dX3_addTableBouts_50 : decode cX3_addTableBouts 50 = .ok (.getfield 16, 3) := by decide +kernel
theorem dX3_addTableBouts_53 : decode cX3_addTableBouts 53 = .ok (.invokevirtual 49, 3) := by decide +kernel
theorem dX3_addTableBouts_56 : decode cX3_addTableBouts 56 = .ok (.iconst 0, 1) := by decide +kernel
theorem dX3_addTableBouts_57 : decode cX3_addTableBouts 57 = .ok (.aload_n 2, 1) := by decide +kernel
theorem dX3_addTableBouts_58 : decode cX3_addTableBouts 58 = .ok (.aload_n 3, 1) := by decide +kernel
theorem dX3_addTableBouts_59 : decode cX3_addTableBouts 59 = .ok (.invokespecial 132, 3) := by decide +kernel
theorem dX3_addTableBouts_62 : decode cX3_addTableBouts 62 = .ok (.invokevirtual 65, 3) := by decide +kernel
theorem dX3_addTableBouts_65 : decode cX3_addTableBouts 65 = .ok (.pop, 1) := by decide +kernel
theorem dX3_addTableBouts_66 : decode cX3_addTableBouts 66 = .ok (.iinc 1 1, 3) := by decide +kernel
theorem dX3_addTableBouts_69 : decode cX3_addTableBouts 69 = .ok (.goto (-56), 3) := by decide +kernel
theorem dX3_addTableBouts_72 : decode cX3_addTableBouts 72 = .ok (.iconst 1, 1) := by decide +kernel
theorem dX3_addTableBouts_73 : decode cX3_addTableBouts 73 = .ok (.istore_n 1, 1) := by decide +kernel
theorem dX3_addTableBouts_74 : decode cX3_addTableBouts 74 = .ok (.aload_n 0, 1) := by decide +kernel
theorem dX3_addTableBouts_75 : decode cX3_addTableBouts 75 = .ok (.getfield 247, 3) := by decide +kernel
theorem dX3_addTableBouts_78 : decode cX3_addTableBouts 78 = .ok (.iconst 4, 1) := by decide +kernel
theorem dX3_addTableBouts_79 : decode cX3_addTableBouts 79 = .ok (.idiv, 1) := by decide +kernel
theorem dX3_addTableBouts_80 : decode cX3_addTableBouts 80 = .ok (.istore_n 2, 1) := by decide +kernel
theorem dX3_addTableBouts_81 : decode cX3_addTableBouts 81 = .ok (.iload_n 2, 1) := by decide +kernel
theorem dX3_addTableBouts_82 : decode cX3_addTableBouts 82 = .ok (.ifCond .le 51, 3) := by decide +kernel
theorem dX3_addTableBouts_85 : decode cX3_addTableBouts 85 = .ok (.iconst 0, 1) := by decide +kernel
theorem dX3_addTableBouts_86 : decode cX3_addTableBouts 86 = .ok (.istore_n 3, 1) := by decide +kernel
theorem dX3_addTableBouts_87 : decode cX3_addTableBouts 87 = .ok (.iload_n 3, 1) := by decide +kernel
theorem dX3_addTableBouts_88 : decode cX3_addTableBouts 88 = .ok (.iload_n 2, 1) := by decide +kernel
theorem dX3_addTableBouts_89 : decode cX3_addTableBouts 89 = .ok (.if_icmp .ge 34, 3) := by decide +kernel
theorem dX3_addTableBouts_92 : decode cX3_addTableBouts 92 = .ok (.aload_n 0, 1) := by decide +kernel
theorem dX3_addTableBouts_93 : decode cX3_addTableBouts 93 = .ok (.getfield 16, 3) := by decide +kernel
theorem dX3_addTableBouts_96 : decode cX3_addTableBouts 96 = .ok (.new 19, 3) := by decide +kernel
theorem dX3_addTableBouts_99 : decode cX3_addTableBouts 99 = .ok (.dup, 1) := by decide +kernel
theorem dX3_addTableBouts_100 : decode cX3_addTableBouts 100 = .ok (.aload_n 0, 1) := by decide +kernel
theorem dX3_addTableBouts_101 : decode cX3_addTableBouts 101 = .ok (.getfield 16, 3) := by decide +kernel
theorem dX3_addTableBouts_104 : decode cX3_addTableBouts 104 = .ok (.invokevirtual 49, 3) := by decide +kernel
theorem dX3_addTableBouts_107 : decode cX3_addTableBouts 107 = .ok (.iload_n 1, 1) := by decide +kernel
theorem dX3_addTableBouts_108 : decode cX3_addTableBouts 108 = .ok (.aconst_null, 1) := by decide +kernel
theorem dX3_addTableBouts_109 : decode cX3_addTableBouts 109 = .ok (.aconst_null, 1) := by decide +kernel
theorem dX3_addTableBouts_110 : decode cX3_addTableBouts 110 = .ok (.invokespecial 132, 3) := by decide +kernel
theorem dX3_addTableBouts_113 : decode cX3_addTableBouts 113 = .ok (.invokevirtual 65, 3) := by decide +kernel
theorem dX3_addTableBouts_116 : decode cX3_addTableBouts 116 = .ok (.pop, 1) := by decide +kernel
theorem dX3_addTableBouts_117 : decode cX3_addTableBouts 117 = .ok (.iinc 3 1, 3) := by decide +kernel
theorem dX3_addTableBouts_120 : decode cX3_addTableBouts 120 = .ok (.goto (-33), 3) := by decide +kernel
theorem dX3_addTableBouts_123 : decode cX3_addTableBouts 123 = .ok (.iinc 1 1, 3) := by decide +kernel
theorem dX3_addTableBouts_126 : decode cX3_addTableBouts 126 = .ok (.iload_n 2, 1) := by decide +kernel
theorem dX3_addTableBouts_127 : decode cX3_addTableBouts 127 = .ok (.iconst 2, 1) := by decide +kernel
theorem dX3_addTableBouts_128 : decode cX3_addTableBouts 128 = .ok (.idiv, 1) := by decide +kernel
theorem dX3_addTableBouts_129 : decode cX3_addTableBouts 129 = .ok (.istore_n 2, 1) := by decide +kernel
theorem dX3_addTableBouts_130 : decode cX3_addTableBouts 130 = .ok (.goto (-49), 3) := by decide +kernel
theorem dX3_addTableBouts_133 : decode cX3_addTableBouts 133 = .ok (.aload_n 0, 1) := by decide +kernel
theorem dX3_addTableBouts_134 : decode cX3_addTableBouts 134 = .ok (.invokevirtual 362, 3) := by decide +kernel
theorem dX3_addTableBouts_137 : decode cX3_addTableBouts 137 = .ok (.return_, 1) := by decide +kernel
set_option maxRecDepth 20000 in
theorem ggX3_decideWithoutOther_Jx4a65c_size_8abf5 : GoodIn wsX3_decideWithoutOther wsJx4a65c_size_8abf5 := goodIn_r _ [12, 13, 107, 108, 109] (by decide +kernel) (by decide +kernel)
set_option maxRecDepth 20000 in
theorem gX3_decideWithoutOther_Jx4a65c_size_8abf5 : GoodIn wsX3_decideWithoutOther (wsV RX3 49 RJx4a65c yJx4a65c_size_8abf5 wsJx4a65c_size_8abf5) := goodIn_app (goodIn_of _ (by decide +kernel)) ggX3_decideWithoutOther_Jx4a65c_size_8abf5
set_option maxRecDepth 20000 in
theorem ggX3_decideWithoutOther_X3_isIn : GoodIn wsX3_decideWithoutOther wsX3_isIn := goodIn_r _ [17] (by decide +kernel) (by decide +kernel)
set_option maxRecDepth 20000 in
theorem gX3_decideWithoutOther_X3_isIn : GoodIn wsX3_decideWithoutOther (va_wsS RX3 38 yX3_isIn wsX3_isIn) := goodIn_app (goodIn_of _ (by decide +kernel)) ggX3_decideWithoutOther_X3_isIn
set_option maxRecDepth 20000 in
theorem ggX3_decideWithoutOther_Jx4a65c_get_915e3 : GoodIn wsX3_decideWithoutOther wsJx4a65c_get_915e3 := goodIn_r _ [21, 13, 22, 23, 24, 25, 26, 27, 28, 29, 30, 31, 32, 11, 33, 34, 107, 108, 109] (by decide +kernel) (by decide +kernel)
set_option maxRecDepth 20000 in
theorem gX3_decideWithoutOther_Jx4a65c_get_915e3 : GoodIn wsX3_decideWithoutOther (wsV RX3 124 RJx4a65c yJx4a65c_get_915e3 wsJx4a65c_get_915e3) := goodIn_app (goodIn_of _ (by decide +kernel)) ggX3_decideWithoutOther_Jx4a65c_get_915e3
set_option maxRecDepth 20000 in
theorem ggX3_decideWithoutOther_X0_isKnown : GoodIn wsX3_decideWithoutOther wsX0_isKnown := goodIn_r _ [39, 40, 41, 42, 95, 96, 97, 98, 99, 100, 101, 102, 103, 104, 105, 106] (by decide +kernel) (by decide +kernel)
set_option maxRecDepth 20000 in
theorem gX3_decideWithoutOther_X0_isKnown : GoodIn wsX3_decideWithoutOther (wsV RX3 256 RX0 yX0_isKnown wsX0_isKnown) := goodIn_app (goodIn_of _ (by decide +kernel)) ggX3_decideWithoutOther_X0_isKnown
set_option maxRecDepth 20000 in
theorem ggX3_decideWithoutOther_X3_decide : GoodIn wsX3_decideWithoutOther wsX3_decide := goodIn_r _ [46, 47, 48, 5, 49, 7, 6, 50, 51, 52, 53, 54, 38, 55, 56, 57, 58, 59, 60, 40, 42, 61, 62, 63, 64, 65, 66, 67, 68, 69, 70, 71, 72, 73, 74, 75, 76, 77, 78, 16, 79, 80, 2, 1, 3, 4, 8, 9, 10, 11, 12, 13, 14, 15, 17, 18, 19, 20, 21, 22, 23, 24, 25, 26, 27, 28, 29, 30, 31, 32, 33, 34, 81, 82, 83, 84, 95, 96, 97, 98, 99, 100, 101, 102, 103, 104, 105, 106, 110, 111, 112, 113, 114, 115, 116, 117, 118, 119, 120, 121, 122, 123, 85, 86, 87, 88, 89, 90, 91, 92, 93, 94, 107, 108, 109] (by decide +kernel) (by decide +kernel)
set_option maxRecDepth 20000 in
theorem gX3_decideWithoutOther_X3_decide : GoodIn wsX3_decideWithoutOther (wsV RX3 293 RX3 yX3_decide wsX3_decide) := goodIn_app (goodIn_of _ (by decide +kernel)) ggX3_decideWithoutOther_X3_decide
theorem dX3_decideWithoutOther_0 : decode cX3_decideWithoutOther 0 = .ok (.iconst 0, 1) := by decide +kernel
theorem dX3_decideWithoutOther_1 : decode cX3_decideWithoutOther 1 = .ok (.istore_n 1, 1) := by decide +kernel
theorem dX3_decideWithoutOther_2 : decode cX3_decideWithoutOther 2 = .ok (.iload_n 1, 1) := by decide +kernel
theorem dX3_decideWithoutOther_3 : decode cX3_decideWithoutOther 3 = .ok (.aload_n 0, 1) := by decide +kernel
theorem dX3_decideWithoutOther_4 : decode cX3_decideWithoutOther 4 = .ok (.getfield 247, 3) := by decide +kernel
theorem dX3_decideWithoutOther_7 : decode cX3_decideWithoutOther 7 = .ok (.iconst 2, 1) := by decide +kernel
theorem dX3_decideWithoutOther_8 : decode cX3_decideWithoutOther 8 = .ok (.idiv, 1) := by decide +kernel
theorem dX3_decideWithoutOther_9 : decode cX3_decideWithoutOther 9 = .ok (.if_icmp .ge 85, 3) := by decide +kernel
theorem dX3_decideWithoutOther_12 : decode cX3_decideWithoutOther 12 = .ok (.aload_n 0, 1) := by decide +kernel
theorem dX3_decideWithoutOther_13 : decode cX3_decideWithoutOther 13 = .ok (.getfield 356, 3) := by decide +kernel
theorem dX3_decideWithoutOther_16 : decode cX3_decideWithoutOther 16 = .ok (.iload_n 1, 1) := by decide +kernel
theorem dX3_decideWithoutOther_17 : decode cX3_decideWithoutOther 17 = .ok (.iadd, 1) := by decide +kernel
theorem dX3_decideWithoutOther_18 : decode cX3_decideWithoutOther 18 = .ok (.istore_n 2, 1) := by decide +kernel
theorem dX3_decideWithoutOther_19 : decode cX3_decideWithoutOther 19 = .ok (.iload_n 2, 1) := by decide +kernel
theorem dX3_decideWithoutOther_20 : decode cX3_decideWithoutOther 20 = .ok (.iconst 0, 1) := by decide +kernel
theorem dX3_decideWithoutOther_21 : decode cX3_decideWithoutOther 21 = .ok (.aload_n 0, 1) := by decide +kernel
theorem dX3_decideWithoutOther_22 : decode cX3_decideWithoutOther 22 = .ok (.getfield 16, 3) := by decide +kernel
theorem dX3_decideWithoutOther_25 : decode cX3_decideWithoutOther 25 = .ok (.invokevirtual 49, 3) := by decide +kernel
theorem dX3_decideWithoutOther_28 : decode cX3_decideWithoutOther 28 = .ok (.iconst 1, 1) := by decide +kernel
theorem dX3_decideWithoutOther_29 : decode cX3_decideWithoutOther 29 = .ok (.isub, 1) := by decide +kernel
theorem dX3_decideWithoutOther_30 : decode cX3_decideWithoutOther 30 = .ok (.invokestatic 38, 3) := by decide +kernel
theorem dX3_decideWithoutOther_33 : decode cX3_decideWithoutOther 33 = .ok (.ifCond .ne 4, 3) := by decide +kernel
theorem dX3_decideWithoutOther_36 : decode cX3_decideWithoutOther 36 = .ok (.return_, 1) := by decide +kernel
theorem dX3_decideWithoutOther_37 : decode cX3_decideWithoutOther 37 = .ok (.aload_n 0, 1) := by decide +kernel
theorem dX3_decideWithoutOther_38 : decode cX3_decideWithoutOther 38 = .ok (.getfield 16, 3) := by decide +kernel
theorem dX3_decideWithoutOther_41 : decode cX3_decideWithoutOther 41 = .ok (.iload_n 2, 1) := by decide +kernel
theorem dX3_decideWithoutOther_42 : decode cX3_decideWithoutOther 42 = .ok (.invokevirtual 124, 3) := by decide +kernel
theorem dX3_decideWithoutOther_45 : decode cX3_decideWithoutOther 45 = .ok (.checkcast 19, 3) := by decide +kernel
theorem dX3_decideWithoutOther_48 : decode cX3_decideWithoutOther 48 = .ok (.astore_n 3, 1) := by decide +kernel
theorem dX3_decideWithoutOther_49 : decode cX3_decideWithoutOther 49 = .ok (.aload_n 3, 1) := by decide +kernel
theorem dX3_decideWithoutOther_50 : decode cX3_decideWithoutOther 50 = .ok (.invokevirtual 256, 3) := by decide +kernel
theorem dX3_decideWithoutOther_53 : decode cX3_decideWithoutOther 53 = .ok (.ifCond .ne 35, 3) := by decide +kernel
theorem dX3_decideWithoutOther_56 : decode cX3_decideWithoutOther 56 = .ok (.aload_n 0, 1) := by decide +kernel
theorem dX3_decideWithoutOther_57 : decode cX3_decideWithoutOther 57 = .ok (.aload_n 3, 1) := by decide +kernel
theorem dX3_decideWithoutOther_58 : decode cX3_decideWithoutOther 58 = .ok (.aload_n 3, 1) := by decide +kernel
theorem dX3_decideWithoutOther_59 : decode cX3_decideWithoutOther 59 = .ok (.getfield 172, 3) := by decide +kernel
theorem dX3_decideWithoutOther_62 : decode cX3_decideWithoutOther 62 = .ok (.getfield 202, 3) := by decide +kernel
theorem dX3_decideWithoutOther_65 : decode cX3_decideWithoutOther 65 = .ok (.ifnonnull 13, 3) := by decide +kernel
theorem dX3_decideWithoutOther_68 : decode cX3_decideWithoutOther 68 = .ok (.aload_n 3, 1) := by decide +kernel
theorem dX3_decideWithoutOther_69 : decode cX3_decideWithoutOther 69 = .ok (.getfield 181, 3) := by decide +kernel
theorem dX3_decideWithoutOther_72 : decode cX3_decideWithoutOther 72 = .ok (.getfield 202, 3) := by decide +kernel
theorem dX3_decideWithoutOther_75 : decode cX3_decideWithoutOther 75 = .ok (.goto 10, 3) := by decide +kernel
theorem dX3_decideWithoutOther_78 : decode cX3_decideWithoutOther 78 = .ok (.aload_n 3, 1) := by decide +kernel
theorem dX3_decideWithoutOther_79 : decode cX3_decideWithoutOther 79 = .ok (.getfield 172, 3) := by decide +kernel
theorem dX3_decideWithoutOther_82 : decode cX3_decideWithoutOther 82 = .ok (.getfield 202, 3) := by decide +kernel
theorem dX3_decideWithoutOther_85 : decode cX3_decideWithoutOther 85 = .ok (.invokevirtual 293, 3) := by decide +kernel
theorem dX3_decideWithoutOther_88 : decode cX3_decideWithoutOther 88 = .ok (.iinc 1 1, 3) := by decide +kernel
theorem dX3_decideWithoutOther_91 : decode cX3_decideWithoutOther 91 = .ok (.goto (-89), 3) := by decide +kernel
theorem dX3_decideWithoutOther_94 : decode cX3_decideWithoutOther 94 = .ok (.return_, 1) := by decide +kernel
set_option maxRecDepth 20000 in
theorem ggX3_enteredOnLine_X3_fencerOnLine : GoodIn wsX3_enteredOnLine wsX3_fencerOnLine := goodIn_r _ [7, 8, 9, 10, 11, 12, 6, 13, 28, 29, 30, 31, 32, 33, 34, 35, 36, 37] (by decide +kernel) (by decide +kernel)
set_option maxRecDepth 20000 in
theorem gX3_enteredOnLine_X3_fencerOnLine : GoodIn wsX3_enteredOnLine (wsV RX3 346 RX3 yX3_fencerOnLine wsX3_fencerOnLine) := goodIn_app (goodIn_of _ (by decide +kernel)) ggX3_enteredOnLine_X3_fencerOnLine
theorem dX3_enteredOnLine_0 : decode cX3_enteredOnLine 0 = .ok (.aload_n 0, 1) := by decide +kernel
theorem dX3_enteredOnLine_1 : decode cX3_enteredOnLine 1 = .ok (.iload_n 1, 1) := by decide +kernel
theorem dX3_enteredOnLine_2 : decode cX3_enteredOnLine 2 = .ok (.invokevirtual 346, 3) := by decide +kernel
theorem dX3_enteredOnLine_5 : decode cX3_enteredOnLine 5 = .ok (.astore_n 2, 1) := by decide +kernel
theorem dX3_enteredOnLine_6 : decode cX3_enteredOnLine 6 = .ok (.aload_n 2, 1) := by decide +kernel
theorem dX3_enteredOnLine_7 : decode cX3_enteredOnLine 7 = .ok (.ifnull 13, 3) := by decide +kernel
theorem dX3_enteredOnLine_10 : decode cX3_enteredOnLine 10 = .ok (.aload_n 2, 1) := by decide +kernel
theorem dX3_enteredOnLine_11 : decode cX3_enteredOnLine 11 = .ok (.iload_n 1, 1) := by decide +kernel
theorem dX3_enteredOnLine_12 : decode cX3_enteredOnLine 12 = .ok (.putfield 365, 3) := by decide +kernel
theorem dX3_enteredOnLine_15 : decode cX3_enteredOnLine 15 = .ok (.aload_n 2, 1) := by decide +kernel
theorem dX3_enteredOnLine_16 : decode cX3_enteredOnLine 16 = .ok (.iconst 4, 1) := by decide +kernel
theorem dX3_enteredOnLine_17 : decode cX3_enteredOnLine 17 = .ok (.putfield 303, 3) := by decide +kernel
theorem dX3_enteredOnLine_20 : decode cX3_enteredOnLine 20 = .ok (.aload_n 2, 1) := by decide +kernel
theorem dX3_enteredOnLine_21 : decode cX3_enteredOnLine 21 = .ok (.areturn, 1) := by decide +kernel
set_option maxRecDepth 20000 in
theorem ggX3_fencerOnLine_X3_isIn : GoodIn wsX3_fencerOnLine wsX3_isIn := goodIn_r _ [7] (by decide +kernel) (by decide +kernel)
set_option maxRecDepth 20000 in
theorem gX3_fencerOnLine_X3_isIn : GoodIn wsX3_fencerOnLine (va_wsS RX3 38 yX3_isIn wsX3_isIn) := goodIn_app (goodIn_of _ (by decide +kernel)) ggX3_fencerOnLine_X3_isIn
theorem dX3_fencerOnLine_0 : decode cX3_fencerOnLine 0 = .ok (.iload_n 1, 1) := by decide +kernel
theorem dX3_fencerOnLine_1 : decode cX3_fencerOnLine 1 = .ok (.iconst 0, 1) := by decide +kernel
theorem dX3_fencerOnLine_2 : decode cX3_fencerOnLine 2 = .ok (.aload_n 0, 1) := by decide +kernel
theorem dX3_fencerOnLine_3 : decode cX3_fencerOnLine 3 = .ok (.getfield 247, 3) := by decide +kernel
theorem dX3_fencerOnLine_6 : decode cX3_fencerOnLine 6 = .ok (.iconst 1, 1) := by decide +kernel
theorem dX3_fencerOnLine_7 : decode cX3_fencerOnLine 7 = .ok (.isub, 1) := by decide +kernel
theorem dX3_fencerOnLine_8 : decode cX3_fencerOnLine 8 = .ok (.invokestatic 38, 3) := by decide +kernel
theorem dX3_fencerOnLine_11 : decode cX3_fencerOnLine 11 = .ok (.ifCond .eq 18, 3) := by decide +kernel
theorem dX3_fencerOnLine_14 : decode cX3_fencerOnLine 14 = .ok (.aload_n 0, 1) := by decide +kernel
theorem dX3_fencerOnLine_15 : decode cX3_fencerOnLine 15 = .ok (.getfield 35, 3) := by decide +kernel
theorem dX3_fencerOnLine_18 : decode cX3_fencerOnLine 18 = .ok (.iload_n 1, 1) := by decide +kernel
theorem dX3_fencerOnLine_19 : decode cX3_fencerOnLine 19 = .ok (.iaload, 1) := by decide +kernel
theorem dX3_fencerOnLine_20 : decode cX3_fencerOnLine 20 = .ok (.iconst 0, 1) := by decide +kernel
theorem dX3_fencerOnLine_21 : decode cX3_fencerOnLine 21 = .ok (.bipush 15, 2) := by decide +kernel
theorem dX3_fencerOnLine_23 : decode cX3_fencerOnLine 23 = .ok (.invokestatic 38, 3) := by decide +kernel
theorem dX3_fencerOnLine_26 : decode cX3_fencerOnLine 26 = .ok (.ifCond .ne 5, 3) := by decide +kernel
theorem dX3_fencerOnLine_29 : decode cX3_fencerOnLine 29 = .ok (.aconst_null, 1) := by decide +kernel
theorem dX3_fencerOnLine_30 : decode cX3_fencerOnLine 30 = .ok (.areturn, 1) := by decide +kernel
theorem dX3_fencerOnLine_31 : decode cX3_fencerOnLine 31 = .ok (.aload_n 0, 1) := by decide +kernel
theorem dX3_fencerOnLine_32 : decode cX3_fencerOnLine 32 = .ok (.getfield 31, 3) := by decide +kernel
theorem dX3_fencerOnLine_35 : decode cX3_fencerOnLine 35 = .ok (.aload_n 0, 1) := by decide +kernel
theorem dX3_fencerOnLine_36 : decode cX3_fencerOnLine 36 = .ok (.getfield 35, 3) := by decide +kernel
theorem dX3_fencerOnLine_39 : decode cX3_fencerOnLine 39 = .ok (.iload_n 1, 1) := by decide +kernel
theorem dX3_fencerOnLine_40 : decode cX3_fencerOnLine 40 = .ok (.iaload, 1) := by decide +kernel
theorem dX3_fencerOnLine_41 : decode cX3_fencerOnLine 41 = .ok (.aaload, 1) := by decide +kernel
theorem dX3_fencerOnLine_42 : decode cX3_fencerOnLine 42 = .ok (.areturn, 1) := by decide +kernel
set_option maxRecDepth 20000 in
theorem ggX3_goOnInTable_Jx4a65c_size_8abf5 : GoodIn wsX3_goOnInTable wsJx4a65c_size_8abf5 := goodIn_r _ [12, 13, 64, 65, 66] (by decide +kernel) (by decide +kernel)
set_option maxRecDepth 20000 in
theorem gX3_goOnInTable_Jx4a65c_size_8abf5 : GoodIn wsX3_goOnInTable (wsV RX3 49 RJx4a65c yJx4a65c_size_8abf5 wsJx4a65c_size_8abf5) := goodIn_app (goodIn_of _ (by decide +kernel)) ggX3_goOnInTable_Jx4a65c_size_8abf5
set_option maxRecDepth 20000 in
theorem ggX3_goOnInTable_X3_isIn : GoodIn wsX3_goOnInTable wsX3_isIn := goodIn_r _ [17] (by decide +kernel) (by decide +kernel)
set_option maxRecDepth 20000 in
theorem gX3_goOnInTable_X3_isIn : GoodIn wsX3_goOnInTable (va_wsS RX3 38 yX3_isIn wsX3_isIn) := goodIn_app (goodIn_of _ (by decide +kernel)) ggX3_goOnInTable_X3_isIn
set_option maxRecDepth 20000 in
theorem ggX3_goOnInTable_Jx4a65c_get_915e3 : GoodIn wsX3_goOnInTable wsJx4a65c_get_915e3 := goodIn_r _ [21, 13, 22, 23, 24, 25, 26, 27, 28, 29, 30, 31, 32, 11, 33, 34, 64, 65, 66] (by decide +kernel) (by decide +kernel)
set_option maxRecDepth 20000 in
theorem gX3_goOnInTable_Jx4a65c_get_915e3 : GoodIn wsX3_goOnInTable (wsV RX3 124 RJx4a65c yJx4a65c_get_915e3 wsJx4a65c_get_915e3) := goodIn_app (goodIn_of _ (by decide +kernel)) ggX3_goOnInTable_Jx4a65c_get_915e3
set_option maxRecDepth 20000 in
theorem ggX3_goOnInTable_X0_sideOf : GoodIn wsX3_goOnInTable wsX0_sideOf := goodIn_r _ [39, 40, 41, 42, 43, 44, 45, 46, 47, 48, 49, 50] (by decide +kernel) (by decide +kernel)
set_option maxRecDepth 20000 in
theorem gX3_goOnInTable_X0_sideOf : GoodIn wsX3_goOnInTable (wsV RX3 190 RX0 yX0_sideOf wsX0_sideOf) := goodIn_app (goodIn_of _ (by decide +kernel)) ggX3_goOnInTable_X0_sideOf
theorem dX3_goOnInTable_0 : decode cX3_goOnInTable 0 = .ok (.aload_n 1, 1) := by decide +kernel
theorem dX3_goOnInTable_1 : decode cX3_goOnInTable 1 = .ok (.getfield 108, 3) := by decide +kernel
theorem dX3_goOnInTable_4 : decode cX3_goOnInTable 4 = .ok (.aload_n 0, 1) := by decide +kernel
theorem dX3_goOnInTable_5 : decode cX3_goOnInTable 5 = .ok (.getfield 356, 3) := by decide +kernel
theorem dX3_goOnInTable_8 : decode cX3_goOnInTable 8 = .ok (.isub, 1) := by decide +kernel
theorem dX3_goOnInTable_9 : decode cX3_goOnInTable 9 = .ok (.istore_n 2, 1) := by decide +kernel
theorem dX3_goOnInTable_10 : decode cX3_goOnInTable 10 = .ok (.aload_n 0, 1) := by decide +kernel
theorem dX3_goOnInTable_11 : decode cX3_goOnInTable 11 = .ok (.getfield 356, 3) := by decide +kernel
theorem dX3_goOnInTable_14 : decode cX3_goOnInTable 14 = .ok (.aload_n 0, 1) := by decide +kernel
theorem dX3_goOnInTable_15 : decode cX3_goOnInTable 15 = .ok (.getfield 247, 3) := by decide +kernel
theorem dX3_goOnInTable_18 : decode cX3_goOnInTable 18 = .ok (.iconst 2, 1) := by decide +kernel
theorem dX3_goOnInTable_19 : decode cX3_goOnInTable 19 = .ok (.idiv, 1) := by decide +kernel
theorem dX3_goOnInTable_20 : decode cX3_goOnInTable 20 = .ok (.iadd, 1) := by decide +kernel
theorem dX3_goOnInTable_21 : decode cX3_goOnInTable 21 = .ok (.iload_n 2, 1) := by decide +kernel
theorem dX3_goOnInTable_22 : decode cX3_goOnInTable 22 = .ok (.iconst 2, 1) := by decide +kernel
theorem dX3_goOnInTable_23 : decode cX3_goOnInTable 23 = .ok (.idiv, 1) := by decide +kernel
theorem dX3_goOnInTable_24 : decode cX3_goOnInTable 24 = .ok (.iadd, 1) := by decide +kernel
theorem dX3_goOnInTable_25 : decode cX3_goOnInTable 25 = .ok (.istore_n 3, 1) := by decide +kernel
theorem dX3_goOnInTable_26 : decode cX3_goOnInTable 26 = .ok (.iload_n 3, 1) := by decide +kernel
theorem dX3_goOnInTable_27 : decode cX3_goOnInTable 27 = .ok (.iconst 0, 1) := by decide +kernel
theorem dX3_goOnInTable_28 : decode cX3_goOnInTable 28 = .ok (.aload_n 0, 1) := by decide +kernel
theorem dX3_goOnInTable_29 : decode cX3_goOnInTable 29 = .ok (.getfield 16, 3) := by decide +kernel
theorem dX3_goOnInTable_32 : decode cX3_goOnInTable 32 = .ok (.invokevirtual 49, 3) := by decide +kernel
theorem dX3_goOnInTable_35 : decode cX3_goOnInTable 35 = .ok (.iconst 1, 1) := by decide +kernel
theorem dX3_goOnInTable_36 : decode cX3_goOnInTable 36 = .ok (.isub, 1) := by decide +kernel
theorem dX3_goOnInTable_37 : decode cX3_goOnInTable 37 = .ok (.invokestatic 38, 3) := by decide +kernel
theorem dX3_goOnInTable_40 : decode cX3_goOnInTable 40 = .ok (.ifCond .eq 27, 3) := by decide +kernel
theorem dX3_goOnInTable_43 : decode cX3_goOnInTable 43 = .ok (.aload_n 0, 1) := by decide +kernel
theorem dX3_goOnInTable_44 : decode cX3_goOnInTable 44 = .ok (.getfield 16, 3) := by decide +kernel
theorem dX3_goOnInTable_47 : decode cX3_goOnInTable 47 = .ok (.iload_n 3, 1) := by decide +kernel
theorem dX3_goOnInTable_48 : decode cX3_goOnInTable 48 = .ok (.invokevirtual 124, 3) := by decide +kernel
theorem dX3_goOnInTable_51 : decode cX3_goOnInTable 51 = .ok (.checkcast 19, 3) := by decide +kernel
theorem dX3_goOnInTable_54 : decode cX3_goOnInTable 54 = .ok (.iload_n 2, 1) := by decide +kernel
theorem dX3_goOnInTable_55 : decode cX3_goOnInTable 55 = .ok (.iconst 2, 1) := by decide +kernel
theorem dX3_goOnInTable_56 : decode cX3_goOnInTable 56 = .ok (.irem, 1) := by decide +kernel
theorem dX3_goOnInTable_57 : decode cX3_goOnInTable 57 = .ok (.invokevirtual 190, 3) := by decide +kernel
theorem dX3_goOnInTable_60 : decode cX3_goOnInTable 60 = .ok (.aload_n 1, 1) := by decide +kernel
theorem dX3_goOnInTable_61 : decode cX3_goOnInTable 61 = .ok (.getfield 217, 3) := by decide +kernel
theorem dX3_goOnInTable_64 : decode cX3_goOnInTable 64 = .ok (.putfield 202, 3) := by decide +kernel
theorem dX3_goOnInTable_67 : decode cX3_goOnInTable 67 = .ok (.return_, 1) := by decide +kernel
set_option maxRecDepth 20000 in
theorem ggX3_winnerOfTable_Jx4a65c_size_8abf5 : GoodIn wsX3_winnerOfTable wsJx4a65c_size_8abf5 := goodIn_r _ [9, 10, 47, 48, 49] (by decide +kernel) (by decide +kernel)
set_option maxRecDepth 20000 in
theorem gX3_winnerOfTable_Jx4a65c_size_8abf5 : GoodIn wsX3_winnerOfTable (wsV RX3 49 RJx4a65c yJx4a65c_size_8abf5 wsJx4a65c_size_8abf5) := goodIn_app (goodIn_of _ (by decide +kernel)) ggX3_winnerOfTable_Jx4a65c_size_8abf5
set_option maxRecDepth 20000 in
theorem ggX3_winnerOfTable_Jx4a65c_get_915e3 : GoodIn wsX3_winnerOfTable wsJx4a65c_get_915e3 := goodIn_r _ [14, 10, 15, 16, 17, 18, 19, 20, 21, 22, 23, 24, 25, 8, 26, 27, 47, 48, 49] (by decide +kernel) (by decide +kernel)
set_option maxRecDepth 20000 in
theorem gX3_winnerOfTable_Jx4a65c_get_915e3 : GoodIn wsX3_winnerOfTable (wsV RX3 124 RJx4a65c yJx4a65c_get_915e3 wsJx4a65c_get_915e3) := goodIn_app (goodIn_of _ (by decide +kernel)) ggX3_winnerOfTable_Jx4a65c_get_915e3
theorem dX3_winnerOfTable_0 : decode cX3_winnerOfTable 0 = .ok (.aload_n 0, 1) := by decide +kernel
theorem dX3_winnerOfTable_1 : decode cX3_winnerOfTable 1 = .ok (.getfield 16, 3) := by decide +kernel
theorem dX3_winnerOfTable_4 : decode cX3_winnerOfTable 4 = .ok (.invokevirtual 49, 3) := by decide +kernel
theorem dX3_winnerOfTable_7 : decode cX3_winnerOfTable 7 = .ok (.iconst 1, 1) := by decide +kernel
theorem dX3_winnerOfTable_8 : decode cX3_winnerOfTable 8 = .ok (.isub, 1) := by decide +kernel
theorem dX3_winnerOfTable_9 : decode cX3_winnerOfTable 9 = .ok (.istore_n 1, 1) := by decide +kernel
theorem dX3_winnerOfTable_10 : decode cX3_winnerOfTable 10 = .ok (.aload_n 0, 1) := by decide +kernel
theorem dX3_winnerOfTable_11 : decode cX3_winnerOfTable 11 = .ok (.getfield 247, 3) := by decide +kernel
theorem dX3_winnerOfTable_14 : decode cX3_winnerOfTable 14 = .ok (.ifCond .eq 7, 3) := by decide +kernel
theorem dX3_winnerOfTable_17 : decode cX3_winnerOfTable 17 = .ok (.iload_n 1, 1) := by decide +kernel
theorem dX3_winnerOfTable_18 : decode cX3_winnerOfTable 18 = .ok (.ifCond .ge 7, 3) := by decide +kernel
theorem dX3_winnerOfTable_21 : decode cX3_winnerOfTable 21 = .ok (.aconst_null, 1) := by decide +kernel
theorem dX3_winnerOfTable_22 : decode cX3_winnerOfTable 22 = .ok (.goto 17, 3) := by decide +kernel
theorem dX3_winnerOfTable_25 : decode cX3_winnerOfTable 25 = .ok (.aload_n 0, 1) := by decide +kernel
theorem dX3_winnerOfTable_26 : decode cX3_winnerOfTable 26 = .ok (.getfield 16, 3) := by decide +kernel
theorem dX3_winnerOfTable_29 : decode cX3_winnerOfTable 29 = .ok (.iload_n 1, 1) := by decide +kernel
theorem dX3_winnerOfTable_30 : decode cX3_winnerOfTable 30 = .ok (.invokevirtual 124, 3) := by decide +kernel
theorem dX3_winnerOfTable_33 : decode cX3_winnerOfTable 33 = .ok (.checkcast 19, 3) := by decide +kernel
theorem dX3_winnerOfTable_36 : decode cX3_winnerOfTable 36 = .ok (.getfield 217, 3) := by decide +kernel
theorem dX3_winnerOfTable_39 : decode cX3_winnerOfTable 39 = .ok (.areturn, 1) := by decide +kernel
set_option maxRecDepth 20000 in
theorem ggX3_winnerIn_X3_isPiste : GoodIn wsX3_winnerIn wsX3_isPiste := goodIn_r _ [6, 7, 8, 5, 9] (by decide +kernel) (by decide +kernel)
set_option maxRecDepth 20000 in
theorem gX3_winnerIn_X3_isPiste : GoodIn wsX3_winnerIn (va_wsS RX3 139 yX3_isPiste wsX3_isPiste) := goodIn_app (goodIn_of _ (by decide +kernel)) ggX3_winnerIn_X3_isPiste
set_option maxRecDepth 20000 in
theorem ggX3_winnerIn_X3_isIn : GoodIn wsX3_winnerIn wsX3_isIn := goodIn_r _ [9] (by decide +kernel) (by decide +kernel)
set_option maxRecDepth 20000 in
theorem gX3_winnerIn_X3_isIn : GoodIn wsX3_winnerIn (va_wsS RX3 38 yX3_isIn wsX3_isIn) := goodIn_app (goodIn_of _ (by decide +kernel)) ggX3_winnerIn_X3_isIn
set_option maxRecDepth 20000 in
theorem ggX3_winnerIn_X3_liveBoutOn : GoodIn wsX3_winnerIn wsX3_liveBoutOn := goodIn_ca (goodIn_r _ [13, 14, 15, 16, 3, 4, 5, 6, 7, 8, 9, 54, 55, 56, 57, 58, 59, 60, 61, 62, 63] (by decide +kernel) (by decide +kernel)) (goodIn_sub (fun _ h => List.mem_cons_of_mem _ (List.mem_append_right _ h)) (by decide +kernel))
set_option maxRecDepth 20000 in
theorem gX3_winnerIn_X3_liveBoutOn : GoodIn wsX3_winnerIn (wsV RX3 165 RX3 yX3_liveBoutOn wsX3_liveBoutOn) := goodIn_app (goodIn_of _ (by decide +kernel)) ggX3_winnerIn_X3_liveBoutOn
set_option maxRecDepth 20000 in
theorem ggX3_winnerIn_X0_secondsUntilOver : GoodIn wsX3_winnerIn wsX0_secondsUntilOver := goodIn_r _ [21, 22, 23, 24, 25, 26, 27, 28, 29, 20, 30, 31, 32, 33, 34, 35, 36, 37, 38, 39, 64, 65, 66, 67, 68, 69, 70, 71, 72, 73, 74, 75] (by decide +kernel) (by decide +kernel)
set_option maxRecDepth 20000 in
theorem gX3_winnerIn_X0_secondsUntilOver : GoodIn wsX3_winnerIn (wsV RX3 262 RX0 yX0_secondsUntilOver wsX0_secondsUntilOver) := goodIn_app (goodIn_of _ (by decide +kernel)) ggX3_winnerIn_X0_secondsUntilOver
set_option maxRecDepth 20000 in
theorem ggX3_winnerIn_X0_winnerAsItStands : GoodIn wsX3_winnerIn wsX0_winnerAsItStands := goodIn_r _ [43, 24, 25, 26, 44, 45, 46, 47, 20, 48, 49, 64, 65, 66, 67, 68, 69, 70, 71, 72, 73, 74, 75] (by decide +kernel) (by decide +kernel)
set_option maxRecDepth 20000 in
theorem gX3_winnerIn_X0_winnerAsItStands : GoodIn wsX3_winnerIn (wsV RX3 268 RX0 yX0_winnerAsItStands wsX0_winnerAsItStands) := goodIn_app (goodIn_of _ (by decide +kernel)) ggX3_winnerIn_X0_winnerAsItStands
set_option maxRecDepth 20000 in
theorem ggX3_winnerIn_X3_numberOf : GoodIn wsX3_winnerIn wsX3_numberOf := goodIn_r _ [52, 53, 76, 77, 78, 79, 80, 81, 82, 83, 84, 85, 86, 87, 88, 89] (by decide +kernel) (by decide +kernel)
set_option maxRecDepth 20000 in
theorem gX3_winnerIn_X3_numberOf : GoodIn wsX3_winnerIn (va_wsS RX3 213 yX3_numberOf wsX3_numberOf) := goodIn_app (goodIn_of _ (by decide +kernel)) ggX3_winnerIn_X3_numberOf
theorem dX3_winnerIn_0 : decode cX3_winnerIn 0 = .ok (.iload_n 1, 1) := by decide +kernel
theorem dX3_winnerIn_1 : decode cX3_winnerIn 1 = .ok (.invokestatic 139, 3) := by decide +kernel
theorem dX3_winnerIn_4 : decode cX3_winnerIn 4 = .ok (.ifCond .eq 14, 3) := by decide +kernel
theorem dX3_winnerIn_7 : decode cX3_winnerIn 7 = .ok (.iload_n 2, 1) := by decide +kernel
theorem dX3_winnerIn_8 : decode cX3_winnerIn 8 = .ok (.iconst 1, 1) := by decide +kernel
theorem dX3_winnerIn_9 : decode cX3_winnerIn 9 = .ok (.sipush 600, 3) := by decide +kernel
theorem dX3_winnerIn_12 : decode cX3_winnerIn 12 = .ok (.invokestatic 38, 3) := by decide +kernel
theorem dX3_winnerIn_15 : decode cX3_winnerIn 15 = .ok (.ifCond .ne 14, 3) := by decide +kernel
theorem dX3_winnerIn_18 : decode cX3_winnerIn 18 = .ok (.new 42, 3) := by decide +kernel
theorem dX3_winnerIn_21 : decode cX3_winnerIn 21 = .ok (.dup, 1) := by decide +kernel
theorem dX3_winnerIn_22 : decode cX3_winnerIn 22 = .ok (.ldc_w 374, 3) := by decide +kernel
theorem dX3_winnerIn_25 : decode cX3_winnerIn 25 = .ok (.invokespecial 46, 3) := by decide +kernel
theorem dX3_winnerIn_28 : decode cX3_winnerIn 28 = .ok (.athrow, 1) := by decide +kernel
theorem dX3_winnerIn_29 : decode cX3_winnerIn 29 = .ok (.aload_n 0, 1) := by decide +kernel
theorem dX3_winnerIn_30 : decode cX3_winnerIn 30 = .ok (.iload_n 1, 1) := by decide +kernel
theorem dX3_winnerIn_31 : decode cX3_winnerIn 31 = .ok (.invokevirtual 165, 3) := by decide +kernel
theorem dX3_winnerIn_34 : decode cX3_winnerIn 34 = .ok (.astore_n 3, 1) := by decide +kernel
theorem dX3_winnerIn_35 : decode cX3_winnerIn 35 = .ok (.iload_n 2, 1) := by decide +kernel
theorem dX3_winnerIn_36 : decode cX3_winnerIn 36 = .ok (.aload_n 3, 1) := by decide +kernel
theorem dX3_winnerIn_37 : decode cX3_winnerIn 37 = .ok (.invokevirtual 262, 3) := by decide +kernel
theorem dX3_winnerIn_40 : decode cX3_winnerIn 40 = .ok (.if_icmp .ge 7, 3) := by decide +kernel
theorem dX3_winnerIn_43 : decode cX3_winnerIn 43 = .ok (.iconst (-1), 1) := by decide +kernel
theorem dX3_winnerIn_44 : decode cX3_winnerIn 44 = .ok (.goto 10, 3) := by decide +kernel
theorem dX3_winnerIn_47 : decode cX3_winnerIn 47 = .ok (.aload_n 3, 1) := by decide +kernel
theorem dX3_winnerIn_48 : decode cX3_winnerIn 48 = .ok (.invokevirtual 268, 3) := by decide +kernel
theorem dX3_winnerIn_51 : decode cX3_winnerIn 51 = .ok (.invokestatic 213, 3) := by decide +kernel
theorem dX3_winnerIn_54 : decode cX3_winnerIn 54 = .ok (.ireturn, 1) := by decide +kernel
set_option maxRecDepth 20000 in
theorem ggX3_voidWith_X3_fencerAt : GoodIn wsX3_voidWith wsX3_fencerAt := goodIn_ca (goodIn_r _ [6, 7, 8, 9, 10, 11, 12, 13, 14, 15, 16, 17, 18, 5, 19, 20, 21, 22, 23, 24, 25, 26, 27, 28, 29, 30, 31, 32, 33, 34, 35, 36, 51, 52, 53, 54, 55, 56, 57, 58, 59, 60, 61, 62, 63] (by decide +kernel) (by decide +kernel)) (goodIn_sub (fun _ h => List.mem_cons_of_mem _ (List.mem_append_right _ h)) (by decide +kernel))
set_option maxRecDepth 20000 in
theorem gX3_voidWith_X3_fencerAt : GoodIn wsX3_voidWith (wsV RX3 85 RX3 yX3_fencerAt wsX3_fencerAt) := goodIn_app (goodIn_of _ (by decide +kernel)) ggX3_voidWith_X3_fencerAt
theorem dX3_voidWith_0 : decode cX3_voidWith 0 = .ok (.aload_n 0, 1) := by decide +kernel
theorem dX3_voidWith_1 : decode cX3_voidWith 1 = .ok (.iload_n 1, 1) := by decide +kernel
theorem dX3_voidWith_2 : decode cX3_voidWith 2 = .ok (.invokevirtual 85, 3) := by decide +kernel
theorem dX3_voidWith_5 : decode cX3_voidWith 5 = .ok (.getfield 309, 3) := by decide +kernel
theorem dX3_voidWith_8 : decode cX3_voidWith 8 = .ok (.ireturn, 1) := by decide +kernel
set_option maxRecDepth 20000 in
theorem ggX3_digest_X3_many : GoodIn wsX3_digest wsX3_many := goodIn_ca (goodIn_r _ [10, 11, 12, 3, 13, 4, 14, 5, 15, 16, 17, 18, 19, 20, 21, 22, 23, 9, 24, 25, 26, 27, 28, 29, 30, 31, 32, 33, 34, 35, 36, 37, 38, 39, 40, 41, 42, 43, 44, 45, 46, 47, 48, 49, 50, 51, 52, 53, 54, 55, 56, 57, 58, 212, 213, 214, 215, 216, 217, 218, 219, 220, 221, 222, 223, 224, 225, 226, 227, 228, 229, 230, 231, 232, 233, 234, 235, 236, 237, 238, 239, 240, 241, 242, 243, 244, 245, 246, 247] (by decide +kernel) (by decide +kernel)) (goodIn_sub (fun _ h => List.mem_cons_of_mem _ (List.mem_append_left _ (List.mem_append_right _ h))) (by decide +kernel))
set_option maxRecDepth 20000 in
theorem gX3_digest_X3_many : GoodIn wsX3_digest (wsV RX3 380 RX3 yX3_many wsX3_many) := goodIn_app (goodIn_of _ (by decide +kernel)) ggX3_digest_X3_many
set_option maxRecDepth 20000 in
theorem ggX3_digest_Jx4a65c_size_8abf5 : GoodIn wsX3_digest wsJx4a65c_size_8abf5 := goodIn_r _ [19, 20, 222, 223, 224] (by decide +kernel) (by decide +kernel)
set_option maxRecDepth 20000 in
theorem gX3_digest_Jx4a65c_size_8abf5 : GoodIn wsX3_digest (wsV RX3 49 RJx4a65c yJx4a65c_size_8abf5 wsJx4a65c_size_8abf5) := goodIn_app (goodIn_of _ (by decide +kernel)) ggX3_digest_Jx4a65c_size_8abf5
set_option maxRecDepth 20000 in
theorem ggX3_digest_X3_withFencer : GoodIn wsX3_digest wsX3_withFencer := goodIn_ca (goodIn_ca (goodIn_r _ [62, 2, 63, 64, 65, 9, 66, 11, 12, 67, 68, 69, 70, 49, 71, 72, 73, 74, 75, 76, 77, 78, 79, 3, 48, 15, 16, 17, 18, 19, 20, 80, 81, 82, 27, 28, 29, 30, 31, 32, 33, 34, 35, 36, 37, 38, 39, 40, 41, 42, 43, 83, 84, 85, 86, 87, 88, 89, 90, 91, 92, 93, 94, 95, 96, 97, 98, 99, 100, 101, 102, 103, 104, 105, 106, 107, 108, 109, 110, 111, 112, 113, 114, 115, 116, 117, 118, 119, 120, 121, 122, 123, 124, 234, 235, 236, 237, 238, 239, 240, 241, 242, 243, 244, 245, 246, 247, 225, 226, 227, 228, 229, 230, 231, 232, 233, 212, 213, 214, 215, 216, 217, 218, 219, 220, 221, 222, 223, 224] (by decide +kernel) (by decide +kernel)) (goodIn_sub (fun _ h => List.mem_cons_of_mem _ (List.mem_append_left _ (List.mem_append_right _ h))) (by decide +kernel))) (goodIn_sub (fun _ h => List.mem_cons_of_mem _ (List.mem_append_right _ h)) (by decide +kernel))
set_option maxRecDepth 20000 in
theorem gX3_digest_X3_withFencer : GoodIn wsX3_digest (wsV RX3 383 RX3 yX3_withFencer wsX3_withFencer) := goodIn_app (goodIn_of _ (by decide +kernel)) ggX3_digest_X3_withFencer
set_option maxRecDepth 20000 in
theorem ggX3_digest_X3_withBout : GoodIn wsX3_digest wsX3_withBout := goodIn_ca (goodIn_ca (goodIn_r _ [128, 2, 129, 130, 131, 9, 132, 11, 12, 26, 133, 134, 135, 136, 54, 137, 138, 139, 140, 141, 142, 143, 144, 78, 79, 4, 25, 15, 16, 17, 18, 19, 20, 80, 81, 82, 27, 28, 29, 30, 31, 32, 33, 34, 35, 36, 37, 38, 39, 40, 41, 42, 43, 55, 56, 57, 58, 145, 146, 147, 148, 149, 150, 151, 152, 153, 154, 155, 156, 157, 158, 159, 160, 161, 162, 163, 164, 165, 166, 167, 168, 169, 170, 171, 172, 173, 174, 175, 14, 176, 177, 178, 179, 180, 181, 182, 183, 184, 185, 186, 187, 188, 189, 190, 191, 192, 104, 105, 106, 193, 194, 195, 196, 197, 225, 226, 227, 228, 229, 230, 231, 232, 233, 248, 249, 250, 212, 213, 214, 215, 216, 217, 218, 219, 220, 221, 222, 223, 224, 234, 235, 236, 237, 238, 239, 240, 241, 242, 243, 244, 245, 246, 247] (by decide +kernel) (by decide +kernel)) (goodIn_sub (fun _ h => List.mem_cons_of_mem _ (List.mem_append_left _ (List.mem_append_right _ h))) (by decide +kernel))) (goodIn_sub (fun _ h => List.mem_cons_of_mem _ (List.mem_append_right _ h)) (by decide +kernel))
set_option maxRecDepth 20000 in
theorem gX3_digest_X3_withBout : GoodIn wsX3_digest (wsV RX3 387 RX3 yX3_withBout wsX3_withBout) := goodIn_app (goodIn_of _ (by decide +kernel)) ggX3_digest_X3_withBout
set_option maxRecDepth 20000 in
theorem ggX3_digest_X3_next : GoodIn wsX3_digest wsX3_next := goodIn_r _ [201, 4, 25, 15, 16, 17, 18, 19, 20, 27, 28, 29, 30, 31, 32, 33, 34, 35, 36, 37, 38, 39, 40, 41, 42, 43, 188, 189, 190, 148, 191, 165, 167, 192, 104, 105, 106, 193, 194, 195, 184, 196, 186, 197, 172, 173, 174, 9, 175, 26, 133, 135, 14, 176, 177, 178, 179, 180, 181, 182, 183, 185, 187, 212, 213, 214, 215, 216, 217, 218, 219, 220, 221, 222, 223, 224, 225, 226, 227, 228, 229, 230, 231, 232, 233, 248, 249, 250, 234, 235, 236, 237, 238, 239, 240, 241, 242, 243, 244, 245, 246, 247] (by decide +kernel) (by decide +kernel)
set_option maxRecDepth 20000 in
theorem gX3_digest_X3_next : GoodIn wsX3_digest (wsV RX3 390 RX3 yX3_next wsX3_next) := goodIn_app (goodIn_of _ (by decide +kernel)) ggX3_digest_X3_next
set_option maxRecDepth 20000 in
theorem ggX3_digest_X3_line : GoodIn wsX3_digest wsX3_line := goodIn_ca (goodIn_r _ [205, 78, 79, 5, 80, 81, 9, 82, 206, 207, 208, 209, 210, 211, 55, 56, 57, 58, 212, 213, 214, 215, 216, 217, 218, 219, 220, 221, 234, 235, 236, 237, 238, 239, 240, 241, 242, 243, 244, 245, 246, 247] (by decide +kernel) (by decide +kernel)) (goodIn_sub (fun _ h => List.mem_cons_of_mem _ (List.mem_append_right _ h)) (by decide +kernel))
set_option maxRecDepth 20000 in
theorem gX3_digest_X3_line : GoodIn wsX3_digest (wsV RX3 393 RX3 yX3_line wsX3_line) := goodIn_app (goodIn_of _ (by decide +kernel)) ggX3_digest_X3_line
theorem dX3_digest_0 : decode cX3_digest 0 = .ok (.ldc2_w 376, 3) := by decide +kernel
theorem dX3_digest_3 : decode cX3_digest 3 = .ok (.lstore_n 1, 1) := by decide +kernel
theorem dX3_digest_4 : decode cX3_digest 4 = .ok (.iconst 0, 1) := by decide +kernel
theorem dX3_digest_5 : decode cX3_digest 5 = .ok (.istore_n 3, 1) := by decide +kernel
theorem dX3_digest_6 : decode cX3_digest 6 = .ok (.iload_n 3, 1) := by decide +kernel
theorem dX3_digest_7 : decode cX3_digest 7 = .ok (.bipush 10, 2) := by decide +kernel
theorem dX3_digest_9 : decode cX3_digest 9 = .ok (.if_icmp .gt 22, 3) := by decide +kernel
theorem dX3_digest_12 : decode cX3_digest 12 = .ok (.lload_n 1, 1) := by decide +kernel
theorem dX3_digest_13 : decode cX3_digest 13 = .ok (.ldc2_w 378, 3) := by decide +kernel
theorem dX3_digest_16 : decode cX3_digest 16 = .ok (.lmul, 1) := by decide +kernel
theorem dX3_digest_17 : decode cX3_digest 17 = .ok (.aload_n 0, 1) := by decide +kernel
theorem dX3_digest_18 : decode cX3_digest 18 = .ok (.iload_n 3, 1) := by decide +kernel
theorem dX3_digest_19 : decode cX3_digest 19 = .ok (.invokevirtual 380, 3) := by decide +kernel
theorem dX3_digest_22 : decode cX3_digest 22 = .ok (.i2l, 1) := by decide +kernel
theorem dX3_digest_23 : decode cX3_digest 23 = .ok (.ladd, 1) := by decide +kernel
theorem dX3_digest_24 : decode cX3_digest 24 = .ok (.lstore_n 1, 1) := by decide +kernel
theorem dX3_digest_25 : decode cX3_digest 25 = .ok (.iinc 3 1, 3) := by decide +kernel
theorem dX3_digest_28 : decode cX3_digest 28 = .ok (.goto (-22), 3) := by decide +kernel
theorem dX3_digest_31 : decode cX3_digest 31 = .ok (.iconst 0, 1) := by decide +kernel
theorem dX3_digest_32 : decode cX3_digest 32 = .ok (.istore_n 3, 1) := by decide +kernel
theorem dX3_digest_33 : decode cX3_digest 33 = .ok (.iload_n 3, 1) := by decide +kernel
theorem dX3_digest_34 : decode cX3_digest 34 = .ok (.aload_n 0, 1) := by decide +kernel
theorem dX3_digest_35 : decode cX3_digest 35 = .ok (.getfield 12, 3) := by decide +kernel
theorem dX3_digest_38 : decode cX3_digest 38 = .ok (.invokevirtual 49, 3) := by decide +kernel
theorem dX3_digest_41 : decode cX3_digest 41 = .ok (.if_icmp .ge 16, 3) := by decide +kernel
theorem dX3_digest_44 : decode cX3_digest 44 = .ok (.aload_n 0, 1) := by decide +kernel
theorem dX3_digest_45 : decode cX3_digest 45 = .ok (.lload_n 1, 1) := by decide +kernel
theorem dX3_digest_46 : decode cX3_digest 46 = .ok (.iload_n 3, 1) := by decide +kernel
theorem dX3_digest_47 : decode cX3_digest 47 = .ok (.invokevirtual 383, 3) := by decide +kernel
theorem dX3_digest_50 : decode cX3_digest 50 = .ok (.lstore_n 1, 1) := by decide +kernel
theorem dX3_digest_51 : decode cX3_digest 51 = .ok (.iinc 3 1, 3) := by decide +kernel
theorem dX3_digest_54 : decode cX3_digest 54 = .ok (.goto (-21), 3) := by decide +kernel
theorem dX3_digest_57 : decode cX3_digest 57 = .ok (.iconst 0, 1) := by decide +kernel
theorem dX3_digest_58 : decode cX3_digest 58 = .ok (.istore_n 3, 1) := by decide +kernel
theorem dX3_digest_59 : decode cX3_digest 59 = .ok (.iload_n 3, 1) := by decide +kernel
theorem dX3_digest_60 : decode cX3_digest 60 = .ok (.aload_n 0, 1) := by decide +kernel
theorem dX3_digest_61 : decode cX3_digest 61 = .ok (.getfield 16, 3) := by decide +kernel
theorem dX3_digest_64 : decode cX3_digest 64 = .ok (.invokevirtual 49, 3) := by decide +kernel
theorem dX3_digest_67 : decode cX3_digest 67 = .ok (.if_icmp .ge 16, 3) := by decide +kernel
theorem dX3_digest_70 : decode cX3_digest 70 = .ok (.aload_n 0, 1) := by decide +kernel
theorem dX3_digest_71 : decode cX3_digest 71 = .ok (.lload_n 1, 1) := by decide +kernel
theorem dX3_digest_72 : decode cX3_digest 72 = .ok (.iload_n 3, 1) := by decide +kernel
theorem dX3_digest_73 : decode cX3_digest 73 = .ok (.invokevirtual 387, 3) := by decide +kernel
theorem dX3_digest_76 : decode cX3_digest 76 = .ok (.lstore_n 1, 1) := by decide +kernel
theorem dX3_digest_77 : decode cX3_digest 77 = .ok (.iinc 3 1, 3) := by decide +kernel
theorem dX3_digest_80 : decode cX3_digest 80 = .ok (.goto (-21), 3) := by decide +kernel
theorem dX3_digest_83 : decode cX3_digest 83 = .ok (.lload_n 1, 1) := by decide +kernel
theorem dX3_digest_84 : decode cX3_digest 84 = .ok (.ldc2_w 378, 3) := by decide +kernel
theorem dX3_digest_87 : decode cX3_digest 87 = .ok (.lmul, 1) := by decide +kernel
theorem dX3_digest_88 : decode cX3_digest 88 = .ok (.aload_n 0, 1) := by decide +kernel
theorem dX3_digest_89 : decode cX3_digest 89 = .ok (.invokevirtual 390, 3) := by decide +kernel
theorem dX3_digest_92 : decode cX3_digest 92 = .ok (.i2l, 1) := by decide +kernel
theorem dX3_digest_93 : decode cX3_digest 93 = .ok (.ladd, 1) := by decide +kernel
theorem dX3_digest_94 : decode cX3_digest 94 = .ok (.lstore_n 1, 1) := by decide +kernel
theorem dX3_digest_95 : decode cX3_digest 95 = .ok (.iconst 0, 1) := by decide +kernel
theorem dX3_digest_96 : decode cX3_digest 96 = .ok (.istore_n 3, 1) := by decide +kernel
theorem dX3_digest_97 : decode cX3_digest 97 = .ok (.iload_n 3, 1) := by decide +kernel
theorem dX3_digest_98 : decode cX3_digest 98 = .ok (.aload_n 0, 1) := by decide +kernel
theorem dX3_digest_99 : decode cX3_digest 99 = .ok (.getfield 247, 3) := by decide +kernel
theorem dX3_digest_102 : decode cX3_digest 102 = .ok (.if_icmp .ge 22, 3) := by decide +kernel
theorem dX3_digest_105 : decode cX3_digest 105 = .ok (.lload_n 1, 1) := by decide +kernel
theorem dX3_digest_106 : decode cX3_digest 106 = .ok (.ldc2_w 378, 3) := by decide +kernel
theorem dX3_digest_109 : decode cX3_digest 109 = .ok (.lmul, 1) := by decide +kernel
theorem dX3_digest_110 : decode cX3_digest 110 = .ok (.aload_n 0, 1) := by decide +kernel
theorem dX3_digest_111 : decode cX3_digest 111 = .ok (.iload_n 3, 1) := by decide +kernel
theorem dX3_digest_112 : decode cX3_digest 112 = .ok (.invokevirtual 393, 3) := by decide +kernel
theorem dX3_digest_115 : decode cX3_digest 115 = .ok (.i2l, 1) := by decide +kernel
theorem dX3_digest_116 : decode cX3_digest 116 = .ok (.ladd, 1) := by decide +kernel
theorem dX3_digest_117 : decode cX3_digest 117 = .ok (.lstore_n 1, 1) := by decide +kernel
theorem dX3_digest_118 : decode cX3_digest 118 = .ok (.iinc 3 1, 3) := by decide +kernel
theorem dX3_digest_121 : decode cX3_digest 121 = .ok (.goto (-24), 3) := by decide +kernel
theorem dX3_digest_124 : decode cX3_digest 124 = .ok (.lload_n 1, 1) := by decide +kernel
theorem dX3_digest_125 : decode cX3_digest 125 = .ok (.lreturn, 1) := by decide +kernel
set_option maxRecDepth 20000 in
theorem ggX3_withFencer_X3_of : GoodIn wsX3_withFencer wsX3_of := goodIn_ca (goodIn_ca (goodIn_r _ [6, 7, 8, 9, 10, 11, 12, 13, 14, 15, 16, 17, 18, 19, 5, 20, 21, 22, 23, 24, 25, 26, 27, 28, 29, 30, 31, 32, 33, 34, 35, 36, 37, 38, 39, 40, 41, 42, 43, 44, 45, 46, 47, 48, 49, 50, 93, 94, 95, 96, 97, 98, 99, 100, 101, 102, 103, 104, 105, 106, 107, 108, 109, 110, 111, 112, 113, 114, 115, 116, 117, 118, 119, 120, 121, 122, 123, 124, 125, 126, 127, 128] (by decide +kernel) (by decide +kernel)) (goodIn_sub (fun _ h => List.mem_cons_of_mem _ (List.mem_append_left _ (List.mem_append_right _ h))) (by decide +kernel))) (goodIn_sub (fun _ h => List.mem_cons_of_mem _ (List.mem_append_right _ h)) (by decide +kernel))
set_option maxRecDepth 20000 in
theorem gX3_withFencer_X3_of : GoodIn wsX3_withFencer (wsV RX3 396 RX3 yX3_of wsX3_of) := goodIn_app (goodIn_of _ (by decide +kernel)) ggX3_withFencer_X3_of
set_option maxRecDepth 20000 in
theorem ggX3_withFencer_X3_order : GoodIn wsX3_withFencer wsX3_order := goodIn_ca (goodIn_ca (goodIn_r _ [54, 7, 8, 55, 56, 57, 58, 17, 18, 19, 5, 20, 21, 22, 23, 24, 25, 26, 27, 28, 29, 30, 31, 32, 33, 34, 35, 36, 37, 38, 39, 40, 41, 42, 43, 44, 45, 46, 47, 48, 49, 50, 59, 60, 61, 62, 63, 64, 65, 66, 67, 68, 69, 70, 71, 72, 73, 74, 75, 76, 77, 78, 93, 94, 95, 96, 97, 98, 99, 100, 101, 102, 103, 104, 105, 106, 116, 117, 118, 119, 120, 121, 122, 123, 124, 125, 126, 127, 128] (by decide +kernel) (by decide +kernel)) (goodIn_sub (fun _ h => List.mem_cons_of_mem _ (List.mem_append_left _ (List.mem_append_right _ h))) (by decide +kernel))) (goodIn_sub (fun _ h => List.mem_cons_of_mem _ (List.mem_append_right _ h)) (by decide +kernel))
set_option maxRecDepth 20000 in
theorem gX3_withFencer_X3_order : GoodIn wsX3_withFencer (wsV RX3 399 RX3 yX3_order wsX3_order) := goodIn_app (goodIn_of _ (by decide +kernel)) ggX3_withFencer_X3_order
set_option maxRecDepth 20000 in
theorem ggX3_withFencer_X3_place : GoodIn wsX3_withFencer wsX3_place := goodIn_ca (goodIn_r _ [82, 23, 24, 17, 18, 19, 5, 20, 21, 22, 25, 26, 27, 28, 29, 30, 31, 32, 33, 34, 35, 36, 37, 38, 39, 40, 41, 42, 43, 44, 45, 46, 47, 48, 49, 50, 83, 84, 85, 66, 86, 68, 87, 88, 64, 65, 67, 69, 70, 71, 72, 73, 74, 75, 76, 77, 78, 116, 117, 118, 119, 120, 121, 122, 123, 124, 125, 126, 127, 128, 93, 94, 95, 96, 97, 98, 99, 100, 101, 102, 103, 104, 105, 106] (by decide +kernel) (by decide +kernel)) (goodIn_sub (fun _ h => List.mem_cons_of_mem _ (List.mem_append_right _ h)) (by decide +kernel))
set_option maxRecDepth 20000 in
theorem gX3_withFencer_X3_place : GoodIn wsX3_withFencer (wsV RX3 402 RX3 yX3_place wsX3_place) := goodIn_app (goodIn_of _ (by decide +kernel)) ggX3_withFencer_X3_place
set_option maxRecDepth 20000 in
theorem ggX3_withFencer_X3_voidWith : GoodIn wsX3_withFencer wsX3_voidWith := goodIn_ca (goodIn_r _ [92, 55, 17, 18, 19, 5, 20, 21, 22, 23, 24, 25, 26, 27, 28, 29, 30, 31, 32, 33, 34, 35, 36, 37, 38, 39, 40, 41, 42, 43, 44, 45, 46, 47, 48, 49, 50, 93, 94, 95, 96, 97, 98, 99, 100, 101, 102, 103, 104, 105, 106, 116, 117, 118, 119, 120, 121, 122, 123, 124, 125, 126, 127, 128] (by decide +kernel) (by decide +kernel)) (goodIn_sub (fun _ h => List.mem_cons_of_mem _ (List.mem_append_right _ h)) (by decide +kernel))
set_option maxRecDepth 20000 in
theorem gX3_withFencer_X3_voidWith : GoodIn wsX3_withFencer (wsV RX3 405 RX3 yX3_voidWith wsX3_voidWith) := goodIn_app (goodIn_of _ (by decide +kernel)) ggX3_withFencer_X3_voidWith
theorem dX3_withFencer_0 : decode cX3_withFencer 0 = .ok (.lload_n 1, 1) := by decide +kernel
theorem dX3_withFencer_1 : decode cX3_withFencer 1 = .ok (.lstore 4, 2) := by decide +kernel
theorem dX3_withFencer_3 : decode cX3_withFencer 3 = .ok (.iconst 0, 1) := by decide +kernel
theorem dX3_withFencer_4 : decode cX3_withFencer 4 = .ok (.istore 6, 2) := by decide +kernel
theorem dX3_withFencer_6 : decode cX3_withFencer 6 = .ok (.iload 6, 2) := by decide +kernel
theorem dX3_withFencer_8 : decode cX3_withFencer 8 = .ok (.bipush 6, 2) := by decide +kernel
theorem dX3_withFencer_10 : decode cX3_withFencer 10 = .ok (.if_icmp .gt 26, 3) := by decide +kernel
theorem dX3_withFencer_13 : decode cX3_withFencer 13 = .ok (.lload 4, 2) := by decide +kernel
theorem dX3_withFencer_15 : decode cX3_withFencer 15 = .ok (.ldc2_w 378, 3) := by decide +kernel
theorem dX3_withFencer_18 : decode cX3_withFencer 18 = .ok (.lmul, 1) := by decide +kernel
theorem dX3_withFencer_19 : decode cX3_withFencer 19 = .ok (.aload_n 0, 1) := by decide +kernel
theorem dX3_withFencer_20 : decode cX3_withFencer 20 = .ok (.iload_n 3, 1) := by decide +kernel
theorem dX3_withFencer_21 : decode cX3_withFencer 21 = .ok (.iload 6, 2) := by decide +kernel
theorem dX3_withFencer_23 : decode cX3_withFencer 23 = .ok (.invokevirtual 396, 3) := by decide +kernel
theorem dX3_withFencer_26 : decode cX3_withFencer 26 = .ok (.i2l, 1) := by decide +kernel
theorem dX3_withFencer_27 : decode cX3_withFencer 27 = .ok (.ladd, 1) := by decide +kernel
theorem dX3_withFencer_28 : decode cX3_withFencer 28 = .ok (.lstore 4, 2) := by decide +kernel
theorem dX3_withFencer_30 : decode cX3_withFencer 30 = .ok (.iinc 6 1, 3) := by decide +kernel
theorem dX3_withFencer_33 : decode cX3_withFencer 33 = .ok (.goto (-27), 3) := by decide +kernel
theorem dX3_withFencer_36 : decode cX3_withFencer 36 = .ok (.iconst 0, 1) := by decide +kernel
theorem dX3_withFencer_37 : decode cX3_withFencer 37 = .ok (.istore 6, 2) := by decide +kernel
theorem dX3_withFencer_39 : decode cX3_withFencer 39 = .ok (.iload 6, 2) := by decide +kernel
theorem dX3_withFencer_41 : decode cX3_withFencer 41 = .ok (.iconst 4, 1) := by decide +kernel
theorem dX3_withFencer_42 : decode cX3_withFencer 42 = .ok (.if_icmp .gt 26, 3) := by decide +kernel
theorem dX3_withFencer_45 : decode cX3_withFencer 45 = .ok (.lload 4, 2) := by decide +kernel
theorem dX3_withFencer_47 : decode cX3_withFencer 47 = .ok (.ldc2_w 378, 3) := by decide +kernel
theorem dX3_withFencer_50 : decode cX3_withFencer 50 = .ok (.lmul, 1) := by decide +kernel
theorem dX3_withFencer_51 : decode cX3_withFencer 51 = .ok (.aload_n 0, 1) := by decide +kernel
theorem dX3_withFencer_52 : decode cX3_withFencer 52 = .ok (.iload_n 3, 1) := by decide +kernel
theorem dX3_withFencer_53 : decode cX3_withFencer 53 = .ok (.iload 6, 2) := by decide +kernel
theorem dX3_withFencer_55 : decode cX3_withFencer 55 = .ok (.invokevirtual 399, 3) := by decide +kernel
theorem dX3_withFencer_58 : decode cX3_withFencer 58 = .ok (.i2l, 1) := by decide +kernel
theorem dX3_withFencer_59 : decode cX3_withFencer 59 = .ok (.ladd, 1) := by decide +kernel
theorem dX3_withFencer_60 : decode cX3_withFencer 60 = .ok (.lstore 4, 2) := by decide +kernel
theorem dX3_withFencer_62 : decode cX3_withFencer 62 = .ok (.iinc 6 1, 3) := by decide +kernel
theorem dX3_withFencer_65 : decode cX3_withFencer 65 = .ok (.goto (-26), 3) := by decide +kernel
theorem dX3_withFencer_68 : decode cX3_withFencer 68 = .ok (.lload 4, 2) := by decide +kernel
theorem dX3_withFencer_70 : decode cX3_withFencer 70 = .ok (.ldc2_w 378, 3) := by decide +kernel
theorem dX3_withFencer_73 : decode cX3_withFencer 73 = .ok (.lmul, 1) := by decide +kernel
theorem dX3_withFencer_74 : decode cX3_withFencer 74 = .ok (.aload_n 0, 1) := by decide +kernel
theorem dX3_withFencer_75 : decode cX3_withFencer 75 = .ok (.iload_n 3, 1) := by decide +kernel
theorem dX3_withFencer_76 : decode cX3_withFencer 76 = .ok (.invokevirtual 402, 3) := by decide +kernel
theorem dX3_withFencer_79 : decode cX3_withFencer 79 = .ok (.i2l, 1) := by decide +kernel
theorem dX3_withFencer_80 : decode cX3_withFencer 80 = .ok (.ladd, 1) := by decide +kernel
theorem dX3_withFencer_81 : decode cX3_withFencer 81 = .ok (.lstore 4, 2) := by decide +kernel
theorem dX3_withFencer_83 : decode cX3_withFencer 83 = .ok (.lload 4, 2) := by decide +kernel
theorem dX3_withFencer_85 : decode cX3_withFencer 85 = .ok (.ldc2_w 378, 3) := by decide +kernel
theorem dX3_withFencer_88 : decode cX3_withFencer 88 = .ok (.lmul, 1) := by decide +kernel
theorem dX3_withFencer_89 : decode cX3_withFencer 89 = .ok (.aload_n 0, 1) := by decide +kernel
theorem dX3_withFencer_90 : decode cX3_withFencer 90 = .ok (.iload_n 3, 1) := by decide +kernel
theorem dX3_withFencer_91 : decode cX3_withFencer 91 = .ok (.invokevirtual 405, 3) := by decide +kernel
theorem dX3_withFencer_94 : decode cX3_withFencer 94 = .ok (.i2l, 1) := by decide +kernel
theorem dX3_withFencer_95 : decode cX3_withFencer 95 = .ok (.ladd, 1) := by decide +kernel
theorem dX3_withFencer_96 : decode cX3_withFencer 96 = .ok (.lreturn, 1) := by decide +kernel
set_option maxRecDepth 20000 in
theorem ggX3_withBout_X3_ofBout : GoodIn wsX3_withBout wsX3_ofBout := goodIn_ca (goodIn_ca (goodIn_r _ [6, 7, 8, 9, 10, 11, 12, 13, 14, 15, 16, 17, 18, 19, 20, 21, 5, 22, 23, 24, 25, 26, 27, 28, 29, 30, 31, 32, 33, 34, 35, 36, 37, 38, 39, 40, 41, 42, 43, 44, 45, 46, 47, 48, 49, 50, 51, 52, 53, 54, 55, 56, 57, 58, 59, 60, 61, 62, 63, 64, 65, 66, 67, 68, 69, 70, 71, 72, 73, 74, 75, 76, 77, 78, 79, 114, 115, 116, 117, 118, 119, 120, 121, 122, 123, 124, 125, 126, 127, 128, 129, 130, 131, 132, 133, 134, 135, 136, 137, 138, 139, 140, 141, 142, 143, 144, 145, 146, 147, 148, 149, 150, 151, 152] (by decide +kernel) (by decide +kernel)) (goodIn_sub (fun _ h => List.mem_cons_of_mem _ (List.mem_append_left _ (List.mem_append_right _ h))) (by decide +kernel))) (goodIn_sub (fun _ h => List.mem_cons_of_mem _ (List.mem_append_right _ h)) (by decide +kernel))
set_option maxRecDepth 20000 in
theorem gX3_withBout_X3_ofBout : GoodIn wsX3_withBout (wsV RX3 408 RX3 yX3_ofBout wsX3_ofBout) := goodIn_app (goodIn_of _ (by decide +kernel)) ggX3_withBout_X3_ofBout
set_option maxRecDepth 20000 in
theorem ggX3_withBout_X3_reason : GoodIn wsX3_withBout wsX3_reason := goodIn_ca (goodIn_r _ [83, 19, 20, 21, 5, 22, 23, 24, 25, 26, 27, 28, 29, 30, 31, 32, 33, 34, 35, 36, 37, 38, 39, 40, 41, 42, 43, 44, 45, 46, 47, 48, 49, 50, 51, 52, 84, 85, 86, 87, 9, 10, 12, 88, 89, 90, 91, 60, 92, 77, 93, 79, 94, 95, 96, 97, 98, 99, 100, 101, 102, 103, 104, 105, 106, 107, 108, 109, 110, 111, 112, 113, 126, 127, 128, 129, 130, 131, 132, 133, 134, 135, 136, 137, 138, 114, 115, 116, 117, 118, 119, 120, 121, 122, 123, 124, 125, 139, 140, 141, 142, 143, 144, 145, 146, 147, 148, 149, 150, 151, 152] (by decide +kernel) (by decide +kernel)) (goodIn_sub (fun _ h => List.mem_cons_of_mem _ (List.mem_append_right _ h)) (by decide +kernel))
set_option maxRecDepth 20000 in
theorem gX3_withBout_X3_reason : GoodIn wsX3_withBout (wsV RX3 411 RX3 yX3_reason wsX3_reason) := goodIn_app (goodIn_of _ (by decide +kernel)) ggX3_withBout_X3_reason
theorem dX3_withBout_0 : decode cX3_withBout 0 = .ok (.lload_n 1, 1) := by decide +kernel
theorem dX3_withBout_1 : decode cX3_withBout 1 = .ok (.lstore 4, 2) := by decide +kernel
theorem dX3_withBout_3 : decode cX3_withBout 3 = .ok (.iconst 0, 1) := by decide +kernel
theorem dX3_withBout_4 : decode cX3_withBout 4 = .ok (.istore 6, 2) := by decide +kernel
theorem dX3_withBout_6 : decode cX3_withBout 6 = .ok (.iload 6, 2) := by decide +kernel
theorem dX3_withBout_8 : decode cX3_withBout 8 = .ok (.bipush 11, 2) := by decide +kernel
theorem dX3_withBout_10 : decode cX3_withBout 10 = .ok (.if_icmp .gt 26, 3) := by decide +kernel
theorem dX3_withBout_13 : decode cX3_withBout 13 = .ok (.lload 4, 2) := by decide +kernel
theorem dX3_withBout_15 : decode cX3_withBout 15 = .ok (.ldc2_w 378, 3) := by decide +kernel
theorem dX3_withBout_18 : decode cX3_withBout 18 = .ok (.lmul, 1) := by decide +kernel
theorem dX3_withBout_19 : decode cX3_withBout 19 = .ok (.aload_n 0, 1) := by decide +kernel
theorem dX3_withBout_20 : decode cX3_withBout 20 = .ok (.iload_n 3, 1) := by decide +kernel
theorem dX3_withBout_21 : decode cX3_withBout 21 = .ok (.iload 6, 2) := by decide +kernel
theorem dX3_withBout_23 : decode cX3_withBout 23 = .ok (.invokevirtual 408, 3) := by decide +kernel
theorem dX3_withBout_26 : decode cX3_withBout 26 = .ok (.i2l, 1) := by decide +kernel
theorem dX3_withBout_27 : decode cX3_withBout 27 = .ok (.ladd, 1) := by decide +kernel
theorem dX3_withBout_28 : decode cX3_withBout 28 = .ok (.lstore 4, 2) := by decide +kernel
theorem dX3_withBout_30 : decode cX3_withBout 30 = .ok (.iinc 6 1, 3) := by decide +kernel
theorem dX3_withBout_33 : decode cX3_withBout 33 = .ok (.goto (-27), 3) := by decide +kernel
theorem dX3_withBout_36 : decode cX3_withBout 36 = .ok (.lload 4, 2) := by decide +kernel
theorem dX3_withBout_38 : decode cX3_withBout 38 = .ok (.ldc2_w 378, 3) := by decide +kernel
theorem dX3_withBout_41 : decode cX3_withBout 41 = .ok (.lmul, 1) := by decide +kernel
theorem dX3_withBout_42 : decode cX3_withBout 42 = .ok (.aload_n 0, 1) := by decide +kernel
theorem dX3_withBout_43 : decode cX3_withBout 43 = .ok (.iload_n 3, 1) := by decide +kernel
theorem dX3_withBout_44 : decode cX3_withBout 44 = .ok (.invokevirtual 411, 3) := by decide +kernel
theorem dX3_withBout_47 : decode cX3_withBout 47 = .ok (.i2l, 1) := by decide +kernel
theorem dX3_withBout_48 : decode cX3_withBout 48 = .ok (.ladd, 1) := by decide +kernel
theorem dX3_withBout_49 : decode cX3_withBout 49 = .ok (.lreturn, 1) := by decide +kernel
theorem dX3_isIn_0 : decode cX3_isIn 0 = .ok (.iload_n 0, 1) := by decide +kernel
theorem dX3_isIn_1 : decode cX3_isIn 1 = .ok (.iload_n 1, 1) := by decide +kernel
theorem dX3_isIn_2 : decode cX3_isIn 2 = .ok (.if_icmp .lt 12, 3) := by decide +kernel
theorem dX3_isIn_5 : decode cX3_isIn 5 = .ok (.iload_n 0, 1) := by decide +kernel
theorem dX3_isIn_6 : decode cX3_isIn 6 = .ok (.iload_n 2, 1) := by decide +kernel
theorem dX3_isIn_7 : decode cX3_isIn 7 = .ok (.if_icmp .gt 7, 3) := by decide +kernel
theorem dX3_isIn_10 : decode cX3_isIn 10 = .ok (.iconst 1, 1) := by decide +kernel
theorem dX3_isIn_11 : decode cX3_isIn 11 = .ok (.goto 4, 3) := by decide +kernel
theorem dX3_isIn_14 : decode cX3_isIn 14 = .ok (.iconst 0, 1) := by decide +kernel
theorem dX3_isIn_15 : decode cX3_isIn 15 = .ok (.ireturn, 1) := by decide +kernel
set_option maxRecDepth 20000 in
theorem ggX3_isPiste_X3_isIn : GoodIn wsX3_isPiste wsX3_isIn := goodIn_r _ [4] (by decide +kernel) (by decide +kernel)
set_option maxRecDepth 20000 in
theorem gX3_isPiste_X3_isIn : GoodIn wsX3_isPiste (va_wsS RX3 38 yX3_isIn wsX3_isIn) := goodIn_app (goodIn_of _ (by decide +kernel)) ggX3_isPiste_X3_isIn
theorem dX3_isPiste_0 : decode cX3_isPiste 0 = .ok (.iload_n 0, 1) := by decide +kernel
theorem dX3_isPiste_1 : decode cX3_isPiste 1 = .ok (.iconst 0, 1) := by decide +kernel
theorem dX3_isPiste_2 : decode cX3_isPiste 2 = .ok (.iconst 2, 1) := by decide +kernel
theorem dX3_isPiste_3 : decode cX3_isPiste 3 = .ok (.invokestatic 38, 3) := by decide +kernel
theorem dX3_isPiste_6 : decode cX3_isPiste 6 = .ok (.ireturn, 1) := by decide +kernel
theorem dX3_numberOf_0 : decode cX3_numberOf 0 = .ok (.aload_n 0, 1) := by decide +kernel
theorem dX3_numberOf_1 : decode cX3_numberOf 1 = .ok (.ifnonnull 7, 3) := by decide +kernel
theorem dX3_numberOf_4 : decode cX3_numberOf 4 = .ok (.iconst (-1), 1) := by decide +kernel
theorem dX3_numberOf_5 : decode cX3_numberOf 5 = .ok (.goto 7, 3) := by decide +kernel
theorem dX3_numberOf_8 : decode cX3_numberOf 8 = .ok (.aload_n 0, 1) := by decide +kernel
theorem dX3_numberOf_9 : decode cX3_numberOf 9 = .ok (.getfield 414, 3) := by decide +kernel
theorem dX3_numberOf_12 : decode cX3_numberOf 12 = .ok (.ireturn, 1) := by decide +kernel
set_option maxRecDepth 20000 in
theorem ggX3_fencerAt_Jx4a65c_size_8abf5 : GoodIn wsX3_fencerAt wsJx4a65c_size_8abf5 := goodIn_r _ [9, 10, 42, 43, 44] (by decide +kernel) (by decide +kernel)
set_option maxRecDepth 20000 in
theorem gX3_fencerAt_Jx4a65c_size_8abf5 : GoodIn wsX3_fencerAt (wsV RX3 49 RJx4a65c yJx4a65c_size_8abf5 wsJx4a65c_size_8abf5) := goodIn_app (goodIn_of _ (by decide +kernel)) ggX3_fencerAt_Jx4a65c_size_8abf5
set_option maxRecDepth 20000 in
theorem ggX3_fencerAt_X3_isIn : GoodIn wsX3_fencerAt wsX3_isIn := goodIn_r _ [14] (by decide +kernel) (by decide +kernel)
set_option maxRecDepth 20000 in
theorem gX3_fencerAt_X3_isIn : GoodIn wsX3_fencerAt (va_wsS RX3 38 yX3_isIn wsX3_isIn) := goodIn_app (goodIn_of _ (by decide +kernel)) ggX3_fencerAt_X3_isIn
set_option maxRecDepth 20000 in
theorem ggX3_fencerAt_Jx4a65c_get_915e3 : GoodIn wsX3_fencerAt wsJx4a65c_get_915e3 := goodIn_r _ [18, 10, 19, 20, 21, 22, 23, 24, 25, 26, 27, 28, 29, 8, 30, 31, 42, 43, 44] (by decide +kernel) (by decide +kernel)
set_option maxRecDepth 20000 in
theorem gX3_fencerAt_Jx4a65c_get_915e3 : GoodIn wsX3_fencerAt (wsV RX3 124 RJx4a65c yJx4a65c_get_915e3 wsJx4a65c_get_915e3) := goodIn_app (goodIn_of _ (by decide +kernel)) ggX3_fencerAt_Jx4a65c_get_915e3
theorem dX3_fencerAt_0 : decode cX3_fencerAt 0 = .ok (.iload_n 1, 1) := by decide +kernel
theorem dX3_fencerAt_1 : decode cX3_fencerAt 1 = .ok (.iconst 0, 1) := by decide +kernel
theorem dX3_fencerAt_2 : decode cX3_fencerAt 2 = .ok (.aload_n 0, 1) := by decide +kernel
theorem dX3_fencerAt_3 : decode cX3_fencerAt 3 = .ok (.getfield 12, 3) := by decide +kernel
theorem dX3_fencerAt_6 : decode cX3_fencerAt 6 = .ok (.invokevirtual 49, 3) := by decide +kernel
theorem dX3_fencerAt_9 : decode cX3_fencerAt 9 = .ok (.iconst 1, 1) := by decide +kernel
theorem dX3_fencerAt_10 : decode cX3_fencerAt 10 = .ok (.isub, 1) := by decide +kernel
theorem dX3_fencerAt_11 : decode cX3_fencerAt 11 = .ok (.invokestatic 38, 3) := by decide +kernel
theorem dX3_fencerAt_14 : decode cX3_fencerAt 14 = .ok (.ifCond .ne 14, 3) := by decide +kernel
theorem dX3_fencerAt_17 : decode cX3_fencerAt 17 = .ok (.new 341, 3) := by decide +kernel
theorem dX3_fencerAt_20 : decode cX3_fencerAt 20 = .ok (.dup, 1) := by decide +kernel
theorem dX3_fencerAt_21 : decode cX3_fencerAt 21 = .ok (.ldc_w 415, 3) := by decide +kernel
theorem dX3_fencerAt_24 : decode cX3_fencerAt 24 = .ok (.invokespecial 345, 3) := by decide +kernel
theorem dX3_fencerAt_27 : decode cX3_fencerAt 27 = .ok (.athrow, 1) := by decide +kernel
theorem dX3_fencerAt_28 : decode cX3_fencerAt 28 = .ok (.aload_n 0, 1) := by decide +kernel
theorem dX3_fencerAt_29 : decode cX3_fencerAt 29 = .ok (.getfield 12, 3) := by decide +kernel
theorem dX3_fencerAt_32 : decode cX3_fencerAt 32 = .ok (.iload_n 1, 1) := by decide +kernel
theorem dX3_fencerAt_33 : decode cX3_fencerAt 33 = .ok (.invokevirtual 124, 3) := by decide +kernel
theorem dX3_fencerAt_36 : decode cX3_fencerAt 36 = .ok (.checkcast 29, 3) := by decide +kernel
theorem dX3_fencerAt_39 : decode cX3_fencerAt 39 = .ok (.areturn, 1) := by decide +kernel
set_option maxRecDepth 20000 in
theorem ggX3_boutAt_Jx4a65c_size_8abf5 : GoodIn wsX3_boutAt wsJx4a65c_size_8abf5 := goodIn_r _ [9, 10, 42, 43, 44] (by decide +kernel) (by decide +kernel)
set_option maxRecDepth 20000 in
theorem gX3_boutAt_Jx4a65c_size_8abf5 : GoodIn wsX3_boutAt (wsV RX3 49 RJx4a65c yJx4a65c_size_8abf5 wsJx4a65c_size_8abf5) := goodIn_app (goodIn_of _ (by decide +kernel)) ggX3_boutAt_Jx4a65c_size_8abf5
set_option maxRecDepth 20000 in
theorem ggX3_boutAt_X3_isIn : GoodIn wsX3_boutAt wsX3_isIn := goodIn_r _ [14] (by decide +kernel) (by decide +kernel)
set_option maxRecDepth 20000 in
theorem gX3_boutAt_X3_isIn : GoodIn wsX3_boutAt (va_wsS RX3 38 yX3_isIn wsX3_isIn) := goodIn_app (goodIn_of _ (by decide +kernel)) ggX3_boutAt_X3_isIn
set_option maxRecDepth 20000 in
theorem ggX3_boutAt_Jx4a65c_get_915e3 : GoodIn wsX3_boutAt wsJx4a65c_get_915e3 := goodIn_r _ [18, 10, 19, 20, 21, 22, 23, 24, 25, 26, 27, 28, 29, 8, 30, 31, 42, 43, 44] (by decide +kernel) (by decide +kernel)
set_option maxRecDepth 20000 in
theorem gX3_boutAt_Jx4a65c_get_915e3 : GoodIn wsX3_boutAt (wsV RX3 124 RJx4a65c yJx4a65c_get_915e3 wsJx4a65c_get_915e3) := goodIn_app (goodIn_of _ (by decide +kernel)) ggX3_boutAt_Jx4a65c_get_915e3
theorem dX3_boutAt_0 : decode cX3_boutAt 0 = .ok (.iload_n 1, 1) := by decide +kernel
theorem dX3_boutAt_1 : decode cX3_boutAt 1 = .ok (.iconst 0, 1) := by decide +kernel
theorem dX3_boutAt_2 : decode cX3_boutAt 2 = .ok (.aload_n 0, 1) := by decide +kernel
theorem dX3_boutAt_3 : decode cX3_boutAt 3 = .ok (.getfield 16, 3) := by decide +kernel
theorem dX3_boutAt_6 : decode cX3_boutAt 6 = .ok (.invokevirtual 49, 3) := by decide +kernel
theorem dX3_boutAt_9 : decode cX3_boutAt 9 = .ok (.iconst 1, 1) := by decide +kernel
theorem dX3_boutAt_10 : decode cX3_boutAt 10 = .ok (.isub, 1) := by decide +kernel
theorem dX3_boutAt_11 : decode cX3_boutAt 11 = .ok (.invokestatic 38, 3) := by decide +kernel
theorem dX3_boutAt_14 : decode cX3_boutAt 14 = .ok (.ifCond .ne 14, 3) := by decide +kernel
theorem dX3_boutAt_17 : decode cX3_boutAt 17 = .ok (.new 341, 3) := by decide +kernel
theorem dX3_boutAt_20 : decode cX3_boutAt 20 = .ok (.dup, 1) := by decide +kernel
theorem dX3_boutAt_21 : decode cX3_boutAt 21 = .ok (.ldc_w 417, 3) := by decide +kernel
theorem dX3_boutAt_24 : decode cX3_boutAt 24 = .ok (.invokespecial 345, 3) := by decide +kernel
theorem dX3_boutAt_27 : decode cX3_boutAt 27 = .ok (.athrow, 1) := by decide +kernel
theorem dX3_boutAt_28 : decode cX3_boutAt 28 = .ok (.aload_n 0, 1) := by decide +kernel
theorem dX3_boutAt_29 : decode cX3_boutAt 29 = .ok (.getfield 16, 3) := by decide +kernel
theorem dX3_boutAt_32 : decode cX3_boutAt 32 = .ok (.iload_n 1, 1) := by decide +kernel
theorem dX3_boutAt_33 : decode cX3_boutAt 33 = .ok (.invokevirtual 124, 3) := by decide +kernel
theorem dX3_boutAt_36 : decode cX3_boutAt 36 = .ok (.checkcast 19, 3) := by decide +kernel
theorem dX3_boutAt_39 : decode cX3_boutAt 39 = .ok (.areturn, 1) := by decide +kernel
set_option maxRecDepth 20000 in
theorem ggX3_liveBoutOn_X3_isPiste : GoodIn wsX3_liveBoutOn wsX3_isPiste := goodIn_r _ [7, 8, 9, 6, 10] (by decide +kernel) (by decide +kernel)
set_option maxRecDepth 20000 in
theorem gX3_liveBoutOn_X3_isPiste : GoodIn wsX3_liveBoutOn (va_wsS RX3 139 yX3_isPiste wsX3_isPiste) := goodIn_app (goodIn_of _ (by decide +kernel)) ggX3_liveBoutOn_X3_isPiste
theorem dX3_liveBoutOn_0 : decode cX3_liveBoutOn 0 = .ok (.iload_n 1, 1) := by decide +kernel
theorem dX3_liveBoutOn_1 : decode cX3_liveBoutOn 1 = .ok (.invokestatic 139, 3) := by decide +kernel
theorem dX3_liveBoutOn_4 : decode cX3_liveBoutOn 4 = .ok (.ifCond .eq 12, 3) := by decide +kernel
theorem dX3_liveBoutOn_7 : decode cX3_liveBoutOn 7 = .ok (.aload_n 0, 1) := by decide +kernel
theorem dX3_liveBoutOn_8 : decode cX3_liveBoutOn 8 = .ok (.getfield 21, 3) := by decide +kernel
theorem dX3_liveBoutOn_11 : decode cX3_liveBoutOn 11 = .ok (.iload_n 1, 1) := by decide +kernel
theorem dX3_liveBoutOn_12 : decode cX3_liveBoutOn 12 = .ok (.aaload, 1) := by decide +kernel
theorem dX3_liveBoutOn_13 : decode cX3_liveBoutOn 13 = .ok (.goto 4, 3) := by decide +kernel
theorem dX3_liveBoutOn_16 : decode cX3_liveBoutOn 16 = .ok (.aconst_null, 1) := by decide +kernel
theorem dX3_liveBoutOn_17 : decode cX3_liveBoutOn 17 = .ok (.astore_n 2, 1) := by decide +kernel
theorem dX3_liveBoutOn_18 : decode cX3_liveBoutOn 18 = .ok (.aload_n 2, 1) := by decide +kernel
theorem dX3_liveBoutOn_19 : decode cX3_liveBoutOn 19 = .ok (.ifnonnull 14, 3) := by decide +kernel
theorem dX3_liveBoutOn_22 : decode cX3_liveBoutOn 22 = .ok (.new 57, 3) := by decide +kernel
theorem dX3_liveBoutOn_25 : decode cX3_liveBoutOn 25 = .ok (.dup, 1) := by decide +kernel
theorem dX3_liveBoutOn_26 : decode cX3_liveBoutOn 26 = .ok (.ldc_w 419, 3) := by decide +kernel
theorem dX3_liveBoutOn_29 : decode cX3_liveBoutOn 29 = .ok (.invokespecial 61, 3) := by decide +kernel
theorem dX3_liveBoutOn_32 : decode cX3_liveBoutOn 32 = .ok (.athrow, 1) := by decide +kernel
theorem dX3_liveBoutOn_33 : decode cX3_liveBoutOn 33 = .ok (.aload_n 2, 1) := by decide +kernel
theorem dX3_liveBoutOn_34 : decode cX3_liveBoutOn 34 = .ok (.areturn, 1) := by decide +kernel
theorem dJ9_max_7cf53_0 : decode cJ9_max_7cf53 0 = .ok (.iload_n 0, 1) := by decide +kernel
theorem dJ9_max_7cf53_1 : decode cJ9_max_7cf53 1 = .ok (.iload_n 1, 1) := by decide +kernel
theorem dJ9_max_7cf53_2 : decode cJ9_max_7cf53 2 = .ok (.if_icmp .lt 7, 3) := by decide +kernel
theorem dJ9_max_7cf53_5 : decode cJ9_max_7cf53 5 = .ok (.iload_n 0, 1) := by decide +kernel
theorem dJ9_max_7cf53_6 : decode cJ9_max_7cf53 6 = .ok (.goto 4, 3) := by decide +kernel
theorem dJ9_max_7cf53_9 : decode cJ9_max_7cf53 9 = .ok (.iload_n 1, 1) := by decide +kernel
theorem dJ9_max_7cf53_10 : decode cJ9_max_7cf53 10 = .ok (.ireturn, 1) := by decide +kernel
theorem dJ9_min_7cf53_0 : decode cJ9_min_7cf53 0 = .ok (.iload_n 0, 1) := by decide +kernel
theorem dJ9_min_7cf53_1 : decode cJ9_min_7cf53 1 = .ok (.iload_n 1, 1) := by decide +kernel
theorem dJ9_min_7cf53_2 : decode cJ9_min_7cf53 2 = .ok (.if_icmp .gt 7, 3) := by decide +kernel
theorem dJ9_min_7cf53_5 : decode cJ9_min_7cf53 5 = .ok (.iload_n 0, 1) := by decide +kernel
theorem dJ9_min_7cf53_6 : decode cJ9_min_7cf53 6 = .ok (.goto 4, 3) := by decide +kernel
theorem dJ9_min_7cf53_9 : decode cJ9_min_7cf53 9 = .ok (.iload_n 1, 1) := by decide +kernel
theorem dJ9_min_7cf53_10 : decode cJ9_min_7cf53 10 = .ok (.ireturn, 1) := by decide +kernel
theorem dJxa1e45_init_da8c8_0 : decode cJxa1e45_init_da8c8 0 = .ok (.aload_n 0, 1) := by decide +kernel
theorem dJxa1e45_init_da8c8_1 : decode cJxa1e45_init_da8c8 1 = .ok (.invokespecial 1, 3) := by decide +kernel
theorem dJxa1e45_init_da8c8_4 : decode cJxa1e45_init_da8c8 4 = .ok (.return_, 1) := by decide +kernel
set_option maxRecDepth 20000 in
theorem ggJxc12de_init_da8c8_Jxa1e45_init_da8c8 : GoodIn wsJxc12de_init_da8c8 wsJxa1e45_init_da8c8 := goodIn_r _ [5, 6, 7, 8] (by decide +kernel) (by decide +kernel)
set_option maxRecDepth 20000 in
theorem gJxc12de_init_da8c8_Jxa1e45_init_da8c8 : GoodIn wsJxc12de_init_da8c8 (wsJxa1e45_init_da8c8) := ggJxc12de_init_da8c8_Jxa1e45_init_da8c8
theorem dJxc12de_init_da8c8_0 : decode cJxc12de_init_da8c8 0 = .ok (.aload_n 0, 1) := by decide +kernel
theorem dJxc12de_init_da8c8_1 : decode cJxc12de_init_da8c8 1 = .ok (.invokespecial 1, 3) := by decide +kernel
theorem dJxc12de_init_da8c8_4 : decode cJxc12de_init_da8c8 4 = .ok (.aload_n 0, 1) := by decide +kernel
theorem dJxc12de_init_da8c8_5 : decode cJxc12de_init_da8c8 5 = .ok (.iconst 0, 1) := by decide +kernel
theorem dJxc12de_init_da8c8_6 : decode cJxc12de_init_da8c8 6 = .ok (.putfield 7, 3) := by decide +kernel
theorem dJxc12de_init_da8c8_9 : decode cJxc12de_init_da8c8 9 = .ok (.return_, 1) := by decide +kernel
set_option maxRecDepth 20000 in
theorem ggJx4a65c_init_da8c8_Jxc12de_init_da8c8 : GoodIn wsJx4a65c_init_da8c8 wsJxc12de_init_da8c8 := goodIn_r _ [6, 7, 8, 9, 10, 11, 12, 13, 14, 15, 16, 17] (by decide +kernel) (by decide +kernel)
set_option maxRecDepth 20000 in
theorem gJx4a65c_init_da8c8_Jxc12de_init_da8c8 : GoodIn wsJx4a65c_init_da8c8 (wsJxc12de_init_da8c8) := ggJx4a65c_init_da8c8_Jxc12de_init_da8c8
theorem dJx4a65c_init_da8c8_0 : decode cJx4a65c_init_da8c8 0 = .ok (.aload_n 0, 1) := by decide +kernel
theorem dJx4a65c_init_da8c8_1 : decode cJx4a65c_init_da8c8 1 = .ok (.invokespecial 1, 3) := by decide +kernel
theorem dJx4a65c_init_da8c8_4 : decode cJx4a65c_init_da8c8 4 = .ok (.aload_n 0, 1) := by decide +kernel
theorem dJx4a65c_init_da8c8_5 : decode cJx4a65c_init_da8c8 5 = .ok (.getstatic 39, 3) := by decide +kernel
theorem dJx4a65c_init_da8c8_8 : decode cJx4a65c_init_da8c8 8 = .ok (.putfield 9, 3) := by decide +kernel
theorem dJx4a65c_init_da8c8_11 : decode cJx4a65c_init_da8c8 11 = .ok (.return_, 1) := by decide +kernel
set_option maxRecDepth 20000 in
theorem ggJx4a65c_grow_92f84_J8_newLength_cabcc : GoodIn wsJx4a65c_grow_92f84 wsJ8_newLength_cabcc := goodIn_r _ [11, 12, 4, 5, 6, 13, 14, 15, 10, 16] (by decide +kernel) (by decide +kernel)
set_option maxRecDepth 20000 in
theorem gJx4a65c_grow_92f84_J8_newLength_cabcc : GoodIn wsJx4a65c_grow_92f84 (va_wsS RJx4a65c 73 yJ8_newLength_cabcc wsJ8_newLength_cabcc) := goodIn_app (goodIn_of _ (by decide +kernel)) ggJx4a65c_grow_92f84_J8_newLength_cabcc
set_option maxRecDepth 20000 in
theorem ggJx4a65c_grow_92f84_J7_copyOf_1904c : GoodIn wsJx4a65c_grow_92f84 wsJ7_copyOf_1904c := goodIn_r _ [20, 21, 22, 23, 24, 25, 26, 19, 27, 28, 29, 30, 31, 5, 32, 33, 34, 35, 36] (by decide +kernel) (by decide +kernel)
set_option maxRecDepth 20000 in
theorem gJx4a65c_grow_92f84_J7_copyOf_1904c : GoodIn wsJx4a65c_grow_92f84 (va_wsS RJx4a65c 66 yJ7_copyOf_1904c wsJ7_copyOf_1904c) := goodIn_app (goodIn_of _ (by decide +kernel)) ggJx4a65c_grow_92f84_J7_copyOf_1904c
theorem dJx4a65c_grow_92f84_0 : decode cJx4a65c_grow_92f84 0 = .ok (.aload_n 0, 1) := by decide +kernel
theorem dJx4a65c_grow_92f84_1 : decode cJx4a65c_grow_92f84 1 = .ok (.getfield 9, 3) := by decide +kernel
theorem dJx4a65c_grow_92f84_4 : decode cJx4a65c_grow_92f84 4 = .ok (.arraylength, 1) := by decide +kernel
theorem dJx4a65c_grow_92f84_5 : decode cJx4a65c_grow_92f84 5 = .ok (.istore_n 2, 1) := by decide +kernel
theorem dJx4a65c_grow_92f84_6 : decode cJx4a65c_grow_92f84 6 = .ok (.iload_n 2, 1) := by decide +kernel
theorem dJx4a65c_grow_92f84_7 : decode cJx4a65c_grow_92f84 7 = .ok (.ifCond .gt 13, 3) := by decide +kernel
theorem dJx4a65c_grow_92f84_10 : decode cJx4a65c_grow_92f84 10 = .ok (.aload_n 0, 1) := by decide +kernel
theorem dJx4a65c_grow_92f84_11 : decode cJx4a65c_grow_92f84 11 = .ok (.getfield 9, 3) := by decide +kernel
theorem dJx4a65c_grow_92f84_14 : decode cJx4a65c_grow_92f84 14 = .ok (.getstatic 39, 3) := by decide +kernel
theorem dJx4a65c_grow_92f84_17 : decode cJx4a65c_grow_92f84 17 = .ok (.if_acmp .eq 28, 3) := by decide +kernel
theorem dJx4a65c_grow_92f84_20 : decode cJx4a65c_grow_92f84 20 = .ok (.iload_n 2, 1) := by decide +kernel
theorem dJx4a65c_grow_92f84_21 : decode cJx4a65c_grow_92f84 21 = .ok (.iload_n 1, 1) := by decide +kernel
theorem dJx4a65c_grow_92f84_22 : decode cJx4a65c_grow_92f84 22 = .ok (.iload_n 2, 1) := by decide +kernel
theorem dJx4a65c_grow_92f84_23 : decode cJx4a65c_grow_92f84 23 = .ok (.isub, 1) := by decide +kernel
theorem dJx4a65c_grow_92f84_24 : decode cJx4a65c_grow_92f84 24 = .ok (.iload_n 2, 1) := by decide +kernel
theorem dJx4a65c_grow_92f84_25 : decode cJx4a65c_grow_92f84 25 = .ok (.iconst 1, 1) := by decide +kernel
theorem dJx4a65c_grow_92f84_26 : decode cJx4a65c_grow_92f84 26 = .ok (.ishr, 1) := by decide +kernel
theorem dJx4a65c_grow_92f84_27 : decode cJx4a65c_grow_92f84 27 = .ok (.invokestatic 73, 3) := by decide +kernel
theorem dJx4a65c_grow_92f84_30 : decode cJx4a65c_grow_92f84 30 = .ok (.istore_n 3, 1) := by decide +kernel
theorem dJx4a65c_grow_92f84_31 : decode cJx4a65c_grow_92f84 31 = .ok (.aload_n 0, 1) := by decide +kernel
theorem dJx4a65c_grow_92f84_32 : decode cJx4a65c_grow_92f84 32 = .ok (.aload_n 0, 1) := by decide +kernel
theorem dJx4a65c_grow_92f84_33 : decode cJx4a65c_grow_92f84 33 = .ok (.getfield 9, 3) := by decide +kernel
theorem dJx4a65c_grow_92f84_36 : decode cJx4a65c_grow_92f84 36 = .ok (.iload_n 3, 1) := by decide +kernel
theorem dJx4a65c_grow_92f84_37 : decode cJx4a65c_grow_92f84 37 = .ok (.invokestatic 66, 3) := by decide +kernel
theorem dJx4a65c_grow_92f84_40 : decode cJx4a65c_grow_92f84 40 = .ok (.dup_x1, 1) := by decide +kernel
theorem dJx4a65c_grow_92f84_41 : decode cJx4a65c_grow_92f84 41 = .ok (.putfield 9, 3) := by decide +kernel
theorem dJx4a65c_grow_92f84_44 : decode cJx4a65c_grow_92f84 44 = .ok (.areturn, 1) := by decide +kernel
theorem dJx4a65c_grow_92f84_45 : decode cJx4a65c_grow_92f84 45 = .ok (.aload_n 0, 1) := by decide +kernel
theorem dJx4a65c_grow_92f84_46 : decode cJx4a65c_grow_92f84 46 = .ok (.bipush 10, 2) := by decide +kernel
theorem dJx4a65c_grow_92f84_48 : decode cJx4a65c_grow_92f84 48 = .ok (.iload_n 1, 1) := by decide +kernel
theorem dJx4a65c_grow_92f84_49 : decode cJx4a65c_grow_92f84 49 = .ok (.invokestatic 79, 3) := by decide +kernel
theorem dJx4a65c_grow_92f84_52 : decode cJx4a65c_grow_92f84 52 = .ok (.anewarray 7, 3) := by decide +kernel
theorem dJx4a65c_grow_92f84_55 : decode cJx4a65c_grow_92f84 55 = .ok (.dup_x1, 1) := by decide +kernel
theorem dJx4a65c_grow_92f84_56 : decode cJx4a65c_grow_92f84 56 = .ok (.putfield 9, 3) := by decide +kernel
theorem dJx4a65c_grow_92f84_59 : decode cJx4a65c_grow_92f84 59 = .ok (.areturn, 1) := by decide +kernel
set_option maxRecDepth 20000 in
theorem ggJx4a65c_grow_d5877_Jx4a65c_grow_92f84 : GoodIn wsJx4a65c_grow_d5877 wsJx4a65c_grow_92f84 := goodIn_r _ [6, 7, 8, 9, 10, 11, 12, 13, 14, 15, 16, 17, 18, 19, 20, 21, 22, 23, 24, 25, 26, 27, 28, 29, 30, 31, 32, 33, 34, 35, 36, 37, 38, 39, 40, 41, 42, 43, 44, 45] (by decide +kernel) (by decide +kernel)
set_option maxRecDepth 20000 in
theorem gJx4a65c_grow_d5877_Jx4a65c_grow_92f84 : GoodIn wsJx4a65c_grow_d5877 (wsV RJx4a65c 69 RJx4a65c yJx4a65c_grow_92f84 wsJx4a65c_grow_92f84) := goodIn_app (goodIn_of _ (by decide +kernel)) ggJx4a65c_grow_d5877_Jx4a65c_grow_92f84
theorem dJx4a65c_grow_d5877_0 : decode cJx4a65c_grow_d5877 0 = .ok (.aload_n 0, 1) := by decide +kernel
theorem dJx4a65c_grow_d5877_1 : decode cJx4a65c_grow_d5877 1 = .ok (.aload_n 0, 1) := by decide +kernel
theorem dJx4a65c_grow_d5877_2 : decode cJx4a65c_grow_d5877 2 = .ok (.getfield 48, 3) := by decide +kernel
theorem dJx4a65c_grow_d5877_5 : decode cJx4a65c_grow_d5877 5 = .ok (.iconst 1, 1) := by decide +kernel
theorem dJx4a65c_grow_d5877_6 : decode cJx4a65c_grow_d5877 6 = .ok (.iadd, 1) := by decide +kernel
theorem dJx4a65c_grow_d5877_7 : decode cJx4a65c_grow_d5877 7 = .ok (.invokevirtual 69, 3) := by decide +kernel
theorem dJx4a65c_grow_d5877_10 : decode cJx4a65c_grow_d5877 10 = .ok (.areturn, 1) := by decide +kernel
theorem dJx4a65c_size_8abf5_0 : decode cJx4a65c_size_8abf5 0 = .ok (.aload_n 0, 1) := by decide +kernel
theorem dJx4a65c_size_8abf5_1 : decode cJx4a65c_size_8abf5 1 = .ok (.getfield 48, 3) := by decide +kernel
theorem dJx4a65c_size_8abf5_4 : decode cJx4a65c_size_8abf5 4 = .ok (.ireturn, 1) := by decide +kernel
theorem dJx4a65c_elementData_915e3_0 : decode cJx4a65c_elementData_915e3 0 = .ok (.aload_n 0, 1) := by decide +kernel
theorem dJx4a65c_elementData_915e3_1 : decode cJx4a65c_elementData_915e3 1 = .ok (.getfield 9, 3) := by decide +kernel
theorem dJx4a65c_elementData_915e3_4 : decode cJx4a65c_elementData_915e3 4 = .ok (.iload_n 1, 1) := by decide +kernel
theorem dJx4a65c_elementData_915e3_5 : decode cJx4a65c_elementData_915e3 5 = .ok (.aaload, 1) := by decide +kernel
theorem dJx4a65c_elementData_915e3_6 : decode cJx4a65c_elementData_915e3 6 = .ok (.areturn, 1) := by decide +kernel
set_option maxRecDepth 20000 in
theorem ggJx4a65c_get_915e3_J15_checkIndex_7cf53 : GoodIn wsJx4a65c_get_915e3 wsJ15_checkIndex_7cf53 := goodIn_r _ [5, 6, 7, 8, 9] (by decide +kernel) (by decide +kernel)
set_option maxRecDepth 20000 in
theorem gJx4a65c_get_915e3_J15_checkIndex_7cf53 : GoodIn wsJx4a65c_get_915e3 (va_wsS RJx4a65c 118 yJ15_checkIndex_7cf53 wsJ15_checkIndex_7cf53) := goodIn_app (goodIn_of _ (by decide +kernel)) ggJx4a65c_get_915e3_J15_checkIndex_7cf53
set_option maxRecDepth 20000 in
theorem ggJx4a65c_get_915e3_Jx4a65c_elementData_915e3 : GoodIn wsJx4a65c_get_915e3 wsJx4a65c_elementData_915e3 := goodIn_r _ [14, 15, 16, 17, 18] (by decide +kernel) (by decide +kernel)
set_option maxRecDepth 20000 in
theorem gJx4a65c_get_915e3_Jx4a65c_elementData_915e3 : GoodIn wsJx4a65c_get_915e3 (wsV RJx4a65c 123 RJx4a65c yJx4a65c_elementData_915e3 wsJx4a65c_elementData_915e3) := goodIn_app (goodIn_of _ (by decide +kernel)) ggJx4a65c_get_915e3_Jx4a65c_elementData_915e3
theorem dJx4a65c_get_915e3_0 : decode cJx4a65c_get_915e3 0 = .ok (.iload_n 1, 1) := by decide +kernel
theorem dJx4a65c_get_915e3_1 : decode cJx4a65c_get_915e3 1 = .ok (.aload_n 0, 1) := by decide +kernel
theorem dJx4a65c_get_915e3_2 : decode cJx4a65c_get_915e3 2 = .ok (.getfield 48, 3) := by decide +kernel
theorem dJx4a65c_get_915e3_5 : decode cJx4a65c_get_915e3 5 = .ok (.invokestatic 118, 3) := by decide +kernel
theorem dJx4a65c_get_915e3_8 : decode cJx4a65c_get_915e3 8 = .ok (.pop, 1) := by decide +kernel
theorem dJx4a65c_get_915e3_9 : decode cJx4a65c_get_915e3 9 = .ok (.aload_n 0, 1) := by decide +kernel
theorem dJx4a65c_get_915e3_10 : decode cJx4a65c_get_915e3 10 = .ok (.iload_n 1, 1) := by decide +kernel
theorem dJx4a65c_get_915e3_11 : decode cJx4a65c_get_915e3 11 = .ok (.invokevirtual 123, 3) := by decide +kernel
theorem dJx4a65c_get_915e3_14 : decode cJx4a65c_get_915e3 14 = .ok (.areturn, 1) := by decide +kernel
set_option maxRecDepth 20000 in
theorem ggJx4a65c_add_72be8_Jx4a65c_grow_d5877 : GoodIn wsJx4a65c_add_72be8 wsJx4a65c_grow_d5877 := goodIn_r _ [6, 1, 7, 8, 9, 5, 10, 11, 12, 13, 14, 15, 16, 17, 18, 19, 20, 21, 22, 23, 24, 25, 26, 27, 28, 29, 30, 31, 32, 33, 34, 35, 36, 37, 38, 39, 40, 41, 42, 43, 44, 45, 46, 47, 48, 49] (by decide +kernel) (by decide +kernel)
set_option maxRecDepth 20000 in
theorem gJx4a65c_add_72be8_Jx4a65c_grow_d5877 : GoodIn wsJx4a65c_add_72be8 (wsV RJx4a65c 129 RJx4a65c yJx4a65c_grow_d5877 wsJx4a65c_grow_d5877) := goodIn_app (goodIn_of _ (by decide +kernel)) ggJx4a65c_add_72be8_Jx4a65c_grow_d5877
theorem dJx4a65c_add_72be8_0 : decode cJx4a65c_add_72be8 0 = .ok (.iload_n 3, 1) := by decide +kernel
theorem dJx4a65c_add_72be8_1 : decode cJx4a65c_add_72be8 1 = .ok (.aload_n 2, 1) := by decide +kernel
theorem dJx4a65c_add_72be8_2 : decode cJx4a65c_add_72be8 2 = .ok (.arraylength, 1) := by decide +kernel
theorem dJx4a65c_add_72be8_3 : decode cJx4a65c_add_72be8 3 = .ok (.if_icmp .ne 8, 3) := by decide +kernel
theorem dJx4a65c_add_72be8_6 : decode cJx4a65c_add_72be8 6 = .ok (.aload_n 0, 1) := by decide +kernel
theorem dJx4a65c_add_72be8_7 : decode cJx4a65c_add_72be8 7 = .ok (.invokevirtual 129, 3) := by decide +kernel
theorem dJx4a65c_add_72be8_10 : decode cJx4a65c_add_72be8 10 = .ok (.astore_n 2, 1) := by decide +kernel
theorem dJx4a65c_add_72be8_11 : decode cJx4a65c_add_72be8 11 = .ok (.aload_n 2, 1) := by decide +kernel
theorem dJx4a65c_add_72be8_12 : decode cJx4a65c_add_72be8 12 = .ok (.iload_n 3, 1) := by decide +kernel
theorem dJx4a65c_add_72be8_13 : decode cJx4a65c_add_72be8 13 = .ok (.aload_n 1, 1) := by decide +kernel
theorem dJx4a65c_add_72be8_14 : decode cJx4a65c_add_72be8 14 = .ok (.aastore, 1) := by decide +kernel
theorem dJx4a65c_add_72be8_15 : decode cJx4a65c_add_72be8 15 = .ok (.aload_n 0, 1) := by decide +kernel
theorem dJx4a65c_add_72be8_16 : decode cJx4a65c_add_72be8 16 = .ok (.iload_n 3, 1) := by decide +kernel
theorem dJx4a65c_add_72be8_17 : decode cJx4a65c_add_72be8 17 = .ok (.iconst 1, 1) := by decide +kernel
theorem dJx4a65c_add_72be8_18 : decode cJx4a65c_add_72be8 18 = .ok (.iadd, 1) := by decide +kernel
theorem dJx4a65c_add_72be8_19 : decode cJx4a65c_add_72be8 19 = .ok (.putfield 48, 3) := by decide +kernel
theorem dJx4a65c_add_72be8_22 : decode cJx4a65c_add_72be8 22 = .ok (.return_, 1) := by decide +kernel
set_option maxRecDepth 20000 in
theorem ggJx4a65c_add_9ea2d_Jx4a65c_add_72be8 : GoodIn wsJx4a65c_add_9ea2d wsJx4a65c_add_72be8 := goodIn_r _ [9, 4, 10, 11, 12, 8, 13, 14, 15, 16, 17, 3, 18, 19, 20, 21, 22, 23, 24, 25, 26, 27, 28, 29, 30, 31, 32, 33, 34, 35, 36, 37, 38, 39, 40, 41, 42, 43, 44, 45, 46, 47, 48, 49, 50, 51, 52, 53, 54, 55] (by decide +kernel) (by decide +kernel)
set_option maxRecDepth 20000 in
theorem gJx4a65c_add_9ea2d_Jx4a65c_add_72be8 : GoodIn wsJx4a65c_add_9ea2d (wsV RJx4a65c 131 RJx4a65c yJx4a65c_add_72be8 wsJx4a65c_add_72be8) := goodIn_app (goodIn_of _ (by decide +kernel)) ggJx4a65c_add_9ea2d_Jx4a65c_add_72be8
theorem dJx4a65c_add_9ea2d_0 : decode cJx4a65c_add_9ea2d 0 = .ok (.aload_n 0, 1) := by decide +kernel
theorem dJx4a65c_add_9ea2d_1 : decode cJx4a65c_add_9ea2d 1 = .ok (.dup, 1) := by decide +kernel
theorem dJx4a65c_add_9ea2d_2 : decode cJx4a65c_add_9ea2d 2 = .ok (.getfield 63, 3) := by decide +kernel
theorem dJx4a65c_add_9ea2d_5 : decode cJx4a65c_add_9ea2d 5 = .ok (.iconst 1, 1) := by decide +kernel
theorem dJx4a65c_add_9ea2d_6 : decode cJx4a65c_add_9ea2d 6 = .ok (.iadd, 1) := by decide +kernel
theorem dJx4a65c_add_9ea2d_7 : decode cJx4a65c_add_9ea2d 7 = .ok (.putfield 63, 3) := by decide +kernel
theorem dJx4a65c_add_9ea2d_10 : decode cJx4a65c_add_9ea2d 10 = .ok (.aload_n 0, 1) := by decide +kernel
theorem dJx4a65c_add_9ea2d_11 : decode cJx4a65c_add_9ea2d 11 = .ok (.aload_n 1, 1) := by decide +kernel
theorem dJx4a65c_add_9ea2d_12 : decode cJx4a65c_add_9ea2d 12 = .ok (.aload_n 0, 1) := by decide +kernel
theorem dJx4a65c_add_9ea2d_13 : decode cJx4a65c_add_9ea2d 13 = .ok (.getfield 9, 3) := by decide +kernel
theorem dJx4a65c_add_9ea2d_16 : decode cJx4a65c_add_9ea2d 16 = .ok (.aload_n 0, 1) := by decide +kernel
theorem dJx4a65c_add_9ea2d_17 : decode cJx4a65c_add_9ea2d 17 = .ok (.getfield 48, 3) := by decide +kernel
theorem dJx4a65c_add_9ea2d_20 : decode cJx4a65c_add_9ea2d 20 = .ok (.invokevirtual 131, 3) := by decide +kernel
theorem dJx4a65c_add_9ea2d_23 : decode cJx4a65c_add_9ea2d 23 = .ok (.iconst 1, 1) := by decide +kernel
theorem dJx4a65c_add_9ea2d_24 : decode cJx4a65c_add_9ea2d 24 = .ok (.ireturn, 1) := by decide +kernel
set_option maxRecDepth 20000 in
theorem ggJ7_copyOf_1904c_J7_copyOf_6403c : GoodIn wsJ7_copyOf_1904c wsJ7_copyOf_6403c := goodIn_r _ [8, 9, 10, 11, 12, 13, 14, 15, 16, 17, 18] (by decide +kernel) (by decide +kernel)
set_option maxRecDepth 20000 in
theorem gJ7_copyOf_1904c_J7_copyOf_6403c : GoodIn wsJ7_copyOf_1904c (va_wsS RJ7 300 yJ7_copyOf_6403c wsJ7_copyOf_6403c) := goodIn_app (goodIn_of _ (by decide +kernel)) ggJ7_copyOf_1904c_J7_copyOf_6403c
theorem dJ7_copyOf_1904c_0 : decode cJ7_copyOf_1904c 0 = .ok (.aload_n 0, 1) := by decide +kernel
theorem dJ7_copyOf_1904c_1 : decode cJ7_copyOf_1904c 1 = .ok (.iload_n 1, 1) := by decide +kernel
theorem dJ7_copyOf_1904c_2 : decode cJ7_copyOf_1904c 2 = .ok (.aload_n 0, 1) := by decide +kernel
theorem dJ7_copyOf_1904c_3 : decode cJ7_copyOf_1904c 3 = .ok (.invokevirtual 86, 3) := by decide +kernel
theorem dJ7_copyOf_1904c_6 : decode cJ7_copyOf_1904c 6 = .ok (.invokestatic 300, 3) := by decide +kernel
theorem dJ7_copyOf_1904c_9 : decode cJ7_copyOf_1904c 9 = .ok (.areturn, 1) := by decide +kernel
theorem dJ7_copyOf_6403c_0 : decode cJ7_copyOf_6403c 0 = .ok (.aload_n 2, 1) := by decide +kernel
theorem dJ7_copyOf_6403c_1 : decode cJ7_copyOf_6403c 1 = .ok (.ldc 110, 2) := by decide +kernel
theorem dJ7_copyOf_6403c_3 : decode cJ7_copyOf_6403c 3 = .ok (.if_acmp .ne 10, 3) := by decide +kernel
theorem dJ7_copyOf_6403c_6 : decode cJ7_copyOf_6403c 6 = .ok (.iload_n 1, 1) := by decide +kernel
theorem dJ7_copyOf_6403c_7 : decode cJ7_copyOf_6403c 7 = .ok (.anewarray 2, 3) := by decide +kernel
theorem dJ7_copyOf_6403c_10 : decode cJ7_copyOf_6403c 10 = .ok (.goto 14, 3) := by decide +kernel
theorem dJ7_copyOf_6403c_13 : decode cJ7_copyOf_6403c 13 = .ok (.aload_n 2, 1) := by decide +kernel
theorem dJ7_copyOf_6403c_14 : decode cJ7_copyOf_6403c 14 = .ok (.invokevirtual 90, 3) := by decide +kernel
theorem dJ7_copyOf_6403c_17 : decode cJ7_copyOf_6403c 17 = .ok (.iload_n 1, 1) := by decide +kernel
theorem dJ7_copyOf_6403c_18 : decode cJ7_copyOf_6403c 18 = .ok (.invokestatic 95, 3) := by decide +kernel
theorem dJ7_copyOf_6403c_21 : decode cJ7_copyOf_6403c 21 = .ok (.checkcast 110, 3) := by decide +kernel
theorem dJ7_copyOf_6403c_24 : decode cJ7_copyOf_6403c 24 = .ok (.astore_n 3, 1) := by decide +kernel
theorem dJ7_copyOf_6403c_25 : decode cJ7_copyOf_6403c 25 = .ok (.aload_n 0, 1) := by decide +kernel
theorem dJ7_copyOf_6403c_26 : decode cJ7_copyOf_6403c 26 = .ok (.iconst 0, 1) := by decide +kernel
theorem dJ7_copyOf_6403c_27 : decode cJ7_copyOf_6403c 27 = .ok (.aload_n 3, 1) := by decide +kernel
theorem dJ7_copyOf_6403c_28 : decode cJ7_copyOf_6403c 28 = .ok (.iconst 0, 1) := by decide +kernel
theorem dJ7_copyOf_6403c_29 : decode cJ7_copyOf_6403c 29 = .ok (.aload_n 0, 1) := by decide +kernel
theorem dJ7_copyOf_6403c_30 : decode cJ7_copyOf_6403c 30 = .ok (.arraylength, 1) := by decide +kernel
theorem dJ7_copyOf_6403c_31 : decode cJ7_copyOf_6403c 31 = .ok (.iload_n 1, 1) := by decide +kernel
theorem dJ7_copyOf_6403c_32 : decode cJ7_copyOf_6403c 32 = .ok (.invokestatic 304, 3) := by decide +kernel
theorem dJ7_copyOf_6403c_35 : decode cJ7_copyOf_6403c 35 = .ok (.invokestatic 150, 3) := by decide +kernel
theorem dJ7_copyOf_6403c_38 : decode cJ7_copyOf_6403c 38 = .ok (.aload_n 3, 1) := by decide +kernel
theorem dJ7_copyOf_6403c_39 : decode cJ7_copyOf_6403c 39 = .ok (.areturn, 1) := by decide +kernel
set_option maxRecDepth 20000 in
theorem ggJ15_checkIndex_7cf53_J3_checkIndex_8e157 : GoodIn wsJ15_checkIndex_7cf53 wsJ3_checkIndex_8e157 := goodIn_r _ [4] (by decide +kernel) (by decide +kernel)
set_option maxRecDepth 20000 in
theorem gJ15_checkIndex_7cf53_J3_checkIndex_8e157 : GoodIn wsJ15_checkIndex_7cf53 (va_wsS RJ15 105 yJ3_checkIndex_8e157 wsJ3_checkIndex_8e157) := goodIn_app (goodIn_of _ (by decide +kernel)) ggJ15_checkIndex_7cf53_J3_checkIndex_8e157
theorem dJ15_checkIndex_7cf53_0 : decode cJ15_checkIndex_7cf53 0 = .ok (.iload_n 0, 1) := by decide +kernel
theorem dJ15_checkIndex_7cf53_1 : decode cJ15_checkIndex_7cf53 1 = .ok (.iload_n 1, 1) := by decide +kernel
theorem dJ15_checkIndex_7cf53_2 : decode cJ15_checkIndex_7cf53 2 = .ok (.aconst_null, 1) := by decide +kernel
theorem dJ15_checkIndex_7cf53_3 : decode cJ15_checkIndex_7cf53 3 = .ok (.invokestatic 105, 3) := by decide +kernel
theorem dJ15_checkIndex_7cf53_6 : decode cJ15_checkIndex_7cf53 6 = .ok (.ireturn, 1) := by decide +kernel
set_option maxRecDepth 20000 in
theorem ggJ8_newLength_cabcc_J8_hugeLength_7cf53 : GoodIn wsJ8_newLength_cabcc wsJ8_hugeLength_7cf53 := goodIn_r _ [9, 5] (by decide +kernel) (by decide +kernel)
set_option maxRecDepth 20000 in
theorem gJ8_newLength_cabcc_J8_hugeLength_7cf53 : GoodIn wsJ8_newLength_cabcc (va_wsS RJ8 201 yJ8_hugeLength_7cf53 wsJ8_hugeLength_7cf53) := goodIn_app (goodIn_of _ (by decide +kernel)) ggJ8_newLength_cabcc_J8_hugeLength_7cf53
theorem dJ8_newLength_cabcc_0 : decode cJ8_newLength_cabcc 0 = .ok (.iload_n 0, 1) := by decide +kernel
theorem dJ8_newLength_cabcc_1 : decode cJ8_newLength_cabcc 1 = .ok (.iload_n 1, 1) := by decide +kernel
theorem dJ8_newLength_cabcc_2 : decode cJ8_newLength_cabcc 2 = .ok (.iload_n 2, 1) := by decide +kernel
theorem dJ8_newLength_cabcc_3 : decode cJ8_newLength_cabcc 3 = .ok (.invokestatic 194, 3) := by decide +kernel
theorem dJ8_newLength_cabcc_6 : decode cJ8_newLength_cabcc 6 = .ok (.iadd, 1) := by decide +kernel
theorem dJ8_newLength_cabcc_7 : decode cJ8_newLength_cabcc 7 = .ok (.istore_n 3, 1) := by decide +kernel
theorem dJ8_newLength_cabcc_8 : decode cJ8_newLength_cabcc 8 = .ok (.iconst 0, 1) := by decide +kernel
theorem dJ8_newLength_cabcc_9 : decode cJ8_newLength_cabcc 9 = .ok (.iload_n 3, 1) := by decide +kernel
theorem dJ8_newLength_cabcc_10 : decode cJ8_newLength_cabcc 10 = .ok (.if_icmp .ge 11, 3) := by decide +kernel
theorem dJ8_newLength_cabcc_13 : decode cJ8_newLength_cabcc 13 = .ok (.iload_n 3, 1) := by decide +kernel
theorem dJ8_newLength_cabcc_14 : decode cJ8_newLength_cabcc 14 = .ok (.ldc 200, 2) := by decide +kernel
theorem dJ8_newLength_cabcc_16 : decode cJ8_newLength_cabcc 16 = .ok (.if_icmp .gt 5, 3) := by decide +kernel
theorem dJ8_newLength_cabcc_19 : decode cJ8_newLength_cabcc 19 = .ok (.iload_n 3, 1) := by decide +kernel
theorem dJ8_newLength_cabcc_20 : decode cJ8_newLength_cabcc 20 = .ok (.ireturn, 1) := by decide +kernel
theorem dJ8_newLength_cabcc_21 : decode cJ8_newLength_cabcc 21 = .ok (.iload_n 0, 1) := by decide +kernel
theorem dJ8_newLength_cabcc_22 : decode cJ8_newLength_cabcc 22 = .ok (.iload_n 1, 1) := by decide +kernel
theorem dJ8_newLength_cabcc_23 : decode cJ8_newLength_cabcc 23 = .ok (.invokestatic 201, 3) := by decide +kernel
theorem dJ8_newLength_cabcc_26 : decode cJ8_newLength_cabcc 26 = .ok (.ireturn, 1) := by decide +kernel
theorem dJ8_hugeLength_7cf53_0 : decode cJ8_hugeLength_7cf53 0 = .ok (.iload_n 0, 1) := by decide +kernel
theorem dJ8_hugeLength_7cf53_1 : decode cJ8_hugeLength_7cf53 1 = .ok (.iload_n 1, 1) := by decide +kernel
theorem dJ8_hugeLength_7cf53_2 : decode cJ8_hugeLength_7cf53 2 = .ok (.iadd, 1) := by decide +kernel
theorem dJ8_hugeLength_7cf53_3 : decode cJ8_hugeLength_7cf53 3 = .ok (.istore_n 2, 1) := by decide +kernel
theorem dJ8_hugeLength_7cf53_4 : decode cJ8_hugeLength_7cf53 4 = .ok (.iload_n 2, 1) := by decide +kernel
theorem dJ8_hugeLength_7cf53_5 : decode cJ8_hugeLength_7cf53 5 = .ok (.ifCond .ge 44, 3) := by decide +kernel
theorem dJ8_hugeLength_7cf53_8 : decode cJ8_hugeLength_7cf53 8 = .ok (.new 204, 3) := by decide +kernel
theorem dJ8_hugeLength_7cf53_11 : decode cJ8_hugeLength_7cf53 11 = .ok (.dup, 1) := by decide +kernel
theorem dJ8_hugeLength_7cf53_12 : decode cJ8_hugeLength_7cf53 12 = .ok (.new 89, 3) := by decide +kernel
theorem dJ8_hugeLength_7cf53_15 : decode cJ8_hugeLength_7cf53 15 = .ok (.dup, 1) := by decide +kernel
theorem dJ8_hugeLength_7cf53_16 : decode cJ8_hugeLength_7cf53 16 = .ok (.invokespecial 91, 3) := by decide +kernel
theorem dJ8_hugeLength_7cf53_19 : decode cJ8_hugeLength_7cf53 19 = .ok (.ldc 206, 2) := by decide +kernel
theorem dJ8_hugeLength_7cf53_21 : decode cJ8_hugeLength_7cf53 21 = .ok (.invokevirtual 94, 3) := by decide +kernel
theorem dJ8_hugeLength_7cf53_24 : decode cJ8_hugeLength_7cf53 24 = .ok (.iload_n 0, 1) := by decide +kernel
theorem dJ8_hugeLength_7cf53_25 : decode cJ8_hugeLength_7cf53 25 = .ok (.invokevirtual 98, 3) := by decide +kernel
theorem dJ8_hugeLength_7cf53_28 : decode cJ8_hugeLength_7cf53 28 = .ok (.ldc 208, 2) := by decide +kernel
theorem dJ8_hugeLength_7cf53_30 : decode cJ8_hugeLength_7cf53 30 = .ok (.invokevirtual 94, 3) := by decide +kernel
theorem dJ8_hugeLength_7cf53_33 : decode cJ8_hugeLength_7cf53 33 = .ok (.iload_n 1, 1) := by decide +kernel
theorem dJ8_hugeLength_7cf53_34 : decode cJ8_hugeLength_7cf53 34 = .ok (.invokevirtual 98, 3) := by decide +kernel
theorem dJ8_hugeLength_7cf53_37 : decode cJ8_hugeLength_7cf53 37 = .ok (.ldc 210, 2) := by decide +kernel
theorem dJ8_hugeLength_7cf53_39 : decode cJ8_hugeLength_7cf53 39 = .ok (.invokevirtual 94, 3) := by decide +kernel
theorem dJ8_hugeLength_7cf53_42 : decode cJ8_hugeLength_7cf53 42 = .ok (.invokevirtual 101, 3) := by decide +kernel
theorem dJ8_hugeLength_7cf53_45 : decode cJ8_hugeLength_7cf53 45 = .ok (.invokespecial 212, 3) := by decide +kernel
theorem dJ8_hugeLength_7cf53_48 : decode cJ8_hugeLength_7cf53 48 = .ok (.athrow, 1) := by decide +kernel
theorem dJ8_hugeLength_7cf53_49 : decode cJ8_hugeLength_7cf53 49 = .ok (.iload_n 2, 1) := by decide +kernel
theorem dJ8_hugeLength_7cf53_50 : decode cJ8_hugeLength_7cf53 50 = .ok (.ldc 200, 2) := by decide +kernel
theorem dJ8_hugeLength_7cf53_52 : decode cJ8_hugeLength_7cf53 52 = .ok (.if_icmp .gt 6, 3) := by decide +kernel
theorem dJ8_hugeLength_7cf53_55 : decode cJ8_hugeLength_7cf53 55 = .ok (.ldc 200, 2) := by decide +kernel
theorem dJ8_hugeLength_7cf53_57 : decode cJ8_hugeLength_7cf53 57 = .ok (.ireturn, 1) := by decide +kernel
theorem dJ8_hugeLength_7cf53_58 : decode cJ8_hugeLength_7cf53 58 = .ok (.iload_n 2, 1) := by decide +kernel
theorem dJ8_hugeLength_7cf53_59 : decode cJ8_hugeLength_7cf53 59 = .ok (.ireturn, 1) := by decide +kernel
theorem dJ3_checkIndex_8e157_0 : decode cJ3_checkIndex_8e157 0 = .ok (.iload_n 0, 1) := by decide +kernel
theorem dJ3_checkIndex_8e157_1 : decode cJ3_checkIndex_8e157 1 = .ok (.ifCond .lt 8, 3) := by decide +kernel
theorem dJ3_checkIndex_8e157_4 : decode cJ3_checkIndex_8e157 4 = .ok (.iload_n 0, 1) := by decide +kernel
theorem dJ3_checkIndex_8e157_5 : decode cJ3_checkIndex_8e157 5 = .ok (.iload_n 1, 1) := by decide +kernel
theorem dJ3_checkIndex_8e157_6 : decode cJ3_checkIndex_8e157 6 = .ok (.if_icmp .lt 10, 3) := by decide +kernel
theorem dJ3_checkIndex_8e157_9 : decode cJ3_checkIndex_8e157 9 = .ok (.aload_n 2, 1) := by decide +kernel
theorem dJ3_checkIndex_8e157_10 : decode cJ3_checkIndex_8e157 10 = .ok (.iload_n 0, 1) := by decide +kernel
theorem dJ3_checkIndex_8e157_11 : decode cJ3_checkIndex_8e157 11 = .ok (.iload_n 1, 1) := by decide +kernel
theorem dJ3_checkIndex_8e157_12 : decode cJ3_checkIndex_8e157 12 = .ok (.invokestatic 95, 3) := by decide +kernel
theorem dJ3_checkIndex_8e157_15 : decode cJ3_checkIndex_8e157 15 = .ok (.athrow, 1) := by decide +kernel
theorem dJ3_checkIndex_8e157_16 : decode cJ3_checkIndex_8e157 16 = .ok (.iload_n 0, 1) := by decide +kernel
theorem dJ3_checkIndex_8e157_17 : decode cJ3_checkIndex_8e157 17 = .ok (.ireturn, 1) := by decide +kernel
theorem dL_below_0 : decode cL_below 0 = .ok (.iload_n 0, 1) := by decide +kernel
theorem dL_below_1 : decode cL_below 1 = .ok (.ldc 7, 2) := by decide +kernel
theorem dL_below_3 : decode cL_below 3 = .ok (.iand, 1) := by decide +kernel
theorem dL_below_4 : decode cL_below 4 = .ok (.iload_n 1, 1) := by decide +kernel
theorem dL_below_5 : decode cL_below 5 = .ok (.irem, 1) := by decide +kernel
theorem dL_below_6 : decode cL_below 6 = .ok (.ireturn, 1) := by decide +kernel
theorem dL_cell_0 : decode cL_cell 0 = .ok (.iload_n 1, 1) := by decide +kernel
theorem dL_cell_1 : decode cL_cell 1 = .ok (.aload_n 0, 1) := by decide +kernel
theorem dL_cell_2 : decode cL_cell 2 = .ok (.arraylength, 1) := by decide +kernel
theorem dL_cell_3 : decode cL_cell 3 = .ok (.if_icmp .ge 9, 3) := by decide +kernel
theorem dL_cell_6 : decode cL_cell 6 = .ok (.aload_n 0, 1) := by decide +kernel
theorem dL_cell_7 : decode cL_cell 7 = .ok (.iload_n 1, 1) := by decide +kernel
theorem dL_cell_8 : decode cL_cell 8 = .ok (.iaload, 1) := by decide +kernel
theorem dL_cell_9 : decode cL_cell 9 = .ok (.goto 9, 3) := by decide +kernel
theorem dL_cell_12 : decode cL_cell 12 = .ok (.ldc 8, 2) := by decide +kernel
theorem dL_cell_14 : decode cL_cell 14 = .ok (.iload_n 1, 1) := by decide +kernel
theorem dL_cell_15 : decode cL_cell 15 = .ok (.iconst 3, 1) := by decide +kernel
theorem dL_cell_16 : decode cL_cell 16 = .ok (.iadd, 1) := by decide +kernel
theorem dL_cell_17 : decode cL_cell 17 = .ok (.imul, 1) := by decide +kernel
theorem dL_cell_18 : decode cL_cell 18 = .ok (.ireturn, 1) := by decide +kernel
end
section
set_option maxRecDepth 20000 in
theorem ggL_live_X3_many : GoodIn wsL_live wsX3_many := goodIn_ca (goodIn_r _ [5, 6, 7, 8, 9, 10, 11, 12, 13, 14, 15, 16, 17, 18, 19, 20, 21, 4, 22, 23, 24, 25, 26, 27, 28, 29, 30, 31, 32, 33, 34, 35, 36, 37, 38, 39, 40, 41, 42, 43, 44, 45, 46, 47, 48, 49, 50, 51, 52, 53, 54, 55, 56, 101, 102, 103, 104, 105, 106, 107, 108, 109, 110, 111, 112, 113, 114, 115, 116, 117, 118, 119, 120, 121, 122, 123, 124, 125, 126, 127, 128, 129, 130, 131, 132, 133, 134, 135, 136] (by decide +kernel) (by decide +kernel)) (goodIn_sub (fun _ h => List.mem_cons_of_mem _ (List.mem_append_left _ (List.mem_append_right _ h))) (by decide +kernel))
set_option maxRecDepth 20000 in
theorem gL_live_X3_many : GoodIn wsL_live (wsV RL 29 RX3 yX3_many wsX3_many) := goodIn_app (goodIn_of _ (by decide +kernel)) ggL_live_X3_many
set_option maxRecDepth 20000 in
theorem ggL_live_X3_ofBout : GoodIn wsL_live wsX3_ofBout := goodIn_ca (goodIn_ca (goodIn_r _ [60, 6, 7, 24, 61, 62, 63, 64, 52, 65, 66, 67, 68, 69, 70, 71, 4, 72, 73, 74, 10, 23, 13, 14, 15, 16, 17, 18, 75, 76, 77, 25, 26, 27, 28, 29, 30, 31, 32, 33, 34, 35, 36, 37, 38, 39, 40, 41, 53, 54, 55, 56, 78, 79, 80, 81, 82, 83, 84, 85, 86, 87, 88, 89, 90, 91, 92, 93, 94, 95, 96, 97, 98, 99, 100, 114, 115, 116, 117, 118, 119, 120, 121, 122, 137, 138, 139, 101, 102, 103, 104, 105, 106, 107, 108, 109, 110, 111, 112, 113, 123, 124, 125, 126, 127, 128, 129, 130, 131, 132, 133, 134, 135, 136] (by decide +kernel) (by decide +kernel)) (goodIn_sub (fun _ h => List.mem_cons_of_mem _ (List.mem_append_left _ (List.mem_append_right _ h))) (by decide +kernel))) (goodIn_sub (fun _ h => List.mem_cons_of_mem _ (List.mem_append_right _ h)) (by decide +kernel))
set_option maxRecDepth 20000 in
theorem gL_live_X3_ofBout : GoodIn wsL_live (wsV RL 57 RX3 yX3_ofBout wsX3_ofBout) := goodIn_app (goodIn_of _ (by decide +kernel)) ggL_live_X3_ofBout
theorem dL_live_0 : decode cL_live 0 = .ok (.iconst 0, 1) := by decide +kernel
theorem dL_live_1 : decode cL_live 1 = .ok (.istore_n 2, 1) := by decide +kernel
theorem dL_live_2 : decode cL_live 2 = .ok (.iload_n 2, 1) := by decide +kernel
theorem dL_live_3 : decode cL_live 3 = .ok (.aload_n 0, 1) := by decide +kernel
theorem dL_live_4 : decode cL_live 4 = .ok (.iconst 2, 1) := by decide +kernel
theorem dL_live_5 : decode cL_live 5 = .ok (.invokevirtual 29, 3) := by decide +kernel
theorem dL_live_8 : decode cL_live 8 = .ok (.if_icmp .ge 22, 3) := by decide +kernel
theorem dL_live_11 : decode cL_live 11 = .ok (.aload_n 0, 1) := by decide +kernel
theorem dL_live_12 : decode cL_live 12 = .ok (.iload_n 2, 1) := by decide +kernel
theorem dL_live_13 : decode cL_live 13 = .ok (.bipush 6, 2) := by decide +kernel
theorem dL_live_15 : decode cL_live 15 = .ok (.invokevirtual 57, 3) := by decide +kernel
theorem dL_live_18 : decode cL_live 18 = .ok (.iload_n 1, 1) := by decide +kernel
theorem dL_live_19 : decode cL_live 19 = .ok (.if_icmp .ne 5, 3) := by decide +kernel
theorem dL_live_22 : decode cL_live 22 = .ok (.iload_n 2, 1) := by decide +kernel
theorem dL_live_23 : decode cL_live 23 = .ok (.ireturn, 1) := by decide +kernel
theorem dL_live_24 : decode cL_live 24 = .ok (.iinc 2 1, 3) := by decide +kernel
theorem dL_live_27 : decode cL_live 27 = .ok (.goto (-25), 3) := by decide +kernel
theorem dL_live_30 : decode cL_live 30 = .ok (.iconst (-1), 1) := by decide +kernel
theorem dL_live_31 : decode cL_live 31 = .ok (.ireturn, 1) := by decide +kernel
set_option maxRecDepth 20000 in
theorem ggL_isFair_X3_many : GoodIn wsL_isFair wsX3_many := goodIn_ca (goodIn_r _ [10, 11, 12, 13, 14, 15, 16, 17, 18, 19, 20, 21, 22, 23, 24, 25, 26, 9, 27, 28, 29, 30, 31, 32, 33, 34, 35, 36, 37, 38, 39, 40, 41, 42, 43, 44, 45, 46, 47, 48, 49, 50, 51, 52, 53, 54, 55, 56, 57, 58, 59, 60, 61, 160, 161, 162, 163, 164, 165, 166, 167, 168, 169, 170, 171, 172, 173, 174, 175, 176, 177, 178, 179, 180, 181, 182, 183, 184, 185, 186, 187, 188, 189, 190, 191, 192, 193, 194, 195] (by decide +kernel) (by decide +kernel)) (goodIn_sub (fun _ h => List.mem_cons_of_mem _ (List.mem_append_left _ (List.mem_append_right _ h))) (by decide +kernel))
set_option maxRecDepth 20000 in
theorem gL_isFair_X3_many : GoodIn wsL_isFair (wsV RL 29 RX3 yX3_many wsX3_many) := goodIn_app (goodIn_of _ (by decide +kernel)) ggL_isFair_X3_many
set_option maxRecDepth 20000 in
theorem ggL_isFair_X3_ofBout : GoodIn wsL_isFair wsX3_ofBout := goodIn_ca (goodIn_ca (goodIn_r _ [65, 11, 12, 29, 66, 67, 68, 69, 57, 70, 71, 72, 73, 74, 75, 76, 9, 77, 78, 79, 15, 28, 18, 19, 20, 21, 22, 23, 80, 81, 82, 30, 31, 32, 33, 34, 35, 36, 37, 38, 39, 40, 41, 42, 43, 44, 45, 46, 58, 59, 60, 61, 83, 84, 85, 86, 87, 88, 89, 90, 91, 92, 93, 94, 95, 96, 97, 98, 99, 100, 101, 102, 103, 104, 105, 173, 174, 175, 176, 177, 178, 179, 180, 181, 196, 197, 198, 160, 161, 162, 163, 164, 165, 166, 167, 168, 169, 170, 171, 172, 182, 183, 184, 185, 186, 187, 188, 189, 190, 191, 192, 193, 194, 195] (by decide +kernel) (by decide +kernel)) (goodIn_sub (fun _ h => List.mem_cons_of_mem _ (List.mem_append_left _ (List.mem_append_right _ h))) (by decide +kernel))) (goodIn_sub (fun _ h => List.mem_cons_of_mem _ (List.mem_append_right _ h)) (by decide +kernel))
set_option maxRecDepth 20000 in
theorem gL_isFair_X3_ofBout : GoodIn wsL_isFair (wsV RL 57 RX3 yX3_ofBout wsX3_ofBout) := goodIn_app (goodIn_of _ (by decide +kernel)) ggL_isFair_X3_ofBout
set_option maxRecDepth 20000 in
theorem ggL_isFair_X3_of : GoodIn wsL_isFair wsX3_of := goodIn_ca (goodIn_ca (goodIn_r _ [109, 11, 12, 110, 111, 112, 113, 52, 114, 115, 116, 117, 118, 119, 9, 120, 78, 79, 13, 51, 18, 19, 20, 21, 22, 23, 80, 81, 82, 30, 31, 32, 33, 34, 35, 36, 37, 38, 39, 40, 41, 42, 43, 44, 45, 46, 182, 183, 184, 185, 186, 187, 188, 189, 190, 191, 192, 193, 194, 195, 173, 174, 175, 176, 177, 178, 179, 180, 181, 160, 161, 162, 163, 164, 165, 166, 167, 168, 169, 170, 171, 172] (by decide +kernel) (by decide +kernel)) (goodIn_sub (fun _ h => List.mem_cons_of_mem _ (List.mem_append_left _ (List.mem_append_right _ h))) (by decide +kernel))) (goodIn_sub (fun _ h => List.mem_cons_of_mem _ (List.mem_append_right _ h)) (by decide +kernel))
set_option maxRecDepth 20000 in
theorem gL_isFair_X3_of : GoodIn wsL_isFair (wsV RL 71 RX3 yX3_of wsX3_of) := goodIn_app (goodIn_of _ (by decide +kernel)) ggL_isFair_X3_of
set_option maxRecDepth 20000 in
theorem ggL_isFair_X3_order : GoodIn wsL_isFair wsX3_order := goodIn_ca (goodIn_ca (goodIn_r _ [124, 11, 12, 125, 126, 127, 128, 117, 118, 119, 9, 120, 78, 79, 13, 51, 18, 19, 20, 21, 22, 23, 80, 81, 82, 30, 31, 32, 33, 34, 35, 36, 37, 38, 39, 40, 41, 42, 43, 44, 45, 46, 129, 130, 131, 132, 133, 134, 135, 136, 137, 138, 139, 140, 141, 3, 4, 5, 142, 143, 144, 145, 182, 183, 184, 185, 186, 187, 188, 189, 190, 191, 192, 193, 194, 195, 160, 161, 162, 163, 164, 165, 166, 167, 168, 169, 170, 171, 172] (by decide +kernel) (by decide +kernel)) (goodIn_sub (fun _ h => List.mem_cons_of_mem _ (List.mem_append_left _ (List.mem_append_right _ h))) (by decide +kernel))) (goodIn_sub (fun _ h => List.mem_cons_of_mem _ (List.mem_append_right _ h)) (by decide +kernel))
set_option maxRecDepth 20000 in
theorem gL_isFair_X3_order : GoodIn wsL_isFair (wsV RL 83 RX3 yX3_order wsX3_order) := goodIn_app (goodIn_of _ (by decide +kernel)) ggL_isFair_X3_order
set_option maxRecDepth 20000 in
theorem ggL_isFair_X3_place : GoodIn wsL_isFair wsX3_place := goodIn_ca (goodIn_r _ [149, 13, 51, 117, 118, 119, 9, 120, 78, 79, 18, 19, 20, 21, 22, 23, 80, 81, 82, 30, 31, 32, 33, 34, 35, 36, 37, 38, 39, 40, 41, 42, 43, 44, 45, 46, 150, 151, 152, 136, 153, 138, 154, 155, 134, 135, 137, 139, 140, 141, 3, 4, 5, 142, 143, 144, 145, 160, 161, 162, 163, 164, 165, 166, 167, 168, 169, 170, 171, 172, 182, 183, 184, 185, 186, 187, 188, 189, 190, 191, 192, 193, 194, 195] (by decide +kernel) (by decide +kernel)) (goodIn_sub (fun _ h => List.mem_cons_of_mem _ (List.mem_append_right _ h)) (by decide +kernel))
set_option maxRecDepth 20000 in
theorem gL_isFair_X3_place : GoodIn wsL_isFair (wsV RL 86 RX3 yX3_place wsX3_place) := goodIn_app (goodIn_of _ (by decide +kernel)) ggL_isFair_X3_place
set_option maxRecDepth 20000 in
theorem ggL_isFair_X3_voidWith : GoodIn wsL_isFair wsX3_voidWith := goodIn_ca (goodIn_r _ [159, 125, 117, 118, 119, 9, 120, 78, 79, 13, 51, 18, 19, 20, 21, 22, 23, 80, 81, 82, 30, 31, 32, 33, 34, 35, 36, 37, 38, 39, 40, 41, 42, 43, 44, 45, 46, 182, 183, 184, 185, 186, 187, 188, 189, 190, 191, 192, 193, 194, 195, 160, 161, 162, 163, 164, 165, 166, 167, 168, 169, 170, 171, 172] (by decide +kernel) (by decide +kernel)) (goodIn_sub (fun _ h => List.mem_cons_of_mem _ (List.mem_append_right _ h)) (by decide +kernel))
set_option maxRecDepth 20000 in
theorem gL_isFair_X3_voidWith : GoodIn wsL_isFair (wsV RL 89 RX3 yX3_voidWith wsX3_voidWith) := goodIn_app (goodIn_of _ (by decide +kernel)) ggL_isFair_X3_voidWith
theorem dL_isFair_0 : decode cL_isFair 0 = .ok (.aload_n 0, 1) := by decide +kernel
theorem dL_isFair_1 : decode cL_isFair 1 = .ok (.iconst 2, 1) := by decide +kernel
theorem dL_isFair_2 : decode cL_isFair 2 = .ok (.invokevirtual 29, 3) := by decide +kernel
theorem dL_isFair_5 : decode cL_isFair 5 = .ok (.istore_n 3, 1) := by decide +kernel
theorem dL_isFair_6 : decode cL_isFair 6 = .ok (.iload_n 1, 1) := by decide +kernel
theorem dL_isFair_7 : decode cL_isFair 7 = .ok (.newarray .int, 2) := by decide +kernel
theorem dL_isFair_9 : decode cL_isFair 9 = .ok (.astore 4, 2) := by decide +kernel
theorem dL_isFair_11 : decode cL_isFair 11 = .ok (.iconst 0, 1) := by decide +kernel
theorem dL_isFair_12 : decode cL_isFair 12 = .ok (.istore 5, 2) := by decide +kernel
theorem dL_isFair_14 : decode cL_isFair 14 = .ok (.iload 5, 2) := by decide +kernel
theorem dL_isFair_16 : decode cL_isFair 16 = .ok (.iload_n 3, 1) := by decide +kernel
theorem dL_isFair_17 : decode cL_isFair 17 = .ok (.if_icmp .ge 242, 3) := by decide +kernel
theorem dL_isFair_20 : decode cL_isFair 20 = .ok (.aload_n 0, 1) := by decide +kernel
theorem dL_isFair_21 : decode cL_isFair 21 = .ok (.iload 5, 2) := by decide +kernel
theorem dL_isFair_23 : decode cL_isFair 23 = .ok (.iconst 0, 1) := by decide +kernel
theorem dL_isFair_24 : decode cL_isFair 24 = .ok (.invokevirtual 57, 3) := by decide +kernel
theorem dL_isFair_27 : decode cL_isFair 27 = .ok (.istore 6, 2) := by decide +kernel
theorem dL_isFair_29 : decode cL_isFair 29 = .ok (.aload_n 0, 1) := by decide +kernel
theorem dL_isFair_30 : decode cL_isFair 30 = .ok (.iload 5, 2) := by decide +kernel
theorem dL_isFair_32 : decode cL_isFair 32 = .ok (.iconst 5, 1) := by decide +kernel
theorem dL_isFair_33 : decode cL_isFair 33 = .ok (.invokevirtual 57, 3) := by decide +kernel
theorem dL_isFair_36 : decode cL_isFair 36 = .ok (.istore 7, 2) := by decide +kernel
theorem dL_isFair_38 : decode cL_isFair 38 = .ok (.iload 6, 2) := by decide +kernel
theorem dL_isFair_40 : decode cL_isFair 40 = .ok (.iconst 1, 1) := by decide +kernel
theorem dL_isFair_41 : decode cL_isFair 41 = .ok (.if_icmp .ne 7, 3) := by decide +kernel
theorem dL_isFair_44 : decode cL_isFair 44 = .ok (.iconst 1, 1) := by decide +kernel
theorem dL_isFair_45 : decode cL_isFair 45 = .ok (.goto 4, 3) := by decide +kernel
theorem dL_isFair_48 : decode cL_isFair 48 = .ok (.iconst 0, 1) := by decide +kernel
theorem dL_isFair_49 : decode cL_isFair 49 = .ok (.aload_n 0, 1) := by decide +kernel
theorem dL_isFair_50 : decode cL_isFair 50 = .ok (.iload 5, 2) := by decide +kernel
theorem dL_isFair_52 : decode cL_isFair 52 = .ok (.bipush 6, 2) := by decide +kernel
theorem dL_isFair_54 : decode cL_isFair 54 = .ok (.invokevirtual 57, 3) := by decide +kernel
theorem dL_isFair_57 : decode cL_isFair 57 = .ok (.ifCond .lt 7, 3) := by decide +kernel
theorem dL_isFair_60 : decode cL_isFair 60 = .ok (.iconst 1, 1) := by decide +kernel
theorem dL_isFair_61 : decode cL_isFair 61 = .ok (.goto 4, 3) := by decide +kernel
theorem dL_isFair_64 : decode cL_isFair 64 = .ok (.iconst 0, 1) := by decide +kernel
theorem dL_isFair_65 : decode cL_isFair 65 = .ok (.if_icmp .ne 99, 3) := by decide +kernel
theorem dL_isFair_68 : decode cL_isFair 68 = .ok (.iload 6, 2) := by decide +kernel
theorem dL_isFair_70 : decode cL_isFair 70 = .ok (.iconst 2, 1) := by decide +kernel
theorem dL_isFair_71 : decode cL_isFair 71 = .ok (.if_icmp .ne 7, 3) := by decide +kernel
theorem dL_isFair_74 : decode cL_isFair 74 = .ok (.iconst 1, 1) := by decide +kernel
theorem dL_isFair_75 : decode cL_isFair 75 = .ok (.goto 4, 3) := by decide +kernel
theorem dL_isFair_78 : decode cL_isFair 78 = .ok (.iconst 0, 1) := by decide +kernel
theorem dL_isFair_79 : decode cL_isFair 79 = .ok (.iload 7, 2) := by decide +kernel
theorem dL_isFair_81 : decode cL_isFair 81 = .ok (.ifCond .lt 7, 3) := by decide +kernel
theorem dL_isFair_84 : decode cL_isFair 84 = .ok (.iconst 1, 1) := by decide +kernel
theorem dL_isFair_85 : decode cL_isFair 85 = .ok (.goto 4, 3) := by decide +kernel
theorem dL_isFair_88 : decode cL_isFair 88 = .ok (.iconst 0, 1) := by decide +kernel
theorem dL_isFair_89 : decode cL_isFair 89 = .ok (.if_icmp .ne 75, 3) := by decide +kernel
theorem dL_isFair_92 : decode cL_isFair 92 = .ok (.aload_n 0, 1) := by decide +kernel
theorem dL_isFair_93 : decode cL_isFair 93 = .ok (.iload 5, 2) := by decide +kernel
theorem dL_isFair_95 : decode cL_isFair 95 = .ok (.iconst 3, 1) := by decide +kernel
theorem dL_isFair_96 : decode cL_isFair 96 = .ok (.invokevirtual 57, 3) := by decide +kernel
theorem dL_isFair_99 : decode cL_isFair 99 = .ok (.aload_n 0, 1) := by decide +kernel
theorem dL_isFair_100 : decode cL_isFair 100 = .ok (.iload 5, 2) := by decide +kernel
theorem dL_isFair_102 : decode cL_isFair 102 = .ok (.iconst 4, 1) := by decide +kernel
theorem dL_isFair_103 : decode cL_isFair 103 = .ok (.invokevirtual 57, 3) := by decide +kernel
theorem dL_isFair_106 : decode cL_isFair 106 = .ok (.invokestatic 78, 3) := by decide +kernel
theorem dL_isFair_109 : decode cL_isFair 109 = .ok (.iload 5, 2) := by decide +kernel
theorem dL_isFair_111 : decode cL_isFair 111 = .ok (.iload_n 2, 1) := by decide +kernel
theorem dL_isFair_112 : decode cL_isFair 112 = .ok (.if_icmp .ge 7, 3) := by decide +kernel
theorem dL_isFair_115 : decode cL_isFair 115 = .ok (.iconst 5, 1) := by decide +kernel
theorem dL_isFair_116 : decode cL_isFair 116 = .ok (.goto 5, 3) := by decide +kernel
theorem dL_isFair_119 : decode cL_isFair 119 = .ok (.bipush 15, 2) := by decide +kernel
theorem dL_isFair_121 : decode cL_isFair 121 = .ok (.if_icmp .gt 43, 3) := by decide +kernel
theorem dL_isFair_124 : decode cL_isFair 124 = .ok (.iload 6, 2) := by decide +kernel
theorem dL_isFair_126 : decode cL_isFair 126 = .ok (.iconst 1, 1) := by decide +kernel
theorem dL_isFair_127 : decode cL_isFair 127 = .ok (.if_icmp .eq 23, 3) := by decide +kernel
theorem dL_isFair_130 : decode cL_isFair 130 = .ok (.aload_n 0, 1) := by decide +kernel
theorem dL_isFair_131 : decode cL_isFair 131 = .ok (.iload 5, 2) := by decide +kernel
theorem dL_isFair_133 : decode cL_isFair 133 = .ok (.bipush 7, 2) := by decide +kernel
theorem dL_isFair_135 : decode cL_isFair 135 = .ok (.invokevirtual 57, 3) := by decide +kernel
theorem dL_isFair_138 : decode cL_isFair 138 = .ok (.aload_n 0, 1) := by decide +kernel
theorem dL_isFair_139 : decode cL_isFair 139 = .ok (.iload 5, 2) := by decide +kernel
theorem dL_isFair_141 : decode cL_isFair 141 = .ok (.bipush 8, 2) := by decide +kernel
theorem dL_isFair_143 : decode cL_isFair 143 = .ok (.invokevirtual 57, 3) := by decide +kernel
theorem dL_isFair_146 : decode cL_isFair 146 = .ok (.iadd, 1) := by decide +kernel
theorem dL_isFair_147 : decode cL_isFair 147 = .ok (.ifCond .ne 17, 3) := by decide +kernel
theorem dL_isFair_150 : decode cL_isFair 150 = .ok (.aload_n 0, 1) := by decide +kernel
theorem dL_isFair_151 : decode cL_isFair 151 = .ok (.iload 5, 2) := by decide +kernel
theorem dL_isFair_153 : decode cL_isFair 153 = .ok (.bipush 7, 2) := by decide +kernel
theorem dL_isFair_155 : decode cL_isFair 155 = .ok (.invokevirtual 57, 3) := by decide +kernel
theorem dL_isFair_158 : decode cL_isFair 158 = .ok (.sipush 180, 3) := by decide +kernel
theorem dL_isFair_161 : decode cL_isFair 161 = .ok (.if_icmp .le 5, 3) := by decide +kernel
theorem dL_isFair_164 : decode cL_isFair 164 = .ok (.iconst 0, 1) := by decide +kernel
theorem dL_isFair_165 : decode cL_isFair 165 = .ok (.ireturn, 1) := by decide +kernel
theorem dL_isFair_166 : decode cL_isFair 166 = .ok (.iload 7, 2) := by decide +kernel
theorem dL_isFair_168 : decode cL_isFair 168 = .ok (.ifCond .lt 29, 3) := by decide +kernel
theorem dL_isFair_171 : decode cL_isFair 171 = .ok (.iload 7, 2) := by decide +kernel
theorem dL_isFair_173 : decode cL_isFair 173 = .ok (.aload_n 0, 1) := by decide +kernel
theorem dL_isFair_174 : decode cL_isFair 174 = .ok (.iload 5, 2) := by decide +kernel
theorem dL_isFair_176 : decode cL_isFair 176 = .ok (.iconst 1, 1) := by decide +kernel
theorem dL_isFair_177 : decode cL_isFair 177 = .ok (.invokevirtual 57, 3) := by decide +kernel
theorem dL_isFair_180 : decode cL_isFair 180 = .ok (.if_icmp .eq 17, 3) := by decide +kernel
theorem dL_isFair_183 : decode cL_isFair 183 = .ok (.iload 7, 2) := by decide +kernel
theorem dL_isFair_185 : decode cL_isFair 185 = .ok (.aload_n 0, 1) := by decide +kernel
theorem dL_isFair_186 : decode cL_isFair 186 = .ok (.iload 5, 2) := by decide +kernel
theorem dL_isFair_188 : decode cL_isFair 188 = .ok (.iconst 2, 1) := by decide +kernel
theorem dL_isFair_189 : decode cL_isFair 189 = .ok (.invokevirtual 57, 3) := by decide +kernel
theorem dL_isFair_192 : decode cL_isFair 192 = .ok (.if_icmp .eq 5, 3) := by decide +kernel
theorem dL_isFair_195 : decode cL_isFair 195 = .ok (.iconst 0, 1) := by decide +kernel
theorem dL_isFair_196 : decode cL_isFair 196 = .ok (.ireturn, 1) := by decide +kernel
theorem dL_isFair_197 : decode cL_isFair 197 = .ok (.iconst 1, 1) := by decide +kernel
theorem dL_isFair_198 : decode cL_isFair 198 = .ok (.istore 8, 2) := by decide +kernel
theorem dL_isFair_200 : decode cL_isFair 200 = .ok (.iload 6, 2) := by decide +kernel
theorem dL_isFair_202 : decode cL_isFair 202 = .ok (.iconst 1, 1) := by decide +kernel
theorem dL_isFair_203 : decode cL_isFair 203 = .ok (.if_icmp .ne 50, 3) := by decide +kernel
theorem dL_isFair_206 : decode cL_isFair 206 = .ok (.iload 8, 2) := by decide +kernel
theorem dL_isFair_208 : decode cL_isFair 208 = .ok (.iconst 3, 1) := by decide +kernel
theorem dL_isFair_209 : decode cL_isFair 209 = .ok (.if_icmp .ge 44, 3) := by decide +kernel
theorem dL_isFair_212 : decode cL_isFair 212 = .ok (.aload 4, 2) := by decide +kernel
theorem dL_isFair_214 : decode cL_isFair 214 = .ok (.aload_n 0, 1) := by decide +kernel
theorem dL_isFair_215 : decode cL_isFair 215 = .ok (.iload 5, 2) := by decide +kernel
theorem dL_isFair_217 : decode cL_isFair 217 = .ok (.iload 8, 2) := by decide +kernel
theorem dL_isFair_219 : decode cL_isFair 219 = .ok (.invokevirtual 57, 3) := by decide +kernel
theorem dL_isFair_222 : decode cL_isFair 222 = .ok (.dup2, 1) := by decide +kernel
theorem dL_isFair_223 : decode cL_isFair 223 = .ok (.iaload, 1) := by decide +kernel
theorem dL_isFair_224 : decode cL_isFair 224 = .ok (.iconst 1, 1) := by decide +kernel
theorem dL_isFair_225 : decode cL_isFair 225 = .ok (.iadd, 1) := by decide +kernel
theorem dL_isFair_226 : decode cL_isFair 226 = .ok (.iastore, 1) := by decide +kernel
theorem dL_isFair_227 : decode cL_isFair 227 = .ok (.aload_n 0, 1) := by decide +kernel
theorem dL_isFair_228 : decode cL_isFair 228 = .ok (.aload_n 0, 1) := by decide +kernel
theorem dL_isFair_229 : decode cL_isFair 229 = .ok (.iload 5, 2) := by decide +kernel
theorem dL_isFair_231 : decode cL_isFair 231 = .ok (.iload 8, 2) := by decide +kernel
theorem dL_isFair_233 : decode cL_isFair 233 = .ok (.invokevirtual 57, 3) := by decide +kernel
theorem dL_isFair_236 : decode cL_isFair 236 = .ok (.iconst 5, 1) := by decide +kernel
theorem dL_isFair_237 : decode cL_isFair 237 = .ok (.invokevirtual 71, 3) := by decide +kernel
theorem dL_isFair_240 : decode cL_isFair 240 = .ok (.iload 5, 2) := by decide +kernel
theorem dL_isFair_242 : decode cL_isFair 242 = .ok (.if_icmp .eq 5, 3) := by decide +kernel
theorem dL_isFair_245 : decode cL_isFair 245 = .ok (.iconst 0, 1) := by decide +kernel
theorem dL_isFair_246 : decode cL_isFair 246 = .ok (.ireturn, 1) := by decide +kernel
theorem dL_isFair_247 : decode cL_isFair 247 = .ok (.iinc 8 1, 3) := by decide +kernel
theorem dL_isFair_250 : decode cL_isFair 250 = .ok (.goto (-50), 3) := by decide +kernel
theorem dL_isFair_253 : decode cL_isFair 253 = .ok (.iinc 5 1, 3) := by decide +kernel
theorem dL_isFair_256 : decode cL_isFair 256 = .ok (.goto (-242), 3) := by decide +kernel
theorem dL_isFair_259 : decode cL_isFair 259 = .ok (.iload_n 2, 1) := by decide +kernel
theorem dL_isFair_260 : decode cL_isFair 260 = .ok (.istore 5, 2) := by decide +kernel
theorem dL_isFair_262 : decode cL_isFair 262 = .ok (.aload_n 0, 1) := by decide +kernel
theorem dL_isFair_263 : decode cL_isFair 263 = .ok (.bipush 9, 2) := by decide +kernel
theorem dL_isFair_265 : decode cL_isFair 265 = .ok (.invokevirtual 29, 3) := by decide +kernel
theorem dL_isFair_268 : decode cL_isFair 268 = .ok (.iconst 2, 1) := by decide +kernel
theorem dL_isFair_269 : decode cL_isFair 269 = .ok (.idiv, 1) := by decide +kernel
theorem dL_isFair_270 : decode cL_isFair 270 = .ok (.istore 6, 2) := by decide +kernel
theorem dL_isFair_272 : decode cL_isFair 272 = .ok (.iload 6, 2) := by decide +kernel
theorem dL_isFair_274 : decode cL_isFair 274 = .ok (.iconst 1, 1) := by decide +kernel
theorem dL_isFair_275 : decode cL_isFair 275 = .ok (.if_icmp .le 70, 3) := by decide +kernel
theorem dL_isFair_278 : decode cL_isFair 278 = .ok (.iconst 0, 1) := by decide +kernel
theorem dL_isFair_279 : decode cL_isFair 279 = .ok (.istore 7, 2) := by decide +kernel
theorem dL_isFair_281 : decode cL_isFair 281 = .ok (.iload 7, 2) := by decide +kernel
theorem dL_isFair_283 : decode cL_isFair 283 = .ok (.iload 6, 2) := by decide +kernel
theorem dL_isFair_285 : decode cL_isFair 285 = .ok (.if_icmp .ge 44, 3) := by decide +kernel
theorem dL_isFair_288 : decode cL_isFair 288 = .ok (.aload_n 0, 1) := by decide +kernel
theorem dL_isFair_289 : decode cL_isFair 289 = .ok (.iload 5, 2) := by decide +kernel
theorem dL_isFair_291 : decode cL_isFair 291 = .ok (.iload 6, 2) := by decide +kernel
theorem dL_isFair_293 : decode cL_isFair 293 = .ok (.iadd, 1) := by decide +kernel
theorem dL_isFair_294 : decode cL_isFair 294 = .ok (.iload 7, 2) := by decide +kernel
theorem dL_isFair_296 : decode cL_isFair 296 = .ok (.iconst 2, 1) := by decide +kernel
theorem dL_isFair_297 : decode cL_isFair 297 = .ok (.idiv, 1) := by decide +kernel
theorem dL_isFair_298 : decode cL_isFair 298 = .ok (.iadd, 1) := by decide +kernel
theorem dL_isFair_299 : decode cL_isFair 299 = .ok (.iconst 1, 1) := by decide +kernel
theorem dL_isFair_300 : decode cL_isFair 300 = .ok (.iload 7, 2) := by decide +kernel
theorem dL_isFair_302 : decode cL_isFair 302 = .ok (.iconst 2, 1) := by decide +kernel
theorem dL_isFair_303 : decode cL_isFair 303 = .ok (.irem, 1) := by decide +kernel
theorem dL_isFair_304 : decode cL_isFair 304 = .ok (.iadd, 1) := by decide +kernel
theorem dL_isFair_305 : decode cL_isFair 305 = .ok (.invokevirtual 57, 3) := by decide +kernel
theorem dL_isFair_308 : decode cL_isFair 308 = .ok (.aload_n 0, 1) := by decide +kernel
theorem dL_isFair_309 : decode cL_isFair 309 = .ok (.iload 5, 2) := by decide +kernel
theorem dL_isFair_311 : decode cL_isFair 311 = .ok (.iload 7, 2) := by decide +kernel
theorem dL_isFair_313 : decode cL_isFair 313 = .ok (.iadd, 1) := by decide +kernel
theorem dL_isFair_314 : decode cL_isFair 314 = .ok (.iconst 5, 1) := by decide +kernel
theorem dL_isFair_315 : decode cL_isFair 315 = .ok (.invokevirtual 57, 3) := by decide +kernel
theorem dL_isFair_318 : decode cL_isFair 318 = .ok (.if_icmp .eq 5, 3) := by decide +kernel
theorem dL_isFair_321 : decode cL_isFair 321 = .ok (.iconst 0, 1) := by decide +kernel
theorem dL_isFair_322 : decode cL_isFair 322 = .ok (.ireturn, 1) := by decide +kernel
theorem dL_isFair_323 : decode cL_isFair 323 = .ok (.iinc 7 1, 3) := by decide +kernel
theorem dL_isFair_326 : decode cL_isFair 326 = .ok (.goto (-45), 3) := by decide +kernel
theorem dL_isFair_329 : decode cL_isFair 329 = .ok (.iload 5, 2) := by decide +kernel
theorem dL_isFair_331 : decode cL_isFair 331 = .ok (.iload 6, 2) := by decide +kernel
theorem dL_isFair_333 : decode cL_isFair 333 = .ok (.iadd, 1) := by decide +kernel
theorem dL_isFair_334 : decode cL_isFair 334 = .ok (.istore 5, 2) := by decide +kernel
theorem dL_isFair_336 : decode cL_isFair 336 = .ok (.iload 6, 2) := by decide +kernel
theorem dL_isFair_338 : decode cL_isFair 338 = .ok (.iconst 2, 1) := by decide +kernel
theorem dL_isFair_339 : decode cL_isFair 339 = .ok (.idiv, 1) := by decide +kernel
theorem dL_isFair_340 : decode cL_isFair 340 = .ok (.istore 6, 2) := by decide +kernel
theorem dL_isFair_342 : decode cL_isFair 342 = .ok (.goto (-70), 3) := by decide +kernel
theorem dL_isFair_345 : decode cL_isFair 345 = .ok (.iconst 0, 1) := by decide +kernel
theorem dL_isFair_346 : decode cL_isFair 346 = .ok (.istore 6, 2) := by decide +kernel
theorem dL_isFair_348 : decode cL_isFair 348 = .ok (.iconst 0, 1) := by decide +kernel
theorem dL_isFair_349 : decode cL_isFair 349 = .ok (.istore 7, 2) := by decide +kernel
theorem dL_isFair_351 : decode cL_isFair 351 = .ok (.iconst 0, 1) := by decide +kernel
theorem dL_isFair_352 : decode cL_isFair 352 = .ok (.istore 8, 2) := by decide +kernel
theorem dL_isFair_354 : decode cL_isFair 354 = .ok (.iload 8, 2) := by decide +kernel
theorem dL_isFair_356 : decode cL_isFair 356 = .ok (.iload_n 1, 1) := by decide +kernel
theorem dL_isFair_357 : decode cL_isFair 357 = .ok (.if_icmp .ge 179, 3) := by decide +kernel
theorem dL_isFair_360 : decode cL_isFair 360 = .ok (.aload 4, 2) := by decide +kernel
theorem dL_isFair_362 : decode cL_isFair 362 = .ok (.iload 8, 2) := by decide +kernel
theorem dL_isFair_364 : decode cL_isFair 364 = .ok (.iaload, 1) := by decide +kernel
theorem dL_isFair_365 : decode cL_isFair 365 = .ok (.iconst 1, 1) := by decide +kernel
theorem dL_isFair_366 : decode cL_isFair 366 = .ok (.if_icmp .gt 34, 3) := by decide +kernel
theorem dL_isFair_369 : decode cL_isFair 369 = .ok (.aload 4, 2) := by decide +kernel
theorem dL_isFair_371 : decode cL_isFair 371 = .ok (.iload 8, 2) := by decide +kernel
theorem dL_isFair_373 : decode cL_isFair 373 = .ok (.iaload, 1) := by decide +kernel
theorem dL_isFair_374 : decode cL_isFair 374 = .ok (.ifCond .ne 7, 3) := by decide +kernel
theorem dL_isFair_377 : decode cL_isFair 377 = .ok (.iconst 1, 1) := by decide +kernel
theorem dL_isFair_378 : decode cL_isFair 378 = .ok (.goto 4, 3) := by decide +kernel
theorem dL_isFair_381 : decode cL_isFair 381 = .ok (.iconst 0, 1) := by decide +kernel
theorem dL_isFair_382 : decode cL_isFair 382 = .ok (.aload_n 0, 1) := by decide +kernel
theorem dL_isFair_383 : decode cL_isFair 383 = .ok (.iload 8, 2) := by decide +kernel
theorem dL_isFair_385 : decode cL_isFair 385 = .ok (.iconst 5, 1) := by decide +kernel
theorem dL_isFair_386 : decode cL_isFair 386 = .ok (.invokevirtual 71, 3) := by decide +kernel
theorem dL_isFair_389 : decode cL_isFair 389 = .ok (.ifCond .ge 7, 3) := by decide +kernel
theorem dL_isFair_392 : decode cL_isFair 392 = .ok (.iconst 1, 1) := by decide +kernel
theorem dL_isFair_393 : decode cL_isFair 393 = .ok (.goto 4, 3) := by decide +kernel
theorem dL_isFair_396 : decode cL_isFair 396 = .ok (.iconst 0, 1) := by decide +kernel
theorem dL_isFair_397 : decode cL_isFair 397 = .ok (.if_icmp .eq 5, 3) := by decide +kernel
theorem dL_isFair_400 : decode cL_isFair 400 = .ok (.iconst 0, 1) := by decide +kernel
theorem dL_isFair_401 : decode cL_isFair 401 = .ok (.ireturn, 1) := by decide +kernel
theorem dL_isFair_402 : decode cL_isFair 402 = .ok (.iload 6, 2) := by decide +kernel
theorem dL_isFair_404 : decode cL_isFair 404 = .ok (.iconst 1, 1) := by decide +kernel
theorem dL_isFair_405 : decode cL_isFair 405 = .ok (.aload_n 0, 1) := by decide +kernel
theorem dL_isFair_406 : decode cL_isFair 406 = .ok (.iload 8, 2) := by decide +kernel
theorem dL_isFair_408 : decode cL_isFair 408 = .ok (.iconst 4, 1) := by decide +kernel
theorem dL_isFair_409 : decode cL_isFair 409 = .ok (.invokevirtual 83, 3) := by decide +kernel
theorem dL_isFair_412 : decode cL_isFair 412 = .ok (.ishl, 1) := by decide +kernel
theorem dL_isFair_413 : decode cL_isFair 413 = .ok (.ior, 1) := by decide +kernel
theorem dL_isFair_414 : decode cL_isFair 414 = .ok (.istore 6, 2) := by decide +kernel
theorem dL_isFair_416 : decode cL_isFair 416 = .ok (.iload 7, 2) := by decide +kernel
theorem dL_isFair_418 : decode cL_isFair 418 = .ok (.iconst 1, 1) := by decide +kernel
theorem dL_isFair_419 : decode cL_isFair 419 = .ok (.aload_n 0, 1) := by decide +kernel
theorem dL_isFair_420 : decode cL_isFair 420 = .ok (.iload 8, 2) := by decide +kernel
theorem dL_isFair_422 : decode cL_isFair 422 = .ok (.invokevirtual 86, 3) := by decide +kernel
theorem dL_isFair_425 : decode cL_isFair 425 = .ok (.ishl, 1) := by decide +kernel
theorem dL_isFair_426 : decode cL_isFair 426 = .ok (.ior, 1) := by decide +kernel
theorem dL_isFair_427 : decode cL_isFair 427 = .ok (.istore 7, 2) := by decide +kernel
theorem dL_isFair_429 : decode cL_isFair 429 = .ok (.aload_n 0, 1) := by decide +kernel
theorem dL_isFair_430 : decode cL_isFair 430 = .ok (.iload 8, 2) := by decide +kernel
theorem dL_isFair_432 : decode cL_isFair 432 = .ok (.iconst 1, 1) := by decide +kernel
theorem dL_isFair_433 : decode cL_isFair 433 = .ok (.invokevirtual 83, 3) := by decide +kernel
theorem dL_isFair_436 : decode cL_isFair 436 = .ok (.aload_n 0, 1) := by decide +kernel
theorem dL_isFair_437 : decode cL_isFair 437 = .ok (.iload 8, 2) := by decide +kernel
theorem dL_isFair_439 : decode cL_isFair 439 = .ok (.iconst 0, 1) := by decide +kernel
theorem dL_isFair_440 : decode cL_isFair 440 = .ok (.invokevirtual 83, 3) := by decide +kernel
theorem dL_isFair_443 : decode cL_isFair 443 = .ok (.if_icmp .gt 19, 3) := by decide +kernel
theorem dL_isFair_446 : decode cL_isFair 446 = .ok (.aload_n 0, 1) := by decide +kernel
theorem dL_isFair_447 : decode cL_isFair 447 = .ok (.iload 8, 2) := by decide +kernel
theorem dL_isFair_449 : decode cL_isFair 449 = .ok (.invokevirtual 89, 3) := by decide +kernel
theorem dL_isFair_452 : decode cL_isFair 452 = .ok (.aload_n 0, 1) := by decide +kernel
theorem dL_isFair_453 : decode cL_isFair 453 = .ok (.iload 8, 2) := by decide +kernel
theorem dL_isFair_455 : decode cL_isFair 455 = .ok (.iconst 0, 1) := by decide +kernel
theorem dL_isFair_456 : decode cL_isFair 456 = .ok (.invokevirtual 83, 3) := by decide +kernel
theorem dL_isFair_459 : decode cL_isFair 459 = .ok (.if_icmp .eq 5, 3) := by decide +kernel
theorem dL_isFair_462 : decode cL_isFair 462 = .ok (.iconst 0, 1) := by decide +kernel
theorem dL_isFair_463 : decode cL_isFair 463 = .ok (.ireturn, 1) := by decide +kernel
theorem dL_isFair_464 : decode cL_isFair 464 = .ok (.iconst 0, 1) := by decide +kernel
theorem dL_isFair_465 : decode cL_isFair 465 = .ok (.istore 9, 2) := by decide +kernel
theorem dL_isFair_467 : decode cL_isFair 467 = .ok (.iload 9, 2) := by decide +kernel
theorem dL_isFair_469 : decode cL_isFair 469 = .ok (.iload_n 1, 1) := by decide +kernel
theorem dL_isFair_470 : decode cL_isFair 470 = .ok (.if_icmp .ge 60, 3) := by decide +kernel
theorem dL_isFair_473 : decode cL_isFair 473 = .ok (.aload_n 0, 1) := by decide +kernel
theorem dL_isFair_474 : decode cL_isFair 474 = .ok (.iload 8, 2) := by decide +kernel
theorem dL_isFair_476 : decode cL_isFair 476 = .ok (.iconst 4, 1) := by decide +kernel
theorem dL_isFair_477 : decode cL_isFair 477 = .ok (.invokevirtual 71, 3) := by decide +kernel
theorem dL_isFair_480 : decode cL_isFair 480 = .ok (.aload_n 0, 1) := by decide +kernel
theorem dL_isFair_481 : decode cL_isFair 481 = .ok (.iload 9, 2) := by decide +kernel
theorem dL_isFair_483 : decode cL_isFair 483 = .ok (.iconst 4, 1) := by decide +kernel
theorem dL_isFair_484 : decode cL_isFair 484 = .ok (.invokevirtual 71, 3) := by decide +kernel
theorem dL_isFair_487 : decode cL_isFair 487 = .ok (.if_icmp .ge 37, 3) := by decide +kernel
theorem dL_isFair_490 : decode cL_isFair 490 = .ok (.aload_n 0, 1) := by decide +kernel
theorem dL_isFair_491 : decode cL_isFair 491 = .ok (.iload 8, 2) := by decide +kernel
theorem dL_isFair_493 : decode cL_isFair 493 = .ok (.iconst 4, 1) := by decide +kernel
theorem dL_isFair_494 : decode cL_isFair 494 = .ok (.invokevirtual 83, 3) := by decide +kernel
theorem dL_isFair_497 : decode cL_isFair 497 = .ok (.aload_n 0, 1) := by decide +kernel
theorem dL_isFair_498 : decode cL_isFair 498 = .ok (.iload 9, 2) := by decide +kernel
theorem dL_isFair_500 : decode cL_isFair 500 = .ok (.iconst 4, 1) := by decide +kernel
theorem dL_isFair_501 : decode cL_isFair 501 = .ok (.invokevirtual 83, 3) := by decide +kernel
theorem dL_isFair_504 : decode cL_isFair 504 = .ok (.if_icmp .gt 18, 3) := by decide +kernel
theorem dL_isFair_507 : decode cL_isFair 507 = .ok (.aload_n 0, 1) := by decide +kernel
theorem dL_isFair_508 : decode cL_isFair 508 = .ok (.iload 8, 2) := by decide +kernel
theorem dL_isFair_510 : decode cL_isFair 510 = .ok (.invokevirtual 86, 3) := by decide +kernel
theorem dL_isFair_513 : decode cL_isFair 513 = .ok (.aload_n 0, 1) := by decide +kernel
theorem dL_isFair_514 : decode cL_isFair 514 = .ok (.iload 9, 2) := by decide +kernel
theorem dL_isFair_516 : decode cL_isFair 516 = .ok (.invokevirtual 86, 3) := by decide +kernel
theorem dL_isFair_519 : decode cL_isFair 519 = .ok (.if_icmp .le 5, 3) := by decide +kernel
theorem dL_isFair_522 : decode cL_isFair 522 = .ok (.iconst 0, 1) := by decide +kernel
theorem dL_isFair_523 : decode cL_isFair 523 = .ok (.ireturn, 1) := by decide +kernel
theorem dL_isFair_524 : decode cL_isFair 524 = .ok (.iinc 9 1, 3) := by decide +kernel
theorem dL_isFair_527 : decode cL_isFair 527 = .ok (.goto (-60), 3) := by decide +kernel
theorem dL_isFair_530 : decode cL_isFair 530 = .ok (.iinc 8 1, 3) := by decide +kernel
theorem dL_isFair_533 : decode cL_isFair 533 = .ok (.goto (-179), 3) := by decide +kernel
theorem dL_isFair_536 : decode cL_isFair 536 = .ok (.iload 6, 2) := by decide +kernel
theorem dL_isFair_538 : decode cL_isFair 538 = .ok (.iconst 1, 1) := by decide +kernel
theorem dL_isFair_539 : decode cL_isFair 539 = .ok (.iload_n 1, 1) := by decide +kernel
theorem dL_isFair_540 : decode cL_isFair 540 = .ok (.ishl, 1) := by decide +kernel
theorem dL_isFair_541 : decode cL_isFair 541 = .ok (.iconst 1, 1) := by decide +kernel
theorem dL_isFair_542 : decode cL_isFair 542 = .ok (.isub, 1) := by decide +kernel
theorem dL_isFair_543 : decode cL_isFair 543 = .ok (.if_icmp .ne 42, 3) := by decide +kernel
theorem dL_isFair_546 : decode cL_isFair 546 = .ok (.iload 7, 2) := by decide +kernel
theorem dL_isFair_548 : decode cL_isFair 548 = .ok (.iload 6, 2) := by decide +kernel
theorem dL_isFair_550 : decode cL_isFair 550 = .ok (.if_icmp .ne 35, 3) := by decide +kernel
theorem dL_isFair_553 : decode cL_isFair 553 = .ok (.aload_n 0, 1) := by decide +kernel
theorem dL_isFair_554 : decode cL_isFair 554 = .ok (.iconst 3, 1) := by decide +kernel
theorem dL_isFair_555 : decode cL_isFair 555 = .ok (.invokevirtual 29, 3) := by decide +kernel
theorem dL_isFair_558 : decode cL_isFair 558 = .ok (.aload_n 0, 1) := by decide +kernel
theorem dL_isFair_559 : decode cL_isFair 559 = .ok (.iconst 4, 1) := by decide +kernel
theorem dL_isFair_560 : decode cL_isFair 560 = .ok (.invokevirtual 29, 3) := by decide +kernel
theorem dL_isFair_563 : decode cL_isFair 563 = .ok (.iadd, 1) := by decide +kernel
theorem dL_isFair_564 : decode cL_isFair 564 = .ok (.aload_n 0, 1) := by decide +kernel
theorem dL_isFair_565 : decode cL_isFair 565 = .ok (.iconst 5, 1) := by decide +kernel
theorem dL_isFair_566 : decode cL_isFair 566 = .ok (.invokevirtual 29, 3) := by decide +kernel
theorem dL_isFair_569 : decode cL_isFair 569 = .ok (.iadd, 1) := by decide +kernel
theorem dL_isFair_570 : decode cL_isFair 570 = .ok (.aload_n 0, 1) := by decide +kernel
theorem dL_isFair_571 : decode cL_isFair 571 = .ok (.bipush 6, 2) := by decide +kernel
theorem dL_isFair_573 : decode cL_isFair 573 = .ok (.invokevirtual 29, 3) := by decide +kernel
theorem dL_isFair_576 : decode cL_isFair 576 = .ok (.iadd, 1) := by decide +kernel
theorem dL_isFair_577 : decode cL_isFair 577 = .ok (.iload_n 3, 1) := by decide +kernel
theorem dL_isFair_578 : decode cL_isFair 578 = .ok (.if_icmp .ne 7, 3) := by decide +kernel
theorem dL_isFair_581 : decode cL_isFair 581 = .ok (.iconst 1, 1) := by decide +kernel
theorem dL_isFair_582 : decode cL_isFair 582 = .ok (.goto 4, 3) := by decide +kernel
theorem dL_isFair_585 : decode cL_isFair 585 = .ok (.iconst 0, 1) := by decide +kernel
theorem dL_isFair_586 : decode cL_isFair 586 = .ok (.ireturn, 1) := by decide +kernel
abbrev vwCl : List vw_C := [(RJx4a65c, TJx4a65c, 3), (RX0, TX0, 9), (RX1, TX1, 14), (RX2, TX2, 3), (RX3, TX3, 10)]
/-! (the printed pool, which would declare its own kinds, is left out: rounds refuse it) -/
end
section
def tbL_below (Y : xw_Y) : List (Nat × xw_T) := [(0, tr_ild 1 0),
  (1, tr_push 3 (.int (2147483647))),
  (3, tr_i2 4 (fun x y => x &&& y)),
  (4, tr_ild 5 1),
  (5, tr_i2z 6 (fun x y => x - x / y * y)),
  (6, tr_iret .int)]
def ptL_below (Y : xw_Y) : xw_PT := xw_pt (tbL_below Y) 2 0 0
theorem lkL_below_0 (Y : xw_Y) : xw_lk (tbL_below Y) 0 = some (tr_ild 1 0) := rfl
theorem lkL_below_1 (Y : xw_Y) : xw_lk (tbL_below Y) 1 = some (tr_push 3 (.int (2147483647))) := rfl
theorem lkL_below_3 (Y : xw_Y) : xw_lk (tbL_below Y) 3 = some (tr_i2 4 (fun x y => x &&& y)) := rfl
theorem lkL_below_4 (Y : xw_Y) : xw_lk (tbL_below Y) 4 = some (tr_ild 5 1) := rfl
theorem lkL_below_5 (Y : xw_Y) : xw_lk (tbL_below Y) 5 = some (tr_i2z 6 (fun x y => x - x / y * y)) := rfl
theorem lkL_below_6 (Y : xw_Y) : xw_lk (tbL_below Y) 6 = some (tr_iret .int) := rfl
set_option maxRecDepth 100000 in
set_option maxHeartbeats 4000000 in
theorem mpL_below (l : Launch) (D : va_G) (Y : xw_Y) : xw_MP l D vwCl (xw_ty Y) Y.1 yL_below wsL_below ({ frames := 0, cells := 0, slots := 0, locals := 0 } : Room) (ptL_below Y) 0 0 := by
  refine xw_met (cc := cL_below) (nL := 2) (ret := (some .int)) (by decide +kernel) rfl ?_
  intro p e s m args below meth c w0 post X hr hlocks hname
  unfold tbL_below
  refine List.forall_mem_cons.mpr ⟨xs_iload_n X dL_below_0 rfl, ?_⟩
  refine List.forall_mem_cons.mpr ⟨xs_ldc X (List.mem_of_getElem? (i := 1) rfl) dL_below_1, ?_⟩
  refine List.forall_mem_cons.mpr ⟨xs_iand X dL_below_3, ?_⟩
  refine List.forall_mem_cons.mpr ⟨xs_iload_n X dL_below_4 rfl, ?_⟩
  refine List.forall_mem_cons.mpr ⟨xs_irem X dL_below_5, ?_⟩
  refine List.forall_mem_cons.mpr ⟨xs_iret X hr hlocks dL_below_6, ?_⟩
  exact fun _ h => nomatch h
def tbL_cell (Y : xw_Y) : List (Nat × xw_T) := [(0, tr_ild 1 1),
  (1, tr_ald 2 0),
  (2, tr_xlen 3 Y.1),
  (3, tr_ifc 6 12 (fun x y => y ≤ x)),
  (6, tr_ald 7 0),
  (7, tr_ild 8 1),
  (8, tr_xald 9 Y.1),
  (9, tr_goto 18),
  (12, tr_push 14 (.int (790386105))),
  (14, tr_ild 15 1),
  (15, tr_push 16 (.int 3)),
  (16, tr_i2 17 (fun x y => x + y)),
  (17, tr_i2 18 (fun x y => x * y)),
  (18, tr_iret .int)]
def ptL_cell (Y : xw_Y) : xw_PT := xw_pt (tbL_cell Y) 2 0 0
theorem lkL_cell_0 (Y : xw_Y) : xw_lk (tbL_cell Y) 0 = some (tr_ild 1 1) := rfl
theorem lkL_cell_1 (Y : xw_Y) : xw_lk (tbL_cell Y) 1 = some (tr_ald 2 0) := rfl
theorem lkL_cell_2 (Y : xw_Y) : xw_lk (tbL_cell Y) 2 = some (tr_xlen 3 Y.1) := rfl
theorem lkL_cell_3 (Y : xw_Y) : xw_lk (tbL_cell Y) 3 = some (tr_ifc 6 12 (fun x y => y ≤ x)) := rfl
theorem lkL_cell_6 (Y : xw_Y) : xw_lk (tbL_cell Y) 6 = some (tr_ald 7 0) := rfl
theorem lkL_cell_7 (Y : xw_Y) : xw_lk (tbL_cell Y) 7 = some (tr_ild 8 1) := rfl
theorem lkL_cell_8 (Y : xw_Y) : xw_lk (tbL_cell Y) 8 = some (tr_xald 9 Y.1) := rfl
theorem lkL_cell_9 (Y : xw_Y) : xw_lk (tbL_cell Y) 9 = some (tr_goto 18) := rfl
theorem lkL_cell_12 (Y : xw_Y) : xw_lk (tbL_cell Y) 12 = some (tr_push 14 (.int (790386105))) := rfl
theorem lkL_cell_14 (Y : xw_Y) : xw_lk (tbL_cell Y) 14 = some (tr_ild 15 1) := rfl
theorem lkL_cell_15 (Y : xw_Y) : xw_lk (tbL_cell Y) 15 = some (tr_push 16 (.int 3)) := rfl
theorem lkL_cell_16 (Y : xw_Y) : xw_lk (tbL_cell Y) 16 = some (tr_i2 17 (fun x y => x + y)) := rfl
theorem lkL_cell_17 (Y : xw_Y) : xw_lk (tbL_cell Y) 17 = some (tr_i2 18 (fun x y => x * y)) := rfl
theorem lkL_cell_18 (Y : xw_Y) : xw_lk (tbL_cell Y) 18 = some (tr_iret .int) := rfl
set_option maxRecDepth 100000 in
set_option maxHeartbeats 4000000 in
theorem mpL_cell (l : Launch) (D : va_G) (Y : xw_Y) : xw_MP l D vwCl (xw_ty Y) Y.1 yL_cell wsL_cell ({ frames := 0, cells := 0, slots := 0, locals := 0 } : Room) (ptL_cell Y) 0 0 := by
  refine xw_met (cc := cL_cell) (nL := 2) (ret := (some .int)) (by decide +kernel) rfl ?_
  intro p e s m args below meth c w0 post X hr hlocks hname
  unfold tbL_cell
  refine List.forall_mem_cons.mpr ⟨xs_iload_n X dL_cell_0 rfl, ?_⟩
  refine List.forall_mem_cons.mpr ⟨xs_aload_n X dL_cell_1 rfl, ?_⟩
  refine List.forall_mem_cons.mpr ⟨xs_xlen X dL_cell_2, ?_⟩
  refine List.forall_mem_cons.mpr ⟨xs_icmpge (tg := 12) X dL_cell_3 rfl, ?_⟩
  refine List.forall_mem_cons.mpr ⟨xs_aload_n X dL_cell_6 rfl, ?_⟩
  refine List.forall_mem_cons.mpr ⟨xs_iload_n X dL_cell_7 rfl, ?_⟩
  refine List.forall_mem_cons.mpr ⟨xs_xald X dL_cell_8, ?_⟩
  refine List.forall_mem_cons.mpr ⟨xs_goto (tg := 18) X dL_cell_9 rfl, ?_⟩
  refine List.forall_mem_cons.mpr ⟨xs_ldc X (List.mem_of_getElem? (i := 1) rfl) dL_cell_12, ?_⟩
  refine List.forall_mem_cons.mpr ⟨xs_iload_n X dL_cell_14 rfl, ?_⟩
  refine List.forall_mem_cons.mpr ⟨xs_iconst X dL_cell_15 rfl, ?_⟩
  refine List.forall_mem_cons.mpr ⟨xs_iadd X dL_cell_16, ?_⟩
  refine List.forall_mem_cons.mpr ⟨xs_imul X dL_cell_17, ?_⟩
  refine List.forall_mem_cons.mpr ⟨xs_iret X hr hlocks dL_cell_18, ?_⟩
  exact fun _ h => nomatch h
def tbJxa1e45_init_da8c8 (Y : xw_Y) : List (Nat × xw_T) := [(0, tr_ald 1 0),
  (1, tr_obj 4),
  (4, tr_vret)]
def ptJxa1e45_init_da8c8 (Y : xw_Y) : xw_PT := xw_pt (tbJxa1e45_init_da8c8 Y) 1 0 0
theorem lkJxa1e45_init_da8c8_0 (Y : xw_Y) : xw_lk (tbJxa1e45_init_da8c8 Y) 0 = some (tr_ald 1 0) := rfl
theorem lkJxa1e45_init_da8c8_1 (Y : xw_Y) : xw_lk (tbJxa1e45_init_da8c8 Y) 1 = some (tr_obj 4) := rfl
theorem lkJxa1e45_init_da8c8_4 (Y : xw_Y) : xw_lk (tbJxa1e45_init_da8c8 Y) 4 = some (tr_vret) := rfl
set_option maxRecDepth 100000 in
set_option maxHeartbeats 4000000 in
theorem mpJxa1e45_init_da8c8 (l : Launch) (D : va_G) (Y : xw_Y) : xw_MP l D vwCl (xw_ty Y) Y.1 yJxa1e45_init_da8c8 wsJxa1e45_init_da8c8 ({ frames := 1, cells := 0, slots := 0, locals := 20 } : Room) (ptJxa1e45_init_da8c8 Y) 0 0 := by
  refine xw_met (cc := cJxa1e45_init_da8c8) (nL := 1) (ret := none) (by decide +kernel) rfl ?_
  intro p e s m args below meth c w0 post X hr hlocks hname
  unfold tbJxa1e45_init_da8c8
  refine List.forall_mem_cons.mpr ⟨xs_aload_n X dJxa1e45_init_da8c8_0 rfl, ?_⟩
  refine List.forall_mem_cons.mpr ⟨xs_obj X (List.mem_of_getElem? (i := 1) rfl) (List.mem_of_getElem? (i := 2) rfl) (List.mem_of_getElem? (i := 3) rfl) (Nat.le_of_ble_eq_true rfl) (Nat.le_of_ble_eq_true rfl) dJxa1e45_init_da8c8_1, ?_⟩
  refine List.forall_mem_cons.mpr ⟨xs_vret X hr hlocks dJxa1e45_init_da8c8_4, ?_⟩
  exact fun _ h => nomatch h
def tbJxc12de_init_da8c8 (Y : xw_Y) : List (Nat × xw_T) := [(0, tr_ald 1 0),
  (1, tr_callI 4 0 (ptJxa1e45_init_da8c8 Y) 0 0 0 0),
  (4, tr_ald 5 0),
  (5, tr_push 6 (.int 0)),
  (6, tr_putf 9 0 0 .int),
  (9, tr_vret)]
def ptJxc12de_init_da8c8 (Y : xw_Y) : xw_PT := xw_pt (tbJxc12de_init_da8c8 Y) 1 0 0
theorem lkJxc12de_init_da8c8_0 (Y : xw_Y) : xw_lk (tbJxc12de_init_da8c8 Y) 0 = some (tr_ald 1 0) := rfl
theorem lkJxc12de_init_da8c8_1 (Y : xw_Y) : xw_lk (tbJxc12de_init_da8c8 Y) 1 = some (tr_callI 4 0 (ptJxa1e45_init_da8c8 Y) 0 0 0 0) := rfl
theorem lkJxc12de_init_da8c8_4 (Y : xw_Y) : xw_lk (tbJxc12de_init_da8c8 Y) 4 = some (tr_ald 5 0) := rfl
theorem lkJxc12de_init_da8c8_5 (Y : xw_Y) : xw_lk (tbJxc12de_init_da8c8 Y) 5 = some (tr_push 6 (.int 0)) := rfl
theorem lkJxc12de_init_da8c8_6 (Y : xw_Y) : xw_lk (tbJxc12de_init_da8c8 Y) 6 = some (tr_putf 9 0 0 .int) := rfl
theorem lkJxc12de_init_da8c8_9 (Y : xw_Y) : xw_lk (tbJxc12de_init_da8c8 Y) 9 = some (tr_vret) := rfl
set_option maxRecDepth 100000 in
set_option maxHeartbeats 4000000 in
theorem mpJxc12de_init_da8c8 (l : Launch) (D : va_G) (Y : xw_Y) : xw_MP l D vwCl (xw_ty Y) Y.1 yJxc12de_init_da8c8 wsJxc12de_init_da8c8 ({ frames := 2, cells := 0, slots := 0, locals := 40 } : Room) (ptJxc12de_init_da8c8 Y) 0 0 := by
  refine xw_met (cc := cJxc12de_init_da8c8) (nL := 1) (ret := none) (by decide +kernel) rfl ?_
  intro p e s m args below meth c w0 post X hr hlocks hname
  unfold tbJxc12de_init_da8c8
  refine List.forall_mem_cons.mpr ⟨xs_aload_n X dJxc12de_init_da8c8_0 rfl, ?_⟩
  refine List.forall_mem_cons.mpr ⟨xs_callI X (mpJxa1e45_init_da8c8 l D Y) (cwI 0 X.1.2.2.2.2 gJxc12de_init_da8c8_Jxa1e45_init_da8c8 rfl rfl rfl (X.1.2.2.2.2 _ (List.mem_of_getElem? (i := 4) rfl)) (X.1.2.2.2.2 _ (List.mem_of_getElem? (i := 2) rfl)) (X.1.2.2.2.2 _ (List.mem_of_getElem? (i := 3) rfl)) rfl (by decide +kernel) ⟨Nat.le_of_ble_eq_true rfl, Nat.le_of_ble_eq_true rfl⟩) rfl rfl dJxc12de_init_da8c8_1, ?_⟩
  refine List.forall_mem_cons.mpr ⟨xs_aload_n X dJxc12de_init_da8c8_4 rfl, ?_⟩
  refine List.forall_mem_cons.mpr ⟨xs_iconst X dJxc12de_init_da8c8_5 rfl, ?_⟩
  refine List.forall_mem_cons.mpr ⟨xs_putf (C := RJx4a65c) (T := TJx4a65c) (N := 3) (ci := 0) (kf := 0) X (fun w h => List.mem_cons_of_mem _ (List.mem_append_right _ h)) tyJx4a65c tyJx4a65c_ok nmJx4a65c rfl (by decide) (List.mem_of_getElem? (i := 1) rfl) (fun _ h => h) rfl rfl dJxc12de_init_da8c8_6, ?_⟩
  refine List.forall_mem_cons.mpr ⟨xs_vret X hr hlocks dJxc12de_init_da8c8_9, ?_⟩
  exact fun _ h => nomatch h
def tbJx4a65c_init_da8c8 (Y : xw_Y) : List (Nat × xw_T) := [(0, tr_ald 1 0),
  (1, tr_callI 4 0 (ptJxc12de_init_da8c8 Y) 0 0 0 0),
  (4, tr_ald 5 0),
  (5, tr_gets 8 Y.1.1.1),
  (8, tr_putf 11 0 1 (.array (.object "java/lang/Object"))),
  (11, tr_vret)]
def ptJx4a65c_init_da8c8 (Y : xw_Y) : xw_PT := xw_pt (tbJx4a65c_init_da8c8 Y) 1 0 0
theorem lkJx4a65c_init_da8c8_0 (Y : xw_Y) : xw_lk (tbJx4a65c_init_da8c8 Y) 0 = some (tr_ald 1 0) := rfl
theorem lkJx4a65c_init_da8c8_1 (Y : xw_Y) : xw_lk (tbJx4a65c_init_da8c8 Y) 1 = some (tr_callI 4 0 (ptJxc12de_init_da8c8 Y) 0 0 0 0) := rfl
theorem lkJx4a65c_init_da8c8_4 (Y : xw_Y) : xw_lk (tbJx4a65c_init_da8c8 Y) 4 = some (tr_ald 5 0) := rfl
theorem lkJx4a65c_init_da8c8_5 (Y : xw_Y) : xw_lk (tbJx4a65c_init_da8c8 Y) 5 = some (tr_gets 8 Y.1.1.1) := rfl
theorem lkJx4a65c_init_da8c8_8 (Y : xw_Y) : xw_lk (tbJx4a65c_init_da8c8 Y) 8 = some (tr_putf 11 0 1 (.array (.object "java/lang/Object"))) := rfl
theorem lkJx4a65c_init_da8c8_11 (Y : xw_Y) : xw_lk (tbJx4a65c_init_da8c8 Y) 11 = some (tr_vret) := rfl
set_option maxRecDepth 100000 in
set_option maxHeartbeats 4000000 in
theorem mpJx4a65c_init_da8c8 (l : Launch) (D : va_G) (Y : xw_Y) : xw_MP l D vwCl (xw_ty Y) Y.1 yJx4a65c_init_da8c8 wsJx4a65c_init_da8c8 ({ frames := 3, cells := 0, slots := 0, locals := 60 } : Room) (ptJx4a65c_init_da8c8 Y) 0 0 := by
  refine xw_met (cc := cJx4a65c_init_da8c8) (nL := 1) (ret := none) (by decide +kernel) rfl ?_
  intro p e s m args below meth c w0 post X hr hlocks hname
  unfold tbJx4a65c_init_da8c8
  refine List.forall_mem_cons.mpr ⟨xs_aload_n X dJx4a65c_init_da8c8_0 rfl, ?_⟩
  refine List.forall_mem_cons.mpr ⟨xs_callI X (mpJxc12de_init_da8c8 l D Y) (cwI 0 X.1.2.2.2.2 gJx4a65c_init_da8c8_Jxc12de_init_da8c8 rfl rfl rfl (X.1.2.2.2.2 _ (List.mem_of_getElem? (i := 5) rfl)) (X.1.2.2.2.2 _ (List.mem_of_getElem? (i := 3) rfl)) (X.1.2.2.2.2 _ (List.mem_of_getElem? (i := 4) rfl)) rfl (by decide +kernel) ⟨Nat.le_of_ble_eq_true rfl, Nat.le_of_ble_eq_true rfl⟩) rfl rfl dJx4a65c_init_da8c8_1, ?_⟩
  refine List.forall_mem_cons.mpr ⟨xs_aload_n X dJx4a65c_init_da8c8_4 rfl, ?_⟩
  refine List.forall_mem_cons.mpr ⟨xs_gets X (List.mem_of_getElem? (i := 1) rfl) rfl dJx4a65c_init_da8c8_5, ?_⟩
  refine List.forall_mem_cons.mpr ⟨xs_putf (C := RJx4a65c) (T := TJx4a65c) (N := 3) (ci := 0) (kf := 1) X (fun w h => List.mem_cons_of_mem _ (List.mem_append_right _ h)) tyJx4a65c tyJx4a65c_ok nmJx4a65c rfl (by decide) (List.mem_of_getElem? (i := 2) rfl) (fun _ h => h) rfl rfl dJx4a65c_init_da8c8_8, ?_⟩
  refine List.forall_mem_cons.mpr ⟨xs_vret X hr hlocks dJx4a65c_init_da8c8_11, ?_⟩
  exact fun _ h => nomatch h
def tbX3_init (Y : xw_Y) : List (Nat × xw_T) := [(0, tr_ald 1 0),
  (1, tr_obj 4),
  (4, tr_ald 5 0),
  (5, tr_new 8 0 3 [.int 0, .null, .int 0] 6 45),
  (8, tr_dup 9),
  (9, tr_callI 12 0 (ptJx4a65c_init_da8c8 Y) 0 0 6 45),
  (12, tr_putf 15 4 0 (.object "java/util/ArrayList")),
  (15, tr_ald 16 0),
  (16, tr_new 19 0 3 [.int 0, .null, .int 0] 6 45),
  (19, tr_dup 20),
  (20, tr_callI 23 0 (ptJx4a65c_init_da8c8 Y) 0 0 6 45),
  (23, tr_putf 26 4 1 (.object "java/util/ArrayList")),
  (26, tr_ald 27 0),
  (27, tr_push 28 (.int 3)),
  (28, tr_newq 31 Y.2.2.2.1 6 45),
  (31, tr_putf 34 4 2 (.array (.object "Pommel$Bout"))),
  (34, tr_ald 35 0),
  (35, tr_push 36 (.int 4)),
  (36, tr_newi 38 Y.2.1 6 45),
  (38, tr_putf 41 4 3 (.array .int)),
  (41, tr_ald 42 0),
  (42, tr_push 44 (.int 16)),
  (44, tr_newq 47 Y.2.2.2.2 6 45),
  (47, tr_putf 50 4 4 (.array (.object "Pommel$Fencer"))),
  (50, tr_ald 51 0),
  (51, tr_push 53 (.int 16)),
  (53, tr_newi 55 Y.2.1 6 45),
  (55, tr_putf 58 4 5 (.array .int)),
  (58, tr_vret)]
def ptX3_init (Y : xw_Y) : xw_PT := xw_pt (tbX3_init Y) 1 6 45
theorem lkX3_init_0 (Y : xw_Y) : xw_lk (tbX3_init Y) 0 = some (tr_ald 1 0) := rfl
theorem lkX3_init_1 (Y : xw_Y) : xw_lk (tbX3_init Y) 1 = some (tr_obj 4) := rfl
theorem lkX3_init_4 (Y : xw_Y) : xw_lk (tbX3_init Y) 4 = some (tr_ald 5 0) := rfl
theorem lkX3_init_5 (Y : xw_Y) : xw_lk (tbX3_init Y) 5 = some (tr_new 8 0 3 [.int 0, .null, .int 0] 6 45) := rfl
theorem lkX3_init_8 (Y : xw_Y) : xw_lk (tbX3_init Y) 8 = some (tr_dup 9) := rfl
theorem lkX3_init_9 (Y : xw_Y) : xw_lk (tbX3_init Y) 9 = some (tr_callI 12 0 (ptJx4a65c_init_da8c8 Y) 0 0 6 45) := rfl
theorem lkX3_init_12 (Y : xw_Y) : xw_lk (tbX3_init Y) 12 = some (tr_putf 15 4 0 (.object "java/util/ArrayList")) := rfl
theorem lkX3_init_15 (Y : xw_Y) : xw_lk (tbX3_init Y) 15 = some (tr_ald 16 0) := rfl
theorem lkX3_init_16 (Y : xw_Y) : xw_lk (tbX3_init Y) 16 = some (tr_new 19 0 3 [.int 0, .null, .int 0] 6 45) := rfl
theorem lkX3_init_19 (Y : xw_Y) : xw_lk (tbX3_init Y) 19 = some (tr_dup 20) := rfl
theorem lkX3_init_20 (Y : xw_Y) : xw_lk (tbX3_init Y) 20 = some (tr_callI 23 0 (ptJx4a65c_init_da8c8 Y) 0 0 6 45) := rfl
theorem lkX3_init_23 (Y : xw_Y) : xw_lk (tbX3_init Y) 23 = some (tr_putf 26 4 1 (.object "java/util/ArrayList")) := rfl
theorem lkX3_init_26 (Y : xw_Y) : xw_lk (tbX3_init Y) 26 = some (tr_ald 27 0) := rfl
theorem lkX3_init_27 (Y : xw_Y) : xw_lk (tbX3_init Y) 27 = some (tr_push 28 (.int 3)) := rfl
theorem lkX3_init_28 (Y : xw_Y) : xw_lk (tbX3_init Y) 28 = some (tr_newq 31 Y.2.2.2.1 6 45) := rfl
theorem lkX3_init_31 (Y : xw_Y) : xw_lk (tbX3_init Y) 31 = some (tr_putf 34 4 2 (.array (.object "Pommel$Bout"))) := rfl
theorem lkX3_init_34 (Y : xw_Y) : xw_lk (tbX3_init Y) 34 = some (tr_ald 35 0) := rfl
theorem lkX3_init_35 (Y : xw_Y) : xw_lk (tbX3_init Y) 35 = some (tr_push 36 (.int 4)) := rfl
theorem lkX3_init_36 (Y : xw_Y) : xw_lk (tbX3_init Y) 36 = some (tr_newi 38 Y.2.1 6 45) := rfl
theorem lkX3_init_38 (Y : xw_Y) : xw_lk (tbX3_init Y) 38 = some (tr_putf 41 4 3 (.array .int)) := rfl
theorem lkX3_init_41 (Y : xw_Y) : xw_lk (tbX3_init Y) 41 = some (tr_ald 42 0) := rfl
theorem lkX3_init_42 (Y : xw_Y) : xw_lk (tbX3_init Y) 42 = some (tr_push 44 (.int 16)) := rfl
theorem lkX3_init_44 (Y : xw_Y) : xw_lk (tbX3_init Y) 44 = some (tr_newq 47 Y.2.2.2.2 6 45) := rfl
theorem lkX3_init_47 (Y : xw_Y) : xw_lk (tbX3_init Y) 47 = some (tr_putf 50 4 4 (.array (.object "Pommel$Fencer"))) := rfl
theorem lkX3_init_50 (Y : xw_Y) : xw_lk (tbX3_init Y) 50 = some (tr_ald 51 0) := rfl
theorem lkX3_init_51 (Y : xw_Y) : xw_lk (tbX3_init Y) 51 = some (tr_push 53 (.int 16)) := rfl
theorem lkX3_init_53 (Y : xw_Y) : xw_lk (tbX3_init Y) 53 = some (tr_newi 55 Y.2.1 6 45) := rfl
theorem lkX3_init_55 (Y : xw_Y) : xw_lk (tbX3_init Y) 55 = some (tr_putf 58 4 5 (.array .int)) := rfl
theorem lkX3_init_58 (Y : xw_Y) : xw_lk (tbX3_init Y) 58 = some (tr_vret) := rfl
set_option maxRecDepth 100000 in
set_option maxHeartbeats 4000000 in
theorem mpX3_init (l : Launch) (D : va_G) (Y : xw_Y) : xw_MP l D vwCl (xw_ty Y) Y.1 yX3_init wsX3_init ({ frames := 4, cells := 6, slots := 45, locals := 80 } : Room) (ptX3_init Y) 6 45 := by
  refine xw_met (cc := cX3_init) (nL := 1) (ret := none) (by decide +kernel) rfl ?_
  intro p e s m args below meth c w0 post X hr hlocks hname
  unfold tbX3_init
  refine List.forall_mem_cons.mpr ⟨xs_aload_n X dX3_init_0 rfl, ?_⟩
  refine List.forall_mem_cons.mpr ⟨xs_obj X (List.mem_of_getElem? (i := 1) rfl) (List.mem_of_getElem? (i := 2) rfl) (List.mem_of_getElem? (i := 3) rfl) (Nat.le_of_ble_eq_true rfl) (Nat.le_of_ble_eq_true rfl) dX3_init_1, ?_⟩
  refine List.forall_mem_cons.mpr ⟨xs_aload_n X dX3_init_4 rfl, ?_⟩
  refine List.forall_mem_cons.mpr ⟨xs_new (C := RJx4a65c) (T := TJx4a65c) (N := 3) (ci := 0) X (fun w h => List.mem_cons_of_mem _ (List.mem_append_left _ (List.mem_append_right _ h))) tyJx4a65c tyJx4a65c_ok rfl (List.mem_of_getElem? (i := 4) rfl) (List.mem_of_getElem? (i := 5) rfl) (List.mem_of_getElem? (i := 6) rfl) (fun j hj => by
      match j, hj with
      | 0, _ => rfl
      | 1, _ => rfl
      | 2, _ => rfl
      | n + 3, h => exact absurd h (by omega)) rfl rfl dX3_init_5, ?_⟩
  refine List.forall_mem_cons.mpr ⟨xs_dup X dX3_init_8, ?_⟩
  refine List.forall_mem_cons.mpr ⟨xs_callI X (mpJx4a65c_init_da8c8 l D Y) (cwI 0 X.1.2.2.2.2 gX3_init_Jx4a65c_init_da8c8 rfl rfl rfl (X.1.2.2.2.2 _ (List.mem_of_getElem? (i := 6) rfl)) (X.1.2.2.2.2 _ (List.mem_of_getElem? (i := 16) rfl)) (X.1.2.2.2.2 _ (List.mem_of_getElem? (i := 17) rfl)) rfl (by decide +kernel) ⟨Nat.le_of_ble_eq_true rfl, Nat.le_of_ble_eq_true rfl⟩) rfl rfl dX3_init_9, ?_⟩
  refine List.forall_mem_cons.mpr ⟨xs_putF (C := RX3) (T := TX3) (N := 10) (ci := 4) (kf := 0) X (fun w h => List.mem_cons_of_mem _ (List.mem_append_right _ h)) tyX3 tyX3_ok nmX3 rfl (by decide) (List.mem_of_getElem? (i := 7) rfl) (fun _ h => h) rfl hname rfl rfl dX3_init_12, ?_⟩
  refine List.forall_mem_cons.mpr ⟨xs_aload_n X dX3_init_15 rfl, ?_⟩
  refine List.forall_mem_cons.mpr ⟨xs_new (C := RJx4a65c) (T := TJx4a65c) (N := 3) (ci := 0) X (fun w h => List.mem_cons_of_mem _ (List.mem_append_left _ (List.mem_append_right _ h))) tyJx4a65c tyJx4a65c_ok rfl (List.mem_of_getElem? (i := 4) rfl) (List.mem_of_getElem? (i := 5) rfl) (List.mem_of_getElem? (i := 6) rfl) (fun j hj => by
      match j, hj with
      | 0, _ => rfl
      | 1, _ => rfl
      | 2, _ => rfl
      | n + 3, h => exact absurd h (by omega)) rfl rfl dX3_init_16, ?_⟩
  refine List.forall_mem_cons.mpr ⟨xs_dup X dX3_init_19, ?_⟩
  refine List.forall_mem_cons.mpr ⟨xs_callI X (mpJx4a65c_init_da8c8 l D Y) (cwI 0 X.1.2.2.2.2 gX3_init_Jx4a65c_init_da8c8 rfl rfl rfl (X.1.2.2.2.2 _ (List.mem_of_getElem? (i := 6) rfl)) (X.1.2.2.2.2 _ (List.mem_of_getElem? (i := 16) rfl)) (X.1.2.2.2.2 _ (List.mem_of_getElem? (i := 17) rfl)) rfl (by decide +kernel) ⟨Nat.le_of_ble_eq_true rfl, Nat.le_of_ble_eq_true rfl⟩) rfl rfl dX3_init_20, ?_⟩
  refine List.forall_mem_cons.mpr ⟨xs_putF (C := RX3) (T := TX3) (N := 10) (ci := 4) (kf := 1) X (fun w h => List.mem_cons_of_mem _ (List.mem_append_right _ h)) tyX3 tyX3_ok nmX3 rfl (by decide) (List.mem_of_getElem? (i := 8) rfl) (fun _ h => h) rfl hname rfl rfl dX3_init_23, ?_⟩
  refine List.forall_mem_cons.mpr ⟨xs_aload_n X dX3_init_26 rfl, ?_⟩
  refine List.forall_mem_cons.mpr ⟨xs_iconst X dX3_init_27 rfl, ?_⟩
  refine List.forall_mem_cons.mpr ⟨xs_newq (t0 := 2) (C := "Pommel$Bout") X rfl (List.mem_of_getElem? (i := 9) rfl) X.2.2.2.2.2.1 rfl rfl dX3_init_28, ?_⟩
  refine List.forall_mem_cons.mpr ⟨xs_putF (C := RX3) (T := TX3) (N := 10) (ci := 4) (kf := 2) X (fun w h => List.mem_cons_of_mem _ (List.mem_append_right _ h)) tyX3 tyX3_ok nmX3 rfl (by decide) (List.mem_of_getElem? (i := 10) rfl) (fun _ h => h) rfl hname rfl rfl dX3_init_31, ?_⟩
  refine List.forall_mem_cons.mpr ⟨xs_aload_n X dX3_init_34 rfl, ?_⟩
  refine List.forall_mem_cons.mpr ⟨xs_iconst X dX3_init_35 rfl, ?_⟩
  refine List.forall_mem_cons.mpr ⟨xs_newi (t0 := 0) X rfl (List.mem_of_getElem? (i := 11) rfl) rfl rfl dX3_init_36, ?_⟩
  refine List.forall_mem_cons.mpr ⟨xs_putF (C := RX3) (T := TX3) (N := 10) (ci := 4) (kf := 3) X (fun w h => List.mem_cons_of_mem _ (List.mem_append_right _ h)) tyX3 tyX3_ok nmX3 rfl (by decide) (List.mem_of_getElem? (i := 12) rfl) (fun _ h => h) rfl hname rfl rfl dX3_init_38, ?_⟩
  refine List.forall_mem_cons.mpr ⟨xs_aload_n X dX3_init_41 rfl, ?_⟩
  refine List.forall_mem_cons.mpr ⟨xs_bipush X dX3_init_42 rfl, ?_⟩
  refine List.forall_mem_cons.mpr ⟨xs_newq (t0 := 3) (C := "Pommel$Fencer") X rfl (List.mem_of_getElem? (i := 13) rfl) X.2.2.2.2.2.2.1 rfl rfl dX3_init_44, ?_⟩
  refine List.forall_mem_cons.mpr ⟨xs_putF (C := RX3) (T := TX3) (N := 10) (ci := 4) (kf := 4) X (fun w h => List.mem_cons_of_mem _ (List.mem_append_right _ h)) tyX3 tyX3_ok nmX3 rfl (by decide) (List.mem_of_getElem? (i := 14) rfl) (fun _ h => h) rfl hname rfl rfl dX3_init_47, ?_⟩
  refine List.forall_mem_cons.mpr ⟨xs_aload_n X dX3_init_50 rfl, ?_⟩
  refine List.forall_mem_cons.mpr ⟨xs_bipush X dX3_init_51 rfl, ?_⟩
  refine List.forall_mem_cons.mpr ⟨xs_newi (t0 := 0) X rfl (List.mem_of_getElem? (i := 11) rfl) rfl rfl dX3_init_53, ?_⟩
  refine List.forall_mem_cons.mpr ⟨xs_putF (C := RX3) (T := TX3) (N := 10) (ci := 4) (kf := 5) X (fun w h => List.mem_cons_of_mem _ (List.mem_append_right _ h)) tyX3 tyX3_ok nmX3 rfl (by decide) (List.mem_of_getElem? (i := 15) rfl) (fun _ h => h) rfl hname rfl rfl dX3_init_55, ?_⟩
  refine List.forall_mem_cons.mpr ⟨xs_vret X hr hlocks dX3_init_58, ?_⟩
  exact fun _ h => nomatch h
def tbX3_isIn (Y : xw_Y) : List (Nat × xw_T) := [(0, tr_ild 1 0),
  (1, tr_ild 2 1),
  (2, tr_ifc 5 14 (fun x y => x < y)),
  (5, tr_ild 6 0),
  (6, tr_ild 7 2),
  (7, tr_ifc 10 14 (fun x y => y < x)),
  (10, tr_push 11 (.int 1)),
  (11, tr_goto 15),
  (14, tr_push 15 (.int 0)),
  (15, tr_iret .boolean)]
def ptX3_isIn (Y : xw_Y) : xw_PT := xw_pt (tbX3_isIn Y) 3 0 0
theorem lkX3_isIn_0 (Y : xw_Y) : xw_lk (tbX3_isIn Y) 0 = some (tr_ild 1 0) := rfl
theorem lkX3_isIn_1 (Y : xw_Y) : xw_lk (tbX3_isIn Y) 1 = some (tr_ild 2 1) := rfl
theorem lkX3_isIn_2 (Y : xw_Y) : xw_lk (tbX3_isIn Y) 2 = some (tr_ifc 5 14 (fun x y => x < y)) := rfl
theorem lkX3_isIn_5 (Y : xw_Y) : xw_lk (tbX3_isIn Y) 5 = some (tr_ild 6 0) := rfl
theorem lkX3_isIn_6 (Y : xw_Y) : xw_lk (tbX3_isIn Y) 6 = some (tr_ild 7 2) := rfl
theorem lkX3_isIn_7 (Y : xw_Y) : xw_lk (tbX3_isIn Y) 7 = some (tr_ifc 10 14 (fun x y => y < x)) := rfl
theorem lkX3_isIn_10 (Y : xw_Y) : xw_lk (tbX3_isIn Y) 10 = some (tr_push 11 (.int 1)) := rfl
theorem lkX3_isIn_11 (Y : xw_Y) : xw_lk (tbX3_isIn Y) 11 = some (tr_goto 15) := rfl
theorem lkX3_isIn_14 (Y : xw_Y) : xw_lk (tbX3_isIn Y) 14 = some (tr_push 15 (.int 0)) := rfl
theorem lkX3_isIn_15 (Y : xw_Y) : xw_lk (tbX3_isIn Y) 15 = some (tr_iret .boolean) := rfl
set_option maxRecDepth 100000 in
set_option maxHeartbeats 4000000 in
theorem mpX3_isIn (l : Launch) (D : va_G) (Y : xw_Y) : xw_MP l D vwCl (xw_ty Y) Y.1 yX3_isIn wsX3_isIn ({ frames := 0, cells := 0, slots := 0, locals := 0 } : Room) (ptX3_isIn Y) 0 0 := by
  refine xw_met (cc := cX3_isIn) (nL := 3) (ret := (some .boolean)) (by decide +kernel) rfl ?_
  intro p e s m args below meth c w0 post X hr hlocks hname
  unfold tbX3_isIn
  refine List.forall_mem_cons.mpr ⟨xs_iload_n X dX3_isIn_0 rfl, ?_⟩
  refine List.forall_mem_cons.mpr ⟨xs_iload_n X dX3_isIn_1 rfl, ?_⟩
  refine List.forall_mem_cons.mpr ⟨xs_icmplt (tg := 14) X dX3_isIn_2 rfl, ?_⟩
  refine List.forall_mem_cons.mpr ⟨xs_iload_n X dX3_isIn_5 rfl, ?_⟩
  refine List.forall_mem_cons.mpr ⟨xs_iload_n X dX3_isIn_6 rfl, ?_⟩
  refine List.forall_mem_cons.mpr ⟨xs_icmpgt (tg := 14) X dX3_isIn_7 rfl, ?_⟩
  refine List.forall_mem_cons.mpr ⟨xs_iconst X dX3_isIn_10 rfl, ?_⟩
  refine List.forall_mem_cons.mpr ⟨xs_goto (tg := 15) X dX3_isIn_11 rfl, ?_⟩
  refine List.forall_mem_cons.mpr ⟨xs_iconst X dX3_isIn_14 rfl, ?_⟩
  refine List.forall_mem_cons.mpr ⟨xs_iret X hr hlocks dX3_isIn_15, ?_⟩
  exact fun _ h => nomatch h
def tbJx4a65c_size_8abf5 (Y : xw_Y) : List (Nat × xw_T) := [(0, tr_ald 1 0),
  (1, tr_getf 4 0 2),
  (4, tr_iret .int)]
def ptJx4a65c_size_8abf5 (Y : xw_Y) : xw_PT := xw_pt (tbJx4a65c_size_8abf5 Y) 1 0 0
theorem lkJx4a65c_size_8abf5_0 (Y : xw_Y) : xw_lk (tbJx4a65c_size_8abf5 Y) 0 = some (tr_ald 1 0) := rfl
theorem lkJx4a65c_size_8abf5_1 (Y : xw_Y) : xw_lk (tbJx4a65c_size_8abf5 Y) 1 = some (tr_getf 4 0 2) := rfl
theorem lkJx4a65c_size_8abf5_4 (Y : xw_Y) : xw_lk (tbJx4a65c_size_8abf5 Y) 4 = some (tr_iret .int) := rfl
set_option maxRecDepth 100000 in
set_option maxHeartbeats 4000000 in
theorem mpJx4a65c_size_8abf5 (l : Launch) (D : va_G) (Y : xw_Y) : xw_MP l D vwCl (xw_ty Y) Y.1 yJx4a65c_size_8abf5 wsJx4a65c_size_8abf5 ({ frames := 0, cells := 0, slots := 0, locals := 0 } : Room) (ptJx4a65c_size_8abf5 Y) 0 0 := by
  refine xw_met (cc := cJx4a65c_size_8abf5) (nL := 1) (ret := (some .int)) (by decide +kernel) rfl ?_
  intro p e s m args below meth c w0 post X hr hlocks hname
  unfold tbJx4a65c_size_8abf5
  refine List.forall_mem_cons.mpr ⟨xs_aload_n X dJx4a65c_size_8abf5_0 rfl, ?_⟩
  refine List.forall_mem_cons.mpr ⟨xs_getf (C := RJx4a65c) (T := TJx4a65c) (N := 3) (ci := 0) (kf := 2) X (fun w h => List.mem_cons_of_mem _ (List.mem_append_right _ h)) rfl (by decide) (List.mem_of_getElem? (i := 1) rfl) (fun _ h => h) dJx4a65c_size_8abf5_1, ?_⟩
  refine List.forall_mem_cons.mpr ⟨xs_iret X hr hlocks dJx4a65c_size_8abf5_4, ?_⟩
  exact fun _ h => nomatch h
def tbX1_init (Y : xw_Y) : List (Nat × xw_T) := [(0, tr_ald 1 0),
  (1, tr_obj 4),
  (4, tr_ald 5 0),
  (5, tr_push 6 (.int (-1))),
  (6, tr_putf 9 2 3 .int),
  (9, tr_ald 10 0),
  (10, tr_push 11 (.int (-1))),
  (11, tr_putf 14 2 4 .int),
  (14, tr_ald 15 0),
  (15, tr_push 16 (.int (-1))),
  (16, tr_putf 19 2 12 .int),
  (19, tr_ald 20 0),
  (20, tr_push 21 (.int (-1))),
  (21, tr_putf 24 2 13 .int),
  (24, tr_ald 25 0),
  (25, tr_ild 26 1),
  (26, tr_putf 29 2 0 .int),
  (29, tr_ald 30 0),
  (30, tr_ild 31 2),
  (31, tr_putf 34 2 1 .int),
  (34, tr_ald 35 0),
  (35, tr_ild 36 3),
  (36, tr_putf 39 2 2 .int),
  (39, tr_vret)]
def ptX1_init (Y : xw_Y) : xw_PT := xw_pt (tbX1_init Y) 4 0 0
theorem lkX1_init_0 (Y : xw_Y) : xw_lk (tbX1_init Y) 0 = some (tr_ald 1 0) := rfl
theorem lkX1_init_1 (Y : xw_Y) : xw_lk (tbX1_init Y) 1 = some (tr_obj 4) := rfl
theorem lkX1_init_4 (Y : xw_Y) : xw_lk (tbX1_init Y) 4 = some (tr_ald 5 0) := rfl
theorem lkX1_init_5 (Y : xw_Y) : xw_lk (tbX1_init Y) 5 = some (tr_push 6 (.int (-1))) := rfl
theorem lkX1_init_6 (Y : xw_Y) : xw_lk (tbX1_init Y) 6 = some (tr_putf 9 2 3 .int) := rfl
theorem lkX1_init_9 (Y : xw_Y) : xw_lk (tbX1_init Y) 9 = some (tr_ald 10 0) := rfl
theorem lkX1_init_10 (Y : xw_Y) : xw_lk (tbX1_init Y) 10 = some (tr_push 11 (.int (-1))) := rfl
theorem lkX1_init_11 (Y : xw_Y) : xw_lk (tbX1_init Y) 11 = some (tr_putf 14 2 4 .int) := rfl
theorem lkX1_init_14 (Y : xw_Y) : xw_lk (tbX1_init Y) 14 = some (tr_ald 15 0) := rfl
theorem lkX1_init_15 (Y : xw_Y) : xw_lk (tbX1_init Y) 15 = some (tr_push 16 (.int (-1))) := rfl
theorem lkX1_init_16 (Y : xw_Y) : xw_lk (tbX1_init Y) 16 = some (tr_putf 19 2 12 .int) := rfl
theorem lkX1_init_19 (Y : xw_Y) : xw_lk (tbX1_init Y) 19 = some (tr_ald 20 0) := rfl
theorem lkX1_init_20 (Y : xw_Y) : xw_lk (tbX1_init Y) 20 = some (tr_push 21 (.int (-1))) := rfl
theorem lkX1_init_21 (Y : xw_Y) : xw_lk (tbX1_init Y) 21 = some (tr_putf 24 2 13 .int) := rfl
theorem lkX1_init_24 (Y : xw_Y) : xw_lk (tbX1_init Y) 24 = some (tr_ald 25 0) := rfl
theorem lkX1_init_25 (Y : xw_Y) : xw_lk (tbX1_init Y) 25 = some (tr_ild 26 1) := rfl
theorem lkX1_init_26 (Y : xw_Y) : xw_lk (tbX1_init Y) 26 = some (tr_putf 29 2 0 .int) := rfl
theorem lkX1_init_29 (Y : xw_Y) : xw_lk (tbX1_init Y) 29 = some (tr_ald 30 0) := rfl
theorem lkX1_init_30 (Y : xw_Y) : xw_lk (tbX1_init Y) 30 = some (tr_ild 31 2) := rfl
theorem lkX1_init_31 (Y : xw_Y) : xw_lk (tbX1_init Y) 31 = some (tr_putf 34 2 1 .int) := rfl
theorem lkX1_init_34 (Y : xw_Y) : xw_lk (tbX1_init Y) 34 = some (tr_ald 35 0) := rfl
theorem lkX1_init_35 (Y : xw_Y) : xw_lk (tbX1_init Y) 35 = some (tr_ild 36 3) := rfl
theorem lkX1_init_36 (Y : xw_Y) : xw_lk (tbX1_init Y) 36 = some (tr_putf 39 2 2 .int) := rfl
theorem lkX1_init_39 (Y : xw_Y) : xw_lk (tbX1_init Y) 39 = some (tr_vret) := rfl
set_option maxRecDepth 100000 in
set_option maxHeartbeats 4000000 in
theorem mpX1_init (l : Launch) (D : va_G) (Y : xw_Y) : xw_MP l D vwCl (xw_ty Y) Y.1 yX1_init wsX1_init ({ frames := 1, cells := 0, slots := 0, locals := 20 } : Room) (ptX1_init Y) 0 0 := by
  refine xw_met (cc := cX1_init) (nL := 4) (ret := none) (by decide +kernel) rfl ?_
  intro p e s m args below meth c w0 post X hr hlocks hname
  unfold tbX1_init
  refine List.forall_mem_cons.mpr ⟨xs_aload_n X dX1_init_0 rfl, ?_⟩
  refine List.forall_mem_cons.mpr ⟨xs_obj X (List.mem_of_getElem? (i := 1) rfl) (List.mem_of_getElem? (i := 2) rfl) (List.mem_of_getElem? (i := 3) rfl) (Nat.le_of_ble_eq_true rfl) (Nat.le_of_ble_eq_true rfl) dX1_init_1, ?_⟩
  refine List.forall_mem_cons.mpr ⟨xs_aload_n X dX1_init_4 rfl, ?_⟩
  refine List.forall_mem_cons.mpr ⟨xs_iconst X dX1_init_5 rfl, ?_⟩
  refine List.forall_mem_cons.mpr ⟨xs_putf (C := RX1) (T := TX1) (N := 14) (ci := 2) (kf := 3) X (fun w h => List.mem_cons_of_mem _ (List.mem_append_right _ h)) tyX1 tyX1_ok nmX1 rfl (by decide) (List.mem_of_getElem? (i := 4) rfl) (fun _ h => h) rfl rfl dX1_init_6, ?_⟩
  refine List.forall_mem_cons.mpr ⟨xs_aload_n X dX1_init_9 rfl, ?_⟩
  refine List.forall_mem_cons.mpr ⟨xs_iconst X dX1_init_10 rfl, ?_⟩
  refine List.forall_mem_cons.mpr ⟨xs_putf (C := RX1) (T := TX1) (N := 14) (ci := 2) (kf := 4) X (fun w h => List.mem_cons_of_mem _ (List.mem_append_right _ h)) tyX1 tyX1_ok nmX1 rfl (by decide) (List.mem_of_getElem? (i := 5) rfl) (fun _ h => h) rfl rfl dX1_init_11, ?_⟩
  refine List.forall_mem_cons.mpr ⟨xs_aload_n X dX1_init_14 rfl, ?_⟩
  refine List.forall_mem_cons.mpr ⟨xs_iconst X dX1_init_15 rfl, ?_⟩
  refine List.forall_mem_cons.mpr ⟨xs_putf (C := RX1) (T := TX1) (N := 14) (ci := 2) (kf := 12) X (fun w h => List.mem_cons_of_mem _ (List.mem_append_right _ h)) tyX1 tyX1_ok nmX1 rfl (by decide) (List.mem_of_getElem? (i := 6) rfl) (fun _ h => h) rfl rfl dX1_init_16, ?_⟩
  refine List.forall_mem_cons.mpr ⟨xs_aload_n X dX1_init_19 rfl, ?_⟩
  refine List.forall_mem_cons.mpr ⟨xs_iconst X dX1_init_20 rfl, ?_⟩
  refine List.forall_mem_cons.mpr ⟨xs_putf (C := RX1) (T := TX1) (N := 14) (ci := 2) (kf := 13) X (fun w h => List.mem_cons_of_mem _ (List.mem_append_right _ h)) tyX1 tyX1_ok nmX1 rfl (by decide) (List.mem_of_getElem? (i := 7) rfl) (fun _ h => h) rfl rfl dX1_init_21, ?_⟩
  refine List.forall_mem_cons.mpr ⟨xs_aload_n X dX1_init_24 rfl, ?_⟩
  refine List.forall_mem_cons.mpr ⟨xs_iload_n X dX1_init_25 rfl, ?_⟩
  refine List.forall_mem_cons.mpr ⟨xs_putF (C := RX1) (T := TX1) (N := 14) (ci := 2) (kf := 0) X (fun w h => List.mem_cons_of_mem _ (List.mem_append_right _ h)) tyX1 tyX1_ok nmX1 rfl (by decide) (List.mem_of_getElem? (i := 8) rfl) (fun _ h => h) rfl hname rfl rfl dX1_init_26, ?_⟩
  refine List.forall_mem_cons.mpr ⟨xs_aload_n X dX1_init_29 rfl, ?_⟩
  refine List.forall_mem_cons.mpr ⟨xs_iload_n X dX1_init_30 rfl, ?_⟩
  refine List.forall_mem_cons.mpr ⟨xs_putF (C := RX1) (T := TX1) (N := 14) (ci := 2) (kf := 1) X (fun w h => List.mem_cons_of_mem _ (List.mem_append_right _ h)) tyX1 tyX1_ok nmX1 rfl (by decide) (List.mem_of_getElem? (i := 9) rfl) (fun _ h => h) rfl hname rfl rfl dX1_init_31, ?_⟩
  refine List.forall_mem_cons.mpr ⟨xs_aload_n X dX1_init_34 rfl, ?_⟩
  refine List.forall_mem_cons.mpr ⟨xs_iload_n X dX1_init_35 rfl, ?_⟩
  refine List.forall_mem_cons.mpr ⟨xs_putF (C := RX1) (T := TX1) (N := 14) (ci := 2) (kf := 2) X (fun w h => List.mem_cons_of_mem _ (List.mem_append_right _ h)) tyX1 tyX1_ok nmX1 rfl (by decide) (List.mem_of_getElem? (i := 10) rfl) (fun _ h => h) rfl hname rfl rfl dX1_init_36, ?_⟩
  refine List.forall_mem_cons.mpr ⟨xs_vret X hr hlocks dX1_init_39, ?_⟩
  exact fun _ h => nomatch h
def tbJ8_hugeLength_7cf53 (Y : xw_Y) : List (Nat × xw_T) := [(0, tr_ild 1 0),
  (1, tr_ild 2 1),
  (2, tr_i2 3 (fun x y => x + y)),
  (3, tr_ist 4 2),
  (4, tr_ild 5 2),
  (5, tr_ifz 8 49 (fun x => 0 ≤ x)),
  (49, tr_ild 50 2),
  (50, tr_push 52 (.int (2147483639))),
  (52, tr_ifc 55 58 (fun x y => y < x)),
  (55, tr_push 57 (.int (2147483639))),
  (57, tr_iret .int),
  (58, tr_ild 59 2),
  (59, tr_iret .int)]
def ptJ8_hugeLength_7cf53 (Y : xw_Y) : xw_PT := xw_pt (tbJ8_hugeLength_7cf53 Y) 3 0 0
theorem lkJ8_hugeLength_7cf53_0 (Y : xw_Y) : xw_lk (tbJ8_hugeLength_7cf53 Y) 0 = some (tr_ild 1 0) := rfl
theorem lkJ8_hugeLength_7cf53_1 (Y : xw_Y) : xw_lk (tbJ8_hugeLength_7cf53 Y) 1 = some (tr_ild 2 1) := rfl
theorem lkJ8_hugeLength_7cf53_2 (Y : xw_Y) : xw_lk (tbJ8_hugeLength_7cf53 Y) 2 = some (tr_i2 3 (fun x y => x + y)) := rfl
theorem lkJ8_hugeLength_7cf53_3 (Y : xw_Y) : xw_lk (tbJ8_hugeLength_7cf53 Y) 3 = some (tr_ist 4 2) := rfl
theorem lkJ8_hugeLength_7cf53_4 (Y : xw_Y) : xw_lk (tbJ8_hugeLength_7cf53 Y) 4 = some (tr_ild 5 2) := rfl
theorem lkJ8_hugeLength_7cf53_5 (Y : xw_Y) : xw_lk (tbJ8_hugeLength_7cf53 Y) 5 = some (tr_ifz 8 49 (fun x => 0 ≤ x)) := rfl
theorem lkJ8_hugeLength_7cf53_49 (Y : xw_Y) : xw_lk (tbJ8_hugeLength_7cf53 Y) 49 = some (tr_ild 50 2) := rfl
theorem lkJ8_hugeLength_7cf53_50 (Y : xw_Y) : xw_lk (tbJ8_hugeLength_7cf53 Y) 50 = some (tr_push 52 (.int (2147483639))) := rfl
theorem lkJ8_hugeLength_7cf53_52 (Y : xw_Y) : xw_lk (tbJ8_hugeLength_7cf53 Y) 52 = some (tr_ifc 55 58 (fun x y => y < x)) := rfl
theorem lkJ8_hugeLength_7cf53_55 (Y : xw_Y) : xw_lk (tbJ8_hugeLength_7cf53 Y) 55 = some (tr_push 57 (.int (2147483639))) := rfl
theorem lkJ8_hugeLength_7cf53_57 (Y : xw_Y) : xw_lk (tbJ8_hugeLength_7cf53 Y) 57 = some (tr_iret .int) := rfl
theorem lkJ8_hugeLength_7cf53_58 (Y : xw_Y) : xw_lk (tbJ8_hugeLength_7cf53 Y) 58 = some (tr_ild 59 2) := rfl
theorem lkJ8_hugeLength_7cf53_59 (Y : xw_Y) : xw_lk (tbJ8_hugeLength_7cf53 Y) 59 = some (tr_iret .int) := rfl
set_option maxRecDepth 100000 in
set_option maxHeartbeats 4000000 in
theorem mpJ8_hugeLength_7cf53 (l : Launch) (D : va_G) (Y : xw_Y) : xw_MP l D vwCl (xw_ty Y) Y.1 yJ8_hugeLength_7cf53 wsJ8_hugeLength_7cf53 ({ frames := 0, cells := 0, slots := 0, locals := 0 } : Room) (ptJ8_hugeLength_7cf53 Y) 0 0 := by
  refine xw_met (cc := cJ8_hugeLength_7cf53) (nL := 3) (ret := (some .int)) (by decide +kernel) rfl ?_
  intro p e s m args below meth c w0 post X hr hlocks hname
  unfold tbJ8_hugeLength_7cf53
  refine List.forall_mem_cons.mpr ⟨xs_iload_n X dJ8_hugeLength_7cf53_0 rfl, ?_⟩
  refine List.forall_mem_cons.mpr ⟨xs_iload_n X dJ8_hugeLength_7cf53_1 rfl, ?_⟩
  refine List.forall_mem_cons.mpr ⟨xs_iadd X dJ8_hugeLength_7cf53_2, ?_⟩
  refine List.forall_mem_cons.mpr ⟨xs_istore_n X dJ8_hugeLength_7cf53_3 rfl (Nat.le_of_ble_eq_true rfl), ?_⟩
  refine List.forall_mem_cons.mpr ⟨xs_iload_n X dJ8_hugeLength_7cf53_4 rfl, ?_⟩
  refine List.forall_mem_cons.mpr ⟨xs_ifge (tg := 49) X dJ8_hugeLength_7cf53_5 rfl, ?_⟩
  refine List.forall_mem_cons.mpr ⟨xs_iload_n X dJ8_hugeLength_7cf53_49 rfl, ?_⟩
  refine List.forall_mem_cons.mpr ⟨xs_ldc X (List.mem_of_getElem? (i := 1) rfl) dJ8_hugeLength_7cf53_50, ?_⟩
  refine List.forall_mem_cons.mpr ⟨xs_icmpgt (tg := 58) X dJ8_hugeLength_7cf53_52 rfl, ?_⟩
  refine List.forall_mem_cons.mpr ⟨xs_ldc X (List.mem_of_getElem? (i := 1) rfl) dJ8_hugeLength_7cf53_55, ?_⟩
  refine List.forall_mem_cons.mpr ⟨xs_iret X hr hlocks dJ8_hugeLength_7cf53_57, ?_⟩
  refine List.forall_mem_cons.mpr ⟨xs_iload_n X dJ8_hugeLength_7cf53_58 rfl, ?_⟩
  refine List.forall_mem_cons.mpr ⟨xs_iret X hr hlocks dJ8_hugeLength_7cf53_59, ?_⟩
  exact fun _ h => nomatch h
def tbJ8_newLength_cabcc (Y : xw_Y) : List (Nat × xw_T) := [(0, tr_ild 1 0),
  (1, tr_ild 2 1),
  (2, tr_ild 3 2),
  (3, tr_max 6 0 0),
  (6, tr_i2 7 (fun x y => x + y)),
  (7, tr_ist 8 3),
  (8, tr_push 9 (.int 0)),
  (9, tr_ild 10 3),
  (10, tr_ifc 13 21 (fun x y => y ≤ x)),
  (13, tr_ild 14 3),
  (14, tr_push 16 (.int (2147483639))),
  (16, tr_ifc 19 21 (fun x y => y < x)),
  (19, tr_ild 20 3),
  (20, tr_iret .int),
  (21, tr_ild 22 0),
  (22, tr_ild 23 1),
  (23, tr_callS 26 2 (ptJ8_hugeLength_7cf53 Y) 0 0 0 0),
  (26, tr_iret .int)]
def ptJ8_newLength_cabcc (Y : xw_Y) : xw_PT := xw_pt (tbJ8_newLength_cabcc Y) 4 0 0
theorem lkJ8_newLength_cabcc_0 (Y : xw_Y) : xw_lk (tbJ8_newLength_cabcc Y) 0 = some (tr_ild 1 0) := rfl
theorem lkJ8_newLength_cabcc_1 (Y : xw_Y) : xw_lk (tbJ8_newLength_cabcc Y) 1 = some (tr_ild 2 1) := rfl
theorem lkJ8_newLength_cabcc_2 (Y : xw_Y) : xw_lk (tbJ8_newLength_cabcc Y) 2 = some (tr_ild 3 2) := rfl
theorem lkJ8_newLength_cabcc_3 (Y : xw_Y) : xw_lk (tbJ8_newLength_cabcc Y) 3 = some (tr_max 6 0 0) := rfl
theorem lkJ8_newLength_cabcc_6 (Y : xw_Y) : xw_lk (tbJ8_newLength_cabcc Y) 6 = some (tr_i2 7 (fun x y => x + y)) := rfl
theorem lkJ8_newLength_cabcc_7 (Y : xw_Y) : xw_lk (tbJ8_newLength_cabcc Y) 7 = some (tr_ist 8 3) := rfl
theorem lkJ8_newLength_cabcc_8 (Y : xw_Y) : xw_lk (tbJ8_newLength_cabcc Y) 8 = some (tr_push 9 (.int 0)) := rfl
theorem lkJ8_newLength_cabcc_9 (Y : xw_Y) : xw_lk (tbJ8_newLength_cabcc Y) 9 = some (tr_ild 10 3) := rfl
theorem lkJ8_newLength_cabcc_10 (Y : xw_Y) : xw_lk (tbJ8_newLength_cabcc Y) 10 = some (tr_ifc 13 21 (fun x y => y ≤ x)) := rfl
theorem lkJ8_newLength_cabcc_13 (Y : xw_Y) : xw_lk (tbJ8_newLength_cabcc Y) 13 = some (tr_ild 14 3) := rfl
theorem lkJ8_newLength_cabcc_14 (Y : xw_Y) : xw_lk (tbJ8_newLength_cabcc Y) 14 = some (tr_push 16 (.int (2147483639))) := rfl
theorem lkJ8_newLength_cabcc_16 (Y : xw_Y) : xw_lk (tbJ8_newLength_cabcc Y) 16 = some (tr_ifc 19 21 (fun x y => y < x)) := rfl
theorem lkJ8_newLength_cabcc_19 (Y : xw_Y) : xw_lk (tbJ8_newLength_cabcc Y) 19 = some (tr_ild 20 3) := rfl
theorem lkJ8_newLength_cabcc_20 (Y : xw_Y) : xw_lk (tbJ8_newLength_cabcc Y) 20 = some (tr_iret .int) := rfl
theorem lkJ8_newLength_cabcc_21 (Y : xw_Y) : xw_lk (tbJ8_newLength_cabcc Y) 21 = some (tr_ild 22 0) := rfl
theorem lkJ8_newLength_cabcc_22 (Y : xw_Y) : xw_lk (tbJ8_newLength_cabcc Y) 22 = some (tr_ild 23 1) := rfl
theorem lkJ8_newLength_cabcc_23 (Y : xw_Y) : xw_lk (tbJ8_newLength_cabcc Y) 23 = some (tr_callS 26 2 (ptJ8_hugeLength_7cf53 Y) 0 0 0 0) := rfl
theorem lkJ8_newLength_cabcc_26 (Y : xw_Y) : xw_lk (tbJ8_newLength_cabcc Y) 26 = some (tr_iret .int) := rfl
set_option maxRecDepth 100000 in
set_option maxHeartbeats 4000000 in
theorem mpJ8_newLength_cabcc (l : Launch) (D : va_G) (Y : xw_Y) : xw_MP l D vwCl (xw_ty Y) Y.1 yJ8_newLength_cabcc wsJ8_newLength_cabcc ({ frames := 1, cells := 0, slots := 0, locals := 22 } : Room) (ptJ8_newLength_cabcc Y) 0 0 := by
  refine xw_met (cc := cJ8_newLength_cabcc) (nL := 4) (ret := (some .int)) (by decide +kernel) rfl ?_
  intro p e s m args below meth c w0 post X hr hlocks hname
  unfold tbJ8_newLength_cabcc
  refine List.forall_mem_cons.mpr ⟨xs_iload_n X dJ8_newLength_cabcc_0 rfl, ?_⟩
  refine List.forall_mem_cons.mpr ⟨xs_iload_n X dJ8_newLength_cabcc_1 rfl, ?_⟩
  refine List.forall_mem_cons.mpr ⟨xs_iload_n X dJ8_newLength_cabcc_2 rfl, ?_⟩
  refine List.forall_mem_cons.mpr ⟨xs_max X (List.mem_of_getElem? (i := 1) rfl) (List.mem_of_getElem? (i := 2) rfl) (List.mem_of_getElem? (i := 3) rfl) (List.mem_of_getElem? (i := 4) rfl) (Nat.le_of_ble_eq_true rfl) (Nat.le_of_ble_eq_true rfl) rfl rfl dJ8_newLength_cabcc_3, ?_⟩
  refine List.forall_mem_cons.mpr ⟨xs_iadd X dJ8_newLength_cabcc_6, ?_⟩
  refine List.forall_mem_cons.mpr ⟨xs_istore_n X dJ8_newLength_cabcc_7 rfl (Nat.le_of_ble_eq_true rfl), ?_⟩
  refine List.forall_mem_cons.mpr ⟨xs_iconst X dJ8_newLength_cabcc_8 rfl, ?_⟩
  refine List.forall_mem_cons.mpr ⟨xs_iload_n X dJ8_newLength_cabcc_9 rfl, ?_⟩
  refine List.forall_mem_cons.mpr ⟨xs_icmpge (tg := 21) X dJ8_newLength_cabcc_10 rfl, ?_⟩
  refine List.forall_mem_cons.mpr ⟨xs_iload_n X dJ8_newLength_cabcc_13 rfl, ?_⟩
  refine List.forall_mem_cons.mpr ⟨xs_ldc X (List.mem_of_getElem? (i := 5) rfl) dJ8_newLength_cabcc_14, ?_⟩
  refine List.forall_mem_cons.mpr ⟨xs_icmpgt (tg := 21) X dJ8_newLength_cabcc_16 rfl, ?_⟩
  refine List.forall_mem_cons.mpr ⟨xs_iload_n X dJ8_newLength_cabcc_19 rfl, ?_⟩
  refine List.forall_mem_cons.mpr ⟨xs_iret X hr hlocks dJ8_newLength_cabcc_20, ?_⟩
  refine List.forall_mem_cons.mpr ⟨xs_iload_n X dJ8_newLength_cabcc_21 rfl, ?_⟩
  refine List.forall_mem_cons.mpr ⟨xs_iload_n X dJ8_newLength_cabcc_22 rfl, ?_⟩
  refine List.forall_mem_cons.mpr ⟨xs_callS X (mpJ8_hugeLength_7cf53 l D Y) (va_cwS 2 X.1.2.2.2.2 gJ8_newLength_cabcc_J8_hugeLength_7cf53 rfl rfl rfl (by decide +kernel) ⟨Nat.le_of_ble_eq_true rfl, Nat.le_of_ble_eq_true rfl⟩) rfl rfl dJ8_newLength_cabcc_23, ?_⟩
  refine List.forall_mem_cons.mpr ⟨xs_iret X hr hlocks dJ8_newLength_cabcc_26, ?_⟩
  exact fun _ h => nomatch h
def tbJ7_copyOf_6403c (Y : xw_Y) : List (Nat × xw_T) := [(0, tr_ald 1 2),
  (1, tr_push 3 (.ref Y.1.1.2)),
  (3, tr_ifa 6 13),
  (6, tr_ild 7 1),
  (7, tr_newq 10 Y.2.2.1 1 200),
  (10, tr_goto 24),
  (13, tr_ald 14 2),
  (17, tr_ild 18 1),
  (24, tr_ast 25 3),
  (25, tr_ald 26 0),
  (26, tr_push 27 (.int 0)),
  (27, tr_ald 28 3),
  (28, tr_push 29 (.int 0)),
  (29, tr_ald 30 0),
  (30, tr_or (tr_alen 31 [Y.2.2.1]) (tr_zlen 31 Y.1.1.1)),
  (31, tr_ild 32 1),
  (32, tr_min 35 1 200),
  (35, tr_copy 38 Y.2.2.1 [1, 2]),
  (38, tr_ald 39 3),
  (39, tr_aret)]
def ptJ7_copyOf_6403c (Y : xw_Y) : xw_PT := xw_pt (tbJ7_copyOf_6403c Y) 4 1 200
theorem lkJ7_copyOf_6403c_0 (Y : xw_Y) : xw_lk (tbJ7_copyOf_6403c Y) 0 = some (tr_ald 1 2) := rfl
theorem lkJ7_copyOf_6403c_1 (Y : xw_Y) : xw_lk (tbJ7_copyOf_6403c Y) 1 = some (tr_push 3 (.ref Y.1.1.2)) := rfl
theorem lkJ7_copyOf_6403c_3 (Y : xw_Y) : xw_lk (tbJ7_copyOf_6403c Y) 3 = some (tr_ifa 6 13) := rfl
theorem lkJ7_copyOf_6403c_6 (Y : xw_Y) : xw_lk (tbJ7_copyOf_6403c Y) 6 = some (tr_ild 7 1) := rfl
theorem lkJ7_copyOf_6403c_7 (Y : xw_Y) : xw_lk (tbJ7_copyOf_6403c Y) 7 = some (tr_newq 10 Y.2.2.1 1 200) := rfl
theorem lkJ7_copyOf_6403c_10 (Y : xw_Y) : xw_lk (tbJ7_copyOf_6403c Y) 10 = some (tr_goto 24) := rfl
theorem lkJ7_copyOf_6403c_13 (Y : xw_Y) : xw_lk (tbJ7_copyOf_6403c Y) 13 = some (tr_ald 14 2) := rfl
theorem lkJ7_copyOf_6403c_17 (Y : xw_Y) : xw_lk (tbJ7_copyOf_6403c Y) 17 = some (tr_ild 18 1) := rfl
theorem lkJ7_copyOf_6403c_24 (Y : xw_Y) : xw_lk (tbJ7_copyOf_6403c Y) 24 = some (tr_ast 25 3) := rfl
theorem lkJ7_copyOf_6403c_25 (Y : xw_Y) : xw_lk (tbJ7_copyOf_6403c Y) 25 = some (tr_ald 26 0) := rfl
theorem lkJ7_copyOf_6403c_26 (Y : xw_Y) : xw_lk (tbJ7_copyOf_6403c Y) 26 = some (tr_push 27 (.int 0)) := rfl
theorem lkJ7_copyOf_6403c_27 (Y : xw_Y) : xw_lk (tbJ7_copyOf_6403c Y) 27 = some (tr_ald 28 3) := rfl
theorem lkJ7_copyOf_6403c_28 (Y : xw_Y) : xw_lk (tbJ7_copyOf_6403c Y) 28 = some (tr_push 29 (.int 0)) := rfl
theorem lkJ7_copyOf_6403c_29 (Y : xw_Y) : xw_lk (tbJ7_copyOf_6403c Y) 29 = some (tr_ald 30 0) := rfl
theorem lkJ7_copyOf_6403c_30 (Y : xw_Y) : xw_lk (tbJ7_copyOf_6403c Y) 30 = some (tr_or (tr_alen 31 [Y.2.2.1]) (tr_zlen 31 Y.1.1.1)) := rfl
theorem lkJ7_copyOf_6403c_31 (Y : xw_Y) : xw_lk (tbJ7_copyOf_6403c Y) 31 = some (tr_ild 32 1) := rfl
theorem lkJ7_copyOf_6403c_32 (Y : xw_Y) : xw_lk (tbJ7_copyOf_6403c Y) 32 = some (tr_min 35 1 200) := rfl
theorem lkJ7_copyOf_6403c_35 (Y : xw_Y) : xw_lk (tbJ7_copyOf_6403c Y) 35 = some (tr_copy 38 Y.2.2.1 [1, 2]) := rfl
theorem lkJ7_copyOf_6403c_38 (Y : xw_Y) : xw_lk (tbJ7_copyOf_6403c Y) 38 = some (tr_ald 39 3) := rfl
theorem lkJ7_copyOf_6403c_39 (Y : xw_Y) : xw_lk (tbJ7_copyOf_6403c Y) 39 = some (tr_aret) := rfl
set_option maxRecDepth 100000 in
set_option maxHeartbeats 4000000 in
theorem mpJ7_copyOf_6403c (l : Launch) (D : va_G) (Y : xw_Y) : xw_MP l D vwCl (xw_ty Y) Y.1 yJ7_copyOf_6403c wsJ7_copyOf_6403c ({ frames := 1, cells := 1, slots := 200, locals := 26 } : Room) (ptJ7_copyOf_6403c Y) 1 200 := by
  refine xw_met (cc := cJ7_copyOf_6403c) (nL := 4) (ret := (some (.array (.object "java/lang/Object")))) (by decide +kernel) rfl ?_
  intro p e s m args below meth c w0 post X hr hlocks hname
  unfold tbJ7_copyOf_6403c
  refine List.forall_mem_cons.mpr ⟨xs_aload_n X dJ7_copyOf_6403c_0 rfl, ?_⟩
  refine List.forall_mem_cons.mpr ⟨xs_ldcM X (List.mem_of_getElem? (i := 1) rfl) dJ7_copyOf_6403c_1, ?_⟩
  refine List.forall_mem_cons.mpr ⟨xs_acmpne (tg := 13) X dJ7_copyOf_6403c_3 rfl, ?_⟩
  refine List.forall_mem_cons.mpr ⟨xs_iload_n X dJ7_copyOf_6403c_6 rfl, ?_⟩
  refine List.forall_mem_cons.mpr ⟨xs_newq (t0 := 1) (C := "java/lang/Object") X rfl (List.mem_of_getElem? (i := 2) rfl) X.2.2.2.2.2.2.2.1 rfl rfl dJ7_copyOf_6403c_7, ?_⟩
  refine List.forall_mem_cons.mpr ⟨xs_goto (tg := 24) X dJ7_copyOf_6403c_10 rfl, ?_⟩
  refine List.forall_mem_cons.mpr ⟨xs_aload_n X dJ7_copyOf_6403c_13 rfl, ?_⟩
  refine List.forall_mem_cons.mpr ⟨xs_iload_n X dJ7_copyOf_6403c_17 rfl, ?_⟩
  refine List.forall_mem_cons.mpr ⟨xs_astore_n X dJ7_copyOf_6403c_24 rfl (Nat.le_of_ble_eq_true rfl), ?_⟩
  refine List.forall_mem_cons.mpr ⟨xs_aload_n X dJ7_copyOf_6403c_25 rfl, ?_⟩
  refine List.forall_mem_cons.mpr ⟨xs_iconst X dJ7_copyOf_6403c_26 rfl, ?_⟩
  refine List.forall_mem_cons.mpr ⟨xs_aload_n X dJ7_copyOf_6403c_27 rfl, ?_⟩
  refine List.forall_mem_cons.mpr ⟨xs_iconst X dJ7_copyOf_6403c_28 rfl, ?_⟩
  refine List.forall_mem_cons.mpr ⟨xs_aload_n X dJ7_copyOf_6403c_29 rfl, ?_⟩
  refine List.forall_mem_cons.mpr ⟨xs_or (xs_alen X (fun cA h => by
      rcases List.mem_cons.mp h with h | h
      · exact ⟨1, _, by rw [h]; rfl⟩
      · cases h) dJ7_copyOf_6403c_30) (xs_zlen X dJ7_copyOf_6403c_30), ?_⟩
  refine List.forall_mem_cons.mpr ⟨xs_iload_n X dJ7_copyOf_6403c_31 rfl, ?_⟩
  refine List.forall_mem_cons.mpr ⟨xs_min X (List.mem_of_getElem? (i := 3) rfl) (List.mem_of_getElem? (i := 4) rfl) (List.mem_of_getElem? (i := 5) rfl) (List.mem_of_getElem? (i := 6) rfl) (Nat.le_of_ble_eq_true rfl) (Nat.le_of_ble_eq_true rfl) rfl rfl dJ7_copyOf_6403c_32, ?_⟩
  refine List.forall_mem_cons.mpr ⟨xs_copy (t0 := 1) X rfl (fun ci h => by
      rcases List.mem_cons.mp h with h | h
      · exact ⟨_, by rw [h]; rfl, X.2.2.2.2.1.1⟩
      rcases List.mem_cons.mp h with h | h
      · exact ⟨_, by rw [h]; rfl, X.2.2.2.2.1.2.1⟩
      · cases h) (List.mem_of_getElem? (i := 7) rfl) (List.mem_of_getElem? (i := 8) rfl) (List.mem_of_getElem? (i := 9) rfl) (List.mem_of_getElem? (i := 10) rfl) (Nat.le_of_ble_eq_true rfl) (by decide +kernel) dJ7_copyOf_6403c_35, ?_⟩
  refine List.forall_mem_cons.mpr ⟨xs_aload_n X dJ7_copyOf_6403c_38 rfl, ?_⟩
  refine List.forall_mem_cons.mpr ⟨xs_aret X hr (Or.inr ⟨_, rfl⟩) hlocks dJ7_copyOf_6403c_39, ?_⟩
  exact fun _ h => nomatch h
def tbJ7_copyOf_1904c (Y : xw_Y) : List (Nat × xw_T) := [(0, tr_ald 1 0),
  (1, tr_ild 2 1),
  (2, tr_ald 3 0),
  (3, tr_getc 6 Y.2.2.1 Y.1.1.2),
  (6, tr_callS 9 3 (ptJ7_copyOf_6403c Y) 1 200 1 200),
  (9, tr_aret)]
def ptJ7_copyOf_1904c (Y : xw_Y) : xw_PT := xw_pt (tbJ7_copyOf_1904c Y) 2 1 200
theorem lkJ7_copyOf_1904c_0 (Y : xw_Y) : xw_lk (tbJ7_copyOf_1904c Y) 0 = some (tr_ald 1 0) := rfl
theorem lkJ7_copyOf_1904c_1 (Y : xw_Y) : xw_lk (tbJ7_copyOf_1904c Y) 1 = some (tr_ild 2 1) := rfl
theorem lkJ7_copyOf_1904c_2 (Y : xw_Y) : xw_lk (tbJ7_copyOf_1904c Y) 2 = some (tr_ald 3 0) := rfl
theorem lkJ7_copyOf_1904c_3 (Y : xw_Y) : xw_lk (tbJ7_copyOf_1904c Y) 3 = some (tr_getc 6 Y.2.2.1 Y.1.1.2) := rfl
theorem lkJ7_copyOf_1904c_6 (Y : xw_Y) : xw_lk (tbJ7_copyOf_1904c Y) 6 = some (tr_callS 9 3 (ptJ7_copyOf_6403c Y) 1 200 1 200) := rfl
theorem lkJ7_copyOf_1904c_9 (Y : xw_Y) : xw_lk (tbJ7_copyOf_1904c Y) 9 = some (tr_aret) := rfl
set_option maxRecDepth 100000 in
set_option maxHeartbeats 4000000 in
theorem mpJ7_copyOf_1904c (l : Launch) (D : va_G) (Y : xw_Y) : xw_MP l D vwCl (xw_ty Y) Y.1 yJ7_copyOf_1904c wsJ7_copyOf_1904c ({ frames := 2, cells := 1, slots := 200, locals := 49 } : Room) (ptJ7_copyOf_1904c Y) 1 200 := by
  refine xw_met (cc := cJ7_copyOf_1904c) (nL := 2) (ret := (some (.array (.object "java/lang/Object")))) (by decide +kernel) rfl ?_
  intro p e s m args below meth c w0 post X hr hlocks hname
  unfold tbJ7_copyOf_1904c
  refine List.forall_mem_cons.mpr ⟨xs_aload_n X dJ7_copyOf_1904c_0 rfl, ?_⟩
  refine List.forall_mem_cons.mpr ⟨xs_iload_n X dJ7_copyOf_1904c_1 rfl, ?_⟩
  refine List.forall_mem_cons.mpr ⟨xs_aload_n X dJ7_copyOf_1904c_2 rfl, ?_⟩
  refine List.forall_mem_cons.mpr ⟨xs_getc (t0 := 1) X rfl (List.mem_of_getElem? (i := 1) rfl) (List.mem_of_getElem? (i := 2) rfl) (List.mem_of_getElem? (i := 3) rfl) (List.mem_of_getElem? (i := 4) rfl) (Nat.le_of_ble_eq_true rfl) (Nat.le_of_ble_eq_true rfl) dJ7_copyOf_1904c_3, ?_⟩
  refine List.forall_mem_cons.mpr ⟨xs_callS X (mpJ7_copyOf_6403c l D Y) (va_cwS 3 X.1.2.2.2.2 gJ7_copyOf_1904c_J7_copyOf_6403c rfl rfl rfl (by decide +kernel) ⟨Nat.le_of_ble_eq_true rfl, Nat.le_of_ble_eq_true rfl⟩) rfl rfl dJ7_copyOf_1904c_6, ?_⟩
  refine List.forall_mem_cons.mpr ⟨xs_aret X hr (Or.inr ⟨_, rfl⟩) hlocks dJ7_copyOf_1904c_9, ?_⟩
  exact fun _ h => nomatch h
def tbJx4a65c_grow_92f84 (Y : xw_Y) : List (Nat × xw_T) := [(0, tr_ald 1 0),
  (1, tr_getf 4 0 1),
  (4, tr_or (tr_alen 5 [Y.2.2.1]) (tr_zlen 5 Y.1.1.1)),
  (5, tr_ist 6 2),
  (6, tr_ild 7 2),
  (7, tr_ifz 10 20 (fun x => 0 < x)),
  (10, tr_ald 11 0),
  (11, tr_getf 14 0 1),
  (14, tr_gets 17 Y.1.1.1),
  (17, tr_ifa 45 20),
  (20, tr_ild 21 2),
  (21, tr_ild 22 1),
  (22, tr_ild 23 2),
  (23, tr_i2 24 (fun x y => x - y)),
  (24, tr_ild 25 2),
  (25, tr_push 26 (.int 1)),
  (26, tr_i2 27 (fun x y => x >>> (y &&& 31))),
  (27, tr_callS 30 3 (ptJ8_newLength_cabcc Y) 0 0 1 200),
  (30, tr_ist 31 3),
  (31, tr_ald 32 0),
  (32, tr_ald 33 0),
  (33, tr_getf 36 0 1),
  (36, tr_ild 37 3),
  (37, tr_callS 40 2 (ptJ7_copyOf_1904c Y) 1 200 1 200),
  (40, tr_dupx1 41),
  (41, tr_putf 44 0 1 (.array (.object "java/lang/Object"))),
  (44, tr_aret),
  (45, tr_ald 46 0),
  (46, tr_push 48 (.int 10)),
  (48, tr_ild 49 1),
  (49, tr_max 52 1 200),
  (52, tr_newq 55 Y.2.2.1 1 200),
  (55, tr_dupx1 56),
  (56, tr_putf 59 0 1 (.array (.object "java/lang/Object"))),
  (59, tr_aret)]
def ptJx4a65c_grow_92f84 (Y : xw_Y) : xw_PT := xw_pt (tbJx4a65c_grow_92f84 Y) 4 1 200
theorem lkJx4a65c_grow_92f84_0 (Y : xw_Y) : xw_lk (tbJx4a65c_grow_92f84 Y) 0 = some (tr_ald 1 0) := rfl
theorem lkJx4a65c_grow_92f84_1 (Y : xw_Y) : xw_lk (tbJx4a65c_grow_92f84 Y) 1 = some (tr_getf 4 0 1) := rfl
theorem lkJx4a65c_grow_92f84_4 (Y : xw_Y) : xw_lk (tbJx4a65c_grow_92f84 Y) 4 = some (tr_or (tr_alen 5 [Y.2.2.1]) (tr_zlen 5 Y.1.1.1)) := rfl
theorem lkJx4a65c_grow_92f84_5 (Y : xw_Y) : xw_lk (tbJx4a65c_grow_92f84 Y) 5 = some (tr_ist 6 2) := rfl
theorem lkJx4a65c_grow_92f84_6 (Y : xw_Y) : xw_lk (tbJx4a65c_grow_92f84 Y) 6 = some (tr_ild 7 2) := rfl
theorem lkJx4a65c_grow_92f84_7 (Y : xw_Y) : xw_lk (tbJx4a65c_grow_92f84 Y) 7 = some (tr_ifz 10 20 (fun x => 0 < x)) := rfl
theorem lkJx4a65c_grow_92f84_10 (Y : xw_Y) : xw_lk (tbJx4a65c_grow_92f84 Y) 10 = some (tr_ald 11 0) := rfl
theorem lkJx4a65c_grow_92f84_11 (Y : xw_Y) : xw_lk (tbJx4a65c_grow_92f84 Y) 11 = some (tr_getf 14 0 1) := rfl
theorem lkJx4a65c_grow_92f84_14 (Y : xw_Y) : xw_lk (tbJx4a65c_grow_92f84 Y) 14 = some (tr_gets 17 Y.1.1.1) := rfl
theorem lkJx4a65c_grow_92f84_17 (Y : xw_Y) : xw_lk (tbJx4a65c_grow_92f84 Y) 17 = some (tr_ifa 45 20) := rfl
theorem lkJx4a65c_grow_92f84_20 (Y : xw_Y) : xw_lk (tbJx4a65c_grow_92f84 Y) 20 = some (tr_ild 21 2) := rfl
theorem lkJx4a65c_grow_92f84_21 (Y : xw_Y) : xw_lk (tbJx4a65c_grow_92f84 Y) 21 = some (tr_ild 22 1) := rfl
theorem lkJx4a65c_grow_92f84_22 (Y : xw_Y) : xw_lk (tbJx4a65c_grow_92f84 Y) 22 = some (tr_ild 23 2) := rfl
theorem lkJx4a65c_grow_92f84_23 (Y : xw_Y) : xw_lk (tbJx4a65c_grow_92f84 Y) 23 = some (tr_i2 24 (fun x y => x - y)) := rfl
theorem lkJx4a65c_grow_92f84_24 (Y : xw_Y) : xw_lk (tbJx4a65c_grow_92f84 Y) 24 = some (tr_ild 25 2) := rfl
theorem lkJx4a65c_grow_92f84_25 (Y : xw_Y) : xw_lk (tbJx4a65c_grow_92f84 Y) 25 = some (tr_push 26 (.int 1)) := rfl
theorem lkJx4a65c_grow_92f84_26 (Y : xw_Y) : xw_lk (tbJx4a65c_grow_92f84 Y) 26 = some (tr_i2 27 (fun x y => x >>> (y &&& 31))) := rfl
theorem lkJx4a65c_grow_92f84_27 (Y : xw_Y) : xw_lk (tbJx4a65c_grow_92f84 Y) 27 = some (tr_callS 30 3 (ptJ8_newLength_cabcc Y) 0 0 1 200) := rfl
theorem lkJx4a65c_grow_92f84_30 (Y : xw_Y) : xw_lk (tbJx4a65c_grow_92f84 Y) 30 = some (tr_ist 31 3) := rfl
theorem lkJx4a65c_grow_92f84_31 (Y : xw_Y) : xw_lk (tbJx4a65c_grow_92f84 Y) 31 = some (tr_ald 32 0) := rfl
theorem lkJx4a65c_grow_92f84_32 (Y : xw_Y) : xw_lk (tbJx4a65c_grow_92f84 Y) 32 = some (tr_ald 33 0) := rfl
theorem lkJx4a65c_grow_92f84_33 (Y : xw_Y) : xw_lk (tbJx4a65c_grow_92f84 Y) 33 = some (tr_getf 36 0 1) := rfl
theorem lkJx4a65c_grow_92f84_36 (Y : xw_Y) : xw_lk (tbJx4a65c_grow_92f84 Y) 36 = some (tr_ild 37 3) := rfl
theorem lkJx4a65c_grow_92f84_37 (Y : xw_Y) : xw_lk (tbJx4a65c_grow_92f84 Y) 37 = some (tr_callS 40 2 (ptJ7_copyOf_1904c Y) 1 200 1 200) := rfl
theorem lkJx4a65c_grow_92f84_40 (Y : xw_Y) : xw_lk (tbJx4a65c_grow_92f84 Y) 40 = some (tr_dupx1 41) := rfl
theorem lkJx4a65c_grow_92f84_41 (Y : xw_Y) : xw_lk (tbJx4a65c_grow_92f84 Y) 41 = some (tr_putf 44 0 1 (.array (.object "java/lang/Object"))) := rfl
theorem lkJx4a65c_grow_92f84_44 (Y : xw_Y) : xw_lk (tbJx4a65c_grow_92f84 Y) 44 = some (tr_aret) := rfl
theorem lkJx4a65c_grow_92f84_45 (Y : xw_Y) : xw_lk (tbJx4a65c_grow_92f84 Y) 45 = some (tr_ald 46 0) := rfl
theorem lkJx4a65c_grow_92f84_46 (Y : xw_Y) : xw_lk (tbJx4a65c_grow_92f84 Y) 46 = some (tr_push 48 (.int 10)) := rfl
theorem lkJx4a65c_grow_92f84_48 (Y : xw_Y) : xw_lk (tbJx4a65c_grow_92f84 Y) 48 = some (tr_ild 49 1) := rfl
theorem lkJx4a65c_grow_92f84_49 (Y : xw_Y) : xw_lk (tbJx4a65c_grow_92f84 Y) 49 = some (tr_max 52 1 200) := rfl
theorem lkJx4a65c_grow_92f84_52 (Y : xw_Y) : xw_lk (tbJx4a65c_grow_92f84 Y) 52 = some (tr_newq 55 Y.2.2.1 1 200) := rfl
theorem lkJx4a65c_grow_92f84_55 (Y : xw_Y) : xw_lk (tbJx4a65c_grow_92f84 Y) 55 = some (tr_dupx1 56) := rfl
theorem lkJx4a65c_grow_92f84_56 (Y : xw_Y) : xw_lk (tbJx4a65c_grow_92f84 Y) 56 = some (tr_putf 59 0 1 (.array (.object "java/lang/Object"))) := rfl
theorem lkJx4a65c_grow_92f84_59 (Y : xw_Y) : xw_lk (tbJx4a65c_grow_92f84 Y) 59 = some (tr_aret) := rfl
set_option maxRecDepth 100000 in
set_option maxHeartbeats 4000000 in
theorem mpJx4a65c_grow_92f84 (l : Launch) (D : va_G) (Y : xw_Y) : xw_MP l D vwCl (xw_ty Y) Y.1 yJx4a65c_grow_92f84 wsJx4a65c_grow_92f84 ({ frames := 3, cells := 1, slots := 200, locals := 70 } : Room) (ptJx4a65c_grow_92f84 Y) 1 200 := by
  refine xw_met (cc := cJx4a65c_grow_92f84) (nL := 4) (ret := (some (.array (.object "java/lang/Object")))) (by decide +kernel) rfl ?_
  intro p e s m args below meth c w0 post X hr hlocks hname
  unfold tbJx4a65c_grow_92f84
  refine List.forall_mem_cons.mpr ⟨xs_aload_n X dJx4a65c_grow_92f84_0 rfl, ?_⟩
  refine List.forall_mem_cons.mpr ⟨xs_getf (C := RJx4a65c) (T := TJx4a65c) (N := 3) (ci := 0) (kf := 1) X (fun w h => List.mem_cons_of_mem _ (List.mem_append_right _ h)) rfl (by decide) (List.mem_of_getElem? (i := 1) rfl) (fun _ h => h) dJx4a65c_grow_92f84_1, ?_⟩
  refine List.forall_mem_cons.mpr ⟨xs_or (xs_alen X (fun cA h => by
      rcases List.mem_cons.mp h with h | h
      · exact ⟨1, _, by rw [h]; rfl⟩
      · cases h) dJx4a65c_grow_92f84_4) (xs_zlen X dJx4a65c_grow_92f84_4), ?_⟩
  refine List.forall_mem_cons.mpr ⟨xs_istore_n X dJx4a65c_grow_92f84_5 rfl (Nat.le_of_ble_eq_true rfl), ?_⟩
  refine List.forall_mem_cons.mpr ⟨xs_iload_n X dJx4a65c_grow_92f84_6 rfl, ?_⟩
  refine List.forall_mem_cons.mpr ⟨xs_ifgt (tg := 20) X dJx4a65c_grow_92f84_7 rfl, ?_⟩
  refine List.forall_mem_cons.mpr ⟨xs_aload_n X dJx4a65c_grow_92f84_10 rfl, ?_⟩
  refine List.forall_mem_cons.mpr ⟨xs_getf (C := RJx4a65c) (T := TJx4a65c) (N := 3) (ci := 0) (kf := 1) X (fun w h => List.mem_cons_of_mem _ (List.mem_append_right _ h)) rfl (by decide) (List.mem_of_getElem? (i := 1) rfl) (fun _ h => h) dJx4a65c_grow_92f84_11, ?_⟩
  refine List.forall_mem_cons.mpr ⟨xs_gets X (List.mem_of_getElem? (i := 2) rfl) rfl dJx4a65c_grow_92f84_14, ?_⟩
  refine List.forall_mem_cons.mpr ⟨xs_acmpeq (tg := 45) X dJx4a65c_grow_92f84_17 rfl, ?_⟩
  refine List.forall_mem_cons.mpr ⟨xs_iload_n X dJx4a65c_grow_92f84_20 rfl, ?_⟩
  refine List.forall_mem_cons.mpr ⟨xs_iload_n X dJx4a65c_grow_92f84_21 rfl, ?_⟩
  refine List.forall_mem_cons.mpr ⟨xs_iload_n X dJx4a65c_grow_92f84_22 rfl, ?_⟩
  refine List.forall_mem_cons.mpr ⟨xs_isub X dJx4a65c_grow_92f84_23, ?_⟩
  refine List.forall_mem_cons.mpr ⟨xs_iload_n X dJx4a65c_grow_92f84_24 rfl, ?_⟩
  refine List.forall_mem_cons.mpr ⟨xs_iconst X dJx4a65c_grow_92f84_25 rfl, ?_⟩
  refine List.forall_mem_cons.mpr ⟨xs_ishr X dJx4a65c_grow_92f84_26, ?_⟩
  refine List.forall_mem_cons.mpr ⟨xs_callS X (mpJ8_newLength_cabcc l D Y) (va_cwS 3 X.1.2.2.2.2 gJx4a65c_grow_92f84_J8_newLength_cabcc rfl rfl rfl (by decide +kernel) ⟨Nat.le_of_ble_eq_true rfl, Nat.le_of_ble_eq_true rfl⟩) rfl rfl dJx4a65c_grow_92f84_27, ?_⟩
  refine List.forall_mem_cons.mpr ⟨xs_istore_n X dJx4a65c_grow_92f84_30 rfl (Nat.le_of_ble_eq_true rfl), ?_⟩
  refine List.forall_mem_cons.mpr ⟨xs_aload_n X dJx4a65c_grow_92f84_31 rfl, ?_⟩
  refine List.forall_mem_cons.mpr ⟨xs_aload_n X dJx4a65c_grow_92f84_32 rfl, ?_⟩
  refine List.forall_mem_cons.mpr ⟨xs_getf (C := RJx4a65c) (T := TJx4a65c) (N := 3) (ci := 0) (kf := 1) X (fun w h => List.mem_cons_of_mem _ (List.mem_append_right _ h)) rfl (by decide) (List.mem_of_getElem? (i := 1) rfl) (fun _ h => h) dJx4a65c_grow_92f84_33, ?_⟩
  refine List.forall_mem_cons.mpr ⟨xs_iload_n X dJx4a65c_grow_92f84_36 rfl, ?_⟩
  refine List.forall_mem_cons.mpr ⟨xs_callS X (mpJ7_copyOf_1904c l D Y) (va_cwS 2 X.1.2.2.2.2 gJx4a65c_grow_92f84_J7_copyOf_1904c rfl rfl rfl (by decide +kernel) ⟨Nat.le_of_ble_eq_true rfl, Nat.le_of_ble_eq_true rfl⟩) rfl rfl dJx4a65c_grow_92f84_37, ?_⟩
  refine List.forall_mem_cons.mpr ⟨xs_dupx1 X dJx4a65c_grow_92f84_40, ?_⟩
  refine List.forall_mem_cons.mpr ⟨xs_putf (C := RJx4a65c) (T := TJx4a65c) (N := 3) (ci := 0) (kf := 1) X (fun w h => List.mem_cons_of_mem _ (List.mem_append_right _ h)) tyJx4a65c tyJx4a65c_ok nmJx4a65c rfl (by decide) (List.mem_of_getElem? (i := 1) rfl) (fun _ h => h) rfl rfl dJx4a65c_grow_92f84_41, ?_⟩
  refine List.forall_mem_cons.mpr ⟨xs_aret X hr (Or.inr ⟨_, rfl⟩) hlocks dJx4a65c_grow_92f84_44, ?_⟩
  refine List.forall_mem_cons.mpr ⟨xs_aload_n X dJx4a65c_grow_92f84_45 rfl, ?_⟩
  refine List.forall_mem_cons.mpr ⟨xs_bipush X dJx4a65c_grow_92f84_46 rfl, ?_⟩
  refine List.forall_mem_cons.mpr ⟨xs_iload_n X dJx4a65c_grow_92f84_48 rfl, ?_⟩
  refine List.forall_mem_cons.mpr ⟨xs_max X (List.mem_of_getElem? (i := 3) rfl) (List.mem_of_getElem? (i := 4) rfl) (List.mem_of_getElem? (i := 5) rfl) (List.mem_of_getElem? (i := 6) rfl) (Nat.le_of_ble_eq_true rfl) (Nat.le_of_ble_eq_true rfl) rfl rfl dJx4a65c_grow_92f84_49, ?_⟩
  refine List.forall_mem_cons.mpr ⟨xs_newq (t0 := 1) (C := "java/lang/Object") X rfl (List.mem_of_getElem? (i := 7) rfl) X.2.2.2.2.2.2.2.1 rfl rfl dJx4a65c_grow_92f84_52, ?_⟩
  refine List.forall_mem_cons.mpr ⟨xs_dupx1 X dJx4a65c_grow_92f84_55, ?_⟩
  refine List.forall_mem_cons.mpr ⟨xs_putf (C := RJx4a65c) (T := TJx4a65c) (N := 3) (ci := 0) (kf := 1) X (fun w h => List.mem_cons_of_mem _ (List.mem_append_right _ h)) tyJx4a65c tyJx4a65c_ok nmJx4a65c rfl (by decide) (List.mem_of_getElem? (i := 1) rfl) (fun _ h => h) rfl rfl dJx4a65c_grow_92f84_56, ?_⟩
  refine List.forall_mem_cons.mpr ⟨xs_aret X hr (Or.inr ⟨_, rfl⟩) hlocks dJx4a65c_grow_92f84_59, ?_⟩
  exact fun _ h => nomatch h
end
