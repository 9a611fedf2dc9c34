/-! A WORLD IS A LIST OF ADDRESSES AND WHAT EACH HOLDS; an instruction is a step over such worlds; a method is a table of steps; what a run of a table gives (xw_Run) holds of the machine (xw_met). -/
section XW
abbrev xw_W : Type := List Nat × (Nat → va_E)
abbrev xw_L : Type := List (Nat × Value)
abbrev xw_K : Type := Nat → xw_L → List Value → xw_W → Nat → Nat → Prop
abbrev xw_R : Type := Option Value → xw_W → Nat → Nat → Prop
abbrev xw_T : Type := xw_R → xw_L → List Value → xw_W → Nat → Nat → xw_K → Prop
abbrev xw_PT : Type := List Value → xw_W → (Option Value → xw_W → Prop) → Prop
/-- what lies outside: the empty row of ArrayList, the mirror of Object[], the script's address, its length, its ints -/
abbrev xw_E : Type := (Nat × Nat) × Nat × Nat × (Nat → Int32)
def xw_lk {α : Type _} : List (Nat × α) → Nat → Option α
  | [], _ => none
  | q :: t, j => if j = q.1 then some q.2 else xw_lk t j
theorem xw_lk_mem {α : Type _} {t : List (Nat × α)} {j : Nat} {x : α} (h : xw_lk t j = some x) : (j, x) ∈ t := by
  induction t with
  | nil => cases h
  | cons q t ih =>
    unfold xw_lk at h
    split at h
    · next e =>
      cases h
      rw [e]
      exact List.mem_cons_self
    · exact List.mem_cons_of_mem _ (ih h)
theorem xw_lk_at {ls : Array Slot} {nL i : Nat} {lv : xw_L} {v : Value} (h : lv_has ls nL lv) (hk : xw_lk lv i = some v) : ls[i]? = some (.val v) := h.2.2 (i, v) (xw_lk_mem hk)
/-- locals behind a store of one word, of two -/
def xw_s1 (i : Nat) (v : Value) (lv : xw_L) : xw_L := (i, v) :: lv.filter (fun q => !(q.1 == i) && !(q.1 + 1 == i && q.2.category == 2))
def xw_s2 (i : Nat) (v : Value) (lv : xw_L) : xw_L := (i, v) :: lv.filter (fun q => !(q.1 == i) && (!(q.1 == i + 1) && !(q.1 + 1 == i && q.2.category == 2)))
def xw_isR (v : Value) : Prop := ∃ r : Option Nat, v = va_rf r
theorem xw_isR_ref (a : Nat) : xw_isR (.ref a) := ⟨some a, rfl⟩
theorem xw_isR_null : xw_isR .null := ⟨none, rfl⟩
theorem xw_isR_rf (o : Option Nat) : xw_isR (va_rf o) := ⟨o, rfl⟩
def xw_fit (ty : FieldType) (v : Value) : Prop := narrow ty v = v ∧ fits ty v = true
/-! the steps -/
def tr_push (nx : Nat) (v : Value) : xw_T := fun _ lv st w k n K => K nx lv (v :: st) w k n
def tr_ild (nx i : Nat) : xw_T := fun _ lv st w k n K => ∃ x : Int32, xw_lk lv i = some (.int x) ∧ K nx lv (.int x :: st) w k n
def tr_lld (nx i : Nat) : xw_T := fun _ lv st w k n K => ∃ x : Int64, xw_lk lv i = some (.long x) ∧ K nx lv (.long x :: st) w k n
def tr_ald (nx i : Nat) : xw_T := fun _ lv st w k n K => ∃ v : Value, xw_lk lv i = some v ∧ xw_isR v ∧ K nx lv (v :: st) w k n
def tr_ist (nx i : Nat) : xw_T := fun _ lv st w k n K => ∃ (x : Int32) (r : List Value), st = .int x :: r ∧ K nx (xw_s1 i (.int x) lv) r w k n
def tr_ast (nx i : Nat) : xw_T := fun _ lv st w k n K => ∃ (v : Value) (r : List Value), st = v :: r ∧ xw_isR v ∧ K nx (xw_s1 i v lv) r w k n
def tr_lst (nx i : Nat) : xw_T := fun _ lv st w k n K => ∃ (x : Int64) (r : List Value), st = .long x :: r ∧ K nx (xw_s2 i (.long x) lv) r w k n
def tr_inc (nx i : Nat) (d : Int32) : xw_T := fun _ lv st w k n K => ∃ x : Int32, xw_lk lv i = some (.int x) ∧ K nx (xw_s1 i (.int (x + d)) lv) st w k n
def tr_i2 (nx : Nat) (f : Int32 → Int32 → Int32) : xw_T := fun _ lv st w k n K => ∃ (x y : Int32) (r : List Value), st = .int y :: .int x :: r ∧ K nx lv (.int (f x y) :: r) w k n
def tr_i2z (nx : Nat) (f : Int32 → Int32 → Int32) : xw_T := fun _ lv st w k n K => ∃ (x y : Int32) (r : List Value), st = .int y :: .int x :: r ∧ ¬ y = 0 ∧ K nx lv (.int (f x y) :: r) w k n
def tr_l2 (nx : Nat) (f : Int64 → Int64 → Int64) : xw_T := fun _ lv st w k n K => ∃ (x y : Int64) (r : List Value), st = .long y :: .long x :: r ∧ K nx lv (.long (f x y) :: r) w k n
def tr_lcmp (nx : Nat) : xw_T := fun _ lv st w k n K => ∃ (x y : Int64) (r : List Value), st = .long y :: .long x :: r ∧ ((x < y → K nx lv (.int (-1) :: r) w k n) ∧ (x = y → K nx lv (.int 0 :: r) w k n) ∧ (y < x → K nx lv (.int 1 :: r) w k n))
def tr_i2l (nx : Nat) : xw_T := fun _ lv st w k n K => ∃ (x : Int32) (r : List Value), st = .int x :: r ∧ K nx lv (.long x.toInt64 :: r) w k n
def tr_ineg (nx : Nat) : xw_T := fun _ lv st w k n K => ∃ (x : Int32) (r : List Value), st = .int x :: r ∧ K nx lv (.int (-x) :: r) w k n
def tr_dup (nx : Nat) : xw_T := fun _ lv st w k n K => ∃ (v : Value) (r : List Value), st = v :: r ∧ v.category = 1 ∧ K nx lv (v :: v :: r) w k n
def tr_pop (nx : Nat) : xw_T := fun _ lv st w k n K => ∃ (v : Value) (r : List Value), st = v :: r ∧ v.category = 1 ∧ K nx lv r w k n
def tr_dup2 (nx : Nat) : xw_T := fun _ lv st w k n K => ∃ (u v : Value) (r : List Value), st = u :: v :: r ∧ u.category = 1 ∧ v.category = 1 ∧ K nx lv (u :: v :: u :: v :: r) w k n
def tr_dupx1 (nx : Nat) : xw_T := fun _ lv st w k n K => ∃ (u v : Value) (r : List Value), st = u :: v :: r ∧ u.category = 1 ∧ v.category = 1 ∧ K nx lv (u :: v :: u :: r) w k n
def tr_ifz (nx tg : Nat) (P : Int32 → Prop) : xw_T := fun _ lv st w k n K => ∃ (x : Int32) (r : List Value), st = .int x :: r ∧ (P x → K tg lv r w k n) ∧ (¬ P x → K nx lv r w k n)
def tr_ifc (nx tg : Nat) (P : Int32 → Int32 → Prop) : xw_T := fun _ lv st w k n K => ∃ (x y : Int32) (r : List Value), st = .int y :: .int x :: r ∧ (P x y → K tg lv r w k n) ∧ (¬ P x y → K nx lv r w k n)
def tr_ifa (t f : Nat) : xw_T := fun _ lv st w k n K => ∃ (u v : Value) (r : List Value), st = v :: u :: r ∧ xw_isR u ∧ xw_isR v ∧ (u = v → K t lv r w k n) ∧ (¬ u = v → K f lv r w k n)
def tr_ifn (t f : Nat) : xw_T := fun _ lv st w k n K => ∃ (v : Value) (r : List Value), st = v :: r ∧ xw_isR v ∧ (v = .null → K t lv r w k n) ∧ (¬ v = .null → K f lv r w k n)
def tr_goto (tg : Nat) : xw_T := fun _ lv st w k n K => K tg lv st w k n
def tr_sw (lo hi : Int) (ts : List Nat) (d : Nat) : xw_T := fun _ lv st w k n K => ∃ (x : Int32) (r : List Value), st = .int x :: r ∧ ((x.toInt < lo ∨ hi < x.toInt) → K d lv r w k n) ∧ (∀ (j t : Nat), x.toInt = lo + (j : Int) → ts[j]? = some t → K t lv r w k n)
def tr_getf (nx ci kf : Nat) : xw_T := fun _ lv st w k n K => ∃ (a : Nat) (r fs : List Value) (u : Value), st = .ref a :: r ∧ a ∈ w.1 ∧ w.2 a = .inr (ci, fs) ∧ fs[kf]? = some u ∧ K nx lv (u :: r) w k n
def tr_putf (nx ci kf : Nat) (ty : FieldType) : xw_T := fun _ lv st w k n K => ∃ (a : Nat) (u : Value) (r fs : List Value), st = u :: .ref a :: r ∧ a ∈ w.1 ∧ w.2 a = .inr (ci, fs) ∧ kf < fs.length ∧ xw_fit ty u ∧ K nx lv r (w.1, va_up w.2 a (.inr (ci, fs.set kf u))) k n
def tr_gets (nx z : Nat) : xw_T := fun _ lv st w k n K => K nx lv (.ref z :: st) w k n
def tr_new (nx ci N : Nat) (fs : List Value) (MC MS : Nat) : xw_T := fun _ lv st w k n K => k + 1 ≤ MC ∧ n + N ≤ MS ∧ ∀ q : Nat, q ∉ w.1 → K nx lv (.ref q :: st) (w.1 ++ [q], va_up w.2 q (.inr (ci, fs))) (k + 1) (n + N)
def tr_newi (nx cI : Nat) (MC MS : Nat) : xw_T := fun _ lv st w k n K => ∃ (x : Int32) (r : List Value), st = .int x :: r ∧ ¬ x < 0 ∧ x.toNatClampNeg ≤ 1000000 ∧ k + 1 ≤ MC ∧ n + x.toNatClampNeg ≤ MS ∧ ∀ q : Nat, q ∉ w.1 → K nx lv (.ref q :: r) (w.1 ++ [q], va_up w.2 q (.inl (cI, x.toNatClampNeg, .inl (fun _ => 0)))) (k + 1) (n + x.toNatClampNeg)
def tr_newq (nx cA : Nat) (MC MS : Nat) : xw_T := fun _ lv st w k n K => ∃ (x : Int32) (r : List Value), st = .int x :: r ∧ ¬ x < 0 ∧ x.toNatClampNeg ≤ 1000000 ∧ k + 1 ≤ MC ∧ n + x.toNatClampNeg ≤ MS ∧ ∀ q : Nat, q ∉ w.1 → K nx lv (.ref q :: r) (w.1 ++ [q], va_up w.2 q (.inl (cA, x.toNatClampNeg, .inr (.inr (.inr (.inr (fun _ => none))))))) (k + 1) (n + x.toNatClampNeg)
def tr_iald (nx cI : Nat) : xw_T := fun _ lv st w k n K => ∃ (i : Int32) (a N : Nat) (f : Nat → Int32) (r : List Value), st = .int i :: .ref a :: r ∧ a ∈ w.1 ∧ w.2 a = .inl (cI, N, .inl f) ∧ vp_in i N ∧ K nx lv (.int (f i.toNatClampNeg) :: r) w k n
def tr_iast (nx cI : Nat) : xw_T := fun _ lv st w k n K => ∃ (i x : Int32) (a N : Nat) (f : Nat → Int32) (r : List Value), st = .int x :: .int i :: .ref a :: r ∧ a ∈ w.1 ∧ w.2 a = .inl (cI, N, .inl f) ∧ vp_in i N ∧ K nx lv r (w.1, va_up w.2 a (.inl (cI, N, .inl (upd f i.toNatClampNeg x)))) k n
def tr_aald (nx cA : Nat) : xw_T := fun _ lv st w k n K => ∃ (i : Int32) (a N : Nat) (f : Nat → Option Nat) (r : List Value), st = .int i :: .ref a :: r ∧ a ∈ w.1 ∧ w.2 a = .inl (cA, N, .inr (.inr (.inr (.inr f)))) ∧ vp_in i N ∧ K nx lv (va_rf (f i.toNatClampNeg) :: r) w k n
def tr_aast (nx cA : Nat) (cs : List Nat) : xw_T := fun _ lv st w k n K => ∃ (i : Int32) (u : Option Nat) (a N : Nat) (f : Nat → Option Nat) (r : List Value), st = va_rf u :: .int i :: .ref a :: r ∧ a ∈ w.1 ∧ w.2 a = .inl (cA, N, .inr (.inr (.inr (.inr f)))) ∧ vp_in i N ∧ (∀ v, u = some v → v ∈ w.1 ∧ ∃ (ci : Nat) (fs : List Value), ci ∈ cs ∧ w.2 v = .inr (ci, fs)) ∧ K nx lv r (w.1, va_up w.2 a (.inl (cA, N, .inr (.inr (.inr (.inr (va_up f i.toNatClampNeg u))))))) k n
def tr_alen (nx : Nat) (cs : List Nat) : xw_T := fun _ lv st w k n K => ∃ (a N cA : Nat) (x : (Nat → Int32) ⊕ (Nat → Int64) ⊕ (Nat → UInt32) ⊕ (Nat → UInt64) ⊕ (Nat → Option Nat)) (r : List Value), st = .ref a :: r ∧ a ∈ w.1 ∧ w.2 a = .inl (cA, N, x) ∧ cA ∈ cs ∧ K nx lv (.int (Int32.ofNat N) :: r) w k n
def tr_zlen (nx z : Nat) : xw_T := fun _ lv st w k n K => ∃ r : List Value, st = .ref z :: r ∧ K nx lv (.int 0 :: r) w k n
def tr_xlen (nx : Nat) (E : xw_E) : xw_T := fun _ lv st w k n K => ∃ r : List Value, st = .ref E.2.1 :: r ∧ K nx lv (.int (Int32.ofNat E.2.2.1) :: r) w k n
def tr_xald (nx : Nat) (E : xw_E) : xw_T := fun _ lv st w k n K => ∃ (i : Int32) (r : List Value), st = .int i :: .ref E.2.1 :: r ∧ vp_in i E.2.2.1 ∧ K nx lv (.int (E.2.2.2 i.toNatClampNeg) :: r) w k n
def tr_or (T1 T2 : xw_T) : xw_T := fun Rt lv st w k n K => T1 Rt lv st w k n K ∨ T2 Rt lv st w k n K
def tr_cast (nx ci : Nat) : xw_T := fun _ lv st w k n K => ∃ (v : Value) (r : List Value), st = v :: r ∧ (v = .null ∨ ∃ (a : Nat) (fs : List Value), v = .ref a ∧ a ∈ w.1 ∧ w.2 a = .inr (ci, fs)) ∧ K nx lv (v :: r) w k n
def tr_obj (nx : Nat) : xw_T := fun _ lv st w k n K => ∃ (a : Nat) (r : List Value), st = .ref a :: r ∧ (r.map fun v => v.category).sum ≤ 8 ∧ K nx lv r w k n
def tr_max (nx MC MS : Nat) : xw_T := fun _ lv st w k n K => ∃ (x y : Int32) (r : List Value), st = .int y :: .int x :: r ∧ (r.map fun v => v.category).sum ≤ 8 ∧ k ≤ MC ∧ n ≤ MS ∧ K nx lv (.int (if x < y then y else x) :: r) w k n
def tr_min (nx MC MS : Nat) : xw_T := fun _ lv st w k n K => ∃ (x y : Int32) (r : List Value), st = .int y :: .int x :: r ∧ (r.map fun v => v.category).sum ≤ 8 ∧ k ≤ MC ∧ n ≤ MS ∧ K nx lv (.int (if y < x then y else x) :: r) w k n
def tr_getc (nx cO mi : Nat) : xw_T := fun _ lv st w k n K => ∃ (a N : Nat) (f : Nat → Option Nat) (r : List Value), st = .ref a :: r ∧ a ∈ w.1 ∧ w.2 a = .inl (cO, N, .inr (.inr (.inr (.inr f)))) ∧ (r.map fun v => v.category).sum ≤ 8 ∧ K nx lv (.ref mi :: r) w k n
def tr_copy (nx cO : Nat) (cs : List Nat) : xw_T := fun _ lv st w k n K => ∃ (sp dp c : Int32) (a b N M : Nat) (f g : Nat → Option Nat) (r : List Value), st = .int c :: .int dp :: .ref b :: .int sp :: .ref a :: r ∧ a ∈ w.1 ∧ w.2 a = .inl (cO, N, .inr (.inr (.inr (.inr f)))) ∧ b ∈ w.1 ∧ w.2 b = .inl (cO, M, .inr (.inr (.inr (.inr g)))) ∧ ¬ sp < 0 ∧ ¬ dp < 0 ∧ ¬ c < 0 ∧ sp.toNatClampNeg + c.toNatClampNeg ≤ N ∧ dp.toNatClampNeg + c.toNatClampNeg ≤ M ∧ (∀ i y : Nat, i < c.toNatClampNeg → f (sp.toNatClampNeg + i) = some y → y ∈ w.1 ∧ ∃ (ci : Nat) (fs : List Value), ci ∈ cs ∧ w.2 y = .inr (ci, fs)) ∧ (r.map fun v => v.category).sum ≤ 8 ∧ K nx lv r (w.1, va_up w.2 b (.inl (cO, M, .inr (.inr (.inr (.inr (va_cpy f g sp.toNatClampNeg dp.toNatClampNeg c.toNatClampNeg))))))) k n
def tr_callV (nx na ci : Nat) (PT : xw_PT) (mc ms MC MS : Nat) : xw_T := fun _ lv st w k n K => ∃ (a : Nat) (fs r : List Value), st.drop na = .ref a :: r ∧ a ∈ w.1 ∧ w.2 a = .inr (ci, fs) ∧ (r.map fun v => v.category).sum ≤ 8 ∧ k + mc ≤ MC ∧ n + ms ≤ MS ∧ PT (.ref a :: (st.take na).reverse) w (fun v w' => K nx lv (v.toList ++ r) w' (k + mc) (n + ms))
def tr_callI (nx na : Nat) (PT : xw_PT) (mc ms MC MS : Nat) : xw_T := fun _ lv st w k n K => ∃ (a : Nat) (r : List Value), st.drop na = .ref a :: r ∧ (r.map fun v => v.category).sum ≤ 8 ∧ k + mc ≤ MC ∧ n + ms ≤ MS ∧ PT (.ref a :: (st.take na).reverse) w (fun v w' => K nx lv (v.toList ++ r) w' (k + mc) (n + ms))
def tr_callS (nx na : Nat) (PT : xw_PT) (mc ms MC MS : Nat) : xw_T := fun _ lv st w k n K => na ≤ st.length ∧ ((st.drop na).map fun v => v.category).sum ≤ 8 ∧ k + mc ≤ MC ∧ n + ms ≤ MS ∧ PT (st.take na).reverse w (fun v w' => K nx lv (v.toList ++ st.drop na) w' (k + mc) (n + ms))
def tr_iret (ty : FieldType) : xw_T := fun Rt _ st w k n _ => ∃ x : Int32, st = [.int x] ∧ narrow ty (.int x) = .int x ∧ Rt (some (.int x)) w k n
def tr_lret : xw_T := fun Rt _ st w k n _ => ∃ x : Int64, st = [.long x] ∧ Rt (some (.long x)) w k n
def tr_aret : xw_T := fun Rt _ st w k n _ => ∃ v : Value, st = [v] ∧ xw_isR v ∧ Rt (some v) w k n
def tr_vret : xw_T := fun Rt _ st w k n _ => st = [] ∧ Rt none w k n
def tr_no : xw_T := fun _ _ _ _ _ _ _ => False
/-! runs of a table -/
def xw_Run (tb : List (Nat × xw_T)) (Rt : xw_R) : xw_K := fun pc lv st w k n => ∀ OK : xw_K, (∀ (pc : Nat) (lv : xw_L) (st : List Value) (w : xw_W) (k n : Nat) (T : xw_T) (K : xw_K), xw_lk tb pc = some T → (∀ pc lv st w k n, K pc lv st w k n → OK pc lv st w k n) → T Rt lv st w k n K → OK pc lv st w k n) → OK pc lv st w k n
theorem xw_Run.st {tb : List (Nat × xw_T)} {Rt : xw_R} {pc : Nat} {lv : xw_L} {st : List Value} {w : xw_W} {k n : Nat} {T : xw_T} (h : xw_lk tb pc = some T) (hT : T Rt lv st w k n (xw_Run tb Rt)) : xw_Run tb Rt pc lv st w k n :=
  fun OK cl => cl pc lv st w k n T (xw_Run tb Rt) h (fun _ _ _ _ _ _ hr => hr OK cl) hT
/-- some steps of a run, till a place of S -/
def xw_go (tb : List (Nat × xw_T)) (Rt : xw_R) (S : Nat → Bool) : Nat → xw_K
  | 0 => xw_Run tb Rt
  | f + 1 => fun pc lv st w k n => match xw_lk tb pc with
    | none => False
    | some T => T Rt lv st w k n (fun pc' lv' st' w' k' n' => bif S pc' then xw_Run tb Rt pc' lv' st' w' k' n' else xw_go tb Rt S f pc' lv' st' w' k' n')
theorem xw_go_run {tb : List (Nat × xw_T)} {Rt : xw_R} {S : Nat → Bool} (f : Nat) : ∀ {pc : Nat} {lv : xw_L} {st : List Value} {w : xw_W} {k n : Nat}, xw_go tb Rt S f pc lv st w k n → xw_Run tb Rt pc lv st w k n := by
  induction f with
  | zero => exact fun h => h
  | succ f ih =>
    intro pc lv st w k n h OK cl
    unfold xw_go at h
    split at h
    · exact h.elim
    · next T hT =>
      refine cl pc lv st w k n T _ hT (fun pc lv st w k n hk => ?_) h
      cases hS : S pc
      · rw [hS] at hk
        exact ih hk OK cl
      · rw [hS] at hk
        exact hk OK cl
/-- what a method's table gives, from its arguments -/
def xw_pt (tb : List (Nat × xw_T)) (nL mc ms : Nat) : xw_PT := fun av w post => (lg_sl av).length ≤ nL ∧ xw_Run tb (fun v w' k n => post v w' ∧ k ≤ mc ∧ n ≤ ms) 0 (lv_args 0 av) [] w 0 0
end XW
/-! the machine -/
section XM
/-- what the tables say that a world's rows need -/
def xw_V (E : xw_E) (U : State) : Prop := (va_Nw (.castable "Pommel$Bout" "java/lang/Object") U ∧ va_Nw (.castable "Pommel$Fencer" "java/lang/Object") U ∧ va_Nw (.methodLinkNest "Pommel$Bout" 11 ⟨"Pommel$Side", "<init>", "()V"⟩ "Pommel") U) ∧ va_AO "Pommel$Bout" U ∧ va_AO "Pommel$Fencer" U ∧ va_AO "java/lang/Object" U ∧ va_Mi "[Ljava/lang/Object;" E.1.2 U ∧ va_Dc U
theorem xw_V.same {E : xw_E} {u U : State} (hvm : u.vm = U.vm) (h : xw_V E u) : xw_V E U := by
  have ha : u.vm.Alike U.vm := by rw [hvm]; exact Vm.Alike.refl U.vm
  exact ⟨⟨h.1.1.same rfl hvm, h.1.2.1.same rfl hvm, h.1.2.2.same rfl hvm⟩, h.2.1.moved ha, h.2.2.1.moved ha, h.2.2.2.1.moved ha, h.2.2.2.2.1.moved ha, h.2.2.2.2.2.moved ha⟩
theorem xw_V.warm {E : xw_E} {u U : State} (hW : u.WarmedH U.vm) (h : xw_V E u) : xw_V E U :=
  ⟨⟨va_Nw.warmC hW h.1.1, va_Nw.warmC hW h.1.2.1, va_Nw.warmM hW h.1.2.2⟩, h.2.1.moved hW.alike, h.2.2.1.moved hW.alike, h.2.2.2.1.moved hW.alike, h.2.2.2.2.1.moved hW.alike, h.2.2.2.2.2.moved hW.alike⟩
def xw_Zh (E : xw_E) (A : Nat → Prop) (U : State) (H : Heap) : Prop := va_Z "java/util/ArrayList" "DEFAULTCAPACITY_EMPTY_ELEMENTDATA" "[Ljava/lang/Object;" (.ref E.1.1) A U H ∧ va_T (.object "java/lang/Object") E.1.1 0 (fun _ => .null) A U H ∧ va_X E.2.1 E.2.2.1 E.2.2.2 U H ∧ E.2.1 < H.size ∧ ¬ A E.2.1
theorem xw_Zh.moved {E : xw_E} {A : Nat → Prop} {u U : State} {H : Heap} (hvm : u.vm.Alike U.vm) (h : xw_Zh E A u H) : xw_Zh E A U H :=
  ⟨h.1.moved hvm, h.2.1.moved hvm, h.2.2.1.moved hvm, h.2.2.2.1, h.2.2.2.2⟩
def xw_Z (E : xw_E) (A : Nat → Prop) (U : State) (H : Heap) : Prop := xw_Zh E A U H ∧ xw_V E U
theorem xw_Z.kept {E : xw_E} {A : Nat → Prop} {U : State} {H H1 : Heap} (h : xw_Z E A U H) (hz : H.size ≤ H1.size) (hq : ∀ a : Nat, a < H.size → ¬ A a → H1[a]? = H[a]?) : xw_Z E A U H1 :=
  ⟨⟨h.1.1.kept hq, h.1.2.1.kept hq, h.1.2.2.1.kept (hq _ h.1.2.2.2.1 h.1.2.2.2.2), Nat.lt_of_lt_of_le h.1.2.2.2.1 hz, h.1.2.2.2.2⟩, h.2⟩
theorem xw_Z.narrow {E : xw_E} {A B : Nat → Prop} {U : State} {H : Heap} (h : xw_Z E A U H) (hAB : ∀ q, B q → A q) : xw_Z E B U H :=
  ⟨⟨h.1.1.narrow hAB, h.1.2.1.narrow hAB, h.1.2.2.1, h.1.2.2.2.1, fun q => h.1.2.2.2.2 (hAB _ q)⟩, h.2⟩
def xw_P (D : va_G) (cl : List vw_C) (tys : List (ClassId × FieldType)) (E : xw_E) (av : List Value) (w : xw_W) (sz : Nat) : Array Value → State → Prop := va_Pc av (fun U => U.heap.size = sz ∧ va_P D cl (va_pl w.1 w.2) U.heap ∧ va_K D cl tys U ∧ va_D (fun _ => True) (va_pl w.1 w.2) ∧ xw_Z E (va_A (va_pl w.1 w.2) sz) U U.heap)
def xw_Qp (D : va_G) (cl : List vw_C) (w : xw_W) (sz : Nat) (post : Option Value → xw_W → Prop) : Array Value → State → Outcome → State → Prop := fun _ st oc t => (∃ (v : Option Value) (w' : xw_W), oc = .returned v ∧ post v w' ∧ va_P D cl (va_pl w'.1 w'.2) t.heap ∧ va_D (va_A (va_pl w.1 w.2) sz) (va_pl w'.1 w'.2)) ∧ va_F (va_A (va_pl w.1 w.2) sz) st t
/-- a method's contract by what its table gives -/
def xw_MP (l : Launch) (D : va_G) (cl : List vw_C) (tys : List (ClassId × FieldType)) (E : xw_E) (y : MethodName) (ws : List Cond) (rm : Room) (PT : xw_PT) (mc ms : Nat) : Prop :=
  ∀ (av : List Value) (w : xw_W) (sz : Nat) (post : Option Value → xw_W → Prop), PT av w post → Met l y ws rm (xw_P D cl tys E av w sz) (xw_Qp D cl w sz post) mc ms (va_A (va_pl w.1 w.2) sz)
theorem xw_blind (D : va_G) (cl : List vw_C) (tys : List (ClassId × FieldType)) (E : xw_E) (av : List Value) (w : xw_W) (sz : Nat) : FrameBlind (xw_P D cl tys E av w sz) := fun a U g mk q => by
  obtain ⟨q0, q1, qP, qK, qD, qZ⟩ := q
  exact ⟨q0, q1, qP, va_K.moved (u := U) (U := U.calling g mk a) (Vm.Alike.refl U.vm) qK, qD, ⟨xw_Zh.moved (u := U) (U := U.calling g mk a) (Vm.Alike.refl U.vm) qZ.1, xw_V.same (u := U) (U := U.calling g mk a) rfl qZ.2⟩⟩
variable {p : Program} {l : Launch} {e : Env} {R : Room} {s : State} {m : MethodId} {args : Array Value} {below : List Frame} {meth : Method} {c : Code} {Q : State → Prop}
variable {cc : ByteArray} {nL : Nat} {own : String} {Ts : List Cond} {D : va_G} {cl : List vw_C} {tys : List (ClassId × FieldType)} {E : xw_E} {A : Nat → Prop} {Rt : xw_R} {pc : Nat}
def xw_G (p : Program) (l : Launch) (e : Env) (R : Room) (s : State) (m : MethodId) (args : Array Value) (below : List Frame) (meth : Method) (c : Code) (nL : Nat) (D : va_G) (cl : List vw_C) (A : Nat → Prop) (Q : State → Prop) : xw_K := fun pc lv st w k n =>
  ∀ (ls : Array Slot) (H : Heap) (locs : List Loc), lv_has ls nL lv → va_P D cl (va_pl w.1 w.2) H → va_D A (va_pl w.1 w.2) → va_S A s.heap H locs → W p l e R s m args below meth c H locs k n Q (F0 m pc ls st)
def xw_X (p : Program) (s : State) (m : MethodId) (args : Array Value) (c : Code) (cc : ByteArray) (nL : Nat) (own : String) (Ts : List Cond) (D : va_G) (cl : List vw_C) (tys : List (ClassId × FieldType)) (E : xw_E) (A : Nat → Prop) : Prop :=
  CallFix p m c cc nL s args Ts own ∧ va_K D cl tys s ∧ (∀ q, s.heap.size ≤ q → A q) ∧ xw_Z E A s s.heap
def xw_Snd (p : Program) (l : Launch) (e : Env) (R : Room) (s : State) (m : MethodId) (args : Array Value) (below : List Frame) (meth : Method) (c : Code) (nL : Nat) (D : va_G) (cl : List vw_C) (A : Nat → Prop) (Q : State → Prop) (Rt : xw_R) (pc : Nat) (T : xw_T) : Prop :=
  ∀ (lv : xw_L) (st : List Value) (w : xw_W) (k n : Nat) (K : xw_K), (∀ pc lv st w k n, K pc lv st w k n → xw_G p l e R s m args below meth c nL D cl A Q pc lv st w k n) → T Rt lv st w k n K → xw_G p l e R s m args below meth c nL D cl A Q pc lv st w k n
theorem xw_closed {tb : List (Nat × xw_T)} (hs : ∀ q ∈ tb, xw_Snd p l e R s m args below meth c nL D cl A Q Rt q.1 q.2) {lv : xw_L} {st : List Value} {w : xw_W} {k n : Nat} (h : xw_Run tb Rt pc lv st w k n) : xw_G p l e R s m args below meth c nL D cl A Q pc lv st w k n :=
  h _ (fun pc lv st w k n T K hT hK hh => hs (pc, T) (xw_lk_mem hT) lv st w k n K hK hh)
theorem xs_push {v : Value} {nx : Nat} (h : ∀ (ls : Array Slot) (H : Heap) (locs : List Loc) (k n : Nat) (st : List Value), W p l e R s m args below meth c H locs k n Q (F0 m nx ls (v :: st)) → W p l e R s m args below meth c H locs k n Q (F0 m pc ls st)) : xw_Snd p l e R s m args below meth c nL D cl A Q Rt pc (tr_push nx v) :=
  fun lv st w k n K hK hT ls H locs hl hP hD hS => h ls H locs k n st (hK _ _ _ _ _ _ hT ls H locs hl hP hD hS)
theorem xs_iconst (X : xw_X p s m args c cc nL own Ts D cl tys E A) {n0 : Int} {v : Int32} (d : decode cc pc = .ok (.iconst n0, 1)) (hv : Int32.ofInt n0 = v) : xw_Snd p l e R s m args below meth c nL D cl A Q Rt pc (tr_push (pc + 1) (.int v)) :=
  xs_push fun _ _ _ _ _ _ h => lv_iconst X.1.1 X.1.2.1 d hv h
theorem xs_bipush (X : xw_X p s m args c cc nL own Ts D cl tys E A) {n0 : Int} {v : Int32} (d : decode cc pc = .ok (.bipush n0, 2)) (hv : (Int8.ofInt n0).toInt32 = v) : xw_Snd p l e R s m args below meth c nL D cl A Q Rt pc (tr_push (pc + 2) (.int v)) :=
  xs_push fun _ _ _ _ _ _ h => lv_bipush X.1.1 X.1.2.1 d hv h
theorem xs_sipush (X : xw_X p s m args c cc nL own Ts D cl tys E A) {n0 : Int} {v : Int32} (d : decode cc pc = .ok (.sipush n0, 3)) (hv : (Int16.ofInt n0).toInt32 = v) : xw_Snd p l e R s m args below meth c nL D cl A Q Rt pc (tr_push (pc + 3) (.int v)) :=
  xs_push fun _ _ _ _ _ _ h => lv_sipush X.1.1 X.1.2.1 d hv h
theorem xs_lconst (X : xw_X p s m args c cc nL own Ts D cl tys E A) {n0 : Fin 2} {v : Int64} (d : decode cc pc = .ok (.lconst n0, 1)) (hv : Int64.ofNat (n0 : Nat) = v) : xw_Snd p l e R s m args below meth c nL D cl A Q Rt pc (tr_push (pc + 1) (.long v)) :=
  xs_push fun _ _ _ _ _ _ h => lv_lconst X.1.1 X.1.2.1 d hv h
theorem xs_null (X : xw_X p s m args c cc nL own Ts D cl tys E A) (d : decode cc pc = .ok (.aconst_null, 1)) : xw_Snd p l e R s m args below meth c nL D cl A Q Rt pc (tr_push (pc + 1) .null) :=
  xs_push fun _ _ _ _ _ _ h => lv_null X.1.1 X.1.2.1 d h
theorem xs_ldc (X : xw_X p s m args c cc nL own Ts D cl tys E A) {index : Nat} {v : Int32} (hc : Jvm.Cond.constant own index v ∈ Ts) (d : decode cc pc = .ok (.ldc index, 2)) : xw_Snd p l e R s m args below meth c nL D cl A Q Rt pc (tr_push (pc + 2) (.int v)) :=
  xs_push fun _ _ _ _ _ _ h => lv_ldc X.1.1 X.1.2.1 X.1.2.2.2.1 (X.1.2.2.2.2 _ hc) d h
theorem xs_ldc2 (X : xw_X p s m args c cc nL own Ts D cl tys E A) {index : Nat} {v : Int64} (hc : Jvm.Cond.constantLong own index v ∈ Ts) (d : decode cc pc = .ok (.ldc2_w index, 3)) : xw_Snd p l e R s m args below meth c nL D cl A Q Rt pc (tr_push (pc + 3) (.long v)) :=
  xs_push fun _ _ _ _ _ _ h => lv_ldc2 X.1.1 X.1.2.1 X.1.2.2.2.1 (X.1.2.2.2.2 _ hc) d h
theorem xs_iload_n (X : xw_X p s m args c cc nL own Ts D cl tys E A) {j : Fin 4} {i : Nat} (d : decode cc pc = .ok (.iload_n j, 1)) (hi : (j : Nat) = i) : xw_Snd p l e R s m args below meth c nL D cl A Q Rt pc (tr_ild (pc + 1) i) := by
  intro lv st w k n K hK ⟨x, hx, hT⟩ ls H locs hl hP hD hS
  exact lv_iload_n X.1.1 X.1.2.1 d hi (xw_lk_at hl hx) (hK _ _ _ _ _ _ hT ls H locs hl hP hD hS)
theorem xs_iload (X : xw_X p s m args c cc nL own Ts D cl tys E A) {i : Nat} (d : decode cc pc = .ok (.iload i, 2)) : xw_Snd p l e R s m args below meth c nL D cl A Q Rt pc (tr_ild (pc + 2) i) := by
  intro lv st w k n K hK ⟨x, hx, hT⟩ ls H locs hl hP hD hS
  exact lv_iload X.1.1 X.1.2.1 d (xw_lk_at hl hx) (hK _ _ _ _ _ _ hT ls H locs hl hP hD hS)
theorem xs_lload_n (X : xw_X p s m args c cc nL own Ts D cl tys E A) {j : Fin 4} {i : Nat} (d : decode cc pc = .ok (.lload_n j, 1)) (hi : (j : Nat) = i) : xw_Snd p l e R s m args below meth c nL D cl A Q Rt pc (tr_lld (pc + 1) i) := by
  intro lv st w k n K hK ⟨x, hx, hT⟩ ls H locs hl hP hD hS
  exact lv_lload_n X.1.1 X.1.2.1 d hi (xw_lk_at hl hx) (hK _ _ _ _ _ _ hT ls H locs hl hP hD hS)
theorem xs_lload (X : xw_X p s m args c cc nL own Ts D cl tys E A) {i : Nat} (d : decode cc pc = .ok (.lload i, 2)) : xw_Snd p l e R s m args below meth c nL D cl A Q Rt pc (tr_lld (pc + 2) i) := by
  intro lv st w k n K hK ⟨x, hx, hT⟩ ls H locs hl hP hD hS
  exact lv_lload X.1.1 X.1.2.1 d (xw_lk_at hl hx) (hK _ _ _ _ _ _ hT ls H locs hl hP hD hS)
theorem xs_aload_n (X : xw_X p s m args c cc nL own Ts D cl tys E A) {j : Fin 4} {i : Nat} (d : decode cc pc = .ok (.aload_n j, 1)) (hi : (j : Nat) = i) : xw_Snd p l e R s m args below meth c nL D cl A Q Rt pc (tr_ald (pc + 1) i) := by
  intro lv st w k n K hK ⟨v, hx, ⟨r, hr⟩, hT⟩ ls H locs hl hP hD hS
  subst hr
  have h9 := xw_lk_at hl hx
  cases r with
  | none => exact lv_aload_nN X.1.1 X.1.2.1 d hi h9 (hK _ _ _ _ _ _ hT ls H locs hl hP hD hS)
  | some a => exact lv_aload_n X.1.1 X.1.2.1 d hi h9 (hK _ _ _ _ _ _ hT ls H locs hl hP hD hS)
theorem xs_aload (X : xw_X p s m args c cc nL own Ts D cl tys E A) {i : Nat} (d : decode cc pc = .ok (.aload i, 2)) : xw_Snd p l e R s m args below meth c nL D cl A Q Rt pc (tr_ald (pc + 2) i) := by
  intro lv st w k n K hK ⟨v, hx, ⟨r, hr⟩, hT⟩ ls H locs hl hP hD hS
  subst hr
  have h9 := xw_lk_at hl hx
  cases r with
  | none => exact lv_aloadN X.1.1 X.1.2.1 d h9 (hK _ _ _ _ _ _ hT ls H locs hl hP hD hS)
  | some a => exact lv_aload X.1.1 X.1.2.1 d h9 (hK _ _ _ _ _ _ hT ls H locs hl hP hD hS)
theorem xs_istore_n (X : xw_X p s m args c cc nL own Ts D cl tys E A) {j : Fin 4} {i : Nat} (d : decode cc pc = .ok (.istore_n j, 1)) (hi : (j : Nat) = i) (hn : i < nL) : xw_Snd p l e R s m args below meth c nL D cl A Q Rt pc (tr_ist (pc + 1) i) := by
  intro lv st w k n K hK ⟨x, r, hst, hT⟩ ls H locs hl hP hD hS
  subst hst
  exact lv_istore_n X.1.1 X.1.2.1 d hi hl hn rfl (fun ls' hl' => hK _ _ _ _ _ _ hT ls' H locs hl' hP hD hS)
theorem xs_istore (X : xw_X p s m args c cc nL own Ts D cl tys E A) {i : Nat} (d : decode cc pc = .ok (.istore i, 2)) (hn : i < nL) : xw_Snd p l e R s m args below meth c nL D cl A Q Rt pc (tr_ist (pc + 2) i) := by
  intro lv st w k n K hK ⟨x, r, hst, hT⟩ ls H locs hl hP hD hS
  subst hst
  exact lv_istore X.1.1 X.1.2.1 d hl hn rfl (fun ls' hl' => hK _ _ _ _ _ _ hT ls' H locs hl' hP hD hS)
theorem xs_lstore_n (X : xw_X p s m args c cc nL own Ts D cl tys E A) {j : Fin 4} {i : Nat} (d : decode cc pc = .ok (.lstore_n j, 1)) (hi : (j : Nat) = i) (hn : i + 1 < nL) : xw_Snd p l e R s m args below meth c nL D cl A Q Rt pc (tr_lst (pc + 1) i) := by
  intro lv st w k n K hK ⟨x, r, hst, hT⟩ ls H locs hl hP hD hS
  subst hst
  exact lv_lstore_n X.1.1 X.1.2.1 d hi hl hn rfl (fun ls' hl' => hK _ _ _ _ _ _ hT ls' H locs hl' hP hD hS)
theorem xs_lstore (X : xw_X p s m args c cc nL own Ts D cl tys E A) {i : Nat} (d : decode cc pc = .ok (.lstore i, 2)) (hn : i + 1 < nL) : xw_Snd p l e R s m args below meth c nL D cl A Q Rt pc (tr_lst (pc + 2) i) := by
  intro lv st w k n K hK ⟨x, r, hst, hT⟩ ls H locs hl hP hD hS
  subst hst
  exact lv_lstore X.1.1 X.1.2.1 d hl hn rfl (fun ls' hl' => hK _ _ _ _ _ _ hT ls' H locs hl' hP hD hS)
theorem xs_astore_n (X : xw_X p s m args c cc nL own Ts D cl tys E A) {j : Fin 4} {i : Nat} (d : decode cc pc = .ok (.astore_n j, 1)) (hi : (j : Nat) = i) (hn : i < nL) : xw_Snd p l e R s m args below meth c nL D cl A Q Rt pc (tr_ast (pc + 1) i) := by
  intro lv st w k n K hK ⟨v, r, hst, ⟨o, ho⟩, hT⟩ ls H locs hl hP hD hS
  subst hst
  subst ho
  cases o with
  | none => exact lv_astore_nN X.1.1 X.1.2.1 d hi hl hn rfl (fun ls' hl' => hK _ _ _ _ _ _ hT ls' H locs hl' hP hD hS)
  | some a => exact lv_astore_n X.1.1 X.1.2.1 d hi hl hn rfl (fun ls' hl' => hK _ _ _ _ _ _ hT ls' H locs hl' hP hD hS)
theorem xs_astore (X : xw_X p s m args c cc nL own Ts D cl tys E A) {i : Nat} (d : decode cc pc = .ok (.astore i, 2)) (hn : i < nL) : xw_Snd p l e R s m args below meth c nL D cl A Q Rt pc (tr_ast (pc + 2) i) := by
  intro lv st w k n K hK ⟨v, r, hst, ⟨o, ho⟩, hT⟩ ls H locs hl hP hD hS
  subst hst
  subst ho
  cases o with
  | none => exact lv_astoreN X.1.1 X.1.2.1 d hl hn rfl (fun ls' hl' => hK _ _ _ _ _ _ hT ls' H locs hl' hP hD hS)
  | some a => exact lv_astore X.1.1 X.1.2.1 d hl hn rfl (fun ls' hl' => hK _ _ _ _ _ _ hT ls' H locs hl' hP hD hS)
theorem xs_iinc (X : xw_X p s m args c cc nL own Ts D cl tys E A) {i : Nat} {n0 : Int} {v : Int32} (d : decode cc pc = .ok (.iinc i n0, 3)) (hv : Int32.ofInt n0 = v) (hn : i < nL) : xw_Snd p l e R s m args below meth c nL D cl A Q Rt pc (tr_inc (pc + 3) i v) := by
  intro lv st w k n K hK ⟨x, hx, hT⟩ ls H locs hl hP hD hS
  subst hv
  obtain ⟨j, hj⟩ := List.getElem?_of_mem (xw_lk_mem hx)
  exact lv_iinc X.1.1 X.1.2.1 d hl hj rfl hn rfl (fun ls' hl' => hK _ _ _ _ _ _ hT ls' H locs hl' hP hD hS)
theorem xs_i2 {f : Int32 → Int32 → Int32} (h : ∀ (ls : Array Slot) (H : Heap) (locs : List Loc) (k n : Nat) (x y : Int32) (st : List Value), W p l e R s m args below meth c H locs k n Q (F0 m (pc + 1) ls (.int (f x y) :: st)) → W p l e R s m args below meth c H locs k n Q (F0 m pc ls (.int y :: .int x :: st))) : xw_Snd p l e R s m args below meth c nL D cl A Q Rt pc (tr_i2 (pc + 1) f) := by
  intro lv st w k n K hK ⟨x, y, r, hst, hT⟩ ls H locs hl hP hD hS
  subst hst
  exact h _ _ _ _ _ _ _ _ (hK _ _ _ _ _ _ hT ls H locs hl hP hD hS)
theorem xs_iadd (X : xw_X p s m args c cc nL own Ts D cl tys E A) (d : decode cc pc = .ok (.iadd, 1)) : xw_Snd p l e R s m args below meth c nL D cl A Q Rt pc (tr_i2 (pc + 1) (fun x y => x + y)) := xs_i2 fun _ _ _ _ _ _ _ _ h => lv_iadd X.1.1 X.1.2.1 d h
theorem xs_isub (X : xw_X p s m args c cc nL own Ts D cl tys E A) (d : decode cc pc = .ok (.isub, 1)) : xw_Snd p l e R s m args below meth c nL D cl A Q Rt pc (tr_i2 (pc + 1) (fun x y => x - y)) := xs_i2 fun _ _ _ _ _ _ _ _ h => lv_isub X.1.1 X.1.2.1 d h
theorem xs_imul (X : xw_X p s m args c cc nL own Ts D cl tys E A) (d : decode cc pc = .ok (.imul, 1)) : xw_Snd p l e R s m args below meth c nL D cl A Q Rt pc (tr_i2 (pc + 1) (fun x y => x * y)) := xs_i2 fun _ _ _ _ _ _ _ _ h => lv_imul X.1.1 X.1.2.1 d h
theorem xs_iand (X : xw_X p s m args c cc nL own Ts D cl tys E A) (d : decode cc pc = .ok (.iand, 1)) : xw_Snd p l e R s m args below meth c nL D cl A Q Rt pc (tr_i2 (pc + 1) (fun x y => x &&& y)) := xs_i2 fun _ _ _ _ _ _ _ _ h => lv_iand X.1.1 X.1.2.1 d h
theorem xs_ior (X : xw_X p s m args c cc nL own Ts D cl tys E A) (d : decode cc pc = .ok (.ior, 1)) : xw_Snd p l e R s m args below meth c nL D cl A Q Rt pc (tr_i2 (pc + 1) (fun x y => x ||| y)) := xs_i2 fun _ _ _ _ _ _ _ _ h => lv_ior X.1.1 X.1.2.1 d h
theorem xs_ishl (X : xw_X p s m args c cc nL own Ts D cl tys E A) (d : decode cc pc = .ok (.ishl, 1)) : xw_Snd p l e R s m args below meth c nL D cl A Q Rt pc (tr_i2 (pc + 1) (fun x y => x <<< (y &&& 31))) := xs_i2 fun _ _ _ _ _ _ _ _ h => lv_ishl X.1.1 X.1.2.1 d h
theorem xs_ishr (X : xw_X p s m args c cc nL own Ts D cl tys E A) (d : decode cc pc = .ok (.ishr, 1)) : xw_Snd p l e R s m args below meth c nL D cl A Q Rt pc (tr_i2 (pc + 1) (fun x y => x >>> (y &&& 31))) := xs_i2 fun _ _ _ _ _ _ _ _ h => lv_ishr X.1.1 X.1.2.1 d h
theorem xs_idiv (X : xw_X p s m args c cc nL own Ts D cl tys E A) (d : decode cc pc = .ok (.idiv, 1)) : xw_Snd p l e R s m args below meth c nL D cl A Q Rt pc (tr_i2z (pc + 1) (fun x y => x / y)) := by
  intro lv st w k n K hK ⟨x, y, r, hst, hne, hT⟩ ls H locs hl hP hD hS
  subst hst
  exact lv_idiv X.1.1 X.1.2.1 d hne (hK _ _ _ _ _ _ hT ls H locs hl hP hD hS)
theorem xs_irem (X : xw_X p s m args c cc nL own Ts D cl tys E A) (d : decode cc pc = .ok (.irem, 1)) : xw_Snd p l e R s m args below meth c nL D cl A Q Rt pc (tr_i2z (pc + 1) (fun x y => x - x / y * y)) := by
  intro lv st w k n K hK ⟨x, y, r, hst, hne, hT⟩ ls H locs hl hP hD hS
  subst hst
  exact lv_irem X.1.1 X.1.2.1 d hne (hK _ _ _ _ _ _ hT ls H locs hl hP hD hS)
theorem xs_ladd (X : xw_X p s m args c cc nL own Ts D cl tys E A) (d : decode cc pc = .ok (.ladd, 1)) : xw_Snd p l e R s m args below meth c nL D cl A Q Rt pc (tr_l2 (pc + 1) (fun x y => x + y)) := by
  intro lv st w k n K hK ⟨x, y, r, hst, hT⟩ ls H locs hl hP hD hS
  subst hst
  exact lv_ladd X.1.1 X.1.2.1 d (hK _ _ _ _ _ _ hT ls H locs hl hP hD hS)
theorem xs_lmul (X : xw_X p s m args c cc nL own Ts D cl tys E A) (d : decode cc pc = .ok (.lmul, 1)) : xw_Snd p l e R s m args below meth c nL D cl A Q Rt pc (tr_l2 (pc + 1) (fun x y => x * y)) := by
  intro lv st w k n K hK ⟨x, y, r, hst, hT⟩ ls H locs hl hP hD hS
  subst hst
  exact lv_lmul X.1.1 X.1.2.1 d (hK _ _ _ _ _ _ hT ls H locs hl hP hD hS)
theorem xs_i2l (X : xw_X p s m args c cc nL own Ts D cl tys E A) (d : decode cc pc = .ok (.i2l, 1)) : xw_Snd p l e R s m args below meth c nL D cl A Q Rt pc (tr_i2l (pc + 1)) := by
  intro lv st w k n K hK ⟨x, r, hst, hT⟩ ls H locs hl hP hD hS
  subst hst
  exact lv_i2l X.1.1 X.1.2.1 d rfl (hK _ _ _ _ _ _ hT ls H locs hl hP hD hS)
theorem xs_dup (X : xw_X p s m args c cc nL own Ts D cl tys E A) (d : decode cc pc = .ok (.dup, 1)) : xw_Snd p l e R s m args below meth c nL D cl A Q Rt pc (tr_dup (pc + 1)) := by
  intro lv st w k n K hK ⟨v, r, hst, hc, hT⟩ ls H locs hl hP hD hS
  subst hst
  exact lv_dup X.1.1 X.1.2.1 d hc (hK _ _ _ _ _ _ hT ls H locs hl hP hD hS)
theorem xs_pop (X : xw_X p s m args c cc nL own Ts D cl tys E A) (d : decode cc pc = .ok (.pop, 1)) : xw_Snd p l e R s m args below meth c nL D cl A Q Rt pc (tr_pop (pc + 1)) := by
  intro lv st w k n K hK ⟨v, r, hst, hc, hT⟩ ls H locs hl hP hD hS
  subst hst
  exact lv_pop X.1.1 X.1.2.1 d hc (hK _ _ _ _ _ _ hT ls H locs hl hP hD hS)
theorem xs_dup2 (X : xw_X p s m args c cc nL own Ts D cl tys E A) (d : decode cc pc = .ok (.dup2, 1)) : xw_Snd p l e R s m args below meth c nL D cl A Q Rt pc (tr_dup2 (pc + 1)) := by
  intro lv st w k n K hK ⟨u, v, r, hst, hu, hv, hT⟩ ls H locs hl hP hD hS
  subst hst
  exact lv_dup2_11 X.1.1 X.1.2.1 d hu hv (hK _ _ _ _ _ _ hT ls H locs hl hP hD hS)
theorem xs_dupx1 (X : xw_X p s m args c cc nL own Ts D cl tys E A) (d : decode cc pc = .ok (.dup_x1, 1)) : xw_Snd p l e R s m args below meth c nL D cl A Q Rt pc (tr_dupx1 (pc + 1)) := by
  intro lv st w k n K hK ⟨u, v, r, hst, hu, hv, hT⟩ ls H locs hl hP hD hS
  subst hst
  exact lv_dup_x1 X.1.1 X.1.2.1 d hu hv (hK _ _ _ _ _ _ hT ls H locs hl hP hD hS)
theorem xs_ifz {tg : Nat} {P : Int32 → Prop} (h : ∀ (ls : Array Slot) (H : Heap) (locs : List Loc) (k n : Nat) (x : Int32) (st : List Value), (P x → W p l e R s m args below meth c H locs k n Q (F0 m tg ls st)) → (¬ P x → W p l e R s m args below meth c H locs k n Q (F0 m (pc + 3) ls st)) → W p l e R s m args below meth c H locs k n Q (F0 m pc ls (.int x :: st))) : xw_Snd p l e R s m args below meth c nL D cl A Q Rt pc (tr_ifz (pc + 3) tg P) := by
  intro lv st w k n K hK ⟨x, r, hst, h1, h2⟩ ls H locs hl hP hD hS
  subst hst
  exact h _ _ _ _ _ _ _ (fun q => hK _ _ _ _ _ _ (h1 q) ls H locs hl hP hD hS) (fun q => hK _ _ _ _ _ _ (h2 q) ls H locs hl hP hD hS)
theorem xs_ifeq (X : xw_X p s m args c cc nL own Ts D cl tys E A) {off : Int} {tg : Nat} (d : decode cc pc = .ok (.ifCond .eq off, 3)) (ht : (pc : Int) + off = (tg : Int)) : xw_Snd p l e R s m args below meth c nL D cl A Q Rt pc (tr_ifz (pc + 3) tg (fun x => x = 0)) := xs_ifz fun _ _ _ _ _ _ _ h1 h2 => lv_if_eq X.1.1 X.1.2.1 d ht h1 h2
theorem xs_ifne (X : xw_X p s m args c cc nL own Ts D cl tys E A) {off : Int} {tg : Nat} (d : decode cc pc = .ok (.ifCond .ne off, 3)) (ht : (pc : Int) + off = (tg : Int)) : xw_Snd p l e R s m args below meth c nL D cl A Q Rt pc (tr_ifz (pc + 3) tg (fun x => ¬ x = 0)) := xs_ifz fun _ _ _ _ _ _ _ h1 h2 => lv_if_ne X.1.1 X.1.2.1 d ht h1 (fun q => h2 (fun z => z q))
theorem xs_iflt (X : xw_X p s m args c cc nL own Ts D cl tys E A) {off : Int} {tg : Nat} (d : decode cc pc = .ok (.ifCond .lt off, 3)) (ht : (pc : Int) + off = (tg : Int)) : xw_Snd p l e R s m args below meth c nL D cl A Q Rt pc (tr_ifz (pc + 3) tg (fun x => x < 0)) := xs_ifz fun _ _ _ _ _ _ _ h1 h2 => lv_if_lt X.1.1 X.1.2.1 d ht h1 h2
theorem xs_icmplt (X : xw_X p s m args c cc nL own Ts D cl tys E A) {off : Int} {tg : Nat} (d : decode cc pc = .ok (.if_icmp .lt off, 3)) (ht : (pc : Int) + off = (tg : Int)) : xw_Snd p l e R s m args below meth c nL D cl A Q Rt pc (tr_ifc (pc + 3) tg (fun x y => x < y)) := by
  intro lv st w k n K hK ⟨x, y, r, hst, h1, h2⟩ ls H locs hl hP hD hS
  subst hst
  exact lv_icmp_lt X.1.1 X.1.2.1 d ht (fun q => hK _ _ _ _ _ _ (h1 q) ls H locs hl hP hD hS) (fun q => hK _ _ _ _ _ _ (h2 q) ls H locs hl hP hD hS)
theorem xs_ifge (X : xw_X p s m args c cc nL own Ts D cl tys E A) {off : Int} {tg : Nat} (d : decode cc pc = .ok (.ifCond .ge off, 3)) (ht : (pc : Int) + off = (tg : Int)) : xw_Snd p l e R s m args below meth c nL D cl A Q Rt pc (tr_ifz (pc + 3) tg (fun x => 0 ≤ x)) := xs_ifz fun _ _ _ _ _ _ _ h1 h2 => lv_if_ge X.1.1 X.1.2.1 d ht h1 h2
theorem xs_ifgt (X : xw_X p s m args c cc nL own Ts D cl tys E A) {off : Int} {tg : Nat} (d : decode cc pc = .ok (.ifCond .gt off, 3)) (ht : (pc : Int) + off = (tg : Int)) : xw_Snd p l e R s m args below meth c nL D cl A Q Rt pc (tr_ifz (pc + 3) tg (fun x => 0 < x)) := xs_ifz fun _ _ _ _ _ _ _ h1 h2 => lv_if_gt X.1.1 X.1.2.1 d ht h1 h2
theorem xs_ifle (X : xw_X p s m args c cc nL own Ts D cl tys E A) {off : Int} {tg : Nat} (d : decode cc pc = .ok (.ifCond .le off, 3)) (ht : (pc : Int) + off = (tg : Int)) : xw_Snd p l e R s m args below meth c nL D cl A Q Rt pc (tr_ifz (pc + 3) tg (fun x => x ≤ 0)) := xs_ifz fun _ _ _ _ _ _ _ h1 h2 => lv_if_le X.1.1 X.1.2.1 d ht h1 h2
theorem xs_icmpge (X : xw_X p s m args c cc nL own Ts D cl tys E A) {off : Int} {tg : Nat} (d : decode cc pc = .ok (.if_icmp .ge off, 3)) (ht : (pc : Int) + off = (tg : Int)) : xw_Snd p l e R s m args below meth c nL D cl A Q Rt pc (tr_ifc (pc + 3) tg (fun x y => y ≤ x)) := by
  intro lv st w k n K hK ⟨x, y, r, hst, h1, h2⟩ ls H locs hl hP hD hS
  subst hst
  exact lv_icmp_ge X.1.1 X.1.2.1 d ht (fun q => hK _ _ _ _ _ _ (h1 q) ls H locs hl hP hD hS) (fun q => hK _ _ _ _ _ _ (h2 q) ls H locs hl hP hD hS)
theorem xs_icmpgt (X : xw_X p s m args c cc nL own Ts D cl tys E A) {off : Int} {tg : Nat} (d : decode cc pc = .ok (.if_icmp .gt off, 3)) (ht : (pc : Int) + off = (tg : Int)) : xw_Snd p l e R s m args below meth c nL D cl A Q Rt pc (tr_ifc (pc + 3) tg (fun x y => y < x)) := by
  intro lv st w k n K hK ⟨x, y, r, hst, h1, h2⟩ ls H locs hl hP hD hS
  subst hst
  exact lv_icmp_gt X.1.1 X.1.2.1 d ht (fun q => hK _ _ _ _ _ _ (h1 q) ls H locs hl hP hD hS) (fun q => hK _ _ _ _ _ _ (h2 q) ls H locs hl hP hD hS)
theorem xs_icmple (X : xw_X p s m args c cc nL own Ts D cl tys E A) {off : Int} {tg : Nat} (d : decode cc pc = .ok (.if_icmp .le off, 3)) (ht : (pc : Int) + off = (tg : Int)) : xw_Snd p l e R s m args below meth c nL D cl A Q Rt pc (tr_ifc (pc + 3) tg (fun x y => x ≤ y)) := by
  intro lv st w k n K hK ⟨x, y, r, hst, h1, h2⟩ ls H locs hl hP hD hS
  subst hst
  exact lv_icmp_le X.1.1 X.1.2.1 d ht (fun q => hK _ _ _ _ _ _ (h1 q) ls H locs hl hP hD hS) (fun q => hK _ _ _ _ _ _ (h2 q) ls H locs hl hP hD hS)
theorem xs_icmpeq (X : xw_X p s m args c cc nL own Ts D cl tys E A) {off : Int} {tg : Nat} (d : decode cc pc = .ok (.if_icmp .eq off, 3)) (ht : (pc : Int) + off = (tg : Int)) : xw_Snd p l e R s m args below meth c nL D cl A Q Rt pc (tr_ifc (pc + 3) tg (fun x y => x = y)) := by
  intro lv st w k n K hK ⟨x, y, r, hst, h1, h2⟩ ls H locs hl hP hD hS
  subst hst
  exact lv_icmp_eq X.1.1 X.1.2.1 d ht (fun q => hK _ _ _ _ _ _ (h1 q) ls H locs hl hP hD hS) (fun q => hK _ _ _ _ _ _ (h2 q) ls H locs hl hP hD hS)
theorem xs_icmpne (X : xw_X p s m args c cc nL own Ts D cl tys E A) {off : Int} {tg : Nat} (d : decode cc pc = .ok (.if_icmp .ne off, 3)) (ht : (pc : Int) + off = (tg : Int)) : xw_Snd p l e R s m args below meth c nL D cl A Q Rt pc (tr_ifc (pc + 3) tg (fun x y => ¬ x = y)) := by
  intro lv st w k n K hK ⟨x, y, r, hst, h1, h2⟩ ls H locs hl hP hD hS
  subst hst
  exact lv_icmp_ne X.1.1 X.1.2.1 d ht (fun q => hK _ _ _ _ _ _ (h1 q) ls H locs hl hP hD hS) (fun q => hK _ _ _ _ _ _ (h2 (fun z => z q)) ls H locs hl hP hD hS)
theorem xw_rf_inj {r q : Option Nat} (h : va_rf r = va_rf q) : r = q := by
  cases r <;> cases q <;> simp [va_rf] at h ⊢
  exact h
theorem xs_acmpeq (X : xw_X p s m args c cc nL own Ts D cl tys E A) {off : Int} {tg : Nat} (d : decode cc pc = .ok (.if_acmp .eq off, 3)) (ht : (pc : Int) + off = (tg : Int)) : xw_Snd p l e R s m args below meth c nL D cl A Q Rt pc (tr_ifa tg (pc + 3)) := by
  intro lv st w k n K hK ⟨u, v, r, hst, ⟨ru, hu⟩, ⟨rv, hv⟩, h1, h2⟩ ls H locs hl hP hD hS
  subst hst hu hv
  exact lv_acmp_eq X.1.1 X.1.2.1 d ht (fun q => hK _ _ _ _ _ _ (h1 (by rw [q])) ls H locs hl hP hD hS) (fun q => hK _ _ _ _ _ _ (h2 (fun z => q (xw_rf_inj z))) ls H locs hl hP hD hS)
theorem xs_acmpne (X : xw_X p s m args c cc nL own Ts D cl tys E A) {off : Int} {tg : Nat} (d : decode cc pc = .ok (.if_acmp .ne off, 3)) (ht : (pc : Int) + off = (tg : Int)) : xw_Snd p l e R s m args below meth c nL D cl A Q Rt pc (tr_ifa (pc + 3) tg) := by
  intro lv st w k n K hK ⟨u, v, r, hst, ⟨ru, hu⟩, ⟨rv, hv⟩, h1, h2⟩ ls H locs hl hP hD hS
  subst hst hu hv
  exact lv_acmp_ne X.1.1 X.1.2.1 d ht (fun q => hK _ _ _ _ _ _ (h2 (fun z => q (xw_rf_inj z))) ls H locs hl hP hD hS) (fun q => hK _ _ _ _ _ _ (h1 (by rw [q])) ls H locs hl hP hD hS)
theorem xs_ifnull (X : xw_X p s m args c cc nL own Ts D cl tys E A) {off : Int} {tg : Nat} (d : decode cc pc = .ok (.ifnull off, 3)) (ht : (pc : Int) + off = (tg : Int)) : xw_Snd p l e R s m args below meth c nL D cl A Q Rt pc (tr_ifn tg (pc + 3)) := by
  intro lv st w k n K hK ⟨v, r, hst, ⟨o, hv⟩, h1, h2⟩ ls H locs hl hP hD hS
  subst hst hv
  cases o with
  | none => exact lv_ifnullN X.1.1 X.1.2.1 d ht (hK _ _ _ _ _ _ (h1 rfl) ls H locs hl hP hD hS)
  | some a => exact lv_ifnull X.1.1 X.1.2.1 d (hK _ _ _ _ _ _ (h2 (fun z => by cases z)) ls H locs hl hP hD hS)
theorem xs_ifnonnull (X : xw_X p s m args c cc nL own Ts D cl tys E A) {off : Int} {tg : Nat} (d : decode cc pc = .ok (.ifnonnull off, 3)) (ht : (pc : Int) + off = (tg : Int)) : xw_Snd p l e R s m args below meth c nL D cl A Q Rt pc (tr_ifn (pc + 3) tg) := by
  intro lv st w k n K hK ⟨v, r, hst, ⟨o, hv⟩, h1, h2⟩ ls H locs hl hP hD hS
  subst hst hv
  cases o with
  | none => exact lv_ifnonnullN X.1.1 X.1.2.1 d (hK _ _ _ _ _ _ (h1 rfl) ls H locs hl hP hD hS)
  | some a => exact lv_ifnonnull X.1.1 X.1.2.1 d ht (hK _ _ _ _ _ _ (h2 (fun z => by cases z)) ls H locs hl hP hD hS)
theorem xs_goto (X : xw_X p s m args c cc nL own Ts D cl tys E A) {off : Int} {tg : Nat} (d : decode cc pc = .ok (.goto off, 3)) (ht : (pc : Int) + off = (tg : Int)) : xw_Snd p l e R s m args below meth c nL D cl A Q Rt pc (tr_goto tg) := by
  intro lv st w k n K hK hT ls H locs hl hP hD hS
  exact lv_goto X.1.1 X.1.2.1 d ht (hK _ _ _ _ _ _ hT ls H locs hl hP hD hS)
theorem xs_sw (X : xw_X p s m args c cc nL own Ts D cl tys E A) {dflt lo hi : Int} {offs : Array Int} {len dt : Nat} {ts : List Nat} (d : decode cc pc = .ok (.tableswitch dflt lo hi offs, len)) (hd : (pc : Int) + dflt = (dt : Int)) (hlh : lo ≤ hi) (hsz : (ts.length : Int) = hi - lo + 1) (ho : ∀ j t : Nat, ts[j]? = some t → ∃ off : Int, offs[j]? = some off ∧ (pc : Int) + off = (t : Int)) : xw_Snd p l e R s m args below meth c nL D cl A Q Rt pc (tr_sw lo hi ts dt) := by
  intro lv st w k n K hK ⟨x, r, hst, h1, h2⟩ ls H locs hl hP hD hS
  subst hst
  by_cases hx : x.toInt < lo ∨ hi < x.toInt
  · exact lv_tableOut X.1.1 X.1.2.1 d hx hd (hK _ _ _ _ _ _ (h1 hx) ls H locs hl hP hD hS)
  · have a1 : ¬ x.toInt < lo := fun z => hx (Or.inl z)
    have a2 : ¬ hi < x.toInt := fun z => hx (Or.inr z)
    have a3 : (x.toInt - lo).toNat < ts.length := by omega
    have a4 : ts[(x.toInt - lo).toNat]? = some ts[(x.toInt - lo).toNat] := List.getElem?_eq_getElem a3
    obtain ⟨off, o1, o2⟩ := ho _ _ a4
    exact lv_tableIn X.1.1 X.1.2.1 d a1 a2 o1 o2 (hK _ _ _ _ _ _ (h2 _ _ (by omega) a4) ls H locs hl hP hD hS)
theorem xw_at {w : xw_W} {a : Nat} {x : va_E} (h : a ∈ w.1) (hw : w.2 a = x) : ∃ j : Nat, (va_pl w.1 w.2)[j]? = some (a, x) := by
  obtain ⟨j, hj⟩ := va_pl_get (X := []) (f := w.2) h
  exact ⟨j, by rw [← hw]; exact hj⟩
theorem xw_set {A : Nat → Prop} {w : xw_W} {a j : Nat} {x y : va_E} (hD : va_D A (va_pl w.1 w.2)) (h : a ∈ w.1) (hw : w.2 a = x) (hj : (va_pl w.1 w.2)[j]? = some (a, x)) : (va_pl w.1 w.2).set j (a, y) = va_pl w.1 (va_up w.2 a y) := by
  rw [← hw] at hj
  exact va_pl_set (X := []) hD h hj
theorem xs_getf (X : xw_X p s m args c cc nL own Ts D cl tys E A) {ref C : String} {T : u_T} {N ci index kf : Nat} (hin : ∀ w ∈ u_ws C T N, w ∈ Ts) (hc : cl[ci]? = some (C, T, N)) (hk : kf < N) (hlink : Cond.fieldLink own index ref (T kf).2.1 (T kf).2.2.1 ∈ Ts) (hsame : ∀ x, s.fieldFound? (T kf).1 (T kf).2.1 (T kf).2.2.1 = some x → s.fieldFound? ref (T kf).2.1 (T kf).2.2.1 = some x) (d : decode cc pc = .ok (.getfield index, 3)) : xw_Snd p l e R s m args below meth c nL D cl A Q Rt pc (tr_getf (pc + 3) ci kf) := by
  intro lv st w k n K hK ⟨a, r, fs, u, hst, ha, hw, hu, hT⟩ ls H locs hl hP hD hS
  subst hst
  obtain ⟨j, hj⟩ := xw_at ha hw
  exact va_get X.1.1 X.1.2.1 X.1.2.2.2.2 hin X.1.2.2.2.1 X.2.1 hP j hj hc kf hk (X.1.2.2.2.2 _ hlink) hsame hu d (hK _ _ _ _ _ _ hT ls H locs hl hP hD hS)
theorem xs_putf (X : xw_X p s m args c cc nL own Ts D cl tys E A) {ref C : String} {T : u_T} {N ci index kf : Nat} (hin : ∀ w ∈ u_ws C T N, w ∈ Ts) (ty0 : Nat → FieldType) (hty : ∀ k, k < N → parseFieldDescriptor (T k).2.2.1 = some (ty0 k)) (hnm : ∀ a, a < N → ∀ b, b < N → a ≠ b → (T a).2.1 ≠ (T b).2.1) (hc : cl[ci]? = some (C, T, N)) (hk : kf < N) (hlink : Cond.fieldLink own index ref (T kf).2.1 (T kf).2.2.1 ∈ Ts) (hsame : ∀ x, s.fieldFound? (T kf).1 (T kf).2.1 (T kf).2.2.1 = some x → s.fieldFound? ref (T kf).2.1 (T kf).2.2.1 = some x) (hfin : (T kf).2.2.2 = false) {ty : FieldType} (hd : ty0 kf = ty) (d : decode cc pc = .ok (.putfield index, 3)) : xw_Snd p l e R s m args below meth c nL D cl A Q Rt pc (tr_putf (pc + 3) ci kf ty) := by
  intro lv st w k n K hK ⟨a, u, r, fs, hst, ha, hw, hu, hfit, hT⟩ ls H locs hl hP hD hS
  subst hst
  obtain ⟨j, hj⟩ := xw_at ha hw
  refine va_put X.1.1 X.1.2.1 X.1.2.2.2.2 hin ty0 hty hnm X.1.2.2.2.1 X.2.1 hP hD hS j hj hc kf hk (X.1.2.2.2.2 _ hlink) hsame hfin (by rw [hty kf hk, hd]) hfit.1 hfit.2 hu d (fun H1 locs1 hP1 hD1 hS1 => ?_)
  rw [xw_set hD ha hw hj] at hP1 hD1
  exact hK _ _ _ _ _ _ hT ls H1 locs1 hl hP1 hD1 hS1
theorem xs_putF (X : xw_X p s m args c cc nL own Ts D cl tys E A) {ref C : String} {T : u_T} {N ci index kf : Nat} (hin : ∀ w ∈ u_ws C T N, w ∈ Ts) (ty0 : Nat → FieldType) (hty : ∀ k, k < N → parseFieldDescriptor (T k).2.2.1 = some (ty0 k)) (hnm : ∀ a, a < N → ∀ b, b < N → a ≠ b → (T a).2.1 ≠ (T b).2.1) (hc : cl[ci]? = some (C, T, N)) (hk : kf < N) (hlink : Cond.fieldLink own index ref (T kf).2.1 (T kf).2.2.1 ∈ Ts) (hsame : ∀ x, s.fieldFound? (T kf).1 (T kf).2.1 (T kf).2.2.1 = some x → s.fieldFound? ref (T kf).2.1 (T kf).2.2.1 = some x) (hfin : (T kf).2.2.2 = true) (hin2 : meth.name = "<init>") (hdecl : (T kf).1 = own) {ty : FieldType} (hd : ty0 kf = ty) (d : decode cc pc = .ok (.putfield index, 3)) : xw_Snd p l e R s m args below meth c nL D cl A Q Rt pc (tr_putf (pc + 3) ci kf ty) := by
  intro lv st w k n K hK ⟨a, u, r, fs, hst, ha, hw, hu, hfit, hT⟩ ls H locs hl hP hD hS
  subst hst
  obtain ⟨j, hj⟩ := xw_at ha hw
  refine va_putF X.1.1 X.1.2.1 X.1.2.2.2.2 hin ty0 hty hnm X.1.2.2.2.1 X.2.1 hP hD hS j hj hc kf hk (X.1.2.2.2.2 _ hlink) hsame hfin hin2 hdecl (by rw [hty kf hk, hd]) hfit.1 hfit.2 hu d (fun H1 locs1 hP1 hD1 hS1 => ?_)
  rw [xw_set hD ha hw hj] at hP1 hD1
  exact hK _ _ _ _ _ _ hT ls H1 locs1 hl hP1 hD1 hS1
theorem xs_gets (X : xw_X p s m args c cc nL own Ts D cl tys E A) {ref : String} {index : Nat} (hlink : Cond.fieldLink own index ref "DEFAULTCAPACITY_EMPTY_ELEMENTDATA" "[Ljava/lang/Object;" ∈ Ts) (hr : ref = "java/util/ArrayList") (d : decode cc pc = .ok (.getstatic index, 3)) : xw_Snd p l e R s m args below meth c nL D cl A Q Rt pc (tr_gets (pc + 3) E.1.1) := by
  intro lv st w k n K hK hT ls H locs hl hP hD hS
  exact va_gets X.1.1 X.1.2.1 X.2.2.2.1.1 hS X.1.2.2.2.1 (X.1.2.2.2.2 _ hlink) (fun _ h => by rw [hr]; exact h) d (hK _ _ _ _ _ _ hT ls H locs hl hP hD hS)
theorem xw_push {A : Nat → Prop} {w : xw_W} {q : Nat} {x : va_E} (hD : va_D A (va_pl w.1 w.2 ++ [(q, x)])) : q ∉ w.1 ∧ va_pl w.1 w.2 ++ [(q, x)] = va_pl (w.1 ++ [q]) (va_up w.2 q x) := by
  have h : q ∉ w.1 := va_pl_fresh2 (X := []) hD
  exact ⟨h, va_pl_push h⟩
theorem xs_new (X : xw_X p s m args c cc nL own Ts D cl tys E A) {C : String} {T : u_T} {N ci index MC MS : Nat} {fs : List Value} (hin : ∀ w ∈ u_ws C T N, w ∈ Ts) (ty0 : Nat → FieldType) (hty : ∀ k, k < N → parseFieldDescriptor (T k).2.2.1 = some (ty0 k)) (hc : cl[ci]? = some (C, T, N)) (hcl : Cond.classLink own index C ∈ Ts) (hinst : Cond.instantiable C N ∈ Ts) (hini : Cond.initialized C ∈ Ts) (hfs : ∀ j, j < N → defaultValue (ty0 j) = vp_V fs j) (hRc : R.cells = MC) (hRs : R.slots = MS) (d : decode cc pc = .ok (.new index, 3)) : xw_Snd p l e R s m args below meth c nL D cl A Q Rt pc (tr_new (pc + 3) ci N fs MC MS) := by
  intro lv st w k n K hK ⟨h1, h2, hT⟩ ls H locs hl hP hD hS
  refine va_new X.1.1 X.1.2.1 X.1.2.2.2.2 hin ty0 hty X.1.2.2.2.1 (X.1.2.2.2.2 _ hcl) (X.1.2.2.2.2 _ hinst) (X.1.2.2.2.2 _ hini) X.2.1 hP hD hS X.2.2.1 hc hfs (by rw [hRc]; exact h1) (by rw [hRs]; exact h2) d (fun q H1 hP1 hD1 hS1 => ?_)
  obtain ⟨hq, he⟩ := xw_push hD1
  rw [he] at hP1 hD1
  exact hK _ _ _ _ _ _ (hT q hq) ls H1 locs hl hP1 hD1 hS1
theorem xs_newi (X : xw_X p s m args c cc nL own Ts D cl tys E A) {cI t0 MC MS : Nat} (ht : tys[t0]? = some (cI, .int)) (harr : Cond.arrayClass .int ∈ Ts) (hRc : R.cells = MC) (hRs : R.slots = MS) (d : decode cc pc = .ok (.newarray .int, 2)) : xw_Snd p l e R s m args below meth c nL D cl A Q Rt pc (tr_newi (pc + 2) cI MC MS) := by
  intro lv st w k n K hK ⟨x, r, hst, hx, hb, h1, h2, hT⟩ ls H locs hl hP hD hS
  subst hst
  refine va_newa (atype := .int) (ty := .int) (a0 := (x.toNatClampNeg, .inl (fun _ => 0))) X.1.1 X.1.2.1 (X.1.2.2.2.2 _ harr) rfl X.2.1 hP hD hS X.2.2.1 (fun _ => rfl) hx rfl (by have h4 : componentBytes .int = 4 := rfl; rw [h4]; omega) (by rw [hRc]; exact h1) (by rw [hRs]; exact h2) d (fun q cA H1 hK1 hP1 hD1 hS1 => ?_)
  have e1 : s.vm.findClass ("[" ++ FieldType.int.toString) = some cI := (X.2.1.2 t0 _ ht).2
  have e2 : s.vm.findClass ("[" ++ FieldType.int.toString) = some cA := (hK1.2 tys.length (cA, .int) (by simp)).2
  have e3 : cA = cI := Option.some.inj (e2.symm.trans e1)
  subst e3
  obtain ⟨hq, he⟩ := xw_push hD1
  rw [he] at hP1 hD1
  exact hK _ _ _ _ _ _ (hT q hq) ls H1 locs hl hP1 hD1 hS1
theorem xs_newq (X : xw_X p s m args c cc nL own Ts D cl tys E A) {C : String} {cA t0 index MC MS : Nat} (ht : tys[t0]? = some (cA, .object C)) (hcl : Cond.classLink own index C ∈ Ts) (hover : va_AO C s) (hRc : R.cells = MC) (hRs : R.slots = MS) (d : decode cc pc = .ok (.anewarray index, 3)) : xw_Snd p l e R s m args below meth c nL D cl A Q Rt pc (tr_newq (pc + 3) cA MC MS) := by
  intro lv st w k n K hK ⟨x, r, hst, hx, hb, h1, h2, hT⟩ ls H locs hl hP hD hS
  subst hst
  refine va_newq X.1.1 X.1.2.1 X.1.2.2.2.1 (X.1.2.2.2.2 _ hcl) hover X.2.1 hP hD hS X.2.2.1 hx rfl (by omega) (by rw [hRc]; exact h1) (by rw [hRs]; exact h2) d (fun q cB H1 hK1 hP1 hD1 hS1 => ?_)
  obtain ⟨k1, c1, -, -, -, e1⟩ := (X.2.1.2 t0 _ ht).2
  obtain ⟨k2, c2, -, -, -, e2⟩ := (hK1.2 tys.length (cB, .object C) (by simp)).2
  have e3 : cB = cA := Option.some.inj (e2.symm.trans e1)
  subst e3
  obtain ⟨hq, he⟩ := xw_push hD1
  rw [he] at hP1 hD1
  exact hK _ _ _ _ _ _ (hT q hq) ls H1 locs hl hP1 hD1 hS1
theorem xs_iald (X : xw_X p s m args c cc nL own Ts D cl tys E A) {cI t0 : Nat} (ht : tys[t0]? = some (cI, .int)) (d : decode cc pc = .ok (.iaload, 1)) : xw_Snd p l e R s m args below meth c nL D cl A Q Rt pc (tr_iald (pc + 1) cI) := by
  intro lv st w k n K hK ⟨i, a, N, f, r, hst, ha, hw, hi, hT⟩ ls H locs hl hP hD hS
  subst hst
  obtain ⟨j, hj⟩ := xw_at ha hw
  exact va_iald X.1.1 X.1.2.1 X.2.1 hP j t0 hj ht hi d (hK _ _ _ _ _ _ hT ls H locs hl hP hD hS)
theorem xs_iast (X : xw_X p s m args c cc nL own Ts D cl tys E A) {cI t0 : Nat} (ht : tys[t0]? = some (cI, .int)) (d : decode cc pc = .ok (.iastore, 1)) : xw_Snd p l e R s m args below meth c nL D cl A Q Rt pc (tr_iast (pc + 1) cI) := by
  intro lv st w k n K hK ⟨i, x, a, N, f, r, hst, ha, hw, hi, hT⟩ ls H locs hl hP hD hS
  subst hst
  obtain ⟨j, hj⟩ := xw_at ha hw
  refine va_iast X.1.1 X.1.2.1 X.2.1 hP hD hS j t0 hj ht hi d (fun H1 locs1 hP1 hD1 hS1 => ?_)
  rw [xw_set hD ha hw hj] at hP1 hD1
  exact hK _ _ _ _ _ _ hT ls H1 locs1 hl hP1 hD1 hS1
theorem xs_aald (X : xw_X p s m args c cc nL own Ts D cl tys E A) {C : String} {cA t0 : Nat} (ht : tys[t0]? = some (cA, .object C)) (d : decode cc pc = .ok (.aaload, 1)) : xw_Snd p l e R s m args below meth c nL D cl A Q Rt pc (tr_aald (pc + 1) cA) := by
  intro lv st w k n K hK ⟨i, a, N, f, r, hst, ha, hw, hi, hT⟩ ls H locs hl hP hD hS
  subst hst
  obtain ⟨j, hj⟩ := xw_at ha hw
  exact va_aldq X.1.1 X.1.2.1 X.2.1 hP j t0 hj ht hi d (hK _ _ _ _ _ _ hT ls H locs hl hP hD hS)
theorem xs_aast (X : xw_X p s m args c cc nL own Ts D cl tys E A) {C : String} {cA t0 : Nat} {cs : List Nat} (ht : tys[t0]? = some (cA, .object C)) (hcs : ∀ ci ∈ cs, ∃ r : vw_C, cl[ci]? = some r ∧ (r.1 = C ∨ va_Nw (.castable r.1 C) s)) (d : decode cc pc = .ok (.aastore, 1)) : xw_Snd p l e R s m args below meth c nL D cl A Q Rt pc (tr_aast (pc + 1) cA cs) := by
  intro lv st w k n K hK ⟨i, u, a, N, f, r, hst, ha, hw, hi, hu, hT⟩ ls H locs hl hP hD hS
  subst hst
  obtain ⟨j, hj⟩ := xw_at ha hw
  cases u with
  | none =>
    refine va_astqN X.1.1 X.1.2.1 X.2.1 hP hD hS j t0 hj ht hi d (fun H1 locs1 hP1 hD1 hS1 => ?_)
    rw [xw_set hD ha hw hj] at hP1 hD1
    exact hK _ _ _ _ _ _ hT ls H1 locs1 hl hP1 hD1 hS1
  | some v =>
    obtain ⟨hv, ci, fs, hci, hwv⟩ := hu v rfl
    obtain ⟨r9, hr9, hca⟩ := hcs ci hci
    obtain ⟨j2, hj2⟩ := xw_at hv hwv
    rcases hca with hca | hca
    · subst hca
      refine va_astq X.1.1 X.1.2.1 X.2.1 hP hD hS j t0 j2 ci hj ht hj2 hr9 hi d (fun H1 locs1 hP1 hD1 hS1 => ?_)
      rw [xw_set hD ha hw hj] at hP1 hD1
      exact hK _ _ _ _ _ _ hT ls H1 locs1 hl hP1 hD1 hS1
    · refine va_astqO X.1.1 X.1.2.1 X.2.1 hP hD hS j t0 j2 ci hj ht hca hj2 hr9 hi d (fun H1 locs1 hP1 hD1 hS1 => ?_)
      rw [xw_set hD ha hw hj] at hP1 hD1
      exact hK _ _ _ _ _ _ hT ls H1 locs1 hl hP1 hD1 hS1
theorem xs_alen (X : xw_X p s m args c cc nL own Ts D cl tys E A) {cs : List Nat} (hcs : ∀ cA ∈ cs, ∃ (t0 : Nat) (ty : FieldType), tys[t0]? = some (cA, ty)) (d : decode cc pc = .ok (.arraylength, 1)) : xw_Snd p l e R s m args below meth c nL D cl A Q Rt pc (tr_alen (pc + 1) cs) := by
  intro lv st w k n K hK ⟨a, N, cA, x, r, hst, ha, hw, hcA, hT⟩ ls H locs hl hP hD hS
  subst hst
  obtain ⟨j, hj⟩ := xw_at ha hw
  obtain ⟨t0, ty, ht⟩ := hcs cA hcA
  exact va_alen X.1.1 X.1.2.1 X.2.1 hP j t0 hj ht rfl d (hK _ _ _ _ _ _ hT ls H locs hl hP hD hS)
theorem xs_zlen (X : xw_X p s m args c cc nL own Ts D cl tys E A) (d : decode cc pc = .ok (.arraylength, 1)) : xw_Snd p l e R s m args below meth c nL D cl A Q Rt pc (tr_zlen (pc + 1) E.1.1) := by
  intro lv st w k n K hK ⟨r, hst, hT⟩ ls H locs hl hP hD hS
  subst hst
  exact va_tlen X.1.1 X.1.2.1 X.2.2.2.1.2.1 hS rfl d (hK _ _ _ _ _ _ hT ls H locs hl hP hD hS)
theorem xs_xlen (X : xw_X p s m args c cc nL own Ts D cl tys E A) (d : decode cc pc = .ok (.arraylength, 1)) : xw_Snd p l e R s m args below meth c nL D cl A Q Rt pc (tr_xlen (pc + 1) E) := by
  intro lv st w k n K hK ⟨r, hst, hT⟩ ls H locs hl hP hD hS
  subst hst
  exact va_slen X.1.1 X.1.2.1 X.2.2.2.1.2.2.1 X.2.2.2.1.2.2.2.1 X.2.2.2.1.2.2.2.2 hS d (hK _ _ _ _ _ _ hT ls H locs hl hP hD hS)
theorem xs_xald (X : xw_X p s m args c cc nL own Ts D cl tys E A) (d : decode cc pc = .ok (.iaload, 1)) : xw_Snd p l e R s m args below meth c nL D cl A Q Rt pc (tr_xald (pc + 1) E) := by
  intro lv st w k n K hK ⟨i, r, hst, hi, hT⟩ ls H locs hl hP hD hS
  subst hst
  exact va_sld X.1.1 X.1.2.1 X.2.2.2.1.2.2.1 X.2.2.2.1.2.2.2.1 X.2.2.2.1.2.2.2.2 hS hi d (hK _ _ _ _ _ _ hT ls H locs hl hP hD hS)
theorem xs_or {T1 T2 : xw_T} (h1 : xw_Snd p l e R s m args below meth c nL D cl A Q Rt pc T1) (h2 : xw_Snd p l e R s m args below meth c nL D cl A Q Rt pc T2) : xw_Snd p l e R s m args below meth c nL D cl A Q Rt pc (tr_or T1 T2) :=
  fun lv st w k n K hK hT => hT.elim (fun q => h1 lv st w k n K hK q) (fun q => h2 lv st w k n K hK q)
theorem xs_no : xw_Snd p l e R s m args below meth c nL D cl A Q Rt pc tr_no := fun _ _ _ _ _ _ _ hT => hT.elim
theorem xs_cast (X : xw_X p s m args c cc nL own Ts D cl tys E A) {C : String} {T : u_T} {N ci index : Nat} (hc : cl[ci]? = some (C, T, N)) (hlink : Cond.classLink own index C ∈ Ts) (d : decode cc pc = .ok (.checkcast index, 3)) : xw_Snd p l e R s m args below meth c nL D cl A Q Rt pc (tr_cast (pc + 3) ci) := by
  intro lv st w k n K hK ⟨v, r, hst, hv, hT⟩ ls H locs hl hP hD hS
  subst hst
  rcases hv with rfl | ⟨a, fs, rfl, ha, hw⟩
  · exact lv_castN X.1.1 X.1.2.1 d (hK _ _ _ _ _ _ hT ls H locs hl hP hD hS)
  · obtain ⟨j, hj⟩ := xw_at ha hw
    exact va_castS X.1.1 X.1.2.1 X.1.2.2.2.1 (X.1.2.2.2.2 _ hlink) (X.2.1.1 ci _ hc).2 (va_recv X.2.1 hP hc hj) d (hK _ _ _ _ _ _ hT ls H locs hl hP hD hS)
theorem xs_obj (X : xw_X p s m args c cc nL own Ts D cl tys E A) {index : Nat} (hlink : Cond.methodLink own index objectInit ∈ Ts) (hinst : Cond.instanceMethod objectInit ∈ Ts) (hcode : Cond.code objectInit ⟨#[0xb1]⟩ 1 none ∈ Ts) (hRf : 1 ≤ R.frames) (hRl : 20 ≤ R.locals) (d : decode cc pc = .ok (.invokespecial index, 3)) : xw_Snd p l e R s m args below meth c nL D cl A Q Rt pc (tr_obj (pc + 3)) := by
  intro lv st w k n K hK ⟨a, r, hst, hr, hT⟩ ls H locs hl hP hD hS
  subst hst
  exact W.objInit X.1.1 X.1.2.1 X.1.2.2.2.1 (X.1.2.2.2.2 _ hlink) (X.1.2.2.2.2 _ hinst) (X.1.2.2.2.2 _ hcode) rfl (by rw [X.1.2.2.1]; exact hl.1) rfl d hRf (by show 2 * 0 + _ + 12 ≤ _; omega) (hK _ _ _ _ _ _ hT ls H locs hl hP hD hS)
theorem xs_max (X : xw_X p s m args c cc nL own Ts D cl tys E A) {index MC MS : Nat} (hlink : Cond.methodLink own index Lib.Math.max.name ∈ Ts) (hstat : Cond.static Lib.Math.max.name ∈ Ts) (hini : Cond.initialized "java/lang/Math" ∈ Ts) (hcode : Cond.code Lib.Math.max.name Lib.Math.max.code 2 (some .int) ∈ Ts) (hRf : 1 ≤ R.frames) (hRl : 21 ≤ R.locals) (hRc : R.cells = MC) (hRs : R.slots = MS) (d : decode cc pc = .ok (.invokestatic index, 3)) : xw_Snd p l e R s m args below meth c nL D cl A Q Rt pc (tr_max (pc + 3) MC MS) := by
  intro lv st w k n K hK ⟨x, y, r, hst, hr, hk, hn, hT⟩ ls H locs hl hP hD hS
  subst hst
  exact va_mmax X.1.1 X.1.2.1 (by rw [X.1.2.2.1]; exact hl.1.symm) X.1.2.2.2.1 (X.1.2.2.2.2 _ hlink) (X.1.2.2.2.2 _ hstat) (X.1.2.2.2.2 _ hini) (X.1.2.2.2.2 _ hcode) hRf (by omega) (by rw [hRc]; exact hk) (by rw [hRs]; exact hn) d (hK _ _ _ _ _ _ hT ls H locs hl hP hD hS)
theorem xs_min (X : xw_X p s m args c cc nL own Ts D cl tys E A) {index MC MS : Nat} (hlink : Cond.methodLink own index Lib.Math.min.name ∈ Ts) (hstat : Cond.static Lib.Math.min.name ∈ Ts) (hini : Cond.initialized "java/lang/Math" ∈ Ts) (hcode : Cond.code Lib.Math.min.name Lib.Math.min.code 2 (some .int) ∈ Ts) (hRf : 1 ≤ R.frames) (hRl : 21 ≤ R.locals) (hRc : R.cells = MC) (hRs : R.slots = MS) (d : decode cc pc = .ok (.invokestatic index, 3)) : xw_Snd p l e R s m args below meth c nL D cl A Q Rt pc (tr_min (pc + 3) MC MS) := by
  intro lv st w k n K hK ⟨x, y, r, hst, hr, hk, hn, hT⟩ ls H locs hl hP hD hS
  subst hst
  exact va_mmin X.1.1 X.1.2.1 (by rw [X.1.2.2.1]; exact hl.1.symm) X.1.2.2.2.1 (X.1.2.2.2.2 _ hlink) (X.1.2.2.2.2 _ hstat) (X.1.2.2.2.2 _ hini) (X.1.2.2.2.2 _ hcode) hRf (by omega) (by rw [hRc]; exact hk) (by rw [hRs]; exact hn) d (hK _ _ _ _ _ _ hT ls H locs hl hP hD hS)
theorem xs_ldcM (X : xw_X p s m args c cc nL own Ts D cl tys E A) {index : Nat} (hlink : Cond.classLink own index "[Ljava/lang/Object;" ∈ Ts) (d : decode cc pc = .ok (.ldc index, 2)) : xw_Snd p l e R s m args below meth c nL D cl A Q Rt pc (tr_push (pc + 2) (.ref E.1.2)) :=
  xs_push fun _ _ _ _ _ _ h => va_ldcM X.1.1 X.1.2.1 X.1.2.2.2.1 (X.1.2.2.2.2 _ hlink) X.2.2.2.2.2.2.2.2.1 d h
theorem xs_getc (X : xw_X p s m args c cc nL own Ts D cl tys E A) {index cO t0 : Nat} (ht : tys[t0]? = some (cO, .object "java/lang/Object")) (hlink : Cond.methodLink own index ⟨"java/lang/Object", "getClass", "()Ljava/lang/Class;"⟩ ∈ Ts) (hsel : Cond.selects "[Ljava/lang/Object;" ⟨"java/lang/Object", "getClass", "()Ljava/lang/Class;"⟩ ⟨"java/lang/Object", "getClass", "()Ljava/lang/Class;"⟩ ∈ Ts) (hinst : Cond.instanceMethod ⟨"java/lang/Object", "getClass", "()Ljava/lang/Class;"⟩ ∈ Ts) (hnat : Cond.native ⟨"java/lang/Object", "getClass", "()Ljava/lang/Class;"⟩ ∈ Ts) (hRf : 1 ≤ R.frames) (hRl : 22 ≤ R.locals) (d : decode cc pc = .ok (.invokevirtual index, 3)) : xw_Snd p l e R s m args below meth c nL D cl A Q Rt pc (tr_getc (pc + 3) cO E.1.2) := by
  intro lv st w k n K hK ⟨a, N, f, r, hst, ha, hw, hr, hT⟩ ls H locs hl hP hD hS
  subst hst
  obtain ⟨j, hj⟩ := xw_at ha hw
  obtain ⟨k1, c1, -, -, -, e1⟩ := (X.2.1.2 t0 _ ht).2
  exact va_getC X.1.1 X.1.2.1 (by rw [X.1.2.2.1]; exact hl.1.symm) X.1.2.2.2.1 (X.1.2.2.2.2 _ hlink) (va_Dc.use X.2.2.2.2.2.2.2.2.2) (X.1.2.2.2.2 _ hsel) (X.1.2.2.2.2 _ hinst) (X.1.2.2.2.2 _ hnat) X.2.2.2.2.2.2.2.2.1 ⟨_, hP j _ hj, rfl, e1⟩ hRf (by omega) d (hK _ _ _ _ _ _ hT ls H locs hl hP hD hS)
theorem xs_copy (X : xw_X p s m args c cc nL own Ts D cl tys E A) {index cO t0 : Nat} {cs : List Nat} (ht : tys[t0]? = some (cO, .object "java/lang/Object")) (hcs : ∀ ci ∈ cs, ∃ r : vw_C, cl[ci]? = some r ∧ va_Nw (.castable r.1 "java/lang/Object") s) (hlink : Cond.methodLink own index arraycopyName ∈ Ts) (hnat : Cond.native arraycopyName ∈ Ts) (hstat : Cond.static arraycopyName ∈ Ts) (hini : Cond.initialized "java/lang/System" ∈ Ts) (hRf : 1 ≤ R.frames) (hRl : 8 + (nativeFrameWords "java/lang/System" "arraycopy" 5 + 11) ≤ R.locals) (d : decode cc pc = .ok (.invokestatic index, 3)) : xw_Snd p l e R s m args below meth c nL D cl A Q Rt pc (tr_copy (pc + 3) cO cs) := by
  intro lv st w k n K hK ⟨sp, dp, cn, a, b, N, M, f, g, r, hst, ha, hwa, hb, hwb, h1, h2, h3, h4, h5, hel, hr, hT⟩ ls H locs hl hP hD hS
  subst hst
  obtain ⟨j, hj⟩ := xw_at ha hwa
  obtain ⟨j2, hj2⟩ := xw_at hb hwb
  refine va_copyM X.1.1 X.1.2.1 (by rw [X.1.2.2.1]; exact hl.1.symm) X.1.2.2.2.1 (X.1.2.2.2.2 _ hlink) (X.1.2.2.2.2 _ hnat) (X.1.2.2.2.2 _ hstat) (X.1.2.2.2.2 _ hini) X.2.1 hP hD hS j j2 t0 t0 hj hj2 ht ht h1 h2 h3 h4 h5 (fun i hi y hy => ?_) hRf (by omega) d (fun H1 locs1 hP1 hD1 hS1 => ?_)
  · obtain ⟨hyw, ci, fs, hci, hwy⟩ := hel i y hi hy
    obtain ⟨r9, hr9, hca⟩ := hcs ci hci
    obtain ⟨j3, hj3⟩ := xw_at hyw hwy
    refine va_rAny X.2.1 hP hj3 hr9 (fun comp c0 f1 f2 => ?_)
    obtain ⟨c9, t9, g1, g2, g3⟩ := Cond.castable_spec (va_Nw.use (A := args) rfl hca)
    cases f1.symm.trans g2
    cases f2.symm.trans g1
    exact g3
  · rw [xw_set hD hb hwb hj2] at hP1 hD1
    exact hK _ _ _ _ _ _ hT ls H1 locs1 hl hP1 hD1 hS1
/-- behind a call: the world that the callee's post tells -/
theorem xw_after {lv : xw_L} {w : xw_W} {k n mc ms : Nat} {ls : Array Slot} {H : Heap} {locs : List Loc} {st0 rest : List Value} {a : Array Value} {post : Option Value → xw_W → Prop} (X : xw_X p s m args c cc nL own Ts D cl tys E A) (hl : lv_has ls nL lv) (hP : va_P D cl (va_pl w.1 w.2) H) (hD : va_D A (va_pl w.1 w.2)) (hS : va_S A s.heap H locs)
    (run : va_Run p l e R s m args below meth c H locs k n mc ms (F0 m pc ls st0) rest (xw_Qp D cl w H.size post a) (va_A (va_pl w.1 w.2) H.size))
    (hpost : ∀ (v : Option Value) (w' : xw_W), post v w' → xw_G p l e R s m args below meth c nL D cl A Q (pc + 3) lv (v.toList ++ rest) w' (k + mc) (n + ms)) : W p l e R s m args below meth c H locs k n Q (F0 m pc ls st0) := by
  have hAA : ∀ q, va_A (va_pl w.1 w.2) H.size q → A q := by
    intro q h
    rcases h with ⟨j, x, h⟩ | h
    · exact hD.2 j (q, x) h
    · exact X.2.2.1 q (Nat.le_trans hS.1 h)
  intro T hT Xs
  obtain ⟨v, st₀, t, T', L, h0, X', hL, e1, e2, ⟨⟨v', w', hv, hp, hP1, hD1⟩, hz, hk⟩, stp⟩ := run T hT Xs
  cases hv
  rw [h0] at hz hk
  rw [← e1] at hP1 hz hk
  have hS1 : va_S A s.heap T'.heap (locs ++ L) := ⟨Nat.le_trans hS.1 hz, fun q h1 h2 => by rw [hk q (Nat.lt_of_lt_of_le h1 hS.1) (fun z => h2 (hAA q z))]; exact hS.2.1 q h1 h2, fun q hq => by
    rcases List.mem_append.mp hq with h | h
    · exact hS.2.2 q h
    · exact hAA _ (hL q h)⟩
  obtain ⟨t2, a1, b1⟩ := hpost _ _ hp ls T'.heap (locs ++ L) hl hP1 (hD1.weaken (fun _ q _ h => hAA q.1 h)) hS1 T' rfl X'
  exact ⟨t2, stp t2 a1, b1⟩
theorem xw_pre (X : xw_X p s m args c cc nL own Ts D cl tys E A) {w : xw_W} {H : Heap} {locs : List Loc} (hP : va_P D cl (va_pl w.1 w.2) H) (hD : va_D A (va_pl w.1 w.2)) (hS : va_S A s.heap H locs) (av : List Value) : ∀ U : State, U.heap = H → s.WarmedH U.vm → xw_P D cl tys E av w H.size av.toArray U := by
  intro U hU hW
  have hAA : ∀ q, va_A (va_pl w.1 w.2) H.size q → A q := by
    intro q h
    rcases h with ⟨j, x, h⟩ | h
    · exact hD.2 j (q, x) h
    · exact X.2.2.1 q (Nat.le_trans hS.1 h)
  refine ⟨rfl, by rw [hU], by rw [hU]; exact hP, va_K.moved hW.alike X.2.1, hD.weaken (fun _ _ _ _ => trivial), ?_⟩
  rw [hU]
  have h9 := (X.2.2.2.kept hS.1 (fun a h1 h2 => hS.2.1 a h1 h2)).narrow hAA
  exact ⟨h9.1.moved hW.alike, h9.2.warm hW⟩
theorem xs_callV (X : xw_X p s m args c cc nL own Ts D cl tys E A) {C : String} {y : MethodName} {bytes : ByteArray} {maxL index na mc ms MC MS ci : Nat} {ret : Option FieldType} {ws : List Cond} {rm : Room} {PT : xw_PT} {r9 : vw_C} (hM : xw_MP l D cl tys E y ws rm PT mc ms) (cw : CallW R s args own C index y bytes maxL ret ws rm mc ms na) (hc : cl[ci]? = some r9) (hC : r9.1 = C) (hRc : R.cells = MC) (hRs : R.slots = MS) (d : decode cc pc = .ok (.invokevirtual index, 3)) : xw_Snd p l e R s m args below meth c nL D cl A Q Rt pc (tr_callV (pc + 3) na ci PT mc ms MC MS) := by
  intro lv st w k n K hK ⟨a, fs, r, hst, ha, hw, hcat, hk, hn, hT⟩ ls H locs hl hP hD hS
  have hstk : st = ((st.take na).reverse).reverse ++ .ref a :: r := by rw [List.reverse_reverse, ← hst, List.take_append_drop]
  have hlen : ((st.take na).reverse).length = na := by
    have h2 : (st.drop na).length = r.length + 1 := by rw [hst]; rfl
    rw [List.length_drop] at h2
    rw [List.length_reverse, List.length_take]
    omega
  obtain ⟨j, hj⟩ := xw_at ha hw
  refine xw_after X hl hP hD hS (va_runV (As := (st.take na).reverse) (rest := r) X.1 (hM _ w H.size _ hT) cw ⟨xw_blind D cl tys E _ w H.size, by rw [← hC]; exact va_recv X.2.1 hP hc hj, xw_pre X hP hD hS _⟩ rfl hlen hl.1 hstk (lv_room hcat) d ⟨by rw [hRc]; exact hk, by rw [hRs]; exact hn⟩) (fun v w' hp => hK _ _ _ _ _ _ hp)
theorem xs_callI (X : xw_X p s m args c cc nL own Ts D cl tys E A) {y : MethodName} {bytes : ByteArray} {maxL index na mc ms MC MS : Nat} {ws : List Cond} {rm : Room} {PT : xw_PT} (hM : xw_MP l D cl tys E y ws rm PT mc ms) (cw : CallB R s args own index y bytes maxL none ws rm mc ms na ∧ y.name = "<init>" ∧ (Cond.instanceMethod y).before args s = true) (hRc : R.cells = MC) (hRs : R.slots = MS) (d : decode cc pc = .ok (.invokespecial index, 3)) : xw_Snd p l e R s m args below meth c nL D cl A Q Rt pc (tr_callI (pc + 3) na PT mc ms MC MS) := by
  intro lv st w k n K hK ⟨a, r, hst, hcat, hk, hn, hT⟩ ls H locs hl hP hD hS
  have hstk : st = ((st.take na).reverse).reverse ++ .ref a :: r := by rw [List.reverse_reverse, ← hst, List.take_append_drop]
  have hlen : ((st.take na).reverse).length = na := by
    have h2 : (st.drop na).length = r.length + 1 := by rw [hst]; rfl
    rw [List.length_drop] at h2
    rw [List.length_reverse, List.length_take]
    omega
  refine xw_after X hl hP hD hS (va_runI (As := (st.take na).reverse) (rest := r) X.1 (hM _ w H.size _ hT) cw ⟨xw_blind D cl tys E _ w H.size, xw_pre X hP hD hS _⟩ rfl hlen hl.1 hstk (lv_room hcat) d ⟨by rw [hRc]; exact hk, by rw [hRs]; exact hn⟩) (fun v w' hp => hK _ _ _ _ _ _ hp)
theorem xs_callIN (X : xw_X p s m args c cc nL own Ts D cl tys E A) {host : String} {y : MethodName} {bytes : ByteArray} {maxL index na mc ms MC MS : Nat} {ws : List Cond} {rm : Room} {PT : xw_PT} (hM : xw_MP l D cl tys E y ws rm PT mc ms) (cw : va_CN R s args own index y host bytes maxL none ws rm mc ms na ∧ y.name = "<init>" ∧ (Cond.instanceMethod y).before args s = true) (hRc : R.cells = MC) (hRs : R.slots = MS) (d : decode cc pc = .ok (.invokespecial index, 3)) : xw_Snd p l e R s m args below meth c nL D cl A Q Rt pc (tr_callI (pc + 3) na PT mc ms MC MS) := by
  intro lv st w k n K hK ⟨a, r, hst, hcat, hk, hn, hT⟩ ls H locs hl hP hD hS
  have hstk : st = ((st.take na).reverse).reverse ++ .ref a :: r := by rw [List.reverse_reverse, ← hst, List.take_append_drop]
  have hlen : ((st.take na).reverse).length = na := by
    have h2 : (st.drop na).length = r.length + 1 := by rw [hst]; rfl
    rw [List.length_drop] at h2
    rw [List.length_reverse, List.length_take]
    omega
  refine xw_after X hl hP hD hS (va_runIN (As := (st.take na).reverse) (rest := r) X.1 (hM _ w H.size _ hT) cw ⟨xw_blind D cl tys E _ w H.size, xw_pre X hP hD hS _⟩ rfl hlen hl.1 hstk (lv_room hcat) d ⟨by rw [hRc]; exact hk, by rw [hRs]; exact hn⟩) (fun v w' hp => hK _ _ _ _ _ _ hp)
theorem xs_callS (X : xw_X p s m args c cc nL own Ts D cl tys E A) {y : MethodName} {bytes : ByteArray} {maxL index na mc ms MC MS : Nat} {ret : Option FieldType} {ws : List Cond} {rm : Room} {PT : xw_PT} (hM : xw_MP l D cl tys E y ws rm PT mc ms) (cw : CallB R s args own index y bytes maxL ret ws rm mc ms na ∧ (Cond.static y).before args s = true) (hRc : R.cells = MC) (hRs : R.slots = MS) (d : decode cc pc = .ok (.invokestatic index, 3)) : xw_Snd p l e R s m args below meth c nL D cl A Q Rt pc (tr_callS (pc + 3) na PT mc ms MC MS) := by
  intro lv st w k n K hK ⟨hna, hcat, hk, hn, hT⟩ ls H locs hl hP hD hS
  have hstk : st = ((st.take na).reverse).reverse ++ st.drop na := by rw [List.reverse_reverse, List.take_append_drop]
  have hlen : ((st.take na).reverse).length = na := by rw [List.length_reverse, List.length_take]; omega
  refine xw_after X hl hP hD hS (va_runS (As := (st.take na).reverse) (rest := st.drop na) X.1 (hM _ w H.size _ hT) cw ⟨xw_blind D cl tys E _ w H.size, xw_pre X hP hD hS _⟩ rfl hlen hl.1 hstk (lv_room hcat) d ⟨by rw [hRc]; exact hk, by rw [hRs]; exact hn⟩) (fun v w' hp => hK _ _ _ _ _ _ hp)
end XM
section XQ
variable {p : Program} {l : Launch} {e : Env} {R : Room} {s : State} {m : MethodId} {args : Array Value} {below : List Frame} {meth : Method} {c : Code}
variable {cc : ByteArray} {nL : Nat} {own : String} {Ts : List Cond} {D : va_G} {cl : List vw_C} {tys : List (ClassId × FieldType)} {E : xw_E} {pc : Nat}
def xw_Rt (post : Option Value → xw_W → Prop) (mc ms : Nat) : xw_R := fun v w' k n => post v w' ∧ k ≤ mc ∧ n ≤ ms
/-- a method's sound table, at one start of it -/
def xw_M (p : Program) (l : Launch) (e : Env) (R : Room) (s : State) (m : MethodId) (args : Array Value) (below : List Frame) (meth : Method) (c : Code) (nL : Nat) (D : va_G) (cl : List vw_C) (w0 : xw_W) (post : Option Value → xw_W → Prop) (mc ms : Nat) (pc : Nat) (T : xw_T) : Prop :=
  xw_Snd p l e R s m args below meth c nL D cl (va_A (va_pl w0.1 w0.2) s.heap.size) (MQ below (xw_Qp D cl w0 s.heap.size post) args s mc ms (va_A (va_pl w0.1 w0.2) s.heap.size)) (xw_Rt post mc ms) pc T
variable {w0 : xw_W} {post : Option Value → xw_W → Prop} {mc ms : Nat}
theorem xs_iret {A : Nat → Prop} (X : xw_X p s m args c cc nL own Ts D cl tys E A) {ty : FieldType} (hr : meth.sig.returnType = some ty) (hlocks : meth.locks = false) (d : decode cc pc = .ok (.ireturn, 1)) : xw_M p l e R s m args below meth c nL D cl w0 post mc ms pc (tr_iret ty) := by
  intro lv st w k n K hK ⟨x, hst, hn, hpost, hk, hms⟩ ls H locs hl hP hD hS
  subst hst
  refine W.widen hk hms ?_
  exact W.zret X.1.1 X.1.2.1 hr hn (fun t ht hW => ⟨⟨_, w, rfl, hpost, by rw [ht]; exact hP, hD⟩, hS.F ht⟩) hS.2.2 d hlocks
theorem xs_lret {A : Nat → Prop} (X : xw_X p s m args c cc nL own Ts D cl tys E A) (hr : meth.sig.returnType = some .long) (hlocks : meth.locks = false) (d : decode cc pc = .ok (.lreturn, 1)) : xw_M p l e R s m args below meth c nL D cl w0 post mc ms pc tr_lret := by
  intro lv st w k n K hK ⟨x, hst, hpost, hk, hms⟩ ls H locs hl hP hD hS
  subst hst
  refine W.widen hk hms ?_
  exact W.lret X.1.1 X.1.2.1 hr (fun t ht hW => ⟨⟨_, w, rfl, hpost, by rw [ht]; exact hP, hD⟩, hS.F ht⟩) hS.2.2 d hlocks
theorem xs_aret {A : Nat → Prop} (X : xw_X p s m args c cc nL own Ts D cl tys E A) {rt : FieldType} (hr : meth.sig.returnType = some rt) (hrt : (∃ n, rt = .object n) ∨ ∃ t, rt = .array t) (hlocks : meth.locks = false) (d : decode cc pc = .ok (.areturn, 1)) : xw_M p l e R s m args below meth c nL D cl w0 post mc ms pc tr_aret := by
  intro lv st w k n K hK ⟨v, hst, ⟨o, ho⟩, hpost, hk, hms⟩ ls H locs hl hP hD hS
  subst hst
  refine W.widen hk hms ?_
  exact W.aret X.1.1 X.1.2.1 hr hrt (by subst ho; cases o with
    | none => exact Or.inl rfl
    | some a => exact Or.inr ⟨a, rfl⟩) (fun t ht hW => ⟨⟨_, w, rfl, hpost, by rw [ht]; exact hP, hD⟩, hS.F ht⟩) hS.2.2 d hlocks
theorem xs_vret {A : Nat → Prop} (X : xw_X p s m args c cc nL own Ts D cl tys E A) (hr : meth.sig.returnType = none) (hlocks : meth.locks = false) (d : decode cc pc = .ok (.return_, 1)) : xw_M p l e R s m args below meth c nL D cl w0 post mc ms pc tr_vret := by
  intro lv st w k n K hK ⟨hst, hpost, hk, hms⟩ ls H locs hl hP hD hS
  subst hst
  refine W.widen hk hms ?_
  exact W.vret X.1.1 X.1.2.1 hr (fun t ht hW => ⟨⟨_, w, rfl, hpost, by rw [ht]; exact hP, hD⟩, hS.F ht⟩) hS.2.2 d hlocks
/-- A METHOD'S CONTRACT out of its table -/
theorem xw_met {y : MethodName} {ws ws' : List Cond} {rm : Room} {tb : List (Nat × xw_T)} {ret : Option FieldType} (hy : plainName y.cls = true) (hw : ws = .code y cc nL ret :: ws')
    (hsnd : ∀ (p : Program) (e : Env) (s : State) (m : MethodId) (args : Array Value) (below : List Frame) (meth : Method) (c : Code) (w0 : xw_W) (post : Option Value → xw_W → Prop), xw_X p s m args c cc nL y.cls ws D cl tys E (va_A (va_pl w0.1 w0.2) s.heap.size) → meth.sig.returnType = ret → meth.locks = false → meth.name = y.name → ∀ q ∈ tb, xw_M p l e rm s m args below meth c nL D cl w0 post mc ms q.1 q.2) :
    xw_MP l D cl tys E y ws rm (xw_pt tb nL mc ms) mc ms := by
  intro av w sz post hPT
  obtain ⟨hlen, hrun⟩ := hPT
  refine Met.ofW (cc := cc) (maxL := nL) (ret := ret) hy hw ?_
  intro p e s m args below meth c s₁ B hml hv
  obtain ⟨rfl, hsz, hP, hK, hD0, hZ⟩ := hv
  have hts := atoms_spec (ws := ws) B.pre
  have hown : s.vm.findClass y.cls = some m.cls := findClass_of_methodNamed B.named
  have hin : meth.name = y.name := (name_of_methodNamed B.named B.method).1
  subst hsz
  have hD := hD0.self (sz := s.heap.size)
  have hl := lv_entry av (n := nL) hlen
  rw [lg_entry_eq]
  exact xw_closed (hsnd p e s m _ below meth c w post ⟨⟨B.exec, B.bytes, hml, hown, hts⟩, hK, fun q h => Or.inr h, hZ⟩ B.returns B.notSynchronized hin) hrun _ s.heap [] hl hP hD va_S.rf
end XQ
/-- the four rows of the tables' arrays: ints, objects, bouts, fencers -/
abbrev xw_Y : Type := xw_E × Nat × Nat × Nat × Nat
def xw_ty (Y : xw_Y) : List (ClassId × FieldType) := [(Y.2.1, .int), (Y.2.2.1, .object "java/lang/Object"), (Y.2.2.2.1, .object "Pommel$Bout"), (Y.2.2.2.2, .object "Pommel$Fencer")]
