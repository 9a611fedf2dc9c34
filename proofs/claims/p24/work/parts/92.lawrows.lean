/-! THE LAW: its table holds on the machine -/
section XLG
variable {p : Program} {l : Launch} {e : Env} {R : Room} {s : State} {m : MethodId} {args : Array Value} {below : List Frame} {meth : Method} {c : Code} {Q : State → Prop}
variable {cc : ByteArray} {nL : Nat} {own : String} {Ts : List Cond} {D : va_G} {cl : List vw_C} {tys : List (ClassId × FieldType)} {E : xw_E} {A : Nat → Prop} {Rt : xw_R} {pc : Nat}
theorem xs_lcmp (X : xw_X p s m args c cc nL own Ts D cl tys E A) (d : decode cc pc = .ok (.lcmp, 1)) : xw_Snd p l e R s m args below meth c nL D cl A Q Rt pc (tr_lcmp (pc + 1)) := by
  intro lv st w k n K hK ⟨x, y, r, hst, h1, h2, h3⟩ ls H locs hl hP hD hS
  subst hst
  refine W.lcmp X.1.1 X.1.2.1 d ?_
  by_cases z1 : y < x
  · rw [show lg_cmp x y = 1 by simp [lg_cmp, z1]]
    exact hK _ _ _ _ _ _ (h3 z1) ls H locs hl hP hD hS
  · by_cases z2 : x = y
    · rw [show lg_cmp x y = 0 by simp [lg_cmp, z1, z2]]
      exact hK _ _ _ _ _ _ (h2 z2) ls H locs hl hP hD hS
    · rw [show lg_cmp x y = -1 by simp [lg_cmp, z1, z2]]
      refine hK _ _ _ _ _ _ (h1 ?_) ls H locs hl hP hD hS
      rcases Int64.lt_or_eq_of_le (Int64.not_lt.mp z1) with z3 | z3
      · exact z3
      · exact absurd z3 z2
def lw_Rt : xw_R := fun v _ k n => v = some (.int 1) ∧ k ≤ 608221 ∧ n ≤ 7276804
theorem xs_lawret {b : Nat} {D : va_G} (X : xw_X p s m #[Value.ref b] c code nL own Ts D cl tys E (fun q => s.heap.size ≤ q)) (hr : meth.sig.returnType = ret) (hlocks : meth.locks = false) {ty : FieldType} (d : decode code pc = .ok (.ireturn, 1)) : xw_Snd p l e room_1 s m #[Value.ref b] below meth c nL D cl (fun q => s.heap.size ≤ q) (lw_Z below #[Value.ref b] s) lw_Rt pc (tr_iret ty) := by
  intro lv st w k n K hK ⟨x, hst, hn, hRt, hk, hs⟩ ls H locs hl hP hD hS
  cases hRt
  subst hst
  exact W.widen hk hs (va_forget (fun q hq => hS.2.2 q hq) (lw_ret X.1.1 X.1.2.1 hr hlocks d))

set_option maxRecDepth 100000 in
set_option maxHeartbeats 8000000 in
theorem lw_hs {b : Nat} {Y : xw_Y} (X : xw_X p s m #[Value.ref b] c cL_law 13 RL wsL_law D vwCl (xw_ty Y) Y.1 (fun q => s.heap.size ≤ q)) (hr : meth.sig.returnType = ret) (hlocks : meth.locks = false) : ∀ q ∈ tbL_law Y, xw_Snd p l e room_1 s m #[Value.ref b] below meth c 13 D vwCl (fun q => s.heap.size ≤ q) (lw_Z below #[Value.ref b] s) lw_Rt q.1 q.2 := by
  unfold tbL_law
  refine List.forall_mem_cons.mpr ⟨xs_new (C := RX3) (T := TX3) (N := 10) (ci := 4) X (fun w h => inlX3 w h) tyX3 tyX3_ok rfl (List.mem_of_getElem? (i := 0) rfl) (List.mem_of_getElem? (i := 1) rfl) (List.mem_of_getElem? (i := 2) rfl) (fun j hj => by
      match j, hj with
      | 0, _ => rfl
      | 1, _ => rfl
      | 2, _ => rfl
      | 3, _ => rfl
      | 4, _ => rfl
      | 5, _ => rfl
      | 6, _ => rfl
      | 7, _ => rfl
      | 8, _ => rfl
      | 9, _ => rfl
      | n + 10, h => exact absurd h (by omega)) rfl rfl dL_law_0, ?_⟩
  refine List.forall_mem_cons.mpr ⟨xs_dup X dL_law_3, ?_⟩
  refine List.forall_mem_cons.mpr ⟨xs_callI X (mpX3_init l D Y) (cwI 0 X.1.2.2.2.2 gL_law_X3_init rfl rfl rfl (X.1.2.2.2.2 _ (List.mem_of_getElem? (i := 2) rfl)) (X.1.2.2.2.2 _ (List.mem_of_getElem? (i := 3) rfl)) (X.1.2.2.2.2 _ (List.mem_of_getElem? (i := 4) rfl)) rfl (by decide +kernel) ⟨Nat.le_of_ble_eq_true rfl, Nat.le_of_ble_eq_true rfl⟩) rfl rfl dL_law_4, ?_⟩
  refine List.forall_mem_cons.mpr ⟨xs_astore_n X dL_law_7 rfl (Nat.le_of_ble_eq_true rfl), ?_⟩
  refine List.forall_mem_cons.mpr ⟨xs_iconst X dL_law_8 rfl, ?_⟩
  refine List.forall_mem_cons.mpr ⟨xs_aload_n X dL_law_9 rfl, ?_⟩
  refine List.forall_mem_cons.mpr ⟨xs_iconst X dL_law_10 rfl, ?_⟩
  refine List.forall_mem_cons.mpr ⟨xs_callS X (mpL_cell l D Y) (va_cwS 2 X.1.2.2.2.2 gL_law_L_cell rfl rfl rfl (by decide +kernel) ⟨Nat.le_of_ble_eq_true rfl, Nat.le_of_ble_eq_true rfl⟩) rfl rfl dL_law_11, ?_⟩
  refine List.forall_mem_cons.mpr ⟨xs_iconst X dL_law_14 rfl, ?_⟩
  refine List.forall_mem_cons.mpr ⟨xs_callS X (mpL_below l D Y) (va_cwS 2 X.1.2.2.2.2 gL_law_L_below rfl rfl rfl (by decide +kernel) ⟨Nat.le_of_ble_eq_true rfl, Nat.le_of_ble_eq_true rfl⟩) rfl rfl dL_law_15, ?_⟩
  refine List.forall_mem_cons.mpr ⟨xs_iadd X dL_law_18, ?_⟩
  refine List.forall_mem_cons.mpr ⟨xs_istore_n X dL_law_19 rfl (Nat.le_of_ble_eq_true rfl), ?_⟩
  refine List.forall_mem_cons.mpr ⟨xs_iconst X dL_law_20 rfl, ?_⟩
  refine List.forall_mem_cons.mpr ⟨xs_iload_n X dL_law_21 rfl, ?_⟩
  refine List.forall_mem_cons.mpr ⟨xs_imul X dL_law_22, ?_⟩
  refine List.forall_mem_cons.mpr ⟨xs_aload_n X dL_law_23 rfl, ?_⟩
  refine List.forall_mem_cons.mpr ⟨xs_iconst X dL_law_24 rfl, ?_⟩
  refine List.forall_mem_cons.mpr ⟨xs_callS X (mpL_cell l D Y) (va_cwS 2 X.1.2.2.2.2 gL_law_L_cell rfl rfl rfl (by decide +kernel) ⟨Nat.le_of_ble_eq_true rfl, Nat.le_of_ble_eq_true rfl⟩) rfl rfl dL_law_25, ?_⟩
  refine List.forall_mem_cons.mpr ⟨xs_iconst X dL_law_28 rfl, ?_⟩
  refine List.forall_mem_cons.mpr ⟨xs_callS X (mpL_below l D Y) (va_cwS 2 X.1.2.2.2.2 gL_law_L_below rfl rfl rfl (by decide +kernel) ⟨Nat.le_of_ble_eq_true rfl, Nat.le_of_ble_eq_true rfl⟩) rfl rfl dL_law_29, ?_⟩
  refine List.forall_mem_cons.mpr ⟨xs_iadd X dL_law_32, ?_⟩
  refine List.forall_mem_cons.mpr ⟨xs_istore_n X dL_law_33 rfl (Nat.le_of_ble_eq_true rfl), ?_⟩
  refine List.forall_mem_cons.mpr ⟨xs_iconst X dL_law_34 rfl, ?_⟩
  refine List.forall_mem_cons.mpr ⟨xs_istore X dL_law_35 (Nat.le_of_ble_eq_true rfl), ?_⟩
  refine List.forall_mem_cons.mpr ⟨xs_iload X dL_law_37, ?_⟩
  refine List.forall_mem_cons.mpr ⟨xs_iload_n X dL_law_39 rfl, ?_⟩
  refine List.forall_mem_cons.mpr ⟨xs_icmpge (tg := 83) X dL_law_40 rfl, ?_⟩
  refine List.forall_mem_cons.mpr ⟨xs_aload_n X dL_law_43 rfl, ?_⟩
  refine List.forall_mem_cons.mpr ⟨xs_aload_n X dL_law_44 rfl, ?_⟩
  refine List.forall_mem_cons.mpr ⟨xs_iload X dL_law_45, ?_⟩
  refine List.forall_mem_cons.mpr ⟨xs_callS X (mpL_cell l D Y) (va_cwS 2 X.1.2.2.2.2 gL_law_L_cell rfl rfl rfl (by decide +kernel) ⟨Nat.le_of_ble_eq_true rfl, Nat.le_of_ble_eq_true rfl⟩) rfl rfl dL_law_47, ?_⟩
  refine List.forall_mem_cons.mpr ⟨xs_bipush X dL_law_50 rfl, ?_⟩
  refine List.forall_mem_cons.mpr ⟨xs_callS X (mpL_below l D Y) (va_cwS 2 X.1.2.2.2.2 gL_law_L_below rfl rfl rfl (by decide +kernel) ⟨Nat.le_of_ble_eq_true rfl, Nat.le_of_ble_eq_true rfl⟩) rfl rfl dL_law_52, ?_⟩
  refine List.forall_mem_cons.mpr ⟨xs_aload_n X dL_law_55 rfl, ?_⟩
  refine List.forall_mem_cons.mpr ⟨xs_iload X dL_law_56, ?_⟩
  refine List.forall_mem_cons.mpr ⟨xs_callS X (mpL_cell l D Y) (va_cwS 2 X.1.2.2.2.2 gL_law_L_cell rfl rfl rfl (by decide +kernel) ⟨Nat.le_of_ble_eq_true rfl, Nat.le_of_ble_eq_true rfl⟩) rfl rfl dL_law_58, ?_⟩
  refine List.forall_mem_cons.mpr ⟨xs_iconst X dL_law_61 rfl, ?_⟩
  refine List.forall_mem_cons.mpr ⟨xs_ishr X dL_law_62, ?_⟩
  refine List.forall_mem_cons.mpr ⟨xs_iconst X dL_law_63 rfl, ?_⟩
  refine List.forall_mem_cons.mpr ⟨xs_callS X (mpL_below l D Y) (va_cwS 2 X.1.2.2.2.2 gL_law_L_below rfl rfl rfl (by decide +kernel) ⟨Nat.le_of_ble_eq_true rfl, Nat.le_of_ble_eq_true rfl⟩) rfl rfl dL_law_64, ?_⟩
  refine List.forall_mem_cons.mpr ⟨xs_callV (ci := 4) X (mpX3_fencer l D Y) (cwV 2 X.1.2.2.2.2 gL_law_X3_fencer rfl rfl rfl (by decide +kernel) ⟨Nat.le_of_ble_eq_true rfl, Nat.le_of_ble_eq_true rfl⟩) rfl rfl rfl rfl dL_law_67, ?_⟩
  refine List.forall_mem_cons.mpr ⟨xs_iload X dL_law_70, ?_⟩
  refine List.forall_mem_cons.mpr ⟨xs_icmpeq (tg := 77) X dL_law_72 rfl, ?_⟩
  refine List.forall_mem_cons.mpr ⟨xs_iconst X dL_law_75 rfl, ?_⟩
  refine List.forall_mem_cons.mpr ⟨xs_lawret X hr hlocks dL_law_76, ?_⟩
  refine List.forall_mem_cons.mpr ⟨xs_iinc X dL_law_77 rfl (Nat.le_of_ble_eq_true rfl), ?_⟩
  refine List.forall_mem_cons.mpr ⟨xs_goto (tg := 37) X dL_law_80 rfl, ?_⟩
  refine List.forall_mem_cons.mpr ⟨xs_aload_n X dL_law_83 rfl, ?_⟩
  refine List.forall_mem_cons.mpr ⟨xs_iload_n X dL_law_84 rfl, ?_⟩
  refine List.forall_mem_cons.mpr ⟨xs_callV (ci := 4) X (mpX3_form l D Y) (cwV 1 X.1.2.2.2.2 gL_law_X3_form rfl rfl rfl (by decide +kernel) ⟨Nat.le_of_ble_eq_true rfl, Nat.le_of_ble_eq_true rfl⟩) rfl rfl rfl rfl dL_law_85, ?_⟩
  refine List.forall_mem_cons.mpr ⟨xs_istore X dL_law_88 (Nat.le_of_ble_eq_true rfl), ?_⟩
  refine List.forall_mem_cons.mpr ⟨xs_iconst X dL_law_90 rfl, ?_⟩
  refine List.forall_mem_cons.mpr ⟨xs_istore X dL_law_91 (Nat.le_of_ble_eq_true rfl), ?_⟩
  refine List.forall_mem_cons.mpr ⟨xs_iload X dL_law_93, ?_⟩
  refine List.forall_mem_cons.mpr ⟨xs_sipush X dL_law_95 rfl, ?_⟩
  refine List.forall_mem_cons.mpr ⟨xs_icmpge (tg := 615) X dL_law_98 rfl, ?_⟩
  refine List.forall_mem_cons.mpr ⟨xs_aload_n X dL_law_101 rfl, ?_⟩
  refine List.forall_mem_cons.mpr ⟨xs_iload X dL_law_102, ?_⟩
  refine List.forall_mem_cons.mpr ⟨xs_bipush X dL_law_104 rfl, ?_⟩
  refine List.forall_mem_cons.mpr ⟨xs_irem X dL_law_106, ?_⟩
  refine List.forall_mem_cons.mpr ⟨xs_callS X (mpL_cell l D Y) (va_cwS 2 X.1.2.2.2.2 gL_law_L_cell rfl rfl rfl (by decide +kernel) ⟨Nat.le_of_ble_eq_true rfl, Nat.le_of_ble_eq_true rfl⟩) rfl rfl dL_law_107, ?_⟩
  refine List.forall_mem_cons.mpr ⟨xs_iload X dL_law_110, ?_⟩
  refine List.forall_mem_cons.mpr ⟨xs_bipush X dL_law_112 rfl, ?_⟩
  refine List.forall_mem_cons.mpr ⟨xs_idiv X dL_law_114, ?_⟩
  refine List.forall_mem_cons.mpr ⟨xs_ishr X dL_law_115, ?_⟩
  refine List.forall_mem_cons.mpr ⟨xs_bipush X dL_law_116 rfl, ?_⟩
  refine List.forall_mem_cons.mpr ⟨xs_iload X dL_law_118, ?_⟩
  refine List.forall_mem_cons.mpr ⟨xs_imul X dL_law_120, ?_⟩
  refine List.forall_mem_cons.mpr ⟨xs_iadd X dL_law_121, ?_⟩
  refine List.forall_mem_cons.mpr ⟨xs_istore X dL_law_122 (Nat.le_of_ble_eq_true rfl), ?_⟩
  refine List.forall_mem_cons.mpr ⟨xs_aload_n X dL_law_124 rfl, ?_⟩
  refine List.forall_mem_cons.mpr ⟨xs_iconst X dL_law_125 rfl, ?_⟩
  refine List.forall_mem_cons.mpr ⟨xs_callV (ci := 4) X (mpX3_many l D Y) (cwV 1 X.1.2.2.2.2 gL_law_X3_many rfl rfl rfl (by decide +kernel) ⟨Nat.le_of_ble_eq_true rfl, Nat.le_of_ble_eq_true rfl⟩) rfl rfl rfl rfl dL_law_126, ?_⟩
  refine List.forall_mem_cons.mpr ⟨xs_aload_n X dL_law_129 rfl, ?_⟩
  refine List.forall_mem_cons.mpr ⟨xs_iconst X dL_law_130 rfl, ?_⟩
  refine List.forall_mem_cons.mpr ⟨xs_callV (ci := 4) X (mpX3_many l D Y) (cwV 1 X.1.2.2.2.2 gL_law_X3_many rfl rfl rfl (by decide +kernel) ⟨Nat.le_of_ble_eq_true rfl, Nat.le_of_ble_eq_true rfl⟩) rfl rfl rfl rfl dL_law_131, ?_⟩
  refine List.forall_mem_cons.mpr ⟨xs_iadd X dL_law_134, ?_⟩
  refine List.forall_mem_cons.mpr ⟨xs_ifne (tg := 185) X dL_law_135 rfl, ?_⟩
  refine List.forall_mem_cons.mpr ⟨xs_aload_n X dL_law_138 rfl, ?_⟩
  refine List.forall_mem_cons.mpr ⟨xs_bipush X dL_law_139 rfl, ?_⟩
  refine List.forall_mem_cons.mpr ⟨xs_callV (ci := 4) X (mpX3_many l D Y) (cwV 1 X.1.2.2.2.2 gL_law_X3_many rfl rfl rfl (by decide +kernel) ⟨Nat.le_of_ble_eq_true rfl, Nat.le_of_ble_eq_true rfl⟩) rfl rfl rfl rfl dL_law_141, ?_⟩
  refine List.forall_mem_cons.mpr ⟨xs_ifne (tg := 185) X dL_law_144 rfl, ?_⟩
  refine List.forall_mem_cons.mpr ⟨xs_iload_n X dL_law_147 rfl, ?_⟩
  refine List.forall_mem_cons.mpr ⟨xs_aload_n X dL_law_148 rfl, ?_⟩
  refine List.forall_mem_cons.mpr ⟨xs_bipush X dL_law_149 rfl, ?_⟩
  refine List.forall_mem_cons.mpr ⟨xs_callV (ci := 4) X (mpX3_many l D Y) (cwV 1 X.1.2.2.2.2 gL_law_X3_many rfl rfl rfl (by decide +kernel) ⟨Nat.le_of_ble_eq_true rfl, Nat.le_of_ble_eq_true rfl⟩) rfl rfl rfl rfl dL_law_151, ?_⟩
  refine List.forall_mem_cons.mpr ⟨xs_isub X dL_law_154, ?_⟩
  refine List.forall_mem_cons.mpr ⟨xs_iconst X dL_law_155 rfl, ?_⟩
  refine List.forall_mem_cons.mpr ⟨xs_icmpge (tg := 167) X dL_law_156 rfl, ?_⟩
  refine List.forall_mem_cons.mpr ⟨xs_aload_n X dL_law_159 rfl, ?_⟩
  refine List.forall_mem_cons.mpr ⟨xs_iload_n X dL_law_160 rfl, ?_⟩
  refine List.forall_mem_cons.mpr ⟨xs_iload X dL_law_161, ?_⟩
  refine List.forall_mem_cons.mpr ⟨xs_callS X (mpL_isFair l D Y) (va_cwS 3 X.1.2.2.2.2 gL_law_L_isFair rfl rfl rfl (by decide +kernel) ⟨Nat.le_of_ble_eq_true rfl, Nat.le_of_ble_eq_true rfl⟩) rfl rfl dL_law_163, ?_⟩
  refine List.forall_mem_cons.mpr ⟨xs_lawret X hr hlocks dL_law_166, ?_⟩
  refine List.forall_mem_cons.mpr ⟨xs_aload_n X dL_law_167 rfl, ?_⟩
  refine List.forall_mem_cons.mpr ⟨xs_iconst X dL_law_168 rfl, ?_⟩
  refine List.forall_mem_cons.mpr ⟨xs_callV (ci := 4) X (mpX3_draw l D Y) (cwV 1 X.1.2.2.2.2 gL_law_X3_draw rfl rfl rfl (by decide +kernel) ⟨Nat.le_of_ble_eq_true rfl, Nat.le_of_ble_eq_true rfl⟩) rfl rfl rfl rfl dL_law_169, ?_⟩
  refine List.forall_mem_cons.mpr ⟨xs_iload_n X dL_law_172 rfl, ?_⟩
  refine List.forall_mem_cons.mpr ⟨xs_aload_n X dL_law_173 rfl, ?_⟩
  refine List.forall_mem_cons.mpr ⟨xs_bipush X dL_law_174 rfl, ?_⟩
  refine List.forall_mem_cons.mpr ⟨xs_callV (ci := 4) X (mpX3_many l D Y) (cwV 1 X.1.2.2.2.2 gL_law_X3_many rfl rfl rfl (by decide +kernel) ⟨Nat.le_of_ble_eq_true rfl, Nat.le_of_ble_eq_true rfl⟩) rfl rfl rfl rfl dL_law_176, ?_⟩
  refine List.forall_mem_cons.mpr ⟨xs_isub X dL_law_179, ?_⟩
  refine List.forall_mem_cons.mpr ⟨xs_icmpeq (tg := 185) X dL_law_180 rfl, ?_⟩
  refine List.forall_mem_cons.mpr ⟨xs_iconst X dL_law_183 rfl, ?_⟩
  refine List.forall_mem_cons.mpr ⟨xs_lawret X hr hlocks dL_law_184, ?_⟩
  refine List.forall_mem_cons.mpr ⟨xs_iload X dL_law_185, ?_⟩
  refine List.forall_mem_cons.mpr ⟨xs_iconst X dL_law_187 rfl, ?_⟩
  refine List.forall_mem_cons.mpr ⟨xs_ishr X dL_law_188, ?_⟩
  refine List.forall_mem_cons.mpr ⟨xs_iconst X dL_law_189 rfl, ?_⟩
  refine List.forall_mem_cons.mpr ⟨xs_callS X (mpL_below l D Y) (va_cwS 2 X.1.2.2.2.2 gL_law_L_below rfl rfl rfl (by decide +kernel) ⟨Nat.le_of_ble_eq_true rfl, Nat.le_of_ble_eq_true rfl⟩) rfl rfl dL_law_190, ?_⟩
  refine List.forall_mem_cons.mpr ⟨xs_istore X dL_law_193 (Nat.le_of_ble_eq_true rfl), ?_⟩
  refine List.forall_mem_cons.mpr ⟨xs_aload_n X dL_law_195 rfl, ?_⟩
  refine List.forall_mem_cons.mpr ⟨xs_iload X dL_law_196, ?_⟩
  refine List.forall_mem_cons.mpr ⟨xs_callS X (mpL_live l D Y) (va_cwS 2 X.1.2.2.2.2 gL_law_L_live rfl rfl rfl (by decide +kernel) ⟨Nat.le_of_ble_eq_true rfl, Nat.le_of_ble_eq_true rfl⟩) rfl rfl dL_law_198, ?_⟩
  refine List.forall_mem_cons.mpr ⟨xs_istore X dL_law_201 (Nat.le_of_ble_eq_true rfl), ?_⟩
  refine List.forall_mem_cons.mpr ⟨xs_iload X dL_law_203, ?_⟩
  refine List.forall_mem_cons.mpr ⟨xs_ifge (tg := 277) X dL_law_205 rfl, ?_⟩
  refine List.forall_mem_cons.mpr ⟨xs_aload_n X dL_law_208 rfl, ?_⟩
  refine List.forall_mem_cons.mpr ⟨xs_callV (ci := 4) X (mpX3_next l D Y) (cwV 0 X.1.2.2.2.2 gL_law_X3_next rfl rfl rfl (by decide +kernel) ⟨Nat.le_of_ble_eq_true rfl, Nat.le_of_ble_eq_true rfl⟩) rfl rfl rfl rfl dL_law_209, ?_⟩
  refine List.forall_mem_cons.mpr ⟨xs_istore X dL_law_212 (Nat.le_of_ble_eq_true rfl), ?_⟩
  refine List.forall_mem_cons.mpr ⟨xs_iload X dL_law_214, ?_⟩
  refine List.forall_mem_cons.mpr ⟨xs_ifge (tg := 230) X dL_law_216 rfl, ?_⟩
  refine List.forall_mem_cons.mpr ⟨xs_aload_n X dL_law_219 rfl, ?_⟩
  refine List.forall_mem_cons.mpr ⟨xs_bipush X dL_law_220 rfl, ?_⟩
  refine List.forall_mem_cons.mpr ⟨xs_callV (ci := 4) X (mpX3_pass l D Y) (cwV 1 X.1.2.2.2.2 gL_law_X3_pass rfl rfl rfl (by decide +kernel) ⟨Nat.le_of_ble_eq_true rfl, Nat.le_of_ble_eq_true rfl⟩) rfl rfl rfl rfl dL_law_222, ?_⟩
  refine List.forall_mem_cons.mpr ⟨xs_ifge (tg := 609) X dL_law_225 rfl, ?_⟩
  refine List.forall_mem_cons.mpr ⟨xs_iconst X dL_law_228 rfl, ?_⟩
  refine List.forall_mem_cons.mpr ⟨xs_lawret X hr hlocks dL_law_229, ?_⟩
  refine List.forall_mem_cons.mpr ⟨xs_aload_n X dL_law_230 rfl, ?_⟩
  refine List.forall_mem_cons.mpr ⟨xs_iload X dL_law_231, ?_⟩
  refine List.forall_mem_cons.mpr ⟨xs_callV (ci := 4) X (mpX3_reason l D Y) (cwV 1 X.1.2.2.2.2 gL_law_X3_reason rfl rfl rfl (by decide +kernel) ⟨Nat.le_of_ble_eq_true rfl, Nat.le_of_ble_eq_true rfl⟩) rfl rfl rfl rfl dL_law_233, ?_⟩
  refine List.forall_mem_cons.mpr ⟨xs_ifeq (tg := 241) X dL_law_236 rfl, ?_⟩
  refine List.forall_mem_cons.mpr ⟨xs_iconst X dL_law_239 rfl, ?_⟩
  refine List.forall_mem_cons.mpr ⟨xs_lawret X hr hlocks dL_law_240, ?_⟩
  refine List.forall_mem_cons.mpr ⟨xs_aload_n X dL_law_241 rfl, ?_⟩
  refine List.forall_mem_cons.mpr ⟨xs_iload X dL_law_242, ?_⟩
  refine List.forall_mem_cons.mpr ⟨xs_iload X dL_law_244, ?_⟩
  refine List.forall_mem_cons.mpr ⟨xs_callV (ci := 4) X (mpX3_start l D Y) (cwV 2 X.1.2.2.2.2 gL_law_X3_start rfl rfl rfl (by decide +kernel) ⟨Nat.le_of_ble_eq_true rfl, Nat.le_of_ble_eq_true rfl⟩) rfl rfl rfl rfl dL_law_246, ?_⟩
  refine List.forall_mem_cons.mpr ⟨xs_aload_n X dL_law_249 rfl, ?_⟩
  refine List.forall_mem_cons.mpr ⟨xs_iload X dL_law_250, ?_⟩
  refine List.forall_mem_cons.mpr ⟨xs_bipush X dL_law_252 rfl, ?_⟩
  refine List.forall_mem_cons.mpr ⟨xs_callV (ci := 4) X (mpX3_ofBout l D Y) (cwV 2 X.1.2.2.2.2 gL_law_X3_ofBout rfl rfl rfl (by decide +kernel) ⟨Nat.le_of_ble_eq_true rfl, Nat.le_of_ble_eq_true rfl⟩) rfl rfl rfl rfl dL_law_254, ?_⟩
  refine List.forall_mem_cons.mpr ⟨xs_iload X dL_law_257, ?_⟩
  refine List.forall_mem_cons.mpr ⟨xs_icmpne (tg := 272) X dL_law_259 rfl, ?_⟩
  refine List.forall_mem_cons.mpr ⟨xs_aload_n X dL_law_262 rfl, ?_⟩
  refine List.forall_mem_cons.mpr ⟨xs_iload X dL_law_263, ?_⟩
  refine List.forall_mem_cons.mpr ⟨xs_callV (ci := 4) X (mpX3_reason l D Y) (cwV 1 X.1.2.2.2.2 gL_law_X3_reason rfl rfl rfl (by decide +kernel) ⟨Nat.le_of_ble_eq_true rfl, Nat.le_of_ble_eq_true rfl⟩) rfl rfl rfl rfl dL_law_265, ?_⟩
  refine List.forall_mem_cons.mpr ⟨xs_iconst X dL_law_268 rfl, ?_⟩
  refine List.forall_mem_cons.mpr ⟨xs_icmpeq (tg := 274) X dL_law_269 rfl, ?_⟩
  refine List.forall_mem_cons.mpr ⟨xs_iconst X dL_law_272 rfl, ?_⟩
  refine List.forall_mem_cons.mpr ⟨xs_lawret X hr hlocks dL_law_273, ?_⟩
  refine List.forall_mem_cons.mpr ⟨xs_goto (tg := 590) X dL_law_274 rfl, ?_⟩
  refine List.forall_mem_cons.mpr ⟨xs_iload X dL_law_277, ?_⟩
  refine List.forall_mem_cons.mpr ⟨xs_iconst X dL_law_279 rfl, ?_⟩
  refine List.forall_mem_cons.mpr ⟨xs_callS X (mpL_below l D Y) (va_cwS 2 X.1.2.2.2.2 gL_law_L_below rfl rfl rfl (by decide +kernel) ⟨Nat.le_of_ble_eq_true rfl, Nat.le_of_ble_eq_true rfl⟩) rfl rfl dL_law_280, ?_⟩
  refine List.forall_mem_cons.mpr ⟨xs_iconst X dL_law_283 rfl, ?_⟩
  refine List.forall_mem_cons.mpr ⟨xs_icmpge (tg := 379) X dL_law_284 rfl, ?_⟩
  refine List.forall_mem_cons.mpr ⟨xs_iload X dL_law_287, ?_⟩
  refine List.forall_mem_cons.mpr ⟨xs_iconst X dL_law_289 rfl, ?_⟩
  refine List.forall_mem_cons.mpr ⟨xs_ishr X dL_law_290, ?_⟩
  refine List.forall_mem_cons.mpr ⟨xs_iconst X dL_law_291 rfl, ?_⟩
  refine List.forall_mem_cons.mpr ⟨xs_callS X (mpL_below l D Y) (va_cwS 2 X.1.2.2.2.2 gL_law_L_below rfl rfl rfl (by decide +kernel) ⟨Nat.le_of_ble_eq_true rfl, Nat.le_of_ble_eq_true rfl⟩) rfl rfl dL_law_292, ?_⟩
  refine List.forall_mem_cons.mpr ⟨xs_istore X dL_law_295 (Nat.le_of_ble_eq_true rfl), ?_⟩
  refine List.forall_mem_cons.mpr ⟨xs_aload_n X dL_law_297 rfl, ?_⟩
  refine List.forall_mem_cons.mpr ⟨xs_iload X dL_law_298, ?_⟩
  refine List.forall_mem_cons.mpr ⟨xs_iconst X dL_law_300 rfl, ?_⟩
  refine List.forall_mem_cons.mpr ⟨xs_iload X dL_law_301, ?_⟩
  refine List.forall_mem_cons.mpr ⟨xs_iadd X dL_law_303, ?_⟩
  refine List.forall_mem_cons.mpr ⟨xs_callV (ci := 4) X (mpX3_ofBout l D Y) (cwV 2 X.1.2.2.2.2 gL_law_X3_ofBout rfl rfl rfl (by decide +kernel) ⟨Nat.le_of_ble_eq_true rfl, Nat.le_of_ble_eq_true rfl⟩) rfl rfl rfl rfl dL_law_304, ?_⟩
  refine List.forall_mem_cons.mpr ⟨xs_istore X dL_law_307 (Nat.le_of_ble_eq_true rfl), ?_⟩
  refine List.forall_mem_cons.mpr ⟨xs_aload_n X dL_law_309 rfl, ?_⟩
  refine List.forall_mem_cons.mpr ⟨xs_iload X dL_law_310, ?_⟩
  refine List.forall_mem_cons.mpr ⟨xs_iload X dL_law_312, ?_⟩
  refine List.forall_mem_cons.mpr ⟨xs_callV (ci := 4) X (mpX3_hit l D Y) (cwV 2 X.1.2.2.2.2 gL_law_X3_hit rfl rfl rfl (by decide +kernel) ⟨Nat.le_of_ble_eq_true rfl, Nat.le_of_ble_eq_true rfl⟩) rfl rfl rfl rfl dL_law_314, ?_⟩
  refine List.forall_mem_cons.mpr ⟨xs_aload_n X dL_law_317 rfl, ?_⟩
  refine List.forall_mem_cons.mpr ⟨xs_iload X dL_law_318, ?_⟩
  refine List.forall_mem_cons.mpr ⟨xs_iconst X dL_law_320 rfl, ?_⟩
  refine List.forall_mem_cons.mpr ⟨xs_callV (ci := 4) X (mpX3_ofBout l D Y) (cwV 2 X.1.2.2.2.2 gL_law_X3_ofBout rfl rfl rfl (by decide +kernel) ⟨Nat.le_of_ble_eq_true rfl, Nat.le_of_ble_eq_true rfl⟩) rfl rfl rfl rfl dL_law_321, ?_⟩
  refine List.forall_mem_cons.mpr ⟨xs_iconst X dL_law_324 rfl, ?_⟩
  refine List.forall_mem_cons.mpr ⟨xs_icmpne (tg := 332) X dL_law_325 rfl, ?_⟩
  refine List.forall_mem_cons.mpr ⟨xs_iconst X dL_law_328 rfl, ?_⟩
  refine List.forall_mem_cons.mpr ⟨xs_goto (tg := 333) X dL_law_329 rfl, ?_⟩
  refine List.forall_mem_cons.mpr ⟨xs_iconst X dL_law_332 rfl, ?_⟩
  refine List.forall_mem_cons.mpr ⟨xs_icmpne (tg := 374) X dL_law_333 rfl, ?_⟩
  refine List.forall_mem_cons.mpr ⟨xs_aload_n X dL_law_336 rfl, ?_⟩
  refine List.forall_mem_cons.mpr ⟨xs_iload X dL_law_337, ?_⟩
  refine List.forall_mem_cons.mpr ⟨xs_iconst X dL_law_339 rfl, ?_⟩
  refine List.forall_mem_cons.mpr ⟨xs_iload X dL_law_340, ?_⟩
  refine List.forall_mem_cons.mpr ⟨xs_iadd X dL_law_342, ?_⟩
  refine List.forall_mem_cons.mpr ⟨xs_callV (ci := 4) X (mpX3_ofBout l D Y) (cwV 2 X.1.2.2.2.2 gL_law_X3_ofBout rfl rfl rfl (by decide +kernel) ⟨Nat.le_of_ble_eq_true rfl, Nat.le_of_ble_eq_true rfl⟩) rfl rfl rfl rfl dL_law_343, ?_⟩
  refine List.forall_mem_cons.mpr ⟨xs_iload X dL_law_346, ?_⟩
  refine List.forall_mem_cons.mpr ⟨xs_iconst X dL_law_348 rfl, ?_⟩
  refine List.forall_mem_cons.mpr ⟨xs_iadd X dL_law_349, ?_⟩
  refine List.forall_mem_cons.mpr ⟨xs_icmpne (tg := 374) X dL_law_350 rfl, ?_⟩
  refine List.forall_mem_cons.mpr ⟨xs_aload_n X dL_law_353 rfl, ?_⟩
  refine List.forall_mem_cons.mpr ⟨xs_iload X dL_law_354, ?_⟩
  refine List.forall_mem_cons.mpr ⟨xs_iconst X dL_law_356 rfl, ?_⟩
  refine List.forall_mem_cons.mpr ⟨xs_callV (ci := 4) X (mpX3_ofBout l D Y) (cwV 2 X.1.2.2.2.2 gL_law_X3_ofBout rfl rfl rfl (by decide +kernel) ⟨Nat.le_of_ble_eq_true rfl, Nat.le_of_ble_eq_true rfl⟩) rfl rfl rfl rfl dL_law_357, ?_⟩
  refine List.forall_mem_cons.mpr ⟨xs_iconst X dL_law_360 rfl, ?_⟩
  refine List.forall_mem_cons.mpr ⟨xs_icmpne (tg := 376) X dL_law_361 rfl, ?_⟩
  refine List.forall_mem_cons.mpr ⟨xs_aload_n X dL_law_364 rfl, ?_⟩
  refine List.forall_mem_cons.mpr ⟨xs_iload X dL_law_365, ?_⟩
  refine List.forall_mem_cons.mpr ⟨xs_iconst X dL_law_367 rfl, ?_⟩
  refine List.forall_mem_cons.mpr ⟨xs_callV (ci := 4) X (mpX3_ofBout l D Y) (cwV 2 X.1.2.2.2.2 gL_law_X3_ofBout rfl rfl rfl (by decide +kernel) ⟨Nat.le_of_ble_eq_true rfl, Nat.le_of_ble_eq_true rfl⟩) rfl rfl rfl rfl dL_law_368, ?_⟩
  refine List.forall_mem_cons.mpr ⟨xs_ifge (tg := 376) X dL_law_371 rfl, ?_⟩
  refine List.forall_mem_cons.mpr ⟨xs_iconst X dL_law_374 rfl, ?_⟩
  refine List.forall_mem_cons.mpr ⟨xs_lawret X hr hlocks dL_law_375, ?_⟩
  refine List.forall_mem_cons.mpr ⟨xs_goto (tg := 590) X dL_law_376 rfl, ?_⟩
  refine List.forall_mem_cons.mpr ⟨xs_iload X dL_law_379, ?_⟩
  refine List.forall_mem_cons.mpr ⟨xs_iconst X dL_law_381 rfl, ?_⟩
  refine List.forall_mem_cons.mpr ⟨xs_callS X (mpL_below l D Y) (va_cwS 2 X.1.2.2.2.2 gL_law_L_below rfl rfl rfl (by decide +kernel) ⟨Nat.le_of_ble_eq_true rfl, Nat.le_of_ble_eq_true rfl⟩) rfl rfl dL_law_382, ?_⟩
  refine List.forall_mem_cons.mpr ⟨xs_iconst X dL_law_385 rfl, ?_⟩
  refine List.forall_mem_cons.mpr ⟨xs_icmpne (tg := 471) X dL_law_386 rfl, ?_⟩
  refine List.forall_mem_cons.mpr ⟨xs_iconst X dL_law_389 rfl, ?_⟩
  refine List.forall_mem_cons.mpr ⟨xs_iload X dL_law_390, ?_⟩
  refine List.forall_mem_cons.mpr ⟨xs_iconst X dL_law_392 rfl, ?_⟩
  refine List.forall_mem_cons.mpr ⟨xs_ishr X dL_law_393, ?_⟩
  refine List.forall_mem_cons.mpr ⟨xs_sipush X dL_law_394 rfl, ?_⟩
  refine List.forall_mem_cons.mpr ⟨xs_callS X (mpL_below l D Y) (va_cwS 2 X.1.2.2.2.2 gL_law_L_below rfl rfl rfl (by decide +kernel) ⟨Nat.le_of_ble_eq_true rfl, Nat.le_of_ble_eq_true rfl⟩) rfl rfl dL_law_397, ?_⟩
  refine List.forall_mem_cons.mpr ⟨xs_iadd X dL_law_400, ?_⟩
  refine List.forall_mem_cons.mpr ⟨xs_istore X dL_law_401 (Nat.le_of_ble_eq_true rfl), ?_⟩
  refine List.forall_mem_cons.mpr ⟨xs_aload_n X dL_law_403 rfl, ?_⟩
  refine List.forall_mem_cons.mpr ⟨xs_iload X dL_law_404, ?_⟩
  refine List.forall_mem_cons.mpr ⟨xs_iload X dL_law_406, ?_⟩
  refine List.forall_mem_cons.mpr ⟨xs_callV (ci := 4) X (mpX3_winnerIn l D Y) (cwV 2 X.1.2.2.2.2 gL_law_X3_winnerIn rfl rfl rfl (by decide +kernel) ⟨Nat.le_of_ble_eq_true rfl, Nat.le_of_ble_eq_true rfl⟩) rfl rfl rfl rfl dL_law_408, ?_⟩
  refine List.forall_mem_cons.mpr ⟨xs_istore X dL_law_411 (Nat.le_of_ble_eq_true rfl), ?_⟩
  refine List.forall_mem_cons.mpr ⟨xs_aload_n X dL_law_413 rfl, ?_⟩
  refine List.forall_mem_cons.mpr ⟨xs_bipush X dL_law_414 rfl, ?_⟩
  refine List.forall_mem_cons.mpr ⟨xs_callV (ci := 4) X (mpX3_many l D Y) (cwV 1 X.1.2.2.2.2 gL_law_X3_many rfl rfl rfl (by decide +kernel) ⟨Nat.le_of_ble_eq_true rfl, Nat.le_of_ble_eq_true rfl⟩) rfl rfl rfl rfl dL_law_416, ?_⟩
  refine List.forall_mem_cons.mpr ⟨xs_istore X dL_law_419 (Nat.le_of_ble_eq_true rfl), ?_⟩
  refine List.forall_mem_cons.mpr ⟨xs_aload_n X dL_law_421 rfl, ?_⟩
  refine List.forall_mem_cons.mpr ⟨xs_iload X dL_law_422, ?_⟩
  refine List.forall_mem_cons.mpr ⟨xs_callV (ci := 4) X (mpX3_pass l D Y) (cwV 1 X.1.2.2.2.2 gL_law_X3_pass rfl rfl rfl (by decide +kernel) ⟨Nat.le_of_ble_eq_true rfl, Nat.le_of_ble_eq_true rfl⟩) rfl rfl rfl rfl dL_law_424, ?_⟩
  refine List.forall_mem_cons.mpr ⟨xs_iload X dL_law_427, ?_⟩
  refine List.forall_mem_cons.mpr ⟨xs_ifge (tg := 436) X dL_law_429 rfl, ?_⟩
  refine List.forall_mem_cons.mpr ⟨xs_iconst X dL_law_432 rfl, ?_⟩
  refine List.forall_mem_cons.mpr ⟨xs_goto (tg := 437) X dL_law_433 rfl, ?_⟩
  refine List.forall_mem_cons.mpr ⟨xs_iconst X dL_law_436 rfl, ?_⟩
  refine List.forall_mem_cons.mpr ⟨xs_icmplt (tg := 466) X dL_law_437 rfl, ?_⟩
  refine List.forall_mem_cons.mpr ⟨xs_aload_n X dL_law_440 rfl, ?_⟩
  refine List.forall_mem_cons.mpr ⟨xs_iload X dL_law_441, ?_⟩
  refine List.forall_mem_cons.mpr ⟨xs_iconst X dL_law_443 rfl, ?_⟩
  refine List.forall_mem_cons.mpr ⟨xs_callV (ci := 4) X (mpX3_ofBout l D Y) (cwV 2 X.1.2.2.2.2 gL_law_X3_ofBout rfl rfl rfl (by decide +kernel) ⟨Nat.le_of_ble_eq_true rfl, Nat.le_of_ble_eq_true rfl⟩) rfl rfl rfl rfl dL_law_444, ?_⟩
  refine List.forall_mem_cons.mpr ⟨xs_iload X dL_law_447, ?_⟩
  refine List.forall_mem_cons.mpr ⟨xs_icmpne (tg := 466) X dL_law_449 rfl, ?_⟩
  refine List.forall_mem_cons.mpr ⟨xs_aload_n X dL_law_452 rfl, ?_⟩
  refine List.forall_mem_cons.mpr ⟨xs_bipush X dL_law_453 rfl, ?_⟩
  refine List.forall_mem_cons.mpr ⟨xs_callV (ci := 4) X (mpX3_many l D Y) (cwV 1 X.1.2.2.2.2 gL_law_X3_many rfl rfl rfl (by decide +kernel) ⟨Nat.le_of_ble_eq_true rfl, Nat.le_of_ble_eq_true rfl⟩) rfl rfl rfl rfl dL_law_455, ?_⟩
  refine List.forall_mem_cons.mpr ⟨xs_iload X dL_law_458, ?_⟩
  refine List.forall_mem_cons.mpr ⟨xs_iload X dL_law_460, ?_⟩
  refine List.forall_mem_cons.mpr ⟨xs_iadd X dL_law_462, ?_⟩
  refine List.forall_mem_cons.mpr ⟨xs_icmpeq (tg := 468) X dL_law_463 rfl, ?_⟩
  refine List.forall_mem_cons.mpr ⟨xs_iconst X dL_law_466 rfl, ?_⟩
  refine List.forall_mem_cons.mpr ⟨xs_lawret X hr hlocks dL_law_467, ?_⟩
  refine List.forall_mem_cons.mpr ⟨xs_goto (tg := 590) X dL_law_468 rfl, ?_⟩
  refine List.forall_mem_cons.mpr ⟨xs_iload X dL_law_471, ?_⟩
  refine List.forall_mem_cons.mpr ⟨xs_bipush X dL_law_473 rfl, ?_⟩
  refine List.forall_mem_cons.mpr ⟨xs_ishr X dL_law_475, ?_⟩
  refine List.forall_mem_cons.mpr ⟨xs_bipush X dL_law_476 rfl, ?_⟩
  refine List.forall_mem_cons.mpr ⟨xs_callS X (mpL_below l D Y) (va_cwS 2 X.1.2.2.2.2 gL_law_L_below rfl rfl rfl (by decide +kernel) ⟨Nat.le_of_ble_eq_true rfl, Nat.le_of_ble_eq_true rfl⟩) rfl rfl dL_law_478, ?_⟩
  refine List.forall_mem_cons.mpr ⟨xs_ifne (tg := 488) X dL_law_481 rfl, ?_⟩
  refine List.forall_mem_cons.mpr ⟨xs_iconst X dL_law_484 rfl, ?_⟩
  refine List.forall_mem_cons.mpr ⟨xs_goto (tg := 496) X dL_law_485 rfl, ?_⟩
  refine List.forall_mem_cons.mpr ⟨xs_iload X dL_law_488, ?_⟩
  refine List.forall_mem_cons.mpr ⟨xs_iconst X dL_law_490 rfl, ?_⟩
  refine List.forall_mem_cons.mpr ⟨xs_ishr X dL_law_491, ?_⟩
  refine List.forall_mem_cons.mpr ⟨xs_iconst X dL_law_492 rfl, ?_⟩
  refine List.forall_mem_cons.mpr ⟨xs_callS X (mpL_below l D Y) (va_cwS 2 X.1.2.2.2.2 gL_law_L_below rfl rfl rfl (by decide +kernel) ⟨Nat.le_of_ble_eq_true rfl, Nat.le_of_ble_eq_true rfl⟩) rfl rfl dL_law_493, ?_⟩
  refine List.forall_mem_cons.mpr ⟨xs_istore X dL_law_496 (Nat.le_of_ble_eq_true rfl), ?_⟩
  refine List.forall_mem_cons.mpr ⟨xs_iload X dL_law_498, ?_⟩
  refine List.forall_mem_cons.mpr ⟨xs_bipush X dL_law_500 rfl, ?_⟩
  refine List.forall_mem_cons.mpr ⟨xs_ishr X dL_law_502, ?_⟩
  refine List.forall_mem_cons.mpr ⟨xs_iconst X dL_law_503 rfl, ?_⟩
  refine List.forall_mem_cons.mpr ⟨xs_callS X (mpL_below l D Y) (va_cwS 2 X.1.2.2.2.2 gL_law_L_below rfl rfl rfl (by decide +kernel) ⟨Nat.le_of_ble_eq_true rfl, Nat.le_of_ble_eq_true rfl⟩) rfl rfl dL_law_504, ?_⟩
  refine List.forall_mem_cons.mpr ⟨xs_istore X dL_law_507 (Nat.le_of_ble_eq_true rfl), ?_⟩
  refine List.forall_mem_cons.mpr ⟨xs_aload_n X dL_law_509 rfl, ?_⟩
  refine List.forall_mem_cons.mpr ⟨xs_iload X dL_law_510, ?_⟩
  refine List.forall_mem_cons.mpr ⟨xs_iconst X dL_law_512 rfl, ?_⟩
  refine List.forall_mem_cons.mpr ⟨xs_iload X dL_law_513, ?_⟩
  refine List.forall_mem_cons.mpr ⟨xs_iadd X dL_law_515, ?_⟩
  refine List.forall_mem_cons.mpr ⟨xs_callV (ci := 4) X (mpX3_ofBout l D Y) (cwV 2 X.1.2.2.2.2 gL_law_X3_ofBout rfl rfl rfl (by decide +kernel) ⟨Nat.le_of_ble_eq_true rfl, Nat.le_of_ble_eq_true rfl⟩) rfl rfl rfl rfl dL_law_516, ?_⟩
  refine List.forall_mem_cons.mpr ⟨xs_istore X dL_law_519 (Nat.le_of_ble_eq_true rfl), ?_⟩
  refine List.forall_mem_cons.mpr ⟨xs_aload_n X dL_law_521 rfl, ?_⟩
  refine List.forall_mem_cons.mpr ⟨xs_iload X dL_law_522, ?_⟩
  refine List.forall_mem_cons.mpr ⟨xs_iload X dL_law_524, ?_⟩
  refine List.forall_mem_cons.mpr ⟨xs_iload X dL_law_526, ?_⟩
  refine List.forall_mem_cons.mpr ⟨xs_callV (ci := 4) X (mpX3_card l D Y) (cwV 3 X.1.2.2.2.2 gL_law_X3_card rfl rfl rfl (by decide +kernel) ⟨Nat.le_of_ble_eq_true rfl, Nat.le_of_ble_eq_true rfl⟩) rfl rfl rfl rfl dL_law_528, ?_⟩
  refine List.forall_mem_cons.mpr ⟨xs_istore X dL_law_531 (Nat.le_of_ble_eq_true rfl), ?_⟩
  refine List.forall_mem_cons.mpr ⟨xs_iload X dL_law_533, ?_⟩
  refine List.forall_mem_cons.mpr ⟨xs_iload X dL_law_535, ?_⟩
  refine List.forall_mem_cons.mpr ⟨xs_icmplt (tg := 588) X dL_law_537 rfl, ?_⟩
  refine List.forall_mem_cons.mpr ⟨xs_iload X dL_law_540, ?_⟩
  refine List.forall_mem_cons.mpr ⟨xs_iconst X dL_law_542 rfl, ?_⟩
  refine List.forall_mem_cons.mpr ⟨xs_icmpne (tg := 550) X dL_law_543 rfl, ?_⟩
  refine List.forall_mem_cons.mpr ⟨xs_iconst X dL_law_546 rfl, ?_⟩
  refine List.forall_mem_cons.mpr ⟨xs_goto (tg := 551) X dL_law_547 rfl, ?_⟩
  refine List.forall_mem_cons.mpr ⟨xs_iconst X dL_law_550 rfl, ?_⟩
  refine List.forall_mem_cons.mpr ⟨xs_aload_n X dL_law_551 rfl, ?_⟩
  refine List.forall_mem_cons.mpr ⟨xs_iload X dL_law_552, ?_⟩
  refine List.forall_mem_cons.mpr ⟨xs_iconst X dL_law_554 rfl, ?_⟩
  refine List.forall_mem_cons.mpr ⟨xs_callV (ci := 4) X (mpX3_of l D Y) (cwV 2 X.1.2.2.2.2 gL_law_X3_of rfl rfl rfl (by decide +kernel) ⟨Nat.le_of_ble_eq_true rfl, Nat.le_of_ble_eq_true rfl⟩) rfl rfl rfl rfl dL_law_555, ?_⟩
  refine List.forall_mem_cons.mpr ⟨xs_iconst X dL_law_558 rfl, ?_⟩
  refine List.forall_mem_cons.mpr ⟨xs_icmpne (tg := 566) X dL_law_559 rfl, ?_⟩
  refine List.forall_mem_cons.mpr ⟨xs_iconst X dL_law_562 rfl, ?_⟩
  refine List.forall_mem_cons.mpr ⟨xs_goto (tg := 567) X dL_law_563 rfl, ?_⟩
  refine List.forall_mem_cons.mpr ⟨xs_iconst X dL_law_566 rfl, ?_⟩
  refine List.forall_mem_cons.mpr ⟨xs_icmpne (tg := 588) X dL_law_567 rfl, ?_⟩
  refine List.forall_mem_cons.mpr ⟨xs_aload_n X dL_law_570 rfl, ?_⟩
  refine List.forall_mem_cons.mpr ⟨xs_iload X dL_law_571, ?_⟩
  refine List.forall_mem_cons.mpr ⟨xs_bipush X dL_law_573 rfl, ?_⟩
  refine List.forall_mem_cons.mpr ⟨xs_iload X dL_law_575, ?_⟩
  refine List.forall_mem_cons.mpr ⟨xs_iadd X dL_law_577, ?_⟩
  refine List.forall_mem_cons.mpr ⟨xs_callV (ci := 4) X (mpX3_ofBout l D Y) (cwV 2 X.1.2.2.2.2 gL_law_X3_ofBout rfl rfl rfl (by decide +kernel) ⟨Nat.le_of_ble_eq_true rfl, Nat.le_of_ble_eq_true rfl⟩) rfl rfl rfl rfl dL_law_578, ?_⟩
  refine List.forall_mem_cons.mpr ⟨xs_iload X dL_law_581, ?_⟩
  refine List.forall_mem_cons.mpr ⟨xs_iconst X dL_law_583 rfl, ?_⟩
  refine List.forall_mem_cons.mpr ⟨xs_iadd X dL_law_584, ?_⟩
  refine List.forall_mem_cons.mpr ⟨xs_icmpge (tg := 590) X dL_law_585 rfl, ?_⟩
  refine List.forall_mem_cons.mpr ⟨xs_iconst X dL_law_588 rfl, ?_⟩
  refine List.forall_mem_cons.mpr ⟨xs_lawret X hr hlocks dL_law_589, ?_⟩
  refine List.forall_mem_cons.mpr ⟨xs_iload X dL_law_590, ?_⟩
  refine List.forall_mem_cons.mpr ⟨xs_iconst X dL_law_592 rfl, ?_⟩
  refine List.forall_mem_cons.mpr ⟨xs_irem X dL_law_593, ?_⟩
  refine List.forall_mem_cons.mpr ⟨xs_ifne (tg := 609) X dL_law_594 rfl, ?_⟩
  refine List.forall_mem_cons.mpr ⟨xs_aload_n X dL_law_597 rfl, ?_⟩
  refine List.forall_mem_cons.mpr ⟨xs_iload_n X dL_law_598 rfl, ?_⟩
  refine List.forall_mem_cons.mpr ⟨xs_iload X dL_law_599, ?_⟩
  refine List.forall_mem_cons.mpr ⟨xs_callS X (mpL_isFair l D Y) (va_cwS 3 X.1.2.2.2.2 gL_law_L_isFair rfl rfl rfl (by decide +kernel) ⟨Nat.le_of_ble_eq_true rfl, Nat.le_of_ble_eq_true rfl⟩) rfl rfl dL_law_601, ?_⟩
  refine List.forall_mem_cons.mpr ⟨xs_ifne (tg := 609) X dL_law_604 rfl, ?_⟩
  refine List.forall_mem_cons.mpr ⟨xs_iconst X dL_law_607 rfl, ?_⟩
  refine List.forall_mem_cons.mpr ⟨xs_lawret X hr hlocks dL_law_608, ?_⟩
  refine List.forall_mem_cons.mpr ⟨xs_iinc X dL_law_609 rfl (Nat.le_of_ble_eq_true rfl), ?_⟩
  refine List.forall_mem_cons.mpr ⟨xs_goto (tg := 93) X dL_law_612 rfl, ?_⟩
  refine List.forall_mem_cons.mpr ⟨xs_aload_n X dL_law_615 rfl, ?_⟩
  refine List.forall_mem_cons.mpr ⟨xs_callV (ci := 4) X (mpX3_digest l D Y) (cwV 0 X.1.2.2.2.2 gL_law_X3_digest rfl rfl rfl (by decide +kernel) ⟨Nat.le_of_ble_eq_true rfl, Nat.le_of_ble_eq_true rfl⟩) rfl rfl rfl rfl dL_law_616, ?_⟩
  refine List.forall_mem_cons.mpr ⟨xs_lstore X dL_law_619 (Nat.le_of_ble_eq_true rfl), ?_⟩
  refine List.forall_mem_cons.mpr ⟨xs_aload_n X dL_law_621 rfl, ?_⟩
  refine List.forall_mem_cons.mpr ⟨xs_iload_n X dL_law_622 rfl, ?_⟩
  refine List.forall_mem_cons.mpr ⟨xs_iload X dL_law_623, ?_⟩
  refine List.forall_mem_cons.mpr ⟨xs_callS X (mpL_isFair l D Y) (va_cwS 3 X.1.2.2.2.2 gL_law_L_isFair rfl rfl rfl (by decide +kernel) ⟨Nat.le_of_ble_eq_true rfl, Nat.le_of_ble_eq_true rfl⟩) rfl rfl dL_law_625, ?_⟩
  refine List.forall_mem_cons.mpr ⟨xs_ifeq (tg := 655) X dL_law_628 rfl, ?_⟩
  refine List.forall_mem_cons.mpr ⟨xs_aload_n X dL_law_631 rfl, ?_⟩
  refine List.forall_mem_cons.mpr ⟨xs_callV (ci := 4) X (mpX3_digest l D Y) (cwV 0 X.1.2.2.2.2 gL_law_X3_digest rfl rfl rfl (by decide +kernel) ⟨Nat.le_of_ble_eq_true rfl, Nat.le_of_ble_eq_true rfl⟩) rfl rfl rfl rfl dL_law_632, ?_⟩
  refine List.forall_mem_cons.mpr ⟨xs_lload X dL_law_635, ?_⟩
  refine List.forall_mem_cons.mpr ⟨xs_lcmp X dL_law_637, ?_⟩
  refine List.forall_mem_cons.mpr ⟨xs_ifne (tg := 655) X dL_law_638 rfl, ?_⟩
  refine List.forall_mem_cons.mpr ⟨xs_aload_n X dL_law_641 rfl, ?_⟩
  refine List.forall_mem_cons.mpr ⟨xs_iconst X dL_law_642 rfl, ?_⟩
  refine List.forall_mem_cons.mpr ⟨xs_callV (ci := 4) X (mpX3_many l D Y) (cwV 1 X.1.2.2.2.2 gL_law_X3_many rfl rfl rfl (by decide +kernel) ⟨Nat.le_of_ble_eq_true rfl, Nat.le_of_ble_eq_true rfl⟩) rfl rfl rfl rfl dL_law_643, ?_⟩
  refine List.forall_mem_cons.mpr ⟨xs_iload X dL_law_646, ?_⟩
  refine List.forall_mem_cons.mpr ⟨xs_icmplt (tg := 655) X dL_law_648 rfl, ?_⟩
  refine List.forall_mem_cons.mpr ⟨xs_iconst X dL_law_651 rfl, ?_⟩
  refine List.forall_mem_cons.mpr ⟨xs_goto (tg := 656) X dL_law_652 rfl, ?_⟩
  refine List.forall_mem_cons.mpr ⟨xs_iconst X dL_law_655 rfl, ?_⟩
  refine List.forall_mem_cons.mpr ⟨xs_lawret X hr hlocks dL_law_656, ?_⟩
  exact fun _ h => nomatch h
end XLG
