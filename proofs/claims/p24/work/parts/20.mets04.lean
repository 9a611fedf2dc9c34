set_option maxRecDepth 100000 in
set_option maxHeartbeats 4000000 in
theorem mpX3_setLines (l : Launch) (D : va_G) (Y : xw_Y) : xw_MP l D vwCl (xw_ty Y) Y.1 yX3_setLines wsX3_setLines ({ frames := 0, cells := 0, slots := 0, locals := 0 } : Room) (ptX3_setLines Y) 0 0 := by
  refine xw_met (cc := cX3_setLines) (nL := 5) (ret := none) (by decide +kernel) rfl ?_
  intro p e s m args below meth c w0 post X hr hlocks hname
  unfold tbX3_setLines
  refine List.forall_mem_cons.mpr ⟨xs_iconst X dX3_setLines_0 rfl, ?_⟩
  refine List.forall_mem_cons.mpr ⟨xs_istore_n X dX3_setLines_1 rfl (Nat.le_of_ble_eq_true rfl), ?_⟩
  refine List.forall_mem_cons.mpr ⟨xs_aload_n X dX3_setLines_2 rfl, ?_⟩
  refine List.forall_mem_cons.mpr ⟨xs_getf (C := RX3) (T := TX3) (N := 10) (ci := 4) (kf := 5) X (fun w h => List.mem_cons_of_mem _ (List.mem_append_right _ h)) rfl (by decide) (List.mem_of_getElem? (i := 1) rfl) (fun _ h => h) dX3_setLines_3, ?_⟩
  refine List.forall_mem_cons.mpr ⟨xs_iconst X dX3_setLines_6 rfl, ?_⟩
  refine List.forall_mem_cons.mpr ⟨xs_iconst X dX3_setLines_7 rfl, ?_⟩
  refine List.forall_mem_cons.mpr ⟨xs_iast (t0 := 0) X rfl dX3_setLines_8, ?_⟩
  refine List.forall_mem_cons.mpr ⟨xs_iload_n X dX3_setLines_9 rfl, ?_⟩
  refine List.forall_mem_cons.mpr ⟨xs_iload_n X dX3_setLines_10 rfl, ?_⟩
  refine List.forall_mem_cons.mpr ⟨xs_icmpge (tg := 79) X dX3_setLines_11 rfl, ?_⟩
  refine List.forall_mem_cons.mpr ⟨xs_iconst X dX3_setLines_14 rfl, ?_⟩
  refine List.forall_mem_cons.mpr ⟨xs_iload_n X dX3_setLines_15 rfl, ?_⟩
  refine List.forall_mem_cons.mpr ⟨xs_imul X dX3_setLines_16, ?_⟩
  refine List.forall_mem_cons.mpr ⟨xs_bipush X dX3_setLines_17 rfl, ?_⟩
  refine List.forall_mem_cons.mpr ⟨xs_icmpgt (tg := 79) X dX3_setLines_19 rfl, ?_⟩
  refine List.forall_mem_cons.mpr ⟨xs_iload_n X dX3_setLines_22 rfl, ?_⟩
  refine List.forall_mem_cons.mpr ⟨xs_iconst X dX3_setLines_23 rfl, ?_⟩
  refine List.forall_mem_cons.mpr ⟨xs_isub X dX3_setLines_24, ?_⟩
  refine List.forall_mem_cons.mpr ⟨xs_istore_n X dX3_setLines_25 rfl (Nat.le_of_ble_eq_true rfl), ?_⟩
  refine List.forall_mem_cons.mpr ⟨xs_iload_n X dX3_setLines_26 rfl, ?_⟩
  refine List.forall_mem_cons.mpr ⟨xs_iflt (tg := 72) X dX3_setLines_27 rfl, ?_⟩
  refine List.forall_mem_cons.mpr ⟨xs_aload_n X dX3_setLines_30 rfl, ?_⟩
  refine List.forall_mem_cons.mpr ⟨xs_getf (C := RX3) (T := TX3) (N := 10) (ci := 4) (kf := 5) X (fun w h => List.mem_cons_of_mem _ (List.mem_append_right _ h)) rfl (by decide) (List.mem_of_getElem? (i := 1) rfl) (fun _ h => h) dX3_setLines_31, ?_⟩
  refine List.forall_mem_cons.mpr ⟨xs_iload_n X dX3_setLines_34 rfl, ?_⟩
  refine List.forall_mem_cons.mpr ⟨xs_iald (t0 := 0) X rfl dX3_setLines_35, ?_⟩
  refine List.forall_mem_cons.mpr ⟨xs_istore X dX3_setLines_36 (Nat.le_of_ble_eq_true rfl), ?_⟩
  refine List.forall_mem_cons.mpr ⟨xs_aload_n X dX3_setLines_38 rfl, ?_⟩
  refine List.forall_mem_cons.mpr ⟨xs_getf (C := RX3) (T := TX3) (N := 10) (ci := 4) (kf := 5) X (fun w h => List.mem_cons_of_mem _ (List.mem_append_right _ h)) rfl (by decide) (List.mem_of_getElem? (i := 1) rfl) (fun _ h => h) dX3_setLines_39, ?_⟩
  refine List.forall_mem_cons.mpr ⟨xs_iconst X dX3_setLines_42 rfl, ?_⟩
  refine List.forall_mem_cons.mpr ⟨xs_iload_n X dX3_setLines_43 rfl, ?_⟩
  refine List.forall_mem_cons.mpr ⟨xs_imul X dX3_setLines_44, ?_⟩
  refine List.forall_mem_cons.mpr ⟨xs_iload X dX3_setLines_45, ?_⟩
  refine List.forall_mem_cons.mpr ⟨xs_iast (t0 := 0) X rfl dX3_setLines_47, ?_⟩
  refine List.forall_mem_cons.mpr ⟨xs_aload_n X dX3_setLines_48 rfl, ?_⟩
  refine List.forall_mem_cons.mpr ⟨xs_getf (C := RX3) (T := TX3) (N := 10) (ci := 4) (kf := 5) X (fun w h => List.mem_cons_of_mem _ (List.mem_append_right _ h)) rfl (by decide) (List.mem_of_getElem? (i := 1) rfl) (fun _ h => h) dX3_setLines_49, ?_⟩
  refine List.forall_mem_cons.mpr ⟨xs_iconst X dX3_setLines_52 rfl, ?_⟩
  refine List.forall_mem_cons.mpr ⟨xs_iload_n X dX3_setLines_53 rfl, ?_⟩
  refine List.forall_mem_cons.mpr ⟨xs_imul X dX3_setLines_54, ?_⟩
  refine List.forall_mem_cons.mpr ⟨xs_iconst X dX3_setLines_55 rfl, ?_⟩
  refine List.forall_mem_cons.mpr ⟨xs_iadd X dX3_setLines_56, ?_⟩
  refine List.forall_mem_cons.mpr ⟨xs_iconst X dX3_setLines_57 rfl, ?_⟩
  refine List.forall_mem_cons.mpr ⟨xs_iload_n X dX3_setLines_58 rfl, ?_⟩
  refine List.forall_mem_cons.mpr ⟨xs_imul X dX3_setLines_59, ?_⟩
  refine List.forall_mem_cons.mpr ⟨xs_iconst X dX3_setLines_60 rfl, ?_⟩
  refine List.forall_mem_cons.mpr ⟨xs_isub X dX3_setLines_61, ?_⟩
  refine List.forall_mem_cons.mpr ⟨xs_iload X dX3_setLines_62, ?_⟩
  refine List.forall_mem_cons.mpr ⟨xs_isub X dX3_setLines_64, ?_⟩
  refine List.forall_mem_cons.mpr ⟨xs_iast (t0 := 0) X rfl dX3_setLines_65, ?_⟩
  refine List.forall_mem_cons.mpr ⟨xs_iinc X dX3_setLines_66 rfl (Nat.le_of_ble_eq_true rfl), ?_⟩
  refine List.forall_mem_cons.mpr ⟨xs_goto (tg := 26) X dX3_setLines_69 rfl, ?_⟩
  refine List.forall_mem_cons.mpr ⟨xs_iload_n X dX3_setLines_72 rfl, ?_⟩
  refine List.forall_mem_cons.mpr ⟨xs_iconst X dX3_setLines_73 rfl, ?_⟩
  refine List.forall_mem_cons.mpr ⟨xs_imul X dX3_setLines_74, ?_⟩
  refine List.forall_mem_cons.mpr ⟨xs_istore_n X dX3_setLines_75 rfl (Nat.le_of_ble_eq_true rfl), ?_⟩
  refine List.forall_mem_cons.mpr ⟨xs_goto (tg := 9) X dX3_setLines_76 rfl, ?_⟩
  refine List.forall_mem_cons.mpr ⟨xs_aload_n X dX3_setLines_79 rfl, ?_⟩
  refine List.forall_mem_cons.mpr ⟨xs_iload_n X dX3_setLines_80 rfl, ?_⟩
  refine List.forall_mem_cons.mpr ⟨xs_putf (C := RX3) (T := TX3) (N := 10) (ci := 4) (kf := 8) X (fun w h => List.mem_cons_of_mem _ (List.mem_append_right _ h)) tyX3 tyX3_ok nmX3 rfl (by decide) (List.mem_of_getElem? (i := 2) rfl) (fun _ h => h) rfl rfl dX3_setLines_81, ?_⟩
  refine List.forall_mem_cons.mpr ⟨xs_vret X hr hlocks dX3_setLines_84, ?_⟩
  exact fun _ h => nomatch h
set_option maxRecDepth 100000 in
set_option maxHeartbeats 4000000 in
theorem mpX3_fencerOnLine (l : Launch) (D : va_G) (Y : xw_Y) : xw_MP l D vwCl (xw_ty Y) Y.1 yX3_fencerOnLine wsX3_fencerOnLine ({ frames := 1, cells := 0, slots := 0, locals := 22 } : Room) (ptX3_fencerOnLine Y) 0 0 := by
  refine xw_met (cc := cX3_fencerOnLine) (nL := 2) (ret := (some (.object "Pommel$Fencer"))) (by decide +kernel) rfl ?_
  intro p e s m args below meth c w0 post X hr hlocks hname
  unfold tbX3_fencerOnLine
  refine List.forall_mem_cons.mpr ⟨xs_iload_n X dX3_fencerOnLine_0 rfl, ?_⟩
  refine List.forall_mem_cons.mpr ⟨xs_iconst X dX3_fencerOnLine_1 rfl, ?_⟩
  refine List.forall_mem_cons.mpr ⟨xs_aload_n X dX3_fencerOnLine_2 rfl, ?_⟩
  refine List.forall_mem_cons.mpr ⟨xs_getf (C := RX3) (T := TX3) (N := 10) (ci := 4) (kf := 8) X (fun w h => List.mem_cons_of_mem _ (List.mem_append_right _ h)) rfl (by decide) (List.mem_of_getElem? (i := 1) rfl) (fun _ h => h) dX3_fencerOnLine_3, ?_⟩
  refine List.forall_mem_cons.mpr ⟨xs_iconst X dX3_fencerOnLine_6 rfl, ?_⟩
  refine List.forall_mem_cons.mpr ⟨xs_isub X dX3_fencerOnLine_7, ?_⟩
  refine List.forall_mem_cons.mpr ⟨xs_callS X (mpX3_isIn l D Y) (va_cwS 3 X.1.2.2.2.2 gX3_fencerOnLine_X3_isIn rfl rfl rfl (by decide +kernel) ⟨Nat.le_of_ble_eq_true rfl, Nat.le_of_ble_eq_true rfl⟩) rfl rfl dX3_fencerOnLine_8, ?_⟩
  refine List.forall_mem_cons.mpr ⟨xs_ifeq (tg := 29) X dX3_fencerOnLine_11 rfl, ?_⟩
  refine List.forall_mem_cons.mpr ⟨xs_aload_n X dX3_fencerOnLine_14 rfl, ?_⟩
  refine List.forall_mem_cons.mpr ⟨xs_getf (C := RX3) (T := TX3) (N := 10) (ci := 4) (kf := 5) X (fun w h => List.mem_cons_of_mem _ (List.mem_append_right _ h)) rfl (by decide) (List.mem_of_getElem? (i := 2) rfl) (fun _ h => h) dX3_fencerOnLine_15, ?_⟩
  refine List.forall_mem_cons.mpr ⟨xs_iload_n X dX3_fencerOnLine_18 rfl, ?_⟩
  refine List.forall_mem_cons.mpr ⟨xs_iald (t0 := 0) X rfl dX3_fencerOnLine_19, ?_⟩
  refine List.forall_mem_cons.mpr ⟨xs_iconst X dX3_fencerOnLine_20 rfl, ?_⟩
  refine List.forall_mem_cons.mpr ⟨xs_bipush X dX3_fencerOnLine_21 rfl, ?_⟩
  refine List.forall_mem_cons.mpr ⟨xs_callS X (mpX3_isIn l D Y) (va_cwS 3 X.1.2.2.2.2 gX3_fencerOnLine_X3_isIn rfl rfl rfl (by decide +kernel) ⟨Nat.le_of_ble_eq_true rfl, Nat.le_of_ble_eq_true rfl⟩) rfl rfl dX3_fencerOnLine_23, ?_⟩
  refine List.forall_mem_cons.mpr ⟨xs_ifne (tg := 31) X dX3_fencerOnLine_26 rfl, ?_⟩
  refine List.forall_mem_cons.mpr ⟨xs_null X dX3_fencerOnLine_29, ?_⟩
  refine List.forall_mem_cons.mpr ⟨xs_aret X hr (Or.inl ⟨_, rfl⟩) hlocks dX3_fencerOnLine_30, ?_⟩
  refine List.forall_mem_cons.mpr ⟨xs_aload_n X dX3_fencerOnLine_31 rfl, ?_⟩
  refine List.forall_mem_cons.mpr ⟨xs_getf (C := RX3) (T := TX3) (N := 10) (ci := 4) (kf := 4) X (fun w h => List.mem_cons_of_mem _ (List.mem_append_right _ h)) rfl (by decide) (List.mem_of_getElem? (i := 3) rfl) (fun _ h => h) dX3_fencerOnLine_32, ?_⟩
  refine List.forall_mem_cons.mpr ⟨xs_aload_n X dX3_fencerOnLine_35 rfl, ?_⟩
  refine List.forall_mem_cons.mpr ⟨xs_getf (C := RX3) (T := TX3) (N := 10) (ci := 4) (kf := 5) X (fun w h => List.mem_cons_of_mem _ (List.mem_append_right _ h)) rfl (by decide) (List.mem_of_getElem? (i := 2) rfl) (fun _ h => h) dX3_fencerOnLine_36, ?_⟩
  refine List.forall_mem_cons.mpr ⟨xs_iload_n X dX3_fencerOnLine_39 rfl, ?_⟩
  refine List.forall_mem_cons.mpr ⟨xs_iald (t0 := 0) X rfl dX3_fencerOnLine_40, ?_⟩
  refine List.forall_mem_cons.mpr ⟨xs_aald (t0 := 3) X rfl dX3_fencerOnLine_41, ?_⟩
  refine List.forall_mem_cons.mpr ⟨xs_aret X hr (Or.inl ⟨_, rfl⟩) hlocks dX3_fencerOnLine_42, ?_⟩
  exact fun _ h => nomatch h
set_option maxRecDepth 100000 in
set_option maxHeartbeats 4000000 in
theorem mpX3_enteredOnLine (l : Launch) (D : va_G) (Y : xw_Y) : xw_MP l D vwCl (xw_ty Y) Y.1 yX3_enteredOnLine wsX3_enteredOnLine ({ frames := 2, cells := 0, slots := 0, locals := 43 } : Room) (ptX3_enteredOnLine Y) 0 0 := by
  refine xw_met (cc := cX3_enteredOnLine) (nL := 3) (ret := (some (.object "Pommel$Fencer"))) (by decide +kernel) rfl ?_
  intro p e s m args below meth c w0 post X hr hlocks hname
  unfold tbX3_enteredOnLine
  refine List.forall_mem_cons.mpr ⟨xs_aload_n X dX3_enteredOnLine_0 rfl, ?_⟩
  refine List.forall_mem_cons.mpr ⟨xs_iload_n X dX3_enteredOnLine_1 rfl, ?_⟩
  refine List.forall_mem_cons.mpr ⟨xs_callV (ci := 4) X (mpX3_fencerOnLine l D Y) (cwV 1 X.1.2.2.2.2 gX3_enteredOnLine_X3_fencerOnLine rfl rfl rfl (by decide +kernel) ⟨Nat.le_of_ble_eq_true rfl, Nat.le_of_ble_eq_true rfl⟩) rfl rfl rfl rfl dX3_enteredOnLine_2, ?_⟩
  refine List.forall_mem_cons.mpr ⟨xs_astore_n X dX3_enteredOnLine_5 rfl (Nat.le_of_ble_eq_true rfl), ?_⟩
  refine List.forall_mem_cons.mpr ⟨xs_aload_n X dX3_enteredOnLine_6 rfl, ?_⟩
  refine List.forall_mem_cons.mpr ⟨xs_ifnull (tg := 20) X dX3_enteredOnLine_7 rfl, ?_⟩
  refine List.forall_mem_cons.mpr ⟨xs_aload_n X dX3_enteredOnLine_10 rfl, ?_⟩
  refine List.forall_mem_cons.mpr ⟨xs_iload_n X dX3_enteredOnLine_11 rfl, ?_⟩
  refine List.forall_mem_cons.mpr ⟨xs_putf (C := RX1) (T := TX1) (N := 14) (ci := 2) (kf := 12) X (fun w h => List.mem_cons_of_mem _ (List.mem_append_left _ (List.mem_append_right _ h))) tyX1 tyX1_ok nmX1 rfl (by decide) (List.mem_of_getElem? (i := 1) rfl) (fun _ h => h) rfl rfl dX3_enteredOnLine_12, ?_⟩
  refine List.forall_mem_cons.mpr ⟨xs_aload_n X dX3_enteredOnLine_15 rfl, ?_⟩
  refine List.forall_mem_cons.mpr ⟨xs_iconst X dX3_enteredOnLine_16 rfl, ?_⟩
  refine List.forall_mem_cons.mpr ⟨xs_putf (C := RX1) (T := TX1) (N := 14) (ci := 2) (kf := 13) X (fun w h => List.mem_cons_of_mem _ (List.mem_append_left _ (List.mem_append_right _ h))) tyX1 tyX1_ok nmX1 rfl (by decide) (List.mem_of_getElem? (i := 2) rfl) (fun _ h => h) rfl rfl dX3_enteredOnLine_17, ?_⟩
  refine List.forall_mem_cons.mpr ⟨xs_aload_n X dX3_enteredOnLine_20 rfl, ?_⟩
  refine List.forall_mem_cons.mpr ⟨xs_aret X hr (Or.inl ⟨_, rfl⟩) hlocks dX3_enteredOnLine_21, ?_⟩
  exact fun _ h => nomatch h
set_option maxRecDepth 100000 in
set_option maxHeartbeats 4000000 in
theorem mpX0_isKnown (l : Launch) (D : va_G) (Y : xw_Y) : xw_MP l D vwCl (xw_ty Y) Y.1 yX0_isKnown wsX0_isKnown ({ frames := 0, cells := 0, slots := 0, locals := 0 } : Room) (ptX0_isKnown Y) 0 0 := by
  refine xw_met (cc := cX0_isKnown) (nL := 1) (ret := (some .boolean)) (by decide +kernel) rfl ?_
  intro p e s m args below meth c w0 post X hr hlocks hname
  unfold tbX0_isKnown
  refine List.forall_mem_cons.mpr ⟨xs_aload_n X dX0_isKnown_0 rfl, ?_⟩
  refine List.forall_mem_cons.mpr ⟨xs_getf (C := RX0) (T := TX0) (N := 9) (ci := 1) (kf := 2) X (fun w h => List.mem_cons_of_mem _ (List.mem_append_left _ (List.mem_append_right _ h))) rfl (by decide) (List.mem_of_getElem? (i := 1) rfl) (fun _ h => h) dX0_isKnown_1, ?_⟩
  refine List.forall_mem_cons.mpr ⟨xs_getf (C := RX2) (T := TX2) (N := 3) (ci := 3) (kf := 0) X (fun w h => List.mem_cons_of_mem _ (List.mem_append_right _ h)) rfl (by decide) (List.mem_of_getElem? (i := 2) rfl) (fun _ h => h) dX0_isKnown_4, ?_⟩
  refine List.forall_mem_cons.mpr ⟨xs_ifnull (tg := 24) X dX0_isKnown_7 rfl, ?_⟩
  refine List.forall_mem_cons.mpr ⟨xs_aload_n X dX0_isKnown_10 rfl, ?_⟩
  refine List.forall_mem_cons.mpr ⟨xs_getf (C := RX0) (T := TX0) (N := 9) (ci := 1) (kf := 3) X (fun w h => List.mem_cons_of_mem _ (List.mem_append_left _ (List.mem_append_right _ h))) rfl (by decide) (List.mem_of_getElem? (i := 3) rfl) (fun _ h => h) dX0_isKnown_11, ?_⟩
  refine List.forall_mem_cons.mpr ⟨xs_getf (C := RX2) (T := TX2) (N := 3) (ci := 3) (kf := 0) X (fun w h => List.mem_cons_of_mem _ (List.mem_append_right _ h)) rfl (by decide) (List.mem_of_getElem? (i := 2) rfl) (fun _ h => h) dX0_isKnown_14, ?_⟩
  refine List.forall_mem_cons.mpr ⟨xs_ifnull (tg := 24) X dX0_isKnown_17 rfl, ?_⟩
  refine List.forall_mem_cons.mpr ⟨xs_iconst X dX0_isKnown_20 rfl, ?_⟩
  refine List.forall_mem_cons.mpr ⟨xs_goto (tg := 25) X dX0_isKnown_21 rfl, ?_⟩
  refine List.forall_mem_cons.mpr ⟨xs_iconst X dX0_isKnown_24 rfl, ?_⟩
  refine List.forall_mem_cons.mpr ⟨xs_iret X hr hlocks dX0_isKnown_25, ?_⟩
  exact fun _ h => nomatch h
set_option maxRecDepth 100000 in
set_option maxHeartbeats 4000000 in
theorem mpX1_count (l : Launch) (D : va_G) (Y : xw_Y) : xw_MP l D vwCl (xw_ty Y) Y.1 yX1_count wsX1_count ({ frames := 0, cells := 0, slots := 0, locals := 0 } : Room) (ptX1_count Y) 0 0 := by
  refine xw_met (cc := cX1_count) (nL := 5) (ret := none) (by decide +kernel) rfl ?_
  intro p e s m args below meth c w0 post X hr hlocks hname
  unfold tbX1_count
  refine List.forall_mem_cons.mpr ⟨xs_aload_n X dX1_count_0 rfl, ?_⟩
  refine List.forall_mem_cons.mpr ⟨xs_dup X dX1_count_1, ?_⟩
  refine List.forall_mem_cons.mpr ⟨xs_getf (C := RX1) (T := TX1) (N := 14) (ci := 2) (kf := 8) X (fun w h => List.mem_cons_of_mem _ (List.mem_append_right _ h)) rfl (by decide) (List.mem_of_getElem? (i := 1) rfl) (fun _ h => h) dX1_count_2, ?_⟩
  refine List.forall_mem_cons.mpr ⟨xs_iload X dX1_count_5, ?_⟩
  refine List.forall_mem_cons.mpr ⟨xs_iadd X dX1_count_7, ?_⟩
  refine List.forall_mem_cons.mpr ⟨xs_putf (C := RX1) (T := TX1) (N := 14) (ci := 2) (kf := 8) X (fun w h => List.mem_cons_of_mem _ (List.mem_append_right _ h)) tyX1 tyX1_ok nmX1 rfl (by decide) (List.mem_of_getElem? (i := 1) rfl) (fun _ h => h) rfl rfl dX1_count_8, ?_⟩
  refine List.forall_mem_cons.mpr ⟨xs_aload_n X dX1_count_11 rfl, ?_⟩
  refine List.forall_mem_cons.mpr ⟨xs_dup X dX1_count_12, ?_⟩
  refine List.forall_mem_cons.mpr ⟨xs_getf (C := RX1) (T := TX1) (N := 14) (ci := 2) (kf := 9) X (fun w h => List.mem_cons_of_mem _ (List.mem_append_right _ h)) rfl (by decide) (List.mem_of_getElem? (i := 2) rfl) (fun _ h => h) dX1_count_13, ?_⟩
  refine List.forall_mem_cons.mpr ⟨xs_iload_n X dX1_count_16 rfl, ?_⟩
  refine List.forall_mem_cons.mpr ⟨xs_ifeq (tg := 25) X dX1_count_17 rfl, ?_⟩
  refine List.forall_mem_cons.mpr ⟨xs_iload X dX1_count_20, ?_⟩
  refine List.forall_mem_cons.mpr ⟨xs_goto (tg := 26) X dX1_count_22 rfl, ?_⟩
  refine List.forall_mem_cons.mpr ⟨xs_iconst X dX1_count_25 rfl, ?_⟩
  refine List.forall_mem_cons.mpr ⟨xs_iadd X dX1_count_26, ?_⟩
  refine List.forall_mem_cons.mpr ⟨xs_putf (C := RX1) (T := TX1) (N := 14) (ci := 2) (kf := 9) X (fun w h => List.mem_cons_of_mem _ (List.mem_append_right _ h)) tyX1 tyX1_ok nmX1 rfl (by decide) (List.mem_of_getElem? (i := 2) rfl) (fun _ h => h) rfl rfl dX1_count_27, ?_⟩
  refine List.forall_mem_cons.mpr ⟨xs_aload_n X dX1_count_30 rfl, ?_⟩
  refine List.forall_mem_cons.mpr ⟨xs_dup X dX1_count_31, ?_⟩
  refine List.forall_mem_cons.mpr ⟨xs_getf (C := RX1) (T := TX1) (N := 14) (ci := 2) (kf := 10) X (fun w h => List.mem_cons_of_mem _ (List.mem_append_right _ h)) rfl (by decide) (List.mem_of_getElem? (i := 3) rfl) (fun _ h => h) dX1_count_32, ?_⟩
  refine List.forall_mem_cons.mpr ⟨xs_iload_n X dX1_count_35 rfl, ?_⟩
  refine List.forall_mem_cons.mpr ⟨xs_iload X dX1_count_36, ?_⟩
  refine List.forall_mem_cons.mpr ⟨xs_imul X dX1_count_38, ?_⟩
  refine List.forall_mem_cons.mpr ⟨xs_iadd X dX1_count_39, ?_⟩
  refine List.forall_mem_cons.mpr ⟨xs_putf (C := RX1) (T := TX1) (N := 14) (ci := 2) (kf := 10) X (fun w h => List.mem_cons_of_mem _ (List.mem_append_right _ h)) tyX1 tyX1_ok nmX1 rfl (by decide) (List.mem_of_getElem? (i := 3) rfl) (fun _ h => h) rfl rfl dX1_count_40, ?_⟩
  refine List.forall_mem_cons.mpr ⟨xs_aload_n X dX1_count_43 rfl, ?_⟩
  refine List.forall_mem_cons.mpr ⟨xs_dup X dX1_count_44, ?_⟩
  refine List.forall_mem_cons.mpr ⟨xs_getf (C := RX1) (T := TX1) (N := 14) (ci := 2) (kf := 11) X (fun w h => List.mem_cons_of_mem _ (List.mem_append_right _ h)) rfl (by decide) (List.mem_of_getElem? (i := 4) rfl) (fun _ h => h) dX1_count_45, ?_⟩
  refine List.forall_mem_cons.mpr ⟨xs_iload_n X dX1_count_48 rfl, ?_⟩
  refine List.forall_mem_cons.mpr ⟨xs_iload X dX1_count_49, ?_⟩
  refine List.forall_mem_cons.mpr ⟨xs_imul X dX1_count_51, ?_⟩
  refine List.forall_mem_cons.mpr ⟨xs_iadd X dX1_count_52, ?_⟩
  refine List.forall_mem_cons.mpr ⟨xs_putf (C := RX1) (T := TX1) (N := 14) (ci := 2) (kf := 11) X (fun w h => List.mem_cons_of_mem _ (List.mem_append_right _ h)) tyX1 tyX1_ok nmX1 rfl (by decide) (List.mem_of_getElem? (i := 4) rfl) (fun _ h => h) rfl rfl dX1_count_53, ?_⟩
  refine List.forall_mem_cons.mpr ⟨xs_vret X hr hlocks dX1_count_56, ?_⟩
  exact fun _ h => nomatch h
set_option maxRecDepth 100000 in
set_option maxHeartbeats 4000000 in
theorem mpX2_count (l : Launch) (D : va_G) (Y : xw_Y) : xw_MP l D vwCl (xw_ty Y) Y.1 yX2_count wsX2_count ({ frames := 1, cells := 0, slots := 0, locals := 24 } : Room) (ptX2_count Y) 0 0 := by
  refine xw_met (cc := cX2_count) (nL := 5) (ret := none) (by decide +kernel) rfl ?_
  intro p e s m args below meth c w0 post X hr hlocks hname
  unfold tbX2_count
  refine List.forall_mem_cons.mpr ⟨xs_aload_n X dX2_count_0 rfl, ?_⟩
  refine List.forall_mem_cons.mpr ⟨xs_getf (C := RX2) (T := TX2) (N := 3) (ci := 3) (kf := 0) X (fun w h => List.mem_cons_of_mem _ (List.mem_append_left _ (List.mem_append_right _ h))) rfl (by decide) (List.mem_of_getElem? (i := 1) rfl) (fun _ h => h) dX2_count_1, ?_⟩
  refine List.forall_mem_cons.mpr ⟨xs_ifnull (tg := 31) X dX2_count_4 rfl, ?_⟩
  refine List.forall_mem_cons.mpr ⟨xs_aload_n X dX2_count_7 rfl, ?_⟩
  refine List.forall_mem_cons.mpr ⟨xs_getf (C := RX2) (T := TX2) (N := 3) (ci := 3) (kf := 0) X (fun w h => List.mem_cons_of_mem _ (List.mem_append_left _ (List.mem_append_right _ h))) rfl (by decide) (List.mem_of_getElem? (i := 1) rfl) (fun _ h => h) dX2_count_8, ?_⟩
  refine List.forall_mem_cons.mpr ⟨xs_aload_n X dX2_count_11 rfl, ?_⟩
  refine List.forall_mem_cons.mpr ⟨xs_aload_n X dX2_count_12 rfl, ?_⟩
  refine List.forall_mem_cons.mpr ⟨xs_getf (C := RX2) (T := TX2) (N := 3) (ci := 3) (kf := 0) X (fun w h => List.mem_cons_of_mem _ (List.mem_append_left _ (List.mem_append_right _ h))) rfl (by decide) (List.mem_of_getElem? (i := 1) rfl) (fun _ h => h) dX2_count_13, ?_⟩
  refine List.forall_mem_cons.mpr ⟨xs_acmpne (tg := 23) X dX2_count_16 rfl, ?_⟩
  refine List.forall_mem_cons.mpr ⟨xs_iconst X dX2_count_19 rfl, ?_⟩
  refine List.forall_mem_cons.mpr ⟨xs_goto (tg := 24) X dX2_count_20 rfl, ?_⟩
  refine List.forall_mem_cons.mpr ⟨xs_iconst X dX2_count_23 rfl, ?_⟩
  refine List.forall_mem_cons.mpr ⟨xs_iload_n X dX2_count_24 rfl, ?_⟩
  refine List.forall_mem_cons.mpr ⟨xs_iload_n X dX2_count_25 rfl, ?_⟩
  refine List.forall_mem_cons.mpr ⟨xs_iload X dX2_count_26, ?_⟩
  refine List.forall_mem_cons.mpr ⟨xs_callV (ci := 2) X (mpX1_count l D Y) (cwV 4 X.1.2.2.2.2 gX2_count_X1_count rfl rfl rfl (by decide +kernel) ⟨Nat.le_of_ble_eq_true rfl, Nat.le_of_ble_eq_true rfl⟩) rfl rfl rfl rfl dX2_count_28, ?_⟩
  refine List.forall_mem_cons.mpr ⟨xs_vret X hr hlocks dX2_count_31, ?_⟩
  exact fun _ h => nomatch h
set_option maxRecDepth 100000 in
set_option maxHeartbeats 4000000 in
theorem mpX0_count (l : Launch) (D : va_G) (Y : xw_Y) : xw_MP l D vwCl (xw_ty Y) Y.1 yX0_count wsX0_count ({ frames := 2, cells := 0, slots := 0, locals := 48 } : Room) (ptX0_count Y) 0 0 := by
  refine xw_met (cc := cX0_count) (nL := 5) (ret := none) (by decide +kernel) rfl ?_
  intro p e s m args below meth c w0 post X hr hlocks hname
  unfold tbX0_count
  refine List.forall_mem_cons.mpr ⟨xs_aload_n X dX0_count_0 rfl, ?_⟩
  refine List.forall_mem_cons.mpr ⟨xs_getf (C := RX0) (T := TX0) (N := 9) (ci := 1) (kf := 2) X (fun w h => List.mem_cons_of_mem _ (List.mem_append_left _ (List.mem_append_left _ (List.mem_append_right _ h)))) rfl (by decide) (List.mem_of_getElem? (i := 1) rfl) (fun _ h => h) dX0_count_1, ?_⟩
  refine List.forall_mem_cons.mpr ⟨xs_aload_n X dX0_count_4 rfl, ?_⟩
  refine List.forall_mem_cons.mpr ⟨xs_iload_n X dX0_count_5 rfl, ?_⟩
  refine List.forall_mem_cons.mpr ⟨xs_iload_n X dX0_count_6 rfl, ?_⟩
  refine List.forall_mem_cons.mpr ⟨xs_iload X dX0_count_7, ?_⟩
  refine List.forall_mem_cons.mpr ⟨xs_callV (ci := 3) X (mpX2_count l D Y) (cwV 4 X.1.2.2.2.2 gX0_count_X2_count rfl rfl rfl (by decide +kernel) ⟨Nat.le_of_ble_eq_true rfl, Nat.le_of_ble_eq_true rfl⟩) rfl rfl rfl rfl dX0_count_9, ?_⟩
  refine List.forall_mem_cons.mpr ⟨xs_aload_n X dX0_count_12 rfl, ?_⟩
  refine List.forall_mem_cons.mpr ⟨xs_getf (C := RX0) (T := TX0) (N := 9) (ci := 1) (kf := 3) X (fun w h => List.mem_cons_of_mem _ (List.mem_append_left _ (List.mem_append_left _ (List.mem_append_right _ h)))) rfl (by decide) (List.mem_of_getElem? (i := 2) rfl) (fun _ h => h) dX0_count_13, ?_⟩
  refine List.forall_mem_cons.mpr ⟨xs_aload_n X dX0_count_16 rfl, ?_⟩
  refine List.forall_mem_cons.mpr ⟨xs_iload_n X dX0_count_17 rfl, ?_⟩
  refine List.forall_mem_cons.mpr ⟨xs_iload_n X dX0_count_18 rfl, ?_⟩
  refine List.forall_mem_cons.mpr ⟨xs_iload X dX0_count_19, ?_⟩
  refine List.forall_mem_cons.mpr ⟨xs_callV (ci := 3) X (mpX2_count l D Y) (cwV 4 X.1.2.2.2.2 gX0_count_X2_count rfl rfl rfl (by decide +kernel) ⟨Nat.le_of_ble_eq_true rfl, Nat.le_of_ble_eq_true rfl⟩) rfl rfl rfl rfl dX0_count_21, ?_⟩
  refine List.forall_mem_cons.mpr ⟨xs_vret X hr hlocks dX0_count_24, ?_⟩
  exact fun _ h => nomatch h
set_option maxRecDepth 100000 in
set_option maxHeartbeats 4000000 in
theorem mpX0_sideOf (l : Launch) (D : va_G) (Y : xw_Y) : xw_MP l D vwCl (xw_ty Y) Y.1 yX0_sideOf wsX0_sideOf ({ frames := 0, cells := 0, slots := 0, locals := 0 } : Room) (ptX0_sideOf Y) 0 0 := by
  refine xw_met (cc := cX0_sideOf) (nL := 2) (ret := (some (.object "Pommel$Side"))) (by decide +kernel) rfl ?_
  intro p e s m args below meth c w0 post X hr hlocks hname
  unfold tbX0_sideOf
  refine List.forall_mem_cons.mpr ⟨xs_iload_n X dX0_sideOf_0 rfl, ?_⟩
  refine List.forall_mem_cons.mpr ⟨xs_ifne (tg := 11) X dX0_sideOf_1 rfl, ?_⟩
  refine List.forall_mem_cons.mpr ⟨xs_aload_n X dX0_sideOf_4 rfl, ?_⟩
  refine List.forall_mem_cons.mpr ⟨xs_getf (C := RX0) (T := TX0) (N := 9) (ci := 1) (kf := 2) X (fun w h => List.mem_cons_of_mem _ (List.mem_append_right _ h)) rfl (by decide) (List.mem_of_getElem? (i := 1) rfl) (fun _ h => h) dX0_sideOf_5, ?_⟩
  refine List.forall_mem_cons.mpr ⟨xs_goto (tg := 15) X dX0_sideOf_8 rfl, ?_⟩
  refine List.forall_mem_cons.mpr ⟨xs_aload_n X dX0_sideOf_11 rfl, ?_⟩
  refine List.forall_mem_cons.mpr ⟨xs_getf (C := RX0) (T := TX0) (N := 9) (ci := 1) (kf := 3) X (fun w h => List.mem_cons_of_mem _ (List.mem_append_right _ h)) rfl (by decide) (List.mem_of_getElem? (i := 2) rfl) (fun _ h => h) dX0_sideOf_12, ?_⟩
  refine List.forall_mem_cons.mpr ⟨xs_aret X hr (Or.inl ⟨_, rfl⟩) hlocks dX0_sideOf_15, ?_⟩
  exact fun _ h => nomatch h
set_option maxRecDepth 100000 in
set_option maxHeartbeats 4000000 in
theorem mpX3_goOnInTable (l : Launch) (D : va_G) (Y : xw_Y) : xw_MP l D vwCl (xw_ty Y) Y.1 yX3_goOnInTable wsX3_goOnInTable ({ frames := 3, cells := 0, slots := 0, locals := 64 } : Room) (ptX3_goOnInTable Y) 0 0 := by
  refine xw_met (cc := cX3_goOnInTable) (nL := 4) (ret := none) (by decide +kernel) rfl ?_
  intro p e s m args below meth c w0 post X hr hlocks hname
  unfold tbX3_goOnInTable
  refine List.forall_mem_cons.mpr ⟨xs_aload_n X dX3_goOnInTable_0 rfl, ?_⟩
  refine List.forall_mem_cons.mpr ⟨xs_getf (C := RX0) (T := TX0) (N := 9) (ci := 1) (kf := 0) X (fun w h => List.mem_cons_of_mem _ (List.mem_append_left _ (List.mem_append_left _ (List.mem_append_left _ (List.mem_append_right _ h))))) rfl (by decide) (List.mem_of_getElem? (i := 1) rfl) (fun _ h => h) dX3_goOnInTable_1, ?_⟩
  refine List.forall_mem_cons.mpr ⟨xs_aload_n X dX3_goOnInTable_4 rfl, ?_⟩
  refine List.forall_mem_cons.mpr ⟨xs_getf (C := RX3) (T := TX3) (N := 10) (ci := 4) (kf := 9) X (fun w h => List.mem_cons_of_mem _ (List.mem_append_left _ (List.mem_append_left _ (List.mem_append_right _ h)))) rfl (by decide) (List.mem_of_getElem? (i := 2) rfl) (fun _ h => h) dX3_goOnInTable_5, ?_⟩
  refine List.forall_mem_cons.mpr ⟨xs_isub X dX3_goOnInTable_8, ?_⟩
  refine List.forall_mem_cons.mpr ⟨xs_istore_n X dX3_goOnInTable_9 rfl (Nat.le_of_ble_eq_true rfl), ?_⟩
  refine List.forall_mem_cons.mpr ⟨xs_aload_n X dX3_goOnInTable_10 rfl, ?_⟩
  refine List.forall_mem_cons.mpr ⟨xs_getf (C := RX3) (T := TX3) (N := 10) (ci := 4) (kf := 9) X (fun w h => List.mem_cons_of_mem _ (List.mem_append_left _ (List.mem_append_left _ (List.mem_append_right _ h)))) rfl (by decide) (List.mem_of_getElem? (i := 2) rfl) (fun _ h => h) dX3_goOnInTable_11, ?_⟩
  refine List.forall_mem_cons.mpr ⟨xs_aload_n X dX3_goOnInTable_14 rfl, ?_⟩
  refine List.forall_mem_cons.mpr ⟨xs_getf (C := RX3) (T := TX3) (N := 10) (ci := 4) (kf := 8) X (fun w h => List.mem_cons_of_mem _ (List.mem_append_left _ (List.mem_append_left _ (List.mem_append_right _ h)))) rfl (by decide) (List.mem_of_getElem? (i := 3) rfl) (fun _ h => h) dX3_goOnInTable_15, ?_⟩
  refine List.forall_mem_cons.mpr ⟨xs_iconst X dX3_goOnInTable_18 rfl, ?_⟩
  refine List.forall_mem_cons.mpr ⟨xs_idiv X dX3_goOnInTable_19, ?_⟩
  refine List.forall_mem_cons.mpr ⟨xs_iadd X dX3_goOnInTable_20, ?_⟩
  refine List.forall_mem_cons.mpr ⟨xs_iload_n X dX3_goOnInTable_21 rfl, ?_⟩
  refine List.forall_mem_cons.mpr ⟨xs_iconst X dX3_goOnInTable_22 rfl, ?_⟩
  refine List.forall_mem_cons.mpr ⟨xs_idiv X dX3_goOnInTable_23, ?_⟩
  refine List.forall_mem_cons.mpr ⟨xs_iadd X dX3_goOnInTable_24, ?_⟩
  refine List.forall_mem_cons.mpr ⟨xs_istore_n X dX3_goOnInTable_25 rfl (Nat.le_of_ble_eq_true rfl), ?_⟩
  refine List.forall_mem_cons.mpr ⟨xs_iload_n X dX3_goOnInTable_26 rfl, ?_⟩
  refine List.forall_mem_cons.mpr ⟨xs_iconst X dX3_goOnInTable_27 rfl, ?_⟩
  refine List.forall_mem_cons.mpr ⟨xs_aload_n X dX3_goOnInTable_28 rfl, ?_⟩
  refine List.forall_mem_cons.mpr ⟨xs_getf (C := RX3) (T := TX3) (N := 10) (ci := 4) (kf := 1) X (fun w h => List.mem_cons_of_mem _ (List.mem_append_left _ (List.mem_append_left _ (List.mem_append_right _ h)))) rfl (by decide) (List.mem_of_getElem? (i := 4) rfl) (fun _ h => h) dX3_goOnInTable_29, ?_⟩
  refine List.forall_mem_cons.mpr ⟨xs_callV (ci := 0) X (mpJx4a65c_size_8abf5 l D Y) (cwV 0 X.1.2.2.2.2 gX3_goOnInTable_Jx4a65c_size_8abf5 rfl rfl rfl (by decide +kernel) ⟨Nat.le_of_ble_eq_true rfl, Nat.le_of_ble_eq_true rfl⟩) rfl rfl rfl rfl dX3_goOnInTable_32, ?_⟩
  refine List.forall_mem_cons.mpr ⟨xs_iconst X dX3_goOnInTable_35 rfl, ?_⟩
  refine List.forall_mem_cons.mpr ⟨xs_isub X dX3_goOnInTable_36, ?_⟩
  refine List.forall_mem_cons.mpr ⟨xs_callS X (mpX3_isIn l D Y) (va_cwS 3 X.1.2.2.2.2 gX3_goOnInTable_X3_isIn rfl rfl rfl (by decide +kernel) ⟨Nat.le_of_ble_eq_true rfl, Nat.le_of_ble_eq_true rfl⟩) rfl rfl dX3_goOnInTable_37, ?_⟩
  refine List.forall_mem_cons.mpr ⟨xs_ifeq (tg := 67) X dX3_goOnInTable_40 rfl, ?_⟩
  refine List.forall_mem_cons.mpr ⟨xs_aload_n X dX3_goOnInTable_43 rfl, ?_⟩
  refine List.forall_mem_cons.mpr ⟨xs_getf (C := RX3) (T := TX3) (N := 10) (ci := 4) (kf := 1) X (fun w h => List.mem_cons_of_mem _ (List.mem_append_left _ (List.mem_append_left _ (List.mem_append_right _ h)))) rfl (by decide) (List.mem_of_getElem? (i := 4) rfl) (fun _ h => h) dX3_goOnInTable_44, ?_⟩
  refine List.forall_mem_cons.mpr ⟨xs_iload_n X dX3_goOnInTable_47 rfl, ?_⟩
  refine List.forall_mem_cons.mpr ⟨xs_callV (ci := 0) X (mpJx4a65c_get_915e3 l D Y) (cwV 1 X.1.2.2.2.2 gX3_goOnInTable_Jx4a65c_get_915e3 rfl rfl rfl (by decide +kernel) ⟨Nat.le_of_ble_eq_true rfl, Nat.le_of_ble_eq_true rfl⟩) rfl rfl rfl rfl dX3_goOnInTable_48, ?_⟩
  refine List.forall_mem_cons.mpr ⟨xs_cast (C := RX0) (T := TX0) (N := 9) (ci := 1) X rfl (List.mem_of_getElem? (i := 5) rfl) dX3_goOnInTable_51, ?_⟩
  refine List.forall_mem_cons.mpr ⟨xs_iload_n X dX3_goOnInTable_54 rfl, ?_⟩
  refine List.forall_mem_cons.mpr ⟨xs_iconst X dX3_goOnInTable_55 rfl, ?_⟩
  refine List.forall_mem_cons.mpr ⟨xs_irem X dX3_goOnInTable_56, ?_⟩
  refine List.forall_mem_cons.mpr ⟨xs_callV (ci := 1) X (mpX0_sideOf l D Y) (cwV 1 X.1.2.2.2.2 gX3_goOnInTable_X0_sideOf rfl rfl rfl (by decide +kernel) ⟨Nat.le_of_ble_eq_true rfl, Nat.le_of_ble_eq_true rfl⟩) rfl rfl rfl rfl dX3_goOnInTable_57, ?_⟩
  refine List.forall_mem_cons.mpr ⟨xs_aload_n X dX3_goOnInTable_60 rfl, ?_⟩
  refine List.forall_mem_cons.mpr ⟨xs_getf (C := RX0) (T := TX0) (N := 9) (ci := 1) (kf := 5) X (fun w h => List.mem_cons_of_mem _ (List.mem_append_left _ (List.mem_append_left _ (List.mem_append_left _ (List.mem_append_right _ h))))) rfl (by decide) (List.mem_of_getElem? (i := 6) rfl) (fun _ h => h) dX3_goOnInTable_61, ?_⟩
  refine List.forall_mem_cons.mpr ⟨xs_putf (C := RX2) (T := TX2) (N := 3) (ci := 3) (kf := 0) X (fun w h => List.mem_cons_of_mem _ (List.mem_append_left _ (List.mem_append_right _ h))) tyX2 tyX2_ok nmX2 rfl (by decide) (List.mem_of_getElem? (i := 7) rfl) (fun _ h => h) rfl rfl dX3_goOnInTable_64, ?_⟩
  refine List.forall_mem_cons.mpr ⟨xs_vret X hr hlocks dX3_goOnInTable_67, ?_⟩
  exact fun _ h => nomatch h
set_option maxRecDepth 100000 in
set_option maxHeartbeats 4000000 in
theorem mpX3_decide (l : Launch) (D : va_G) (Y : xw_Y) : xw_MP l D vwCl (xw_ty Y) Y.1 yX3_decide wsX3_decide ({ frames := 4, cells := 0, slots := 0, locals := 87 } : Room) (ptX3_decide Y) 0 0 := by
  refine xw_met (cc := cX3_decide) (nL := 4) (ret := none) (by decide +kernel) rfl ?_
  intro p e s m args below meth c w0 post X hr hlocks hname
  unfold tbX3_decide
  refine List.forall_mem_cons.mpr ⟨xs_aload_n X dX3_decide_0 rfl, ?_⟩
  refine List.forall_mem_cons.mpr ⟨xs_iconst X dX3_decide_1 rfl, ?_⟩
  refine List.forall_mem_cons.mpr ⟨xs_putf (C := RX0) (T := TX0) (N := 9) (ci := 1) (kf := 4) X (fun w h => List.mem_cons_of_mem _ (List.mem_append_left _ (List.mem_append_left _ (List.mem_append_left _ (List.mem_append_left _ (List.mem_append_right _ h)))))) tyX0 tyX0_ok nmX0 rfl (by decide) (List.mem_of_getElem? (i := 1) rfl) (fun _ h => h) rfl rfl dX3_decide_2, ?_⟩
  refine List.forall_mem_cons.mpr ⟨xs_aload_n X dX3_decide_5 rfl, ?_⟩
  refine List.forall_mem_cons.mpr ⟨xs_aload_n X dX3_decide_6 rfl, ?_⟩
  refine List.forall_mem_cons.mpr ⟨xs_putf (C := RX0) (T := TX0) (N := 9) (ci := 1) (kf := 5) X (fun w h => List.mem_cons_of_mem _ (List.mem_append_left _ (List.mem_append_left _ (List.mem_append_left _ (List.mem_append_left _ (List.mem_append_right _ h)))))) tyX0 tyX0_ok nmX0 rfl (by decide) (List.mem_of_getElem? (i := 2) rfl) (fun _ h => h) rfl rfl dX3_decide_7, ?_⟩
  refine List.forall_mem_cons.mpr ⟨xs_aload_n X dX3_decide_10 rfl, ?_⟩
  refine List.forall_mem_cons.mpr ⟨xs_callV (ci := 1) X (mpX0_isOfTable l D Y) (cwV 0 X.1.2.2.2.2 gX3_decide_X0_isOfTable rfl rfl rfl (by decide +kernel) ⟨Nat.le_of_ble_eq_true rfl, Nat.le_of_ble_eq_true rfl⟩) rfl rfl rfl rfl dX3_decide_11, ?_⟩
  refine List.forall_mem_cons.mpr ⟨xs_ifne (tg := 38) X dX3_decide_14 rfl, ?_⟩
  refine List.forall_mem_cons.mpr ⟨xs_aload_n X dX3_decide_17 rfl, ?_⟩
  refine List.forall_mem_cons.mpr ⟨xs_aload_n X dX3_decide_18 rfl, ?_⟩
  refine List.forall_mem_cons.mpr ⟨xs_aload_n X dX3_decide_19 rfl, ?_⟩
  refine List.forall_mem_cons.mpr ⟨xs_getf (C := RX0) (T := TX0) (N := 9) (ci := 1) (kf := 2) X (fun w h => List.mem_cons_of_mem _ (List.mem_append_left _ (List.mem_append_left _ (List.mem_append_left _ (List.mem_append_left _ (List.mem_append_right _ h)))))) rfl (by decide) (List.mem_of_getElem? (i := 3) rfl) (fun _ h => h) dX3_decide_20, ?_⟩
  refine List.forall_mem_cons.mpr ⟨xs_getf (C := RX2) (T := TX2) (N := 3) (ci := 3) (kf := 1) X (fun w h => List.mem_cons_of_mem _ (List.mem_append_left _ (List.mem_append_left _ (List.mem_append_left _ (List.mem_append_right _ h))))) rfl (by decide) (List.mem_of_getElem? (i := 4) rfl) (fun _ h => h) dX3_decide_23, ?_⟩
  refine List.forall_mem_cons.mpr ⟨xs_aload_n X dX3_decide_26 rfl, ?_⟩
  refine List.forall_mem_cons.mpr ⟨xs_getf (C := RX0) (T := TX0) (N := 9) (ci := 1) (kf := 3) X (fun w h => List.mem_cons_of_mem _ (List.mem_append_left _ (List.mem_append_left _ (List.mem_append_left _ (List.mem_append_left _ (List.mem_append_right _ h)))))) rfl (by decide) (List.mem_of_getElem? (i := 5) rfl) (fun _ h => h) dX3_decide_27, ?_⟩
  refine List.forall_mem_cons.mpr ⟨xs_getf (C := RX2) (T := TX2) (N := 3) (ci := 3) (kf := 1) X (fun w h => List.mem_cons_of_mem _ (List.mem_append_left _ (List.mem_append_left _ (List.mem_append_left _ (List.mem_append_right _ h))))) rfl (by decide) (List.mem_of_getElem? (i := 4) rfl) (fun _ h => h) dX3_decide_30, ?_⟩
  refine List.forall_mem_cons.mpr ⟨xs_iconst X dX3_decide_33 rfl, ?_⟩
  refine List.forall_mem_cons.mpr ⟨xs_callV (ci := 1) X (mpX0_count l D Y) (cwV 4 X.1.2.2.2.2 gX3_decide_X0_count rfl rfl rfl (by decide +kernel) ⟨Nat.le_of_ble_eq_true rfl, Nat.le_of_ble_eq_true rfl⟩) rfl rfl rfl rfl dX3_decide_34, ?_⟩
  refine List.forall_mem_cons.mpr ⟨xs_vret X hr hlocks dX3_decide_37, ?_⟩
  refine List.forall_mem_cons.mpr ⟨xs_aload_n X dX3_decide_38 rfl, ?_⟩
  refine List.forall_mem_cons.mpr ⟨xs_getf (C := RX0) (T := TX0) (N := 9) (ci := 1) (kf := 2) X (fun w h => List.mem_cons_of_mem _ (List.mem_append_left _ (List.mem_append_left _ (List.mem_append_left _ (List.mem_append_left _ (List.mem_append_right _ h)))))) rfl (by decide) (List.mem_of_getElem? (i := 3) rfl) (fun _ h => h) dX3_decide_39, ?_⟩
  refine List.forall_mem_cons.mpr ⟨xs_getf (C := RX2) (T := TX2) (N := 3) (ci := 3) (kf := 0) X (fun w h => List.mem_cons_of_mem _ (List.mem_append_left _ (List.mem_append_left _ (List.mem_append_left _ (List.mem_append_right _ h))))) rfl (by decide) (List.mem_of_getElem? (i := 6) rfl) (fun _ h => h) dX3_decide_42, ?_⟩
  refine List.forall_mem_cons.mpr ⟨xs_aload_n X dX3_decide_45 rfl, ?_⟩
  refine List.forall_mem_cons.mpr ⟨xs_acmpne (tg := 59) X dX3_decide_46 rfl, ?_⟩
  refine List.forall_mem_cons.mpr ⟨xs_aload_n X dX3_decide_49 rfl, ?_⟩
  refine List.forall_mem_cons.mpr ⟨xs_getf (C := RX0) (T := TX0) (N := 9) (ci := 1) (kf := 3) X (fun w h => List.mem_cons_of_mem _ (List.mem_append_left _ (List.mem_append_left _ (List.mem_append_left _ (List.mem_append_left _ (List.mem_append_right _ h)))))) rfl (by decide) (List.mem_of_getElem? (i := 5) rfl) (fun _ h => h) dX3_decide_50, ?_⟩
  refine List.forall_mem_cons.mpr ⟨xs_getf (C := RX2) (T := TX2) (N := 3) (ci := 3) (kf := 0) X (fun w h => List.mem_cons_of_mem _ (List.mem_append_left _ (List.mem_append_left _ (List.mem_append_left _ (List.mem_append_right _ h))))) rfl (by decide) (List.mem_of_getElem? (i := 6) rfl) (fun _ h => h) dX3_decide_53, ?_⟩
  refine List.forall_mem_cons.mpr ⟨xs_goto (tg := 66) X dX3_decide_56 rfl, ?_⟩
  refine List.forall_mem_cons.mpr ⟨xs_aload_n X dX3_decide_59 rfl, ?_⟩
  refine List.forall_mem_cons.mpr ⟨xs_getf (C := RX0) (T := TX0) (N := 9) (ci := 1) (kf := 2) X (fun w h => List.mem_cons_of_mem _ (List.mem_append_left _ (List.mem_append_left _ (List.mem_append_left _ (List.mem_append_left _ (List.mem_append_right _ h)))))) rfl (by decide) (List.mem_of_getElem? (i := 3) rfl) (fun _ h => h) dX3_decide_60, ?_⟩
  refine List.forall_mem_cons.mpr ⟨xs_getf (C := RX2) (T := TX2) (N := 3) (ci := 3) (kf := 0) X (fun w h => List.mem_cons_of_mem _ (List.mem_append_left _ (List.mem_append_left _ (List.mem_append_left _ (List.mem_append_right _ h))))) rfl (by decide) (List.mem_of_getElem? (i := 6) rfl) (fun _ h => h) dX3_decide_63, ?_⟩
  refine List.forall_mem_cons.mpr ⟨xs_astore_n X dX3_decide_66 rfl (Nat.le_of_ble_eq_true rfl), ?_⟩
  refine List.forall_mem_cons.mpr ⟨xs_aload_n X dX3_decide_67 rfl, ?_⟩
  refine List.forall_mem_cons.mpr ⟨xs_ifnull (tg := 79) X dX3_decide_68 rfl, ?_⟩
  refine List.forall_mem_cons.mpr ⟨xs_aload_n X dX3_decide_71 rfl, ?_⟩
  refine List.forall_mem_cons.mpr ⟨xs_aload_n X dX3_decide_72 rfl, ?_⟩
  refine List.forall_mem_cons.mpr ⟨xs_getf (C := RX0) (T := TX0) (N := 9) (ci := 1) (kf := 1) X (fun w h => List.mem_cons_of_mem _ (List.mem_append_left _ (List.mem_append_left _ (List.mem_append_left _ (List.mem_append_left _ (List.mem_append_right _ h)))))) rfl (by decide) (List.mem_of_getElem? (i := 7) rfl) (fun _ h => h) dX3_decide_73, ?_⟩
  refine List.forall_mem_cons.mpr ⟨xs_putf (C := RX1) (T := TX1) (N := 14) (ci := 2) (kf := 13) X (fun w h => List.mem_cons_of_mem _ (List.mem_append_left _ (List.mem_append_left _ (List.mem_append_right _ h)))) tyX1 tyX1_ok nmX1 rfl (by decide) (List.mem_of_getElem? (i := 8) rfl) (fun _ h => h) rfl rfl dX3_decide_76, ?_⟩
  refine List.forall_mem_cons.mpr ⟨xs_aload_n X dX3_decide_79 rfl, ?_⟩
  refine List.forall_mem_cons.mpr ⟨xs_aload_n X dX3_decide_80 rfl, ?_⟩
  refine List.forall_mem_cons.mpr ⟨xs_callV (ci := 4) X (mpX3_goOnInTable l D Y) (cwV 1 X.1.2.2.2.2 gX3_decide_X3_goOnInTable rfl rfl rfl (by decide +kernel) ⟨Nat.le_of_ble_eq_true rfl, Nat.le_of_ble_eq_true rfl⟩) rfl rfl rfl rfl dX3_decide_81, ?_⟩
  refine List.forall_mem_cons.mpr ⟨xs_vret X hr hlocks dX3_decide_84, ?_⟩
  exact fun _ h => nomatch h
set_option maxRecDepth 100000 in
set_option maxHeartbeats 4000000 in
theorem mpX3_decideWithoutOther (l : Launch) (D : va_G) (Y : xw_Y) : xw_MP l D vwCl (xw_ty Y) Y.1 yX3_decideWithoutOther wsX3_decideWithoutOther ({ frames := 5, cells := 0, slots := 0, locals := 110 } : Room) (ptX3_decideWithoutOther Y) 0 0 := by
  refine xw_met (cc := cX3_decideWithoutOther) (nL := 4) (ret := none) (by decide +kernel) rfl ?_
  intro p e s m args below meth c w0 post X hr hlocks hname
  unfold tbX3_decideWithoutOther
  refine List.forall_mem_cons.mpr ⟨xs_iconst X dX3_decideWithoutOther_0 rfl, ?_⟩
  refine List.forall_mem_cons.mpr ⟨xs_istore_n X dX3_decideWithoutOther_1 rfl (Nat.le_of_ble_eq_true rfl), ?_⟩
  refine List.forall_mem_cons.mpr ⟨xs_iload_n X dX3_decideWithoutOther_2 rfl, ?_⟩
  refine List.forall_mem_cons.mpr ⟨xs_aload_n X dX3_decideWithoutOther_3 rfl, ?_⟩
  refine List.forall_mem_cons.mpr ⟨xs_getf (C := RX3) (T := TX3) (N := 10) (ci := 4) (kf := 8) X (fun w h => List.mem_cons_of_mem _ (List.mem_append_left _ (List.mem_append_left _ (List.mem_append_left _ (List.mem_append_left _ (List.mem_append_right _ h)))))) rfl (by decide) (List.mem_of_getElem? (i := 1) rfl) (fun _ h => h) dX3_decideWithoutOther_4, ?_⟩
  refine List.forall_mem_cons.mpr ⟨xs_iconst X dX3_decideWithoutOther_7 rfl, ?_⟩
  refine List.forall_mem_cons.mpr ⟨xs_idiv X dX3_decideWithoutOther_8, ?_⟩
  refine List.forall_mem_cons.mpr ⟨xs_icmpge (tg := 94) X dX3_decideWithoutOther_9 rfl, ?_⟩
  refine List.forall_mem_cons.mpr ⟨xs_aload_n X dX3_decideWithoutOther_12 rfl, ?_⟩
  refine List.forall_mem_cons.mpr ⟨xs_getf (C := RX3) (T := TX3) (N := 10) (ci := 4) (kf := 9) X (fun w h => List.mem_cons_of_mem _ (List.mem_append_left _ (List.mem_append_left _ (List.mem_append_left _ (List.mem_append_left _ (List.mem_append_right _ h)))))) rfl (by decide) (List.mem_of_getElem? (i := 2) rfl) (fun _ h => h) dX3_decideWithoutOther_13, ?_⟩
  refine List.forall_mem_cons.mpr ⟨xs_iload_n X dX3_decideWithoutOther_16 rfl, ?_⟩
  refine List.forall_mem_cons.mpr ⟨xs_iadd X dX3_decideWithoutOther_17, ?_⟩
  refine List.forall_mem_cons.mpr ⟨xs_istore_n X dX3_decideWithoutOther_18 rfl (Nat.le_of_ble_eq_true rfl), ?_⟩
  refine List.forall_mem_cons.mpr ⟨xs_iload_n X dX3_decideWithoutOther_19 rfl, ?_⟩
  refine List.forall_mem_cons.mpr ⟨xs_iconst X dX3_decideWithoutOther_20 rfl, ?_⟩
  refine List.forall_mem_cons.mpr ⟨xs_aload_n X dX3_decideWithoutOther_21 rfl, ?_⟩
  refine List.forall_mem_cons.mpr ⟨xs_getf (C := RX3) (T := TX3) (N := 10) (ci := 4) (kf := 1) X (fun w h => List.mem_cons_of_mem _ (List.mem_append_left _ (List.mem_append_left _ (List.mem_append_left _ (List.mem_append_left _ (List.mem_append_right _ h)))))) rfl (by decide) (List.mem_of_getElem? (i := 3) rfl) (fun _ h => h) dX3_decideWithoutOther_22, ?_⟩
  refine List.forall_mem_cons.mpr ⟨xs_callV (ci := 0) X (mpJx4a65c_size_8abf5 l D Y) (cwV 0 X.1.2.2.2.2 gX3_decideWithoutOther_Jx4a65c_size_8abf5 rfl rfl rfl (by decide +kernel) ⟨Nat.le_of_ble_eq_true rfl, Nat.le_of_ble_eq_true rfl⟩) rfl rfl rfl rfl dX3_decideWithoutOther_25, ?_⟩
  refine List.forall_mem_cons.mpr ⟨xs_iconst X dX3_decideWithoutOther_28 rfl, ?_⟩
  refine List.forall_mem_cons.mpr ⟨xs_isub X dX3_decideWithoutOther_29, ?_⟩
  refine List.forall_mem_cons.mpr ⟨xs_callS X (mpX3_isIn l D Y) (va_cwS 3 X.1.2.2.2.2 gX3_decideWithoutOther_X3_isIn rfl rfl rfl (by decide +kernel) ⟨Nat.le_of_ble_eq_true rfl, Nat.le_of_ble_eq_true rfl⟩) rfl rfl dX3_decideWithoutOther_30, ?_⟩
  refine List.forall_mem_cons.mpr ⟨xs_ifne (tg := 37) X dX3_decideWithoutOther_33 rfl, ?_⟩
  refine List.forall_mem_cons.mpr ⟨xs_vret X hr hlocks dX3_decideWithoutOther_36, ?_⟩
  refine List.forall_mem_cons.mpr ⟨xs_aload_n X dX3_decideWithoutOther_37 rfl, ?_⟩
  refine List.forall_mem_cons.mpr ⟨xs_getf (C := RX3) (T := TX3) (N := 10) (ci := 4) (kf := 1) X (fun w h => List.mem_cons_of_mem _ (List.mem_append_left _ (List.mem_append_left _ (List.mem_append_left _ (List.mem_append_left _ (List.mem_append_right _ h)))))) rfl (by decide) (List.mem_of_getElem? (i := 3) rfl) (fun _ h => h) dX3_decideWithoutOther_38, ?_⟩
  refine List.forall_mem_cons.mpr ⟨xs_iload_n X dX3_decideWithoutOther_41 rfl, ?_⟩
  refine List.forall_mem_cons.mpr ⟨xs_callV (ci := 0) X (mpJx4a65c_get_915e3 l D Y) (cwV 1 X.1.2.2.2.2 gX3_decideWithoutOther_Jx4a65c_get_915e3 rfl rfl rfl (by decide +kernel) ⟨Nat.le_of_ble_eq_true rfl, Nat.le_of_ble_eq_true rfl⟩) rfl rfl rfl rfl dX3_decideWithoutOther_42, ?_⟩
  refine List.forall_mem_cons.mpr ⟨xs_cast (C := RX0) (T := TX0) (N := 9) (ci := 1) X rfl (List.mem_of_getElem? (i := 4) rfl) dX3_decideWithoutOther_45, ?_⟩
  refine List.forall_mem_cons.mpr ⟨xs_astore_n X dX3_decideWithoutOther_48 rfl (Nat.le_of_ble_eq_true rfl), ?_⟩
  refine List.forall_mem_cons.mpr ⟨xs_aload_n X dX3_decideWithoutOther_49 rfl, ?_⟩
  refine List.forall_mem_cons.mpr ⟨xs_callV (ci := 1) X (mpX0_isKnown l D Y) (cwV 0 X.1.2.2.2.2 gX3_decideWithoutOther_X0_isKnown rfl rfl rfl (by decide +kernel) ⟨Nat.le_of_ble_eq_true rfl, Nat.le_of_ble_eq_true rfl⟩) rfl rfl rfl rfl dX3_decideWithoutOther_50, ?_⟩
  refine List.forall_mem_cons.mpr ⟨xs_ifne (tg := 88) X dX3_decideWithoutOther_53 rfl, ?_⟩
  refine List.forall_mem_cons.mpr ⟨xs_aload_n X dX3_decideWithoutOther_56 rfl, ?_⟩
  refine List.forall_mem_cons.mpr ⟨xs_aload_n X dX3_decideWithoutOther_57 rfl, ?_⟩
  refine List.forall_mem_cons.mpr ⟨xs_aload_n X dX3_decideWithoutOther_58 rfl, ?_⟩
  refine List.forall_mem_cons.mpr ⟨xs_getf (C := RX0) (T := TX0) (N := 9) (ci := 1) (kf := 2) X (fun w h => List.mem_cons_of_mem _ (List.mem_append_left _ (List.mem_append_left _ (List.mem_append_left _ (List.mem_append_right _ h))))) rfl (by decide) (List.mem_of_getElem? (i := 5) rfl) (fun _ h => h) dX3_decideWithoutOther_59, ?_⟩
  refine List.forall_mem_cons.mpr ⟨xs_getf (C := RX2) (T := TX2) (N := 3) (ci := 3) (kf := 0) X (fun w h => List.mem_cons_of_mem _ (List.mem_append_left _ (List.mem_append_left _ (List.mem_append_right _ h)))) rfl (by decide) (List.mem_of_getElem? (i := 6) rfl) (fun _ h => h) dX3_decideWithoutOther_62, ?_⟩
  refine List.forall_mem_cons.mpr ⟨xs_ifnonnull (tg := 78) X dX3_decideWithoutOther_65 rfl, ?_⟩
  refine List.forall_mem_cons.mpr ⟨xs_aload_n X dX3_decideWithoutOther_68 rfl, ?_⟩
  refine List.forall_mem_cons.mpr ⟨xs_getf (C := RX0) (T := TX0) (N := 9) (ci := 1) (kf := 3) X (fun w h => List.mem_cons_of_mem _ (List.mem_append_left _ (List.mem_append_left _ (List.mem_append_left _ (List.mem_append_right _ h))))) rfl (by decide) (List.mem_of_getElem? (i := 7) rfl) (fun _ h => h) dX3_decideWithoutOther_69, ?_⟩
  refine List.forall_mem_cons.mpr ⟨xs_getf (C := RX2) (T := TX2) (N := 3) (ci := 3) (kf := 0) X (fun w h => List.mem_cons_of_mem _ (List.mem_append_left _ (List.mem_append_left _ (List.mem_append_right _ h)))) rfl (by decide) (List.mem_of_getElem? (i := 6) rfl) (fun _ h => h) dX3_decideWithoutOther_72, ?_⟩
  refine List.forall_mem_cons.mpr ⟨xs_goto (tg := 85) X dX3_decideWithoutOther_75 rfl, ?_⟩
  refine List.forall_mem_cons.mpr ⟨xs_aload_n X dX3_decideWithoutOther_78 rfl, ?_⟩
  refine List.forall_mem_cons.mpr ⟨xs_getf (C := RX0) (T := TX0) (N := 9) (ci := 1) (kf := 2) X (fun w h => List.mem_cons_of_mem _ (List.mem_append_left _ (List.mem_append_left _ (List.mem_append_left _ (List.mem_append_right _ h))))) rfl (by decide) (List.mem_of_getElem? (i := 5) rfl) (fun _ h => h) dX3_decideWithoutOther_79, ?_⟩
  refine List.forall_mem_cons.mpr ⟨xs_getf (C := RX2) (T := TX2) (N := 3) (ci := 3) (kf := 0) X (fun w h => List.mem_cons_of_mem _ (List.mem_append_left _ (List.mem_append_left _ (List.mem_append_right _ h)))) rfl (by decide) (List.mem_of_getElem? (i := 6) rfl) (fun _ h => h) dX3_decideWithoutOther_82, ?_⟩
  refine List.forall_mem_cons.mpr ⟨xs_callV (ci := 4) X (mpX3_decide l D Y) (cwV 2 X.1.2.2.2.2 gX3_decideWithoutOther_X3_decide rfl rfl rfl (by decide +kernel) ⟨Nat.le_of_ble_eq_true rfl, Nat.le_of_ble_eq_true rfl⟩) rfl rfl rfl rfl dX3_decideWithoutOther_85, ?_⟩
  refine List.forall_mem_cons.mpr ⟨xs_iinc X dX3_decideWithoutOther_88 rfl (Nat.le_of_ble_eq_true rfl), ?_⟩
  refine List.forall_mem_cons.mpr ⟨xs_goto (tg := 2) X dX3_decideWithoutOther_91 rfl, ?_⟩
  refine List.forall_mem_cons.mpr ⟨xs_vret X hr hlocks dX3_decideWithoutOther_94, ?_⟩
  exact fun _ h => nomatch h
set_option maxRecDepth 100000 in
set_option maxHeartbeats 4000000 in
theorem mpX3_addTableBouts (l : Launch) (D : va_G) (Y : xw_Y) : xw_MP l D vwCl (xw_ty Y) Y.1 yX3_addTableBouts wsX3_addTableBouts ({ frames := 7, cells := 60, slots := 3300, locals := 157 } : Room) (ptX3_addTableBouts Y) 60 3300 := by
  refine xw_met (cc := cX3_addTableBouts) (nL := 4) (ret := none) (by decide +kernel) rfl ?_
  intro p e s m args below meth c w0 post X hr hlocks hname
  unfold tbX3_addTableBouts
  refine List.forall_mem_cons.mpr ⟨xs_aload_n X dX3_addTableBouts_0 rfl, ?_⟩
  refine List.forall_mem_cons.mpr ⟨xs_aload_n X dX3_addTableBouts_1 rfl, ?_⟩
  refine List.forall_mem_cons.mpr ⟨xs_getf (C := RX3) (T := TX3) (N := 10) (ci := 4) (kf := 1) X (fun w h => List.mem_cons_of_mem _ (List.mem_append_left _ (List.mem_append_left _ (List.mem_append_left _ (List.mem_append_left _ (List.mem_append_right _ h)))))) rfl (by decide) (List.mem_of_getElem? (i := 1) rfl) (fun _ h => h) dX3_addTableBouts_2, ?_⟩
  refine List.forall_mem_cons.mpr ⟨xs_callV (ci := 0) X (mpJx4a65c_size_8abf5 l D Y) (cwV 0 X.1.2.2.2.2 gX3_addTableBouts_Jx4a65c_size_8abf5 rfl rfl rfl (by decide +kernel) ⟨Nat.le_of_ble_eq_true rfl, Nat.le_of_ble_eq_true rfl⟩) rfl rfl rfl rfl dX3_addTableBouts_5, ?_⟩
  refine List.forall_mem_cons.mpr ⟨xs_putf (C := RX3) (T := TX3) (N := 10) (ci := 4) (kf := 9) X (fun w h => List.mem_cons_of_mem _ (List.mem_append_left _ (List.mem_append_left _ (List.mem_append_left _ (List.mem_append_left _ (List.mem_append_right _ h)))))) tyX3 tyX3_ok nmX3 rfl (by decide) (List.mem_of_getElem? (i := 2) rfl) (fun _ h => h) rfl rfl dX3_addTableBouts_8, ?_⟩
  refine List.forall_mem_cons.mpr ⟨xs_iconst X dX3_addTableBouts_11 rfl, ?_⟩
  refine List.forall_mem_cons.mpr ⟨xs_istore_n X dX3_addTableBouts_12 rfl (Nat.le_of_ble_eq_true rfl), ?_⟩
  refine List.forall_mem_cons.mpr ⟨xs_iload_n X dX3_addTableBouts_13 rfl, ?_⟩
  refine List.forall_mem_cons.mpr ⟨xs_aload_n X dX3_addTableBouts_14 rfl, ?_⟩
  refine List.forall_mem_cons.mpr ⟨xs_getf (C := RX3) (T := TX3) (N := 10) (ci := 4) (kf := 8) X (fun w h => List.mem_cons_of_mem _ (List.mem_append_left _ (List.mem_append_left _ (List.mem_append_left _ (List.mem_append_left _ (List.mem_append_right _ h)))))) rfl (by decide) (List.mem_of_getElem? (i := 3) rfl) (fun _ h => h) dX3_addTableBouts_15, ?_⟩
  refine List.forall_mem_cons.mpr ⟨xs_iconst X dX3_addTableBouts_18 rfl, ?_⟩
  refine List.forall_mem_cons.mpr ⟨xs_idiv X dX3_addTableBouts_19, ?_⟩
  refine List.forall_mem_cons.mpr ⟨xs_icmpge (tg := 72) X dX3_addTableBouts_20 rfl, ?_⟩
  refine List.forall_mem_cons.mpr ⟨xs_aload_n X dX3_addTableBouts_23 rfl, ?_⟩
  refine List.forall_mem_cons.mpr ⟨xs_iconst X dX3_addTableBouts_24 rfl, ?_⟩
  refine List.forall_mem_cons.mpr ⟨xs_iload_n X dX3_addTableBouts_25 rfl, ?_⟩
  refine List.forall_mem_cons.mpr ⟨xs_imul X dX3_addTableBouts_26, ?_⟩
  refine List.forall_mem_cons.mpr ⟨xs_callV (ci := 4) X (mpX3_enteredOnLine l D Y) (cwV 1 X.1.2.2.2.2 gX3_addTableBouts_X3_enteredOnLine rfl rfl rfl (by decide +kernel) ⟨Nat.le_of_ble_eq_true rfl, Nat.le_of_ble_eq_true rfl⟩) rfl rfl rfl rfl dX3_addTableBouts_27, ?_⟩
  refine List.forall_mem_cons.mpr ⟨xs_astore_n X dX3_addTableBouts_30 rfl (Nat.le_of_ble_eq_true rfl), ?_⟩
  refine List.forall_mem_cons.mpr ⟨xs_aload_n X dX3_addTableBouts_31 rfl, ?_⟩
  refine List.forall_mem_cons.mpr ⟨xs_iconst X dX3_addTableBouts_32 rfl, ?_⟩
  refine List.forall_mem_cons.mpr ⟨xs_iload_n X dX3_addTableBouts_33 rfl, ?_⟩
  refine List.forall_mem_cons.mpr ⟨xs_imul X dX3_addTableBouts_34, ?_⟩
  refine List.forall_mem_cons.mpr ⟨xs_iconst X dX3_addTableBouts_35 rfl, ?_⟩
  refine List.forall_mem_cons.mpr ⟨xs_iadd X dX3_addTableBouts_36, ?_⟩
  refine List.forall_mem_cons.mpr ⟨xs_callV (ci := 4) X (mpX3_enteredOnLine l D Y) (cwV 1 X.1.2.2.2.2 gX3_addTableBouts_X3_enteredOnLine rfl rfl rfl (by decide +kernel) ⟨Nat.le_of_ble_eq_true rfl, Nat.le_of_ble_eq_true rfl⟩) rfl rfl rfl rfl dX3_addTableBouts_37, ?_⟩
  refine List.forall_mem_cons.mpr ⟨xs_astore_n X dX3_addTableBouts_40 rfl (Nat.le_of_ble_eq_true rfl), ?_⟩
  refine List.forall_mem_cons.mpr ⟨xs_aload_n X dX3_addTableBouts_41 rfl, ?_⟩
  refine List.forall_mem_cons.mpr ⟨xs_getf (C := RX3) (T := TX3) (N := 10) (ci := 4) (kf := 1) X (fun w h => List.mem_cons_of_mem _ (List.mem_append_left _ (List.mem_append_left _ (List.mem_append_left _ (List.mem_append_left _ (List.mem_append_right _ h)))))) rfl (by decide) (List.mem_of_getElem? (i := 1) rfl) (fun _ h => h) dX3_addTableBouts_42, ?_⟩
  refine List.forall_mem_cons.mpr ⟨xs_new (C := RX0) (T := TX0) (N := 9) (ci := 1) X (fun w h => List.mem_cons_of_mem _ (List.mem_append_left _ (List.mem_append_left _ (List.mem_append_left _ (List.mem_append_right _ h))))) tyX0 tyX0_ok rfl (List.mem_of_getElem? (i := 4) rfl) (List.mem_of_getElem? (i := 5) rfl) (List.mem_of_getElem? (i := 6) rfl) (fun j hj => by
      match j, hj with
      | 0, _ => rfl
      | 1, _ => rfl
      | 2, _ => rfl
      | 3, _ => rfl
      | 4, _ => rfl
      | 5, _ => rfl
      | 6, _ => rfl
      | 7, _ => rfl
      | 8, _ => rfl
      | n + 9, h => exact absurd h (by omega)) rfl rfl dX3_addTableBouts_45, ?_⟩
  refine List.forall_mem_cons.mpr ⟨xs_dup X dX3_addTableBouts_48, ?_⟩
  refine List.forall_mem_cons.mpr ⟨xs_aload_n X dX3_addTableBouts_49 rfl, ?_⟩
  refine List.forall_mem_cons.mpr ⟨xs_getf (C := RX3) (T := TX3) (N := 10) (ci := 4) (kf := 1) X (fun w h => List.mem_cons_of_mem _ (List.mem_append_left _ (List.mem_append_left _ (List.mem_append_left _ (List.mem_append_left _ (List.mem_append_right _ h)))))) rfl (by decide) (List.mem_of_getElem? (i := 1) rfl) (fun _ h => h) dX3_addTableBouts_50, ?_⟩
  refine List.forall_mem_cons.mpr ⟨xs_callV (ci := 0) X (mpJx4a65c_size_8abf5 l D Y) (cwV 0 X.1.2.2.2.2 gX3_addTableBouts_Jx4a65c_size_8abf5 rfl rfl rfl (by decide +kernel) ⟨Nat.le_of_ble_eq_true rfl, Nat.le_of_ble_eq_true rfl⟩) rfl rfl rfl rfl dX3_addTableBouts_53, ?_⟩
  refine List.forall_mem_cons.mpr ⟨xs_iconst X dX3_addTableBouts_56 rfl, ?_⟩
  refine List.forall_mem_cons.mpr ⟨xs_aload_n X dX3_addTableBouts_57 rfl, ?_⟩
  refine List.forall_mem_cons.mpr ⟨xs_aload_n X dX3_addTableBouts_58 rfl, ?_⟩
  refine List.forall_mem_cons.mpr ⟨xs_callI X (mpX0_init l D Y) (cwI 4 X.1.2.2.2.2 gX3_addTableBouts_X0_init rfl rfl rfl (X.1.2.2.2.2 _ (List.mem_of_getElem? (i := 6) rfl)) (X.1.2.2.2.2 _ (List.mem_of_getElem? (i := 29) rfl)) (X.1.2.2.2.2 _ (List.mem_of_getElem? (i := 30) rfl)) rfl (by decide +kernel) ⟨Nat.le_of_ble_eq_true rfl, Nat.le_of_ble_eq_true rfl⟩) rfl rfl dX3_addTableBouts_59, ?_⟩
  refine List.forall_mem_cons.mpr ⟨xs_callV (ci := 0) X (mpJx4a65c_add_9ea2d l D Y) (cwV 1 X.1.2.2.2.2 gX3_addTableBouts_Jx4a65c_add_9ea2d rfl rfl rfl (by decide +kernel) ⟨Nat.le_of_ble_eq_true rfl, Nat.le_of_ble_eq_true rfl⟩) rfl rfl rfl rfl dX3_addTableBouts_62, ?_⟩
  refine List.forall_mem_cons.mpr ⟨xs_pop X dX3_addTableBouts_65, ?_⟩
  refine List.forall_mem_cons.mpr ⟨xs_iinc X dX3_addTableBouts_66 rfl (Nat.le_of_ble_eq_true rfl), ?_⟩
  refine List.forall_mem_cons.mpr ⟨xs_goto (tg := 13) X dX3_addTableBouts_69 rfl, ?_⟩
  refine List.forall_mem_cons.mpr ⟨xs_iconst X dX3_addTableBouts_72 rfl, ?_⟩
  refine List.forall_mem_cons.mpr ⟨xs_istore_n X dX3_addTableBouts_73 rfl (Nat.le_of_ble_eq_true rfl), ?_⟩
  refine List.forall_mem_cons.mpr ⟨xs_aload_n X dX3_addTableBouts_74 rfl, ?_⟩
  refine List.forall_mem_cons.mpr ⟨xs_getf (C := RX3) (T := TX3) (N := 10) (ci := 4) (kf := 8) X (fun w h => List.mem_cons_of_mem _ (List.mem_append_left _ (List.mem_append_left _ (List.mem_append_left _ (List.mem_append_left _ (List.mem_append_right _ h)))))) rfl (by decide) (List.mem_of_getElem? (i := 3) rfl) (fun _ h => h) dX3_addTableBouts_75, ?_⟩
  refine List.forall_mem_cons.mpr ⟨xs_iconst X dX3_addTableBouts_78 rfl, ?_⟩
  refine List.forall_mem_cons.mpr ⟨xs_idiv X dX3_addTableBouts_79, ?_⟩
  refine List.forall_mem_cons.mpr ⟨xs_istore_n X dX3_addTableBouts_80 rfl (Nat.le_of_ble_eq_true rfl), ?_⟩
  refine List.forall_mem_cons.mpr ⟨xs_iload_n X dX3_addTableBouts_81 rfl, ?_⟩
  refine List.forall_mem_cons.mpr ⟨xs_ifle (tg := 133) X dX3_addTableBouts_82 rfl, ?_⟩
  refine List.forall_mem_cons.mpr ⟨xs_iconst X dX3_addTableBouts_85 rfl, ?_⟩
  refine List.forall_mem_cons.mpr ⟨xs_istore_n X dX3_addTableBouts_86 rfl (Nat.le_of_ble_eq_true rfl), ?_⟩
  refine List.forall_mem_cons.mpr ⟨xs_iload_n X dX3_addTableBouts_87 rfl, ?_⟩
  refine List.forall_mem_cons.mpr ⟨xs_iload_n X dX3_addTableBouts_88 rfl, ?_⟩
  refine List.forall_mem_cons.mpr ⟨xs_icmpge (tg := 123) X dX3_addTableBouts_89 rfl, ?_⟩
  refine List.forall_mem_cons.mpr ⟨xs_aload_n X dX3_addTableBouts_92 rfl, ?_⟩
  refine List.forall_mem_cons.mpr ⟨xs_getf (C := RX3) (T := TX3) (N := 10) (ci := 4) (kf := 1) X (fun w h => List.mem_cons_of_mem _ (List.mem_append_left _ (List.mem_append_left _ (List.mem_append_left _ (List.mem_append_left _ (List.mem_append_right _ h)))))) rfl (by decide) (List.mem_of_getElem? (i := 1) rfl) (fun _ h => h) dX3_addTableBouts_93, ?_⟩
  refine List.forall_mem_cons.mpr ⟨xs_new (C := RX0) (T := TX0) (N := 9) (ci := 1) X (fun w h => List.mem_cons_of_mem _ (List.mem_append_left _ (List.mem_append_left _ (List.mem_append_left _ (List.mem_append_right _ h))))) tyX0 tyX0_ok rfl (List.mem_of_getElem? (i := 4) rfl) (List.mem_of_getElem? (i := 5) rfl) (List.mem_of_getElem? (i := 6) rfl) (fun j hj => by
      match j, hj with
      | 0, _ => rfl
      | 1, _ => rfl
      | 2, _ => rfl
      | 3, _ => rfl
      | 4, _ => rfl
      | 5, _ => rfl
      | 6, _ => rfl
      | 7, _ => rfl
      | 8, _ => rfl
      | n + 9, h => exact absurd h (by omega)) rfl rfl dX3_addTableBouts_96, ?_⟩
  refine List.forall_mem_cons.mpr ⟨xs_dup X dX3_addTableBouts_99, ?_⟩
  refine List.forall_mem_cons.mpr ⟨xs_aload_n X dX3_addTableBouts_100 rfl, ?_⟩
  refine List.forall_mem_cons.mpr ⟨xs_getf (C := RX3) (T := TX3) (N := 10) (ci := 4) (kf := 1) X (fun w h => List.mem_cons_of_mem _ (List.mem_append_left _ (List.mem_append_left _ (List.mem_append_left _ (List.mem_append_left _ (List.mem_append_right _ h)))))) rfl (by decide) (List.mem_of_getElem? (i := 1) rfl) (fun _ h => h) dX3_addTableBouts_101, ?_⟩
  refine List.forall_mem_cons.mpr ⟨xs_callV (ci := 0) X (mpJx4a65c_size_8abf5 l D Y) (cwV 0 X.1.2.2.2.2 gX3_addTableBouts_Jx4a65c_size_8abf5 rfl rfl rfl (by decide +kernel) ⟨Nat.le_of_ble_eq_true rfl, Nat.le_of_ble_eq_true rfl⟩) rfl rfl rfl rfl dX3_addTableBouts_104, ?_⟩
  refine List.forall_mem_cons.mpr ⟨xs_iload_n X dX3_addTableBouts_107 rfl, ?_⟩
  refine List.forall_mem_cons.mpr ⟨xs_null X dX3_addTableBouts_108, ?_⟩
  refine List.forall_mem_cons.mpr ⟨xs_null X dX3_addTableBouts_109, ?_⟩
  refine List.forall_mem_cons.mpr ⟨xs_callI X (mpX0_init l D Y) (cwI 4 X.1.2.2.2.2 gX3_addTableBouts_X0_init rfl rfl rfl (X.1.2.2.2.2 _ (List.mem_of_getElem? (i := 6) rfl)) (X.1.2.2.2.2 _ (List.mem_of_getElem? (i := 29) rfl)) (X.1.2.2.2.2 _ (List.mem_of_getElem? (i := 30) rfl)) rfl (by decide +kernel) ⟨Nat.le_of_ble_eq_true rfl, Nat.le_of_ble_eq_true rfl⟩) rfl rfl dX3_addTableBouts_110, ?_⟩
  refine List.forall_mem_cons.mpr ⟨xs_callV (ci := 0) X (mpJx4a65c_add_9ea2d l D Y) (cwV 1 X.1.2.2.2.2 gX3_addTableBouts_Jx4a65c_add_9ea2d rfl rfl rfl (by decide +kernel) ⟨Nat.le_of_ble_eq_true rfl, Nat.le_of_ble_eq_true rfl⟩) rfl rfl rfl rfl dX3_addTableBouts_113, ?_⟩
  refine List.forall_mem_cons.mpr ⟨xs_pop X dX3_addTableBouts_116, ?_⟩
  refine List.forall_mem_cons.mpr ⟨xs_iinc X dX3_addTableBouts_117 rfl (Nat.le_of_ble_eq_true rfl), ?_⟩
  refine List.forall_mem_cons.mpr ⟨xs_goto (tg := 87) X dX3_addTableBouts_120 rfl, ?_⟩
  refine List.forall_mem_cons.mpr ⟨xs_iinc X dX3_addTableBouts_123 rfl (Nat.le_of_ble_eq_true rfl), ?_⟩
  refine List.forall_mem_cons.mpr ⟨xs_iload_n X dX3_addTableBouts_126 rfl, ?_⟩
  refine List.forall_mem_cons.mpr ⟨xs_iconst X dX3_addTableBouts_127 rfl, ?_⟩
  refine List.forall_mem_cons.mpr ⟨xs_idiv X dX3_addTableBouts_128, ?_⟩
  refine List.forall_mem_cons.mpr ⟨xs_istore_n X dX3_addTableBouts_129 rfl (Nat.le_of_ble_eq_true rfl), ?_⟩
  refine List.forall_mem_cons.mpr ⟨xs_goto (tg := 81) X dX3_addTableBouts_130 rfl, ?_⟩
  refine List.forall_mem_cons.mpr ⟨xs_aload_n X dX3_addTableBouts_133 rfl, ?_⟩
  refine List.forall_mem_cons.mpr ⟨xs_callV (ci := 4) X (mpX3_decideWithoutOther l D Y) (cwV 0 X.1.2.2.2.2 gX3_addTableBouts_X3_decideWithoutOther rfl rfl rfl (by decide +kernel) ⟨Nat.le_of_ble_eq_true rfl, Nat.le_of_ble_eq_true rfl⟩) rfl rfl rfl rfl dX3_addTableBouts_134, ?_⟩
  refine List.forall_mem_cons.mpr ⟨xs_vret X hr hlocks dX3_addTableBouts_137, ?_⟩
  exact fun _ h => nomatch h
