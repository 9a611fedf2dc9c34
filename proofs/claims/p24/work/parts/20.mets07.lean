set_option maxRecDepth 100000 in
set_option maxHeartbeats 4000000 in
theorem mpX3_withFencer (l : Launch) (D : va_G) (Y : xw_Y) : xw_MP l D vwCl (xw_ty Y) Y.1 yX3_withFencer wsX3_withFencer ({ frames := 5, cells := 0, slots := 0, locals := 110 } : Room) (ptX3_withFencer Y) 0 0 := by
  refine xw_met (cc := cX3_withFencer) (nL := 7) (ret := (some .long)) (by decide +kernel) rfl ?_
  intro p e s m args below meth c w0 post X hr hlocks hname
  unfold tbX3_withFencer
  refine List.forall_mem_cons.mpr ⟨xs_lload_n X dX3_withFencer_0 rfl, ?_⟩
  refine List.forall_mem_cons.mpr ⟨xs_lstore X dX3_withFencer_1 (Nat.le_of_ble_eq_true rfl), ?_⟩
  refine List.forall_mem_cons.mpr ⟨xs_iconst X dX3_withFencer_3 rfl, ?_⟩
  refine List.forall_mem_cons.mpr ⟨xs_istore X dX3_withFencer_4 (Nat.le_of_ble_eq_true rfl), ?_⟩
  refine List.forall_mem_cons.mpr ⟨xs_iload X dX3_withFencer_6, ?_⟩
  refine List.forall_mem_cons.mpr ⟨xs_bipush X dX3_withFencer_8 rfl, ?_⟩
  refine List.forall_mem_cons.mpr ⟨xs_icmpgt (tg := 36) X dX3_withFencer_10 rfl, ?_⟩
  refine List.forall_mem_cons.mpr ⟨xs_lload X dX3_withFencer_13, ?_⟩
  refine List.forall_mem_cons.mpr ⟨xs_ldc2 X (List.mem_of_getElem? (i := 1) rfl) dX3_withFencer_15, ?_⟩
  refine List.forall_mem_cons.mpr ⟨xs_lmul X dX3_withFencer_18, ?_⟩
  refine List.forall_mem_cons.mpr ⟨xs_aload_n X dX3_withFencer_19 rfl, ?_⟩
  refine List.forall_mem_cons.mpr ⟨xs_iload_n X dX3_withFencer_20 rfl, ?_⟩
  refine List.forall_mem_cons.mpr ⟨xs_iload X dX3_withFencer_21, ?_⟩
  refine List.forall_mem_cons.mpr ⟨xs_callV (ci := 4) X (mpX3_of l D Y) (cwV 2 X.1.2.2.2.2 gX3_withFencer_X3_of rfl rfl rfl (by decide +kernel) ⟨Nat.le_of_ble_eq_true rfl, Nat.le_of_ble_eq_true rfl⟩) rfl rfl rfl rfl dX3_withFencer_23, ?_⟩
  refine List.forall_mem_cons.mpr ⟨xs_i2l X dX3_withFencer_26, ?_⟩
  refine List.forall_mem_cons.mpr ⟨xs_ladd X dX3_withFencer_27, ?_⟩
  refine List.forall_mem_cons.mpr ⟨xs_lstore X dX3_withFencer_28 (Nat.le_of_ble_eq_true rfl), ?_⟩
  refine List.forall_mem_cons.mpr ⟨xs_iinc X dX3_withFencer_30 rfl (Nat.le_of_ble_eq_true rfl), ?_⟩
  refine List.forall_mem_cons.mpr ⟨xs_goto (tg := 6) X dX3_withFencer_33 rfl, ?_⟩
  refine List.forall_mem_cons.mpr ⟨xs_iconst X dX3_withFencer_36 rfl, ?_⟩
  refine List.forall_mem_cons.mpr ⟨xs_istore X dX3_withFencer_37 (Nat.le_of_ble_eq_true rfl), ?_⟩
  refine List.forall_mem_cons.mpr ⟨xs_iload X dX3_withFencer_39, ?_⟩
  refine List.forall_mem_cons.mpr ⟨xs_iconst X dX3_withFencer_41 rfl, ?_⟩
  refine List.forall_mem_cons.mpr ⟨xs_icmpgt (tg := 68) X dX3_withFencer_42 rfl, ?_⟩
  refine List.forall_mem_cons.mpr ⟨xs_lload X dX3_withFencer_45, ?_⟩
  refine List.forall_mem_cons.mpr ⟨xs_ldc2 X (List.mem_of_getElem? (i := 1) rfl) dX3_withFencer_47, ?_⟩
  refine List.forall_mem_cons.mpr ⟨xs_lmul X dX3_withFencer_50, ?_⟩
  refine List.forall_mem_cons.mpr ⟨xs_aload_n X dX3_withFencer_51 rfl, ?_⟩
  refine List.forall_mem_cons.mpr ⟨xs_iload_n X dX3_withFencer_52 rfl, ?_⟩
  refine List.forall_mem_cons.mpr ⟨xs_iload X dX3_withFencer_53, ?_⟩
  refine List.forall_mem_cons.mpr ⟨xs_callV (ci := 4) X (mpX3_order l D Y) (cwV 2 X.1.2.2.2.2 gX3_withFencer_X3_order rfl rfl rfl (by decide +kernel) ⟨Nat.le_of_ble_eq_true rfl, Nat.le_of_ble_eq_true rfl⟩) rfl rfl rfl rfl dX3_withFencer_55, ?_⟩
  refine List.forall_mem_cons.mpr ⟨xs_i2l X dX3_withFencer_58, ?_⟩
  refine List.forall_mem_cons.mpr ⟨xs_ladd X dX3_withFencer_59, ?_⟩
  refine List.forall_mem_cons.mpr ⟨xs_lstore X dX3_withFencer_60 (Nat.le_of_ble_eq_true rfl), ?_⟩
  refine List.forall_mem_cons.mpr ⟨xs_iinc X dX3_withFencer_62 rfl (Nat.le_of_ble_eq_true rfl), ?_⟩
  refine List.forall_mem_cons.mpr ⟨xs_goto (tg := 39) X dX3_withFencer_65 rfl, ?_⟩
  refine List.forall_mem_cons.mpr ⟨xs_lload X dX3_withFencer_68, ?_⟩
  refine List.forall_mem_cons.mpr ⟨xs_ldc2 X (List.mem_of_getElem? (i := 1) rfl) dX3_withFencer_70, ?_⟩
  refine List.forall_mem_cons.mpr ⟨xs_lmul X dX3_withFencer_73, ?_⟩
  refine List.forall_mem_cons.mpr ⟨xs_aload_n X dX3_withFencer_74 rfl, ?_⟩
  refine List.forall_mem_cons.mpr ⟨xs_iload_n X dX3_withFencer_75 rfl, ?_⟩
  refine List.forall_mem_cons.mpr ⟨xs_callV (ci := 4) X (mpX3_place l D Y) (cwV 1 X.1.2.2.2.2 gX3_withFencer_X3_place rfl rfl rfl (by decide +kernel) ⟨Nat.le_of_ble_eq_true rfl, Nat.le_of_ble_eq_true rfl⟩) rfl rfl rfl rfl dX3_withFencer_76, ?_⟩
  refine List.forall_mem_cons.mpr ⟨xs_i2l X dX3_withFencer_79, ?_⟩
  refine List.forall_mem_cons.mpr ⟨xs_ladd X dX3_withFencer_80, ?_⟩
  refine List.forall_mem_cons.mpr ⟨xs_lstore X dX3_withFencer_81 (Nat.le_of_ble_eq_true rfl), ?_⟩
  refine List.forall_mem_cons.mpr ⟨xs_lload X dX3_withFencer_83, ?_⟩
  refine List.forall_mem_cons.mpr ⟨xs_ldc2 X (List.mem_of_getElem? (i := 1) rfl) dX3_withFencer_85, ?_⟩
  refine List.forall_mem_cons.mpr ⟨xs_lmul X dX3_withFencer_88, ?_⟩
  refine List.forall_mem_cons.mpr ⟨xs_aload_n X dX3_withFencer_89 rfl, ?_⟩
  refine List.forall_mem_cons.mpr ⟨xs_iload_n X dX3_withFencer_90 rfl, ?_⟩
  refine List.forall_mem_cons.mpr ⟨xs_callV (ci := 4) X (mpX3_voidWith l D Y) (cwV 1 X.1.2.2.2.2 gX3_withFencer_X3_voidWith rfl rfl rfl (by decide +kernel) ⟨Nat.le_of_ble_eq_true rfl, Nat.le_of_ble_eq_true rfl⟩) rfl rfl rfl rfl dX3_withFencer_91, ?_⟩
  refine List.forall_mem_cons.mpr ⟨xs_i2l X dX3_withFencer_94, ?_⟩
  refine List.forall_mem_cons.mpr ⟨xs_ladd X dX3_withFencer_95, ?_⟩
  refine List.forall_mem_cons.mpr ⟨xs_lret X hr hlocks dX3_withFencer_96, ?_⟩
  exact fun _ h => nomatch h
set_option maxRecDepth 100000 in
set_option maxHeartbeats 4000000 in
theorem mpX3_withBout (l : Launch) (D : va_G) (Y : xw_Y) : xw_MP l D vwCl (xw_ty Y) Y.1 yX3_withBout wsX3_withBout ({ frames := 5, cells := 0, slots := 0, locals := 108 } : Room) (ptX3_withBout Y) 0 0 := by
  refine xw_met (cc := cX3_withBout) (nL := 7) (ret := (some .long)) (by decide +kernel) rfl ?_
  intro p e s m args below meth c w0 post X hr hlocks hname
  unfold tbX3_withBout
  refine List.forall_mem_cons.mpr ⟨xs_lload_n X dX3_withBout_0 rfl, ?_⟩
  refine List.forall_mem_cons.mpr ⟨xs_lstore X dX3_withBout_1 (Nat.le_of_ble_eq_true rfl), ?_⟩
  refine List.forall_mem_cons.mpr ⟨xs_iconst X dX3_withBout_3 rfl, ?_⟩
  refine List.forall_mem_cons.mpr ⟨xs_istore X dX3_withBout_4 (Nat.le_of_ble_eq_true rfl), ?_⟩
  refine List.forall_mem_cons.mpr ⟨xs_iload X dX3_withBout_6, ?_⟩
  refine List.forall_mem_cons.mpr ⟨xs_bipush X dX3_withBout_8 rfl, ?_⟩
  refine List.forall_mem_cons.mpr ⟨xs_icmpgt (tg := 36) X dX3_withBout_10 rfl, ?_⟩
  refine List.forall_mem_cons.mpr ⟨xs_lload X dX3_withBout_13, ?_⟩
  refine List.forall_mem_cons.mpr ⟨xs_ldc2 X (List.mem_of_getElem? (i := 1) rfl) dX3_withBout_15, ?_⟩
  refine List.forall_mem_cons.mpr ⟨xs_lmul X dX3_withBout_18, ?_⟩
  refine List.forall_mem_cons.mpr ⟨xs_aload_n X dX3_withBout_19 rfl, ?_⟩
  refine List.forall_mem_cons.mpr ⟨xs_iload_n X dX3_withBout_20 rfl, ?_⟩
  refine List.forall_mem_cons.mpr ⟨xs_iload X dX3_withBout_21, ?_⟩
  refine List.forall_mem_cons.mpr ⟨xs_callV (ci := 4) X (mpX3_ofBout l D Y) (cwV 2 X.1.2.2.2.2 gX3_withBout_X3_ofBout rfl rfl rfl (by decide +kernel) ⟨Nat.le_of_ble_eq_true rfl, Nat.le_of_ble_eq_true rfl⟩) rfl rfl rfl rfl dX3_withBout_23, ?_⟩
  refine List.forall_mem_cons.mpr ⟨xs_i2l X dX3_withBout_26, ?_⟩
  refine List.forall_mem_cons.mpr ⟨xs_ladd X dX3_withBout_27, ?_⟩
  refine List.forall_mem_cons.mpr ⟨xs_lstore X dX3_withBout_28 (Nat.le_of_ble_eq_true rfl), ?_⟩
  refine List.forall_mem_cons.mpr ⟨xs_iinc X dX3_withBout_30 rfl (Nat.le_of_ble_eq_true rfl), ?_⟩
  refine List.forall_mem_cons.mpr ⟨xs_goto (tg := 6) X dX3_withBout_33 rfl, ?_⟩
  refine List.forall_mem_cons.mpr ⟨xs_lload X dX3_withBout_36, ?_⟩
  refine List.forall_mem_cons.mpr ⟨xs_ldc2 X (List.mem_of_getElem? (i := 1) rfl) dX3_withBout_38, ?_⟩
  refine List.forall_mem_cons.mpr ⟨xs_lmul X dX3_withBout_41, ?_⟩
  refine List.forall_mem_cons.mpr ⟨xs_aload_n X dX3_withBout_42 rfl, ?_⟩
  refine List.forall_mem_cons.mpr ⟨xs_iload_n X dX3_withBout_43 rfl, ?_⟩
  refine List.forall_mem_cons.mpr ⟨xs_callV (ci := 4) X (mpX3_reason l D Y) (cwV 1 X.1.2.2.2.2 gX3_withBout_X3_reason rfl rfl rfl (by decide +kernel) ⟨Nat.le_of_ble_eq_true rfl, Nat.le_of_ble_eq_true rfl⟩) rfl rfl rfl rfl dX3_withBout_44, ?_⟩
  refine List.forall_mem_cons.mpr ⟨xs_i2l X dX3_withBout_47, ?_⟩
  refine List.forall_mem_cons.mpr ⟨xs_ladd X dX3_withBout_48, ?_⟩
  refine List.forall_mem_cons.mpr ⟨xs_lret X hr hlocks dX3_withBout_49, ?_⟩
  exact fun _ h => nomatch h
set_option maxRecDepth 100000 in
set_option maxHeartbeats 4000000 in
theorem mpX3_line (l : Launch) (D : va_G) (Y : xw_Y) : xw_MP l D vwCl (xw_ty Y) Y.1 yX3_line wsX3_line ({ frames := 2, cells := 0, slots := 0, locals := 43 } : Room) (ptX3_line Y) 0 0 := by
  refine xw_met (cc := cX3_line) (nL := 2) (ret := (some .int)) (by decide +kernel) rfl ?_
  intro p e s m args below meth c w0 post X hr hlocks hname
  unfold tbX3_line
  refine List.forall_mem_cons.mpr ⟨xs_iload_n X dX3_line_0 rfl, ?_⟩
  refine List.forall_mem_cons.mpr ⟨xs_iconst X dX3_line_1 rfl, ?_⟩
  refine List.forall_mem_cons.mpr ⟨xs_aload_n X dX3_line_2 rfl, ?_⟩
  refine List.forall_mem_cons.mpr ⟨xs_getf (C := RX3) (T := TX3) (N := 10) (ci := 4) (kf := 8) X (fun w h => List.mem_cons_of_mem _ (List.mem_append_left _ (List.mem_append_left _ (List.mem_append_right _ h)))) rfl (by decide) (List.mem_of_getElem? (i := 3) rfl) (fun _ h => h) dX3_line_3, ?_⟩
  refine List.forall_mem_cons.mpr ⟨xs_iconst X dX3_line_6 rfl, ?_⟩
  refine List.forall_mem_cons.mpr ⟨xs_isub X dX3_line_7, ?_⟩
  refine List.forall_mem_cons.mpr ⟨xs_callS X (mpX3_isIn l D Y) (va_cwS 3 X.1.2.2.2.2 gX3_line_X3_isIn rfl rfl rfl (by decide +kernel) ⟨Nat.le_of_ble_eq_true rfl, Nat.le_of_ble_eq_true rfl⟩) rfl rfl dX3_line_8, ?_⟩
  refine List.forall_mem_cons.mpr ⟨xs_ifne (tg := 25) X dX3_line_11 rfl, ?_⟩
  refine List.forall_mem_cons.mpr ⟨xs_aload_n X dX3_line_25 rfl, ?_⟩
  refine List.forall_mem_cons.mpr ⟨xs_iload_n X dX3_line_26 rfl, ?_⟩
  refine List.forall_mem_cons.mpr ⟨xs_callV (ci := 4) X (mpX3_fencerOnLine l D Y) (cwV 1 X.1.2.2.2.2 gX3_line_X3_fencerOnLine rfl rfl rfl (by decide +kernel) ⟨Nat.le_of_ble_eq_true rfl, Nat.le_of_ble_eq_true rfl⟩) rfl rfl rfl rfl dX3_line_27, ?_⟩
  refine List.forall_mem_cons.mpr ⟨xs_callS X (mpX3_numberOf l D Y) (va_cwS 1 X.1.2.2.2.2 gX3_line_X3_numberOf rfl rfl rfl (by decide +kernel) ⟨Nat.le_of_ble_eq_true rfl, Nat.le_of_ble_eq_true rfl⟩) rfl rfl dX3_line_30, ?_⟩
  refine List.forall_mem_cons.mpr ⟨xs_iret X hr hlocks dX3_line_33, ?_⟩
  exact fun _ h => nomatch h
set_option maxRecDepth 100000 in
set_option maxHeartbeats 4000000 in
theorem mpX3_digest (l : Launch) (D : va_G) (Y : xw_Y) : xw_MP l D vwCl (xw_ty Y) Y.1 yX3_digest wsX3_digest ({ frames := 6, cells := 0, slots := 0, locals := 136 } : Room) (ptX3_digest Y) 0 0 := by
  refine xw_met (cc := cX3_digest) (nL := 4) (ret := (some .long)) (by decide +kernel) rfl ?_
  intro p e s m args below meth c w0 post X hr hlocks hname
  unfold tbX3_digest
  refine List.forall_mem_cons.mpr ⟨xs_ldc2 X (List.mem_of_getElem? (i := 1) rfl) dX3_digest_0, ?_⟩
  refine List.forall_mem_cons.mpr ⟨xs_lstore_n X dX3_digest_3 rfl (Nat.le_of_ble_eq_true rfl), ?_⟩
  refine List.forall_mem_cons.mpr ⟨xs_iconst X dX3_digest_4 rfl, ?_⟩
  refine List.forall_mem_cons.mpr ⟨xs_istore_n X dX3_digest_5 rfl (Nat.le_of_ble_eq_true rfl), ?_⟩
  refine List.forall_mem_cons.mpr ⟨xs_iload_n X dX3_digest_6 rfl, ?_⟩
  refine List.forall_mem_cons.mpr ⟨xs_bipush X dX3_digest_7 rfl, ?_⟩
  refine List.forall_mem_cons.mpr ⟨xs_icmpgt (tg := 31) X dX3_digest_9 rfl, ?_⟩
  refine List.forall_mem_cons.mpr ⟨xs_lload_n X dX3_digest_12 rfl, ?_⟩
  refine List.forall_mem_cons.mpr ⟨xs_ldc2 X (List.mem_of_getElem? (i := 2) rfl) dX3_digest_13, ?_⟩
  refine List.forall_mem_cons.mpr ⟨xs_lmul X dX3_digest_16, ?_⟩
  refine List.forall_mem_cons.mpr ⟨xs_aload_n X dX3_digest_17 rfl, ?_⟩
  refine List.forall_mem_cons.mpr ⟨xs_iload_n X dX3_digest_18 rfl, ?_⟩
  refine List.forall_mem_cons.mpr ⟨xs_callV (ci := 4) X (mpX3_many l D Y) (cwV 1 X.1.2.2.2.2 gX3_digest_X3_many rfl rfl rfl (by decide +kernel) ⟨Nat.le_of_ble_eq_true rfl, Nat.le_of_ble_eq_true rfl⟩) rfl rfl rfl rfl dX3_digest_19, ?_⟩
  refine List.forall_mem_cons.mpr ⟨xs_i2l X dX3_digest_22, ?_⟩
  refine List.forall_mem_cons.mpr ⟨xs_ladd X dX3_digest_23, ?_⟩
  refine List.forall_mem_cons.mpr ⟨xs_lstore_n X dX3_digest_24 rfl (Nat.le_of_ble_eq_true rfl), ?_⟩
  refine List.forall_mem_cons.mpr ⟨xs_iinc X dX3_digest_25 rfl (Nat.le_of_ble_eq_true rfl), ?_⟩
  refine List.forall_mem_cons.mpr ⟨xs_goto (tg := 6) X dX3_digest_28 rfl, ?_⟩
  refine List.forall_mem_cons.mpr ⟨xs_iconst X dX3_digest_31 rfl, ?_⟩
  refine List.forall_mem_cons.mpr ⟨xs_istore_n X dX3_digest_32 rfl (Nat.le_of_ble_eq_true rfl), ?_⟩
  refine List.forall_mem_cons.mpr ⟨xs_iload_n X dX3_digest_33 rfl, ?_⟩
  refine List.forall_mem_cons.mpr ⟨xs_aload_n X dX3_digest_34 rfl, ?_⟩
  refine List.forall_mem_cons.mpr ⟨xs_getf (C := RX3) (T := TX3) (N := 10) (ci := 4) (kf := 0) X (fun w h => List.mem_cons_of_mem _ (List.mem_append_left _ (List.mem_append_left _ (List.mem_append_left _ (List.mem_append_left _ (List.mem_append_left _ (List.mem_append_left _ (List.mem_append_right _ h)))))))) rfl (by decide) (List.mem_of_getElem? (i := 3) rfl) (fun _ h => h) dX3_digest_35, ?_⟩
  refine List.forall_mem_cons.mpr ⟨xs_callV (ci := 0) X (mpJx4a65c_size_8abf5 l D Y) (cwV 0 X.1.2.2.2.2 gX3_digest_Jx4a65c_size_8abf5 rfl rfl rfl (by decide +kernel) ⟨Nat.le_of_ble_eq_true rfl, Nat.le_of_ble_eq_true rfl⟩) rfl rfl rfl rfl dX3_digest_38, ?_⟩
  refine List.forall_mem_cons.mpr ⟨xs_icmpge (tg := 57) X dX3_digest_41 rfl, ?_⟩
  refine List.forall_mem_cons.mpr ⟨xs_aload_n X dX3_digest_44 rfl, ?_⟩
  refine List.forall_mem_cons.mpr ⟨xs_lload_n X dX3_digest_45 rfl, ?_⟩
  refine List.forall_mem_cons.mpr ⟨xs_iload_n X dX3_digest_46 rfl, ?_⟩
  refine List.forall_mem_cons.mpr ⟨xs_callV (ci := 4) X (mpX3_withFencer l D Y) (cwV 2 X.1.2.2.2.2 gX3_digest_X3_withFencer rfl rfl rfl (by decide +kernel) ⟨Nat.le_of_ble_eq_true rfl, Nat.le_of_ble_eq_true rfl⟩) rfl rfl rfl rfl dX3_digest_47, ?_⟩
  refine List.forall_mem_cons.mpr ⟨xs_lstore_n X dX3_digest_50 rfl (Nat.le_of_ble_eq_true rfl), ?_⟩
  refine List.forall_mem_cons.mpr ⟨xs_iinc X dX3_digest_51 rfl (Nat.le_of_ble_eq_true rfl), ?_⟩
  refine List.forall_mem_cons.mpr ⟨xs_goto (tg := 33) X dX3_digest_54 rfl, ?_⟩
  refine List.forall_mem_cons.mpr ⟨xs_iconst X dX3_digest_57 rfl, ?_⟩
  refine List.forall_mem_cons.mpr ⟨xs_istore_n X dX3_digest_58 rfl (Nat.le_of_ble_eq_true rfl), ?_⟩
  refine List.forall_mem_cons.mpr ⟨xs_iload_n X dX3_digest_59 rfl, ?_⟩
  refine List.forall_mem_cons.mpr ⟨xs_aload_n X dX3_digest_60 rfl, ?_⟩
  refine List.forall_mem_cons.mpr ⟨xs_getf (C := RX3) (T := TX3) (N := 10) (ci := 4) (kf := 1) X (fun w h => List.mem_cons_of_mem _ (List.mem_append_left _ (List.mem_append_left _ (List.mem_append_left _ (List.mem_append_left _ (List.mem_append_left _ (List.mem_append_left _ (List.mem_append_right _ h)))))))) rfl (by decide) (List.mem_of_getElem? (i := 4) rfl) (fun _ h => h) dX3_digest_61, ?_⟩
  refine List.forall_mem_cons.mpr ⟨xs_callV (ci := 0) X (mpJx4a65c_size_8abf5 l D Y) (cwV 0 X.1.2.2.2.2 gX3_digest_Jx4a65c_size_8abf5 rfl rfl rfl (by decide +kernel) ⟨Nat.le_of_ble_eq_true rfl, Nat.le_of_ble_eq_true rfl⟩) rfl rfl rfl rfl dX3_digest_64, ?_⟩
  refine List.forall_mem_cons.mpr ⟨xs_icmpge (tg := 83) X dX3_digest_67 rfl, ?_⟩
  refine List.forall_mem_cons.mpr ⟨xs_aload_n X dX3_digest_70 rfl, ?_⟩
  refine List.forall_mem_cons.mpr ⟨xs_lload_n X dX3_digest_71 rfl, ?_⟩
  refine List.forall_mem_cons.mpr ⟨xs_iload_n X dX3_digest_72 rfl, ?_⟩
  refine List.forall_mem_cons.mpr ⟨xs_callV (ci := 4) X (mpX3_withBout l D Y) (cwV 2 X.1.2.2.2.2 gX3_digest_X3_withBout rfl rfl rfl (by decide +kernel) ⟨Nat.le_of_ble_eq_true rfl, Nat.le_of_ble_eq_true rfl⟩) rfl rfl rfl rfl dX3_digest_73, ?_⟩
  refine List.forall_mem_cons.mpr ⟨xs_lstore_n X dX3_digest_76 rfl (Nat.le_of_ble_eq_true rfl), ?_⟩
  refine List.forall_mem_cons.mpr ⟨xs_iinc X dX3_digest_77 rfl (Nat.le_of_ble_eq_true rfl), ?_⟩
  refine List.forall_mem_cons.mpr ⟨xs_goto (tg := 59) X dX3_digest_80 rfl, ?_⟩
  refine List.forall_mem_cons.mpr ⟨xs_lload_n X dX3_digest_83 rfl, ?_⟩
  refine List.forall_mem_cons.mpr ⟨xs_ldc2 X (List.mem_of_getElem? (i := 2) rfl) dX3_digest_84, ?_⟩
  refine List.forall_mem_cons.mpr ⟨xs_lmul X dX3_digest_87, ?_⟩
  refine List.forall_mem_cons.mpr ⟨xs_aload_n X dX3_digest_88 rfl, ?_⟩
  refine List.forall_mem_cons.mpr ⟨xs_callV (ci := 4) X (mpX3_next l D Y) (cwV 0 X.1.2.2.2.2 gX3_digest_X3_next rfl rfl rfl (by decide +kernel) ⟨Nat.le_of_ble_eq_true rfl, Nat.le_of_ble_eq_true rfl⟩) rfl rfl rfl rfl dX3_digest_89, ?_⟩
  refine List.forall_mem_cons.mpr ⟨xs_i2l X dX3_digest_92, ?_⟩
  refine List.forall_mem_cons.mpr ⟨xs_ladd X dX3_digest_93, ?_⟩
  refine List.forall_mem_cons.mpr ⟨xs_lstore_n X dX3_digest_94 rfl (Nat.le_of_ble_eq_true rfl), ?_⟩
  refine List.forall_mem_cons.mpr ⟨xs_iconst X dX3_digest_95 rfl, ?_⟩
  refine List.forall_mem_cons.mpr ⟨xs_istore_n X dX3_digest_96 rfl (Nat.le_of_ble_eq_true rfl), ?_⟩
  refine List.forall_mem_cons.mpr ⟨xs_iload_n X dX3_digest_97 rfl, ?_⟩
  refine List.forall_mem_cons.mpr ⟨xs_aload_n X dX3_digest_98 rfl, ?_⟩
  refine List.forall_mem_cons.mpr ⟨xs_getf (C := RX3) (T := TX3) (N := 10) (ci := 4) (kf := 8) X (fun w h => List.mem_cons_of_mem _ (List.mem_append_left _ (List.mem_append_left _ (List.mem_append_left _ (List.mem_append_left _ (List.mem_append_left _ (List.mem_append_left _ (List.mem_append_right _ h)))))))) rfl (by decide) (List.mem_of_getElem? (i := 5) rfl) (fun _ h => h) dX3_digest_99, ?_⟩
  refine List.forall_mem_cons.mpr ⟨xs_icmpge (tg := 124) X dX3_digest_102 rfl, ?_⟩
  refine List.forall_mem_cons.mpr ⟨xs_lload_n X dX3_digest_105 rfl, ?_⟩
  refine List.forall_mem_cons.mpr ⟨xs_ldc2 X (List.mem_of_getElem? (i := 2) rfl) dX3_digest_106, ?_⟩
  refine List.forall_mem_cons.mpr ⟨xs_lmul X dX3_digest_109, ?_⟩
  refine List.forall_mem_cons.mpr ⟨xs_aload_n X dX3_digest_110 rfl, ?_⟩
  refine List.forall_mem_cons.mpr ⟨xs_iload_n X dX3_digest_111 rfl, ?_⟩
  refine List.forall_mem_cons.mpr ⟨xs_callV (ci := 4) X (mpX3_line l D Y) (cwV 1 X.1.2.2.2.2 gX3_digest_X3_line rfl rfl rfl (by decide +kernel) ⟨Nat.le_of_ble_eq_true rfl, Nat.le_of_ble_eq_true rfl⟩) rfl rfl rfl rfl dX3_digest_112, ?_⟩
  refine List.forall_mem_cons.mpr ⟨xs_i2l X dX3_digest_115, ?_⟩
  refine List.forall_mem_cons.mpr ⟨xs_ladd X dX3_digest_116, ?_⟩
  refine List.forall_mem_cons.mpr ⟨xs_lstore_n X dX3_digest_117 rfl (Nat.le_of_ble_eq_true rfl), ?_⟩
  refine List.forall_mem_cons.mpr ⟨xs_iinc X dX3_digest_118 rfl (Nat.le_of_ble_eq_true rfl), ?_⟩
  refine List.forall_mem_cons.mpr ⟨xs_goto (tg := 97) X dX3_digest_121 rfl, ?_⟩
  refine List.forall_mem_cons.mpr ⟨xs_lload_n X dX3_digest_124 rfl, ?_⟩
  refine List.forall_mem_cons.mpr ⟨xs_lret X hr hlocks dX3_digest_125, ?_⟩
  exact fun _ h => nomatch h
