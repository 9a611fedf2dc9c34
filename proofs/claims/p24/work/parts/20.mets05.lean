set_option maxRecDepth 100000 in
set_option maxHeartbeats 4000000 in
theorem mpX3_draw (l : Launch) (D : va_G) (Y : xw_Y) : xw_MP l D vwCl (xw_ty Y) Y.1 yX3_draw wsX3_draw ({ frames := 8, cells := 60, slots := 3300, locals := 180 } : Room) (ptX3_draw Y) 60 3300 := by
  refine xw_met (cc := cX3_draw) (nL := 4) (ret := (some .int)) (by decide +kernel) rfl ?_
  intro p e s m args below meth c w0 post X hr hlocks hname
  unfold tbX3_draw
  refine List.forall_mem_cons.mpr ⟨xs_iload_n X dX3_draw_0 rfl, ?_⟩
  refine List.forall_mem_cons.mpr ⟨xs_iconst X dX3_draw_1 rfl, ?_⟩
  refine List.forall_mem_cons.mpr ⟨xs_bipush X dX3_draw_2 rfl, ?_⟩
  refine List.forall_mem_cons.mpr ⟨xs_callS X (mpX3_isIn l D Y) (va_cwS 3 X.1.2.2.2.2 gX3_draw_X3_isIn rfl rfl rfl (by decide +kernel) ⟨Nat.le_of_ble_eq_true rfl, Nat.le_of_ble_eq_true rfl⟩) rfl rfl dX3_draw_4, ?_⟩
  refine List.forall_mem_cons.mpr ⟨xs_ifne (tg := 21) X dX3_draw_7 rfl, ?_⟩
  refine List.forall_mem_cons.mpr ⟨xs_aload_n X dX3_draw_21 rfl, ?_⟩
  refine List.forall_mem_cons.mpr ⟨xs_getf (C := RX3) (T := TX3) (N := 10) (ci := 4) (kf := 6) X (fun w h => List.mem_cons_of_mem _ (List.mem_append_left _ (List.mem_append_left _ (List.mem_append_left _ (List.mem_append_left _ (List.mem_append_left _ (List.mem_append_left _ (List.mem_append_right _ h)))))))) rfl (by decide) (List.mem_of_getElem? (i := 5) rfl) (fun _ h => h) dX3_draw_22, ?_⟩
  refine List.forall_mem_cons.mpr ⟨xs_ifeq (tg := 51) X dX3_draw_25 rfl, ?_⟩
  refine List.forall_mem_cons.mpr ⟨xs_aload_n X dX3_draw_28 rfl, ?_⟩
  refine List.forall_mem_cons.mpr ⟨xs_getf (C := RX3) (T := TX3) (N := 10) (ci := 4) (kf := 8) X (fun w h => List.mem_cons_of_mem _ (List.mem_append_left _ (List.mem_append_left _ (List.mem_append_left _ (List.mem_append_left _ (List.mem_append_left _ (List.mem_append_left _ (List.mem_append_right _ h)))))))) rfl (by decide) (List.mem_of_getElem? (i := 6) rfl) (fun _ h => h) dX3_draw_29, ?_⟩
  refine List.forall_mem_cons.mpr ⟨xs_ifgt (tg := 51) X dX3_draw_32 rfl, ?_⟩
  refine List.forall_mem_cons.mpr ⟨xs_aload_n X dX3_draw_35 rfl, ?_⟩
  refine List.forall_mem_cons.mpr ⟨xs_iconst X dX3_draw_36 rfl, ?_⟩
  refine List.forall_mem_cons.mpr ⟨xs_callV (ci := 4) X (mpX3_boutsIn l D Y) (cwV 1 X.1.2.2.2.2 gX3_draw_X3_boutsIn rfl rfl rfl (by decide +kernel) ⟨Nat.le_of_ble_eq_true rfl, Nat.le_of_ble_eq_true rfl⟩) rfl rfl rfl rfl dX3_draw_37, ?_⟩
  refine List.forall_mem_cons.mpr ⟨xs_ifgt (tg := 51) X dX3_draw_40 rfl, ?_⟩
  refine List.forall_mem_cons.mpr ⟨xs_aload_n X dX3_draw_43 rfl, ?_⟩
  refine List.forall_mem_cons.mpr ⟨xs_iconst X dX3_draw_44 rfl, ?_⟩
  refine List.forall_mem_cons.mpr ⟨xs_callV (ci := 4) X (mpX3_boutsIn l D Y) (cwV 1 X.1.2.2.2.2 gX3_draw_X3_boutsIn rfl rfl rfl (by decide +kernel) ⟨Nat.le_of_ble_eq_true rfl, Nat.le_of_ble_eq_true rfl⟩) rfl rfl rfl rfl dX3_draw_45, ?_⟩
  refine List.forall_mem_cons.mpr ⟨xs_ifle (tg := 62) X dX3_draw_48 rfl, ?_⟩
  refine List.forall_mem_cons.mpr ⟨xs_aload_n X dX3_draw_62 rfl, ?_⟩
  refine List.forall_mem_cons.mpr ⟨xs_getf (C := RX3) (T := TX3) (N := 10) (ci := 4) (kf := 0) X (fun w h => List.mem_cons_of_mem _ (List.mem_append_left _ (List.mem_append_left _ (List.mem_append_left _ (List.mem_append_left _ (List.mem_append_left _ (List.mem_append_left _ (List.mem_append_right _ h)))))))) rfl (by decide) (List.mem_of_getElem? (i := 7) rfl) (fun _ h => h) dX3_draw_63, ?_⟩
  refine List.forall_mem_cons.mpr ⟨xs_callV (ci := 0) X (mpJx4a65c_size_8abf5 l D Y) (cwV 0 X.1.2.2.2.2 gX3_draw_Jx4a65c_size_8abf5 rfl rfl rfl (by decide +kernel) ⟨Nat.le_of_ble_eq_true rfl, Nat.le_of_ble_eq_true rfl⟩) rfl rfl rfl rfl dX3_draw_66, ?_⟩
  refine List.forall_mem_cons.mpr ⟨xs_aload_n X dX3_draw_69 rfl, ?_⟩
  refine List.forall_mem_cons.mpr ⟨xs_callV (ci := 4) X (mpX3_fencersOut l D Y) (cwV 0 X.1.2.2.2.2 gX3_draw_X3_fencersOut rfl rfl rfl (by decide +kernel) ⟨Nat.le_of_ble_eq_true rfl, Nat.le_of_ble_eq_true rfl⟩) rfl rfl rfl rfl dX3_draw_70, ?_⟩
  refine List.forall_mem_cons.mpr ⟨xs_isub X dX3_draw_73, ?_⟩
  refine List.forall_mem_cons.mpr ⟨xs_istore_n X dX3_draw_74 rfl (Nat.le_of_ble_eq_true rfl), ?_⟩
  refine List.forall_mem_cons.mpr ⟨xs_iload_n X dX3_draw_75 rfl, ?_⟩
  refine List.forall_mem_cons.mpr ⟨xs_iload_n X dX3_draw_76 rfl, ?_⟩
  refine List.forall_mem_cons.mpr ⟨xs_iload_n X dX3_draw_77 rfl, ?_⟩
  refine List.forall_mem_cons.mpr ⟨xs_imul X dX3_draw_78, ?_⟩
  refine List.forall_mem_cons.mpr ⟨xs_bipush X dX3_draw_79 rfl, ?_⟩
  refine List.forall_mem_cons.mpr ⟨xs_idiv X dX3_draw_81, ?_⟩
  refine List.forall_mem_cons.mpr ⟨xs_isub X dX3_draw_82, ?_⟩
  refine List.forall_mem_cons.mpr ⟨xs_istore_n X dX3_draw_83 rfl (Nat.le_of_ble_eq_true rfl), ?_⟩
  refine List.forall_mem_cons.mpr ⟨xs_iload_n X dX3_draw_84 rfl, ?_⟩
  refine List.forall_mem_cons.mpr ⟨xs_iconst X dX3_draw_85 rfl, ?_⟩
  refine List.forall_mem_cons.mpr ⟨xs_icmpge (tg := 100) X dX3_draw_86 rfl, ?_⟩
  refine List.forall_mem_cons.mpr ⟨xs_aload_n X dX3_draw_100 rfl, ?_⟩
  refine List.forall_mem_cons.mpr ⟨xs_iload_n X dX3_draw_101 rfl, ?_⟩
  refine List.forall_mem_cons.mpr ⟨xs_callV (ci := 4) X (mpX3_seed l D Y) (cwV 1 X.1.2.2.2.2 gX3_draw_X3_seed rfl rfl rfl (by decide +kernel) ⟨Nat.le_of_ble_eq_true rfl, Nat.le_of_ble_eq_true rfl⟩) rfl rfl rfl rfl dX3_draw_102, ?_⟩
  refine List.forall_mem_cons.mpr ⟨xs_aload_n X dX3_draw_105 rfl, ?_⟩
  refine List.forall_mem_cons.mpr ⟨xs_iload_n X dX3_draw_106 rfl, ?_⟩
  refine List.forall_mem_cons.mpr ⟨xs_callV (ci := 4) X (mpX3_setLines l D Y) (cwV 1 X.1.2.2.2.2 gX3_draw_X3_setLines rfl rfl rfl (by decide +kernel) ⟨Nat.le_of_ble_eq_true rfl, Nat.le_of_ble_eq_true rfl⟩) rfl rfl rfl rfl dX3_draw_107, ?_⟩
  refine List.forall_mem_cons.mpr ⟨xs_aload_n X dX3_draw_110 rfl, ?_⟩
  refine List.forall_mem_cons.mpr ⟨xs_callV (ci := 4) X (mpX3_addTableBouts l D Y) (cwV 0 X.1.2.2.2.2 gX3_draw_X3_addTableBouts rfl rfl rfl (by decide +kernel) ⟨Nat.le_of_ble_eq_true rfl, Nat.le_of_ble_eq_true rfl⟩) rfl rfl rfl rfl dX3_draw_111, ?_⟩
  refine List.forall_mem_cons.mpr ⟨xs_iload_n X dX3_draw_114 rfl, ?_⟩
  refine List.forall_mem_cons.mpr ⟨xs_iret X hr hlocks dX3_draw_115, ?_⟩
  exact fun _ h => nomatch h
set_option maxRecDepth 100000 in
set_option maxHeartbeats 4000000 in
theorem mpX2_restedAt (l : Launch) (D : va_G) (Y : xw_Y) : xw_MP l D vwCl (xw_ty Y) Y.1 yX2_restedAt wsX2_restedAt ({ frames := 0, cells := 0, slots := 0, locals := 0 } : Room) (ptX2_restedAt Y) 0 0 := by
  refine xw_met (cc := cX2_restedAt) (nL := 1) (ret := (some .int)) (by decide +kernel) rfl ?_
  intro p e s m args below meth c w0 post X hr hlocks hname
  unfold tbX2_restedAt
  refine List.forall_mem_cons.mpr ⟨xs_aload_n X dX2_restedAt_0 rfl, ?_⟩
  refine List.forall_mem_cons.mpr ⟨xs_getf (C := RX2) (T := TX2) (N := 3) (ci := 3) (kf := 0) X (fun w h => List.mem_cons_of_mem _ (List.mem_append_left _ (List.mem_append_right _ h))) rfl (by decide) (List.mem_of_getElem? (i := 1) rfl) (fun _ h => h) dX2_restedAt_1, ?_⟩
  refine List.forall_mem_cons.mpr ⟨xs_ifnonnull (tg := 11) X dX2_restedAt_4 rfl, ?_⟩
  refine List.forall_mem_cons.mpr ⟨xs_iconst X dX2_restedAt_7 rfl, ?_⟩
  refine List.forall_mem_cons.mpr ⟨xs_goto (tg := 18) X dX2_restedAt_8 rfl, ?_⟩
  refine List.forall_mem_cons.mpr ⟨xs_aload_n X dX2_restedAt_11 rfl, ?_⟩
  refine List.forall_mem_cons.mpr ⟨xs_getf (C := RX2) (T := TX2) (N := 3) (ci := 3) (kf := 0) X (fun w h => List.mem_cons_of_mem _ (List.mem_append_left _ (List.mem_append_right _ h))) rfl (by decide) (List.mem_of_getElem? (i := 1) rfl) (fun _ h => h) dX2_restedAt_12, ?_⟩
  refine List.forall_mem_cons.mpr ⟨xs_getf (C := RX1) (T := TX1) (N := 14) (ci := 2) (kf := 7) X (fun w h => List.mem_cons_of_mem _ (List.mem_append_right _ h)) rfl (by decide) (List.mem_of_getElem? (i := 2) rfl) (fun _ h => h) dX2_restedAt_15, ?_⟩
  refine List.forall_mem_cons.mpr ⟨xs_iret X hr hlocks dX2_restedAt_18, ?_⟩
  exact fun _ h => nomatch h
set_option maxRecDepth 100000 in
set_option maxHeartbeats 4000000 in
theorem mpX0_restedAt (l : Launch) (D : va_G) (Y : xw_Y) : xw_MP l D vwCl (xw_ty Y) Y.1 yX0_restedAt wsX0_restedAt ({ frames := 1, cells := 0, slots := 0, locals := 21 } : Room) (ptX0_restedAt Y) 0 0 := by
  refine xw_met (cc := cX0_restedAt) (nL := 1) (ret := (some .int)) (by decide +kernel) rfl ?_
  intro p e s m args below meth c w0 post X hr hlocks hname
  unfold tbX0_restedAt
  refine List.forall_mem_cons.mpr ⟨xs_aload_n X dX0_restedAt_0 rfl, ?_⟩
  refine List.forall_mem_cons.mpr ⟨xs_getf (C := RX0) (T := TX0) (N := 9) (ci := 1) (kf := 2) X (fun w h => List.mem_cons_of_mem _ (List.mem_append_left _ (List.mem_append_left _ (List.mem_append_right _ h)))) rfl (by decide) (List.mem_of_getElem? (i := 1) rfl) (fun _ h => h) dX0_restedAt_1, ?_⟩
  refine List.forall_mem_cons.mpr ⟨xs_callV (ci := 3) X (mpX2_restedAt l D Y) (cwV 0 X.1.2.2.2.2 gX0_restedAt_X2_restedAt rfl rfl rfl (by decide +kernel) ⟨Nat.le_of_ble_eq_true rfl, Nat.le_of_ble_eq_true rfl⟩) rfl rfl rfl rfl dX0_restedAt_4, ?_⟩
  refine List.forall_mem_cons.mpr ⟨xs_aload_n X dX0_restedAt_7 rfl, ?_⟩
  refine List.forall_mem_cons.mpr ⟨xs_getf (C := RX0) (T := TX0) (N := 9) (ci := 1) (kf := 3) X (fun w h => List.mem_cons_of_mem _ (List.mem_append_left _ (List.mem_append_left _ (List.mem_append_right _ h)))) rfl (by decide) (List.mem_of_getElem? (i := 2) rfl) (fun _ h => h) dX0_restedAt_8, ?_⟩
  refine List.forall_mem_cons.mpr ⟨xs_callV (ci := 3) X (mpX2_restedAt l D Y) (cwV 0 X.1.2.2.2.2 gX0_restedAt_X2_restedAt rfl rfl rfl (by decide +kernel) ⟨Nat.le_of_ble_eq_true rfl, Nat.le_of_ble_eq_true rfl⟩) rfl rfl rfl rfl dX0_restedAt_11, ?_⟩
  refine List.forall_mem_cons.mpr ⟨xs_max X (List.mem_of_getElem? (i := 3) rfl) (List.mem_of_getElem? (i := 4) rfl) (List.mem_of_getElem? (i := 5) rfl) (List.mem_of_getElem? (i := 6) rfl) (Nat.le_of_ble_eq_true rfl) (Nat.le_of_ble_eq_true rfl) rfl rfl dX0_restedAt_14, ?_⟩
  refine List.forall_mem_cons.mpr ⟨xs_iret X hr hlocks dX0_restedAt_17, ?_⟩
  exact fun _ h => nomatch h
set_option maxRecDepth 100000 in
set_option maxHeartbeats 4000000 in
theorem mpX2_isInLiveBout (l : Launch) (D : va_G) (Y : xw_Y) : xw_MP l D vwCl (xw_ty Y) Y.1 yX2_isInLiveBout wsX2_isInLiveBout ({ frames := 0, cells := 0, slots := 0, locals := 0 } : Room) (ptX2_isInLiveBout Y) 0 0 := by
  refine xw_met (cc := cX2_isInLiveBout) (nL := 1) (ret := (some .boolean)) (by decide +kernel) rfl ?_
  intro p e s m args below meth c w0 post X hr hlocks hname
  unfold tbX2_isInLiveBout
  refine List.forall_mem_cons.mpr ⟨xs_aload_n X dX2_isInLiveBout_0 rfl, ?_⟩
  refine List.forall_mem_cons.mpr ⟨xs_getf (C := RX2) (T := TX2) (N := 3) (ci := 3) (kf := 0) X (fun w h => List.mem_cons_of_mem _ (List.mem_append_left _ (List.mem_append_right _ h))) rfl (by decide) (List.mem_of_getElem? (i := 1) rfl) (fun _ h => h) dX2_isInLiveBout_1, ?_⟩
  refine List.forall_mem_cons.mpr ⟨xs_ifnull (tg := 21) X dX2_isInLiveBout_4 rfl, ?_⟩
  refine List.forall_mem_cons.mpr ⟨xs_aload_n X dX2_isInLiveBout_7 rfl, ?_⟩
  refine List.forall_mem_cons.mpr ⟨xs_getf (C := RX2) (T := TX2) (N := 3) (ci := 3) (kf := 0) X (fun w h => List.mem_cons_of_mem _ (List.mem_append_left _ (List.mem_append_right _ h))) rfl (by decide) (List.mem_of_getElem? (i := 1) rfl) (fun _ h => h) dX2_isInLiveBout_8, ?_⟩
  refine List.forall_mem_cons.mpr ⟨xs_getf (C := RX1) (T := TX1) (N := 14) (ci := 2) (kf := 6) X (fun w h => List.mem_cons_of_mem _ (List.mem_append_right _ h)) rfl (by decide) (List.mem_of_getElem? (i := 2) rfl) (fun _ h => h) dX2_isInLiveBout_11, ?_⟩
  refine List.forall_mem_cons.mpr ⟨xs_ifnull (tg := 21) X dX2_isInLiveBout_14 rfl, ?_⟩
  refine List.forall_mem_cons.mpr ⟨xs_iconst X dX2_isInLiveBout_17 rfl, ?_⟩
  refine List.forall_mem_cons.mpr ⟨xs_goto (tg := 22) X dX2_isInLiveBout_18 rfl, ?_⟩
  refine List.forall_mem_cons.mpr ⟨xs_iconst X dX2_isInLiveBout_21 rfl, ?_⟩
  refine List.forall_mem_cons.mpr ⟨xs_iret X hr hlocks dX2_isInLiveBout_22, ?_⟩
  exact fun _ h => nomatch h
set_option maxRecDepth 100000 in
set_option maxHeartbeats 4000000 in
theorem mpX3_whyNotReady (l : Launch) (D : va_G) (Y : xw_Y) : xw_MP l D vwCl (xw_ty Y) Y.1 yX3_whyNotReady wsX3_whyNotReady ({ frames := 2, cells := 0, slots := 0, locals := 41 } : Room) (ptX3_whyNotReady Y) 0 0 := by
  refine xw_met (cc := cX3_whyNotReady) (nL := 2) (ret := (some .int)) (by decide +kernel) rfl ?_
  intro p e s m args below meth c w0 post X hr hlocks hname
  unfold tbX3_whyNotReady
  refine List.forall_mem_cons.mpr ⟨xs_aload_n X dX3_whyNotReady_0 rfl, ?_⟩
  refine List.forall_mem_cons.mpr ⟨xs_getf (C := RX0) (T := TX0) (N := 9) (ci := 1) (kf := 4) X (fun w h => List.mem_cons_of_mem _ (List.mem_append_left _ (List.mem_append_left _ (List.mem_append_left _ (List.mem_append_right _ h))))) rfl (by decide) (List.mem_of_getElem? (i := 1) rfl) (fun _ h => h) dX3_whyNotReady_1, ?_⟩
  refine List.forall_mem_cons.mpr ⟨xs_ifeq (tg := 9) X dX3_whyNotReady_4 rfl, ?_⟩
  refine List.forall_mem_cons.mpr ⟨xs_iconst X dX3_whyNotReady_7 rfl, ?_⟩
  refine List.forall_mem_cons.mpr ⟨xs_iret X hr hlocks dX3_whyNotReady_8, ?_⟩
  refine List.forall_mem_cons.mpr ⟨xs_aload_n X dX3_whyNotReady_9 rfl, ?_⟩
  refine List.forall_mem_cons.mpr ⟨xs_callV (ci := 1) X (mpX0_isKnown l D Y) (cwV 0 X.1.2.2.2.2 gX3_whyNotReady_X0_isKnown rfl rfl rfl (by decide +kernel) ⟨Nat.le_of_ble_eq_true rfl, Nat.le_of_ble_eq_true rfl⟩) rfl rfl rfl rfl dX3_whyNotReady_10, ?_⟩
  refine List.forall_mem_cons.mpr ⟨xs_ifne (tg := 18) X dX3_whyNotReady_13 rfl, ?_⟩
  refine List.forall_mem_cons.mpr ⟨xs_iconst X dX3_whyNotReady_16 rfl, ?_⟩
  refine List.forall_mem_cons.mpr ⟨xs_iret X hr hlocks dX3_whyNotReady_17, ?_⟩
  refine List.forall_mem_cons.mpr ⟨xs_aload_n X dX3_whyNotReady_18 rfl, ?_⟩
  refine List.forall_mem_cons.mpr ⟨xs_getf (C := RX0) (T := TX0) (N := 9) (ci := 1) (kf := 2) X (fun w h => List.mem_cons_of_mem _ (List.mem_append_left _ (List.mem_append_left _ (List.mem_append_left _ (List.mem_append_right _ h))))) rfl (by decide) (List.mem_of_getElem? (i := 2) rfl) (fun _ h => h) dX3_whyNotReady_19, ?_⟩
  refine List.forall_mem_cons.mpr ⟨xs_callV (ci := 3) X (mpX2_isInLiveBout l D Y) (cwV 0 X.1.2.2.2.2 gX3_whyNotReady_X2_isInLiveBout rfl rfl rfl (by decide +kernel) ⟨Nat.le_of_ble_eq_true rfl, Nat.le_of_ble_eq_true rfl⟩) rfl rfl rfl rfl dX3_whyNotReady_22, ?_⟩
  refine List.forall_mem_cons.mpr ⟨xs_ifne (tg := 38) X dX3_whyNotReady_25 rfl, ?_⟩
  refine List.forall_mem_cons.mpr ⟨xs_aload_n X dX3_whyNotReady_28 rfl, ?_⟩
  refine List.forall_mem_cons.mpr ⟨xs_getf (C := RX0) (T := TX0) (N := 9) (ci := 1) (kf := 3) X (fun w h => List.mem_cons_of_mem _ (List.mem_append_left _ (List.mem_append_left _ (List.mem_append_left _ (List.mem_append_right _ h))))) rfl (by decide) (List.mem_of_getElem? (i := 3) rfl) (fun _ h => h) dX3_whyNotReady_29, ?_⟩
  refine List.forall_mem_cons.mpr ⟨xs_callV (ci := 3) X (mpX2_isInLiveBout l D Y) (cwV 0 X.1.2.2.2.2 gX3_whyNotReady_X2_isInLiveBout rfl rfl rfl (by decide +kernel) ⟨Nat.le_of_ble_eq_true rfl, Nat.le_of_ble_eq_true rfl⟩) rfl rfl rfl rfl dX3_whyNotReady_32, ?_⟩
  refine List.forall_mem_cons.mpr ⟨xs_ifeq (tg := 40) X dX3_whyNotReady_35 rfl, ?_⟩
  refine List.forall_mem_cons.mpr ⟨xs_iconst X dX3_whyNotReady_38 rfl, ?_⟩
  refine List.forall_mem_cons.mpr ⟨xs_iret X hr hlocks dX3_whyNotReady_39, ?_⟩
  refine List.forall_mem_cons.mpr ⟨xs_aload_n X dX3_whyNotReady_40 rfl, ?_⟩
  refine List.forall_mem_cons.mpr ⟨xs_getf (C := RX3) (T := TX3) (N := 10) (ci := 4) (kf := 7) X (fun w h => List.mem_cons_of_mem _ (List.mem_append_left _ (List.mem_append_left _ (List.mem_append_right _ h)))) rfl (by decide) (List.mem_of_getElem? (i := 4) rfl) (fun _ h => h) dX3_whyNotReady_41, ?_⟩
  refine List.forall_mem_cons.mpr ⟨xs_aload_n X dX3_whyNotReady_44 rfl, ?_⟩
  refine List.forall_mem_cons.mpr ⟨xs_callV (ci := 1) X (mpX0_restedAt l D Y) (cwV 0 X.1.2.2.2.2 gX3_whyNotReady_X0_restedAt rfl rfl rfl (by decide +kernel) ⟨Nat.le_of_ble_eq_true rfl, Nat.le_of_ble_eq_true rfl⟩) rfl rfl rfl rfl dX3_whyNotReady_45, ?_⟩
  refine List.forall_mem_cons.mpr ⟨xs_icmpge (tg := 55) X dX3_whyNotReady_48 rfl, ?_⟩
  refine List.forall_mem_cons.mpr ⟨xs_iconst X dX3_whyNotReady_51 rfl, ?_⟩
  refine List.forall_mem_cons.mpr ⟨xs_goto (tg := 56) X dX3_whyNotReady_52 rfl, ?_⟩
  refine List.forall_mem_cons.mpr ⟨xs_iconst X dX3_whyNotReady_55 rfl, ?_⟩
  refine List.forall_mem_cons.mpr ⟨xs_iret X hr hlocks dX3_whyNotReady_56, ?_⟩
  exact fun _ h => nomatch h
set_option maxRecDepth 100000 in
set_option maxHeartbeats 4000000 in
theorem mpX3_next (l : Launch) (D : va_G) (Y : xw_Y) : xw_MP l D vwCl (xw_ty Y) Y.1 yX3_next wsX3_next ({ frames := 3, cells := 0, slots := 0, locals := 64 } : Room) (ptX3_next Y) 0 0 := by
  refine xw_met (cc := cX3_next) (nL := 6) (ret := (some .int)) (by decide +kernel) rfl ?_
  intro p e s m args below meth c w0 post X hr hlocks hname
  unfold tbX3_next
  refine List.forall_mem_cons.mpr ⟨xs_iconst X dX3_next_0 rfl, ?_⟩
  refine List.forall_mem_cons.mpr ⟨xs_istore_n X dX3_next_1 rfl (Nat.le_of_ble_eq_true rfl), ?_⟩
  refine List.forall_mem_cons.mpr ⟨xs_iconst X dX3_next_2 rfl, ?_⟩
  refine List.forall_mem_cons.mpr ⟨xs_istore_n X dX3_next_3 rfl (Nat.le_of_ble_eq_true rfl), ?_⟩
  refine List.forall_mem_cons.mpr ⟨xs_iconst X dX3_next_4 rfl, ?_⟩
  refine List.forall_mem_cons.mpr ⟨xs_istore_n X dX3_next_5 rfl (Nat.le_of_ble_eq_true rfl), ?_⟩
  refine List.forall_mem_cons.mpr ⟨xs_iload_n X dX3_next_6 rfl, ?_⟩
  refine List.forall_mem_cons.mpr ⟨xs_aload_n X dX3_next_7 rfl, ?_⟩
  refine List.forall_mem_cons.mpr ⟨xs_getf (C := RX3) (T := TX3) (N := 10) (ci := 4) (kf := 1) X (fun w h => List.mem_cons_of_mem _ (List.mem_append_left _ (List.mem_append_left _ (List.mem_append_left _ (List.mem_append_left _ (List.mem_append_right _ h)))))) rfl (by decide) (List.mem_of_getElem? (i := 1) rfl) (fun _ h => h) dX3_next_8, ?_⟩
  refine List.forall_mem_cons.mpr ⟨xs_callV (ci := 0) X (mpJx4a65c_size_8abf5 l D Y) (cwV 0 X.1.2.2.2.2 gX3_next_Jx4a65c_size_8abf5 rfl rfl rfl (by decide +kernel) ⟨Nat.le_of_ble_eq_true rfl, Nat.le_of_ble_eq_true rfl⟩) rfl rfl rfl rfl dX3_next_11, ?_⟩
  refine List.forall_mem_cons.mpr ⟨xs_icmpge (tg := 79) X dX3_next_14 rfl, ?_⟩
  refine List.forall_mem_cons.mpr ⟨xs_aload_n X dX3_next_17 rfl, ?_⟩
  refine List.forall_mem_cons.mpr ⟨xs_getf (C := RX3) (T := TX3) (N := 10) (ci := 4) (kf := 1) X (fun w h => List.mem_cons_of_mem _ (List.mem_append_left _ (List.mem_append_left _ (List.mem_append_left _ (List.mem_append_left _ (List.mem_append_right _ h)))))) rfl (by decide) (List.mem_of_getElem? (i := 1) rfl) (fun _ h => h) dX3_next_18, ?_⟩
  refine List.forall_mem_cons.mpr ⟨xs_iload_n X dX3_next_21 rfl, ?_⟩
  refine List.forall_mem_cons.mpr ⟨xs_callV (ci := 0) X (mpJx4a65c_get_915e3 l D Y) (cwV 1 X.1.2.2.2.2 gX3_next_Jx4a65c_get_915e3 rfl rfl rfl (by decide +kernel) ⟨Nat.le_of_ble_eq_true rfl, Nat.le_of_ble_eq_true rfl⟩) rfl rfl rfl rfl dX3_next_22, ?_⟩
  refine List.forall_mem_cons.mpr ⟨xs_cast (C := RX0) (T := TX0) (N := 9) (ci := 1) X rfl (List.mem_of_getElem? (i := 2) rfl) dX3_next_25, ?_⟩
  refine List.forall_mem_cons.mpr ⟨xs_astore X dX3_next_28 (Nat.le_of_ble_eq_true rfl), ?_⟩
  refine List.forall_mem_cons.mpr ⟨xs_iload_n X dX3_next_30 rfl, ?_⟩
  refine List.forall_mem_cons.mpr ⟨xs_iconst X dX3_next_31 rfl, ?_⟩
  refine List.forall_mem_cons.mpr ⟨xs_icmpeq (tg := 44) X dX3_next_32 rfl, ?_⟩
  refine List.forall_mem_cons.mpr ⟨xs_aload X dX3_next_35, ?_⟩
  refine List.forall_mem_cons.mpr ⟨xs_callV (ci := 1) X (mpX0_restedAt l D Y) (cwV 0 X.1.2.2.2.2 gX3_next_X0_restedAt rfl rfl rfl (by decide +kernel) ⟨Nat.le_of_ble_eq_true rfl, Nat.le_of_ble_eq_true rfl⟩) rfl rfl rfl rfl dX3_next_37, ?_⟩
  refine List.forall_mem_cons.mpr ⟨xs_iload_n X dX3_next_40 rfl, ?_⟩
  refine List.forall_mem_cons.mpr ⟨xs_icmpge (tg := 48) X dX3_next_41 rfl, ?_⟩
  refine List.forall_mem_cons.mpr ⟨xs_iconst X dX3_next_44 rfl, ?_⟩
  refine List.forall_mem_cons.mpr ⟨xs_goto (tg := 49) X dX3_next_45 rfl, ?_⟩
  refine List.forall_mem_cons.mpr ⟨xs_iconst X dX3_next_48 rfl, ?_⟩
  refine List.forall_mem_cons.mpr ⟨xs_istore X dX3_next_49 (Nat.le_of_ble_eq_true rfl), ?_⟩
  refine List.forall_mem_cons.mpr ⟨xs_iload X dX3_next_51, ?_⟩
  refine List.forall_mem_cons.mpr ⟨xs_ifeq (tg := 73) X dX3_next_53 rfl, ?_⟩
  refine List.forall_mem_cons.mpr ⟨xs_aload_n X dX3_next_56 rfl, ?_⟩
  refine List.forall_mem_cons.mpr ⟨xs_aload X dX3_next_57, ?_⟩
  refine List.forall_mem_cons.mpr ⟨xs_callV (ci := 4) X (mpX3_whyNotReady l D Y) (cwV 1 X.1.2.2.2.2 gX3_next_X3_whyNotReady rfl rfl rfl (by decide +kernel) ⟨Nat.le_of_ble_eq_true rfl, Nat.le_of_ble_eq_true rfl⟩) rfl rfl rfl rfl dX3_next_59, ?_⟩
  refine List.forall_mem_cons.mpr ⟨xs_ifne (tg := 73) X dX3_next_62 rfl, ?_⟩
  refine List.forall_mem_cons.mpr ⟨xs_iload_n X dX3_next_65 rfl, ?_⟩
  refine List.forall_mem_cons.mpr ⟨xs_istore_n X dX3_next_66 rfl (Nat.le_of_ble_eq_true rfl), ?_⟩
  refine List.forall_mem_cons.mpr ⟨xs_aload X dX3_next_67, ?_⟩
  refine List.forall_mem_cons.mpr ⟨xs_callV (ci := 1) X (mpX0_restedAt l D Y) (cwV 0 X.1.2.2.2.2 gX3_next_X0_restedAt rfl rfl rfl (by decide +kernel) ⟨Nat.le_of_ble_eq_true rfl, Nat.le_of_ble_eq_true rfl⟩) rfl rfl rfl rfl dX3_next_69, ?_⟩
  refine List.forall_mem_cons.mpr ⟨xs_istore_n X dX3_next_72 rfl (Nat.le_of_ble_eq_true rfl), ?_⟩
  refine List.forall_mem_cons.mpr ⟨xs_iinc X dX3_next_73 rfl (Nat.le_of_ble_eq_true rfl), ?_⟩
  refine List.forall_mem_cons.mpr ⟨xs_goto (tg := 6) X dX3_next_76 rfl, ?_⟩
  refine List.forall_mem_cons.mpr ⟨xs_iload_n X dX3_next_79 rfl, ?_⟩
  refine List.forall_mem_cons.mpr ⟨xs_iret X hr hlocks dX3_next_80, ?_⟩
  exact fun _ h => nomatch h
set_option maxRecDepth 100000 in
set_option maxHeartbeats 4000000 in
theorem mpX0_secondsUntilOver (l : Launch) (D : va_G) (Y : xw_Y) : xw_MP l D vwCl (xw_ty Y) Y.1 yX0_secondsUntilOver wsX0_secondsUntilOver ({ frames := 3, cells := 0, slots := 0, locals := 60 } : Room) (ptX0_secondsUntilOver Y) 0 0 := by
  refine xw_met (cc := cX0_secondsUntilOver) (nL := 2) (ret := (some .int)) (by decide +kernel) rfl ?_
  intro p e s m args below meth c w0 post X hr hlocks hname
  unfold tbX0_secondsUntilOver
  refine List.forall_mem_cons.mpr ⟨xs_aload_n X dX0_secondsUntilOver_0 rfl, ?_⟩
  refine List.forall_mem_cons.mpr ⟨xs_callV (ci := 1) X (mpX0_isInExtra l D Y) (cwV 0 X.1.2.2.2.2 gX0_secondsUntilOver_X0_isInExtra rfl rfl rfl (by decide +kernel) ⟨Nat.le_of_ble_eq_true rfl, Nat.le_of_ble_eq_true rfl⟩) rfl rfl rfl rfl dX0_secondsUntilOver_1, ?_⟩
  refine List.forall_mem_cons.mpr ⟨xs_ifeq (tg := 12) X dX0_secondsUntilOver_4 rfl, ?_⟩
  refine List.forall_mem_cons.mpr ⟨xs_aload_n X dX0_secondsUntilOver_7 rfl, ?_⟩
  refine List.forall_mem_cons.mpr ⟨xs_getf (C := RX0) (T := TX0) (N := 9) (ci := 1) (kf := 8) X (fun w h => List.mem_cons_of_mem _ (List.mem_append_left _ (List.mem_append_right _ h))) rfl (by decide) (List.mem_of_getElem? (i := 1) rfl) (fun _ h => h) dX0_secondsUntilOver_8, ?_⟩
  refine List.forall_mem_cons.mpr ⟨xs_iret X hr hlocks dX0_secondsUntilOver_11, ?_⟩
  refine List.forall_mem_cons.mpr ⟨xs_aload_n X dX0_secondsUntilOver_12 rfl, ?_⟩
  refine List.forall_mem_cons.mpr ⟨xs_getf (C := RX0) (T := TX0) (N := 9) (ci := 1) (kf := 8) X (fun w h => List.mem_cons_of_mem _ (List.mem_append_left _ (List.mem_append_right _ h))) rfl (by decide) (List.mem_of_getElem? (i := 1) rfl) (fun _ h => h) dX0_secondsUntilOver_13, ?_⟩
  refine List.forall_mem_cons.mpr ⟨xs_aload_n X dX0_secondsUntilOver_16 rfl, ?_⟩
  refine List.forall_mem_cons.mpr ⟨xs_callV (ci := 1) X (mpX0_periods l D Y) (cwV 0 X.1.2.2.2.2 gX0_secondsUntilOver_X0_periods rfl rfl rfl (by decide +kernel) ⟨Nat.le_of_ble_eq_true rfl, Nat.le_of_ble_eq_true rfl⟩) rfl rfl rfl rfl dX0_secondsUntilOver_17, ?_⟩
  refine List.forall_mem_cons.mpr ⟨xs_aload_n X dX0_secondsUntilOver_20 rfl, ?_⟩
  refine List.forall_mem_cons.mpr ⟨xs_getf (C := RX0) (T := TX0) (N := 9) (ci := 1) (kf := 7) X (fun w h => List.mem_cons_of_mem _ (List.mem_append_left _ (List.mem_append_right _ h))) rfl (by decide) (List.mem_of_getElem? (i := 2) rfl) (fun _ h => h) dX0_secondsUntilOver_21, ?_⟩
  refine List.forall_mem_cons.mpr ⟨xs_isub X dX0_secondsUntilOver_24, ?_⟩
  refine List.forall_mem_cons.mpr ⟨xs_sipush X dX0_secondsUntilOver_25 rfl, ?_⟩
  refine List.forall_mem_cons.mpr ⟨xs_imul X dX0_secondsUntilOver_28, ?_⟩
  refine List.forall_mem_cons.mpr ⟨xs_iadd X dX0_secondsUntilOver_29, ?_⟩
  refine List.forall_mem_cons.mpr ⟨xs_istore_n X dX0_secondsUntilOver_30 rfl (Nat.le_of_ble_eq_true rfl), ?_⟩
  refine List.forall_mem_cons.mpr ⟨xs_aload_n X dX0_secondsUntilOver_31 rfl, ?_⟩
  refine List.forall_mem_cons.mpr ⟨xs_getf (C := RX0) (T := TX0) (N := 9) (ci := 1) (kf := 2) X (fun w h => List.mem_cons_of_mem _ (List.mem_append_left _ (List.mem_append_right _ h))) rfl (by decide) (List.mem_of_getElem? (i := 3) rfl) (fun _ h => h) dX0_secondsUntilOver_32, ?_⟩
  refine List.forall_mem_cons.mpr ⟨xs_getf (C := RX2) (T := TX2) (N := 3) (ci := 3) (kf := 1) X (fun w h => List.mem_cons_of_mem _ (List.mem_append_right _ h)) rfl (by decide) (List.mem_of_getElem? (i := 4) rfl) (fun _ h => h) dX0_secondsUntilOver_35, ?_⟩
  refine List.forall_mem_cons.mpr ⟨xs_aload_n X dX0_secondsUntilOver_38 rfl, ?_⟩
  refine List.forall_mem_cons.mpr ⟨xs_getf (C := RX0) (T := TX0) (N := 9) (ci := 1) (kf := 3) X (fun w h => List.mem_cons_of_mem _ (List.mem_append_left _ (List.mem_append_right _ h))) rfl (by decide) (List.mem_of_getElem? (i := 5) rfl) (fun _ h => h) dX0_secondsUntilOver_39, ?_⟩
  refine List.forall_mem_cons.mpr ⟨xs_getf (C := RX2) (T := TX2) (N := 3) (ci := 3) (kf := 1) X (fun w h => List.mem_cons_of_mem _ (List.mem_append_right _ h)) rfl (by decide) (List.mem_of_getElem? (i := 4) rfl) (fun _ h => h) dX0_secondsUntilOver_42, ?_⟩
  refine List.forall_mem_cons.mpr ⟨xs_icmpne (tg := 55) X dX0_secondsUntilOver_45 rfl, ?_⟩
  refine List.forall_mem_cons.mpr ⟨xs_iload_n X dX0_secondsUntilOver_48 rfl, ?_⟩
  refine List.forall_mem_cons.mpr ⟨xs_bipush X dX0_secondsUntilOver_49 rfl, ?_⟩
  refine List.forall_mem_cons.mpr ⟨xs_iadd X dX0_secondsUntilOver_51, ?_⟩
  refine List.forall_mem_cons.mpr ⟨xs_goto (tg := 56) X dX0_secondsUntilOver_52 rfl, ?_⟩
  refine List.forall_mem_cons.mpr ⟨xs_iload_n X dX0_secondsUntilOver_55 rfl, ?_⟩
  refine List.forall_mem_cons.mpr ⟨xs_iret X hr hlocks dX0_secondsUntilOver_56, ?_⟩
  exact fun _ h => nomatch h
set_option maxRecDepth 100000 in
set_option maxHeartbeats 4000000 in
theorem mpX0_goOn (l : Launch) (D : va_G) (Y : xw_Y) : xw_MP l D vwCl (xw_ty Y) Y.1 yX0_goOn wsX0_goOn ({ frames := 3, cells := 0, slots := 0, locals := 60 } : Room) (ptX0_goOn Y) 0 0 := by
  refine xw_met (cc := cX0_goOn) (nL := 3) (ret := none) (by decide +kernel) rfl ?_
  intro p e s m args below meth c w0 post X hr hlocks hname
  unfold tbX0_goOn
  refine List.forall_mem_cons.mpr ⟨xs_iload_n X dX0_goOn_0 rfl, ?_⟩
  refine List.forall_mem_cons.mpr ⟨xs_istore_n X dX0_goOn_1 rfl (Nat.le_of_ble_eq_true rfl), ?_⟩
  refine List.forall_mem_cons.mpr ⟨xs_iload_n X dX0_goOn_2 rfl, ?_⟩
  refine List.forall_mem_cons.mpr ⟨xs_aload_n X dX0_goOn_3 rfl, ?_⟩
  refine List.forall_mem_cons.mpr ⟨xs_getf (C := RX0) (T := TX0) (N := 9) (ci := 1) (kf := 8) X (fun w h => List.mem_cons_of_mem _ (List.mem_append_right _ h)) rfl (by decide) (List.mem_of_getElem? (i := 1) rfl) (fun _ h => h) dX0_goOn_4, ?_⟩
  refine List.forall_mem_cons.mpr ⟨xs_icmplt (tg := 60) X dX0_goOn_7 rfl, ?_⟩
  refine List.forall_mem_cons.mpr ⟨xs_aload_n X dX0_goOn_10 rfl, ?_⟩
  refine List.forall_mem_cons.mpr ⟨xs_getf (C := RX0) (T := TX0) (N := 9) (ci := 1) (kf := 7) X (fun w h => List.mem_cons_of_mem _ (List.mem_append_right _ h)) rfl (by decide) (List.mem_of_getElem? (i := 2) rfl) (fun _ h => h) dX0_goOn_11, ?_⟩
  refine List.forall_mem_cons.mpr ⟨xs_aload_n X dX0_goOn_14 rfl, ?_⟩
  refine List.forall_mem_cons.mpr ⟨xs_callV (ci := 1) X (mpX0_periods l D Y) (cwV 0 X.1.2.2.2.2 gX0_goOn_X0_periods rfl rfl rfl (by decide +kernel) ⟨Nat.le_of_ble_eq_true rfl, Nat.le_of_ble_eq_true rfl⟩) rfl rfl rfl rfl dX0_goOn_15, ?_⟩
  refine List.forall_mem_cons.mpr ⟨xs_icmpgt (tg := 60) X dX0_goOn_18 rfl, ?_⟩
  refine List.forall_mem_cons.mpr ⟨xs_iload_n X dX0_goOn_21 rfl, ?_⟩
  refine List.forall_mem_cons.mpr ⟨xs_aload_n X dX0_goOn_22 rfl, ?_⟩
  refine List.forall_mem_cons.mpr ⟨xs_getf (C := RX0) (T := TX0) (N := 9) (ci := 1) (kf := 8) X (fun w h => List.mem_cons_of_mem _ (List.mem_append_right _ h)) rfl (by decide) (List.mem_of_getElem? (i := 1) rfl) (fun _ h => h) dX0_goOn_23, ?_⟩
  refine List.forall_mem_cons.mpr ⟨xs_isub X dX0_goOn_26, ?_⟩
  refine List.forall_mem_cons.mpr ⟨xs_istore_n X dX0_goOn_27 rfl (Nat.le_of_ble_eq_true rfl), ?_⟩
  refine List.forall_mem_cons.mpr ⟨xs_aload_n X dX0_goOn_28 rfl, ?_⟩
  refine List.forall_mem_cons.mpr ⟨xs_dup X dX0_goOn_29, ?_⟩
  refine List.forall_mem_cons.mpr ⟨xs_getf (C := RX0) (T := TX0) (N := 9) (ci := 1) (kf := 7) X (fun w h => List.mem_cons_of_mem _ (List.mem_append_right _ h)) rfl (by decide) (List.mem_of_getElem? (i := 2) rfl) (fun _ h => h) dX0_goOn_30, ?_⟩
  refine List.forall_mem_cons.mpr ⟨xs_iconst X dX0_goOn_33 rfl, ?_⟩
  refine List.forall_mem_cons.mpr ⟨xs_iadd X dX0_goOn_34, ?_⟩
  refine List.forall_mem_cons.mpr ⟨xs_putf (C := RX0) (T := TX0) (N := 9) (ci := 1) (kf := 7) X (fun w h => List.mem_cons_of_mem _ (List.mem_append_right _ h)) tyX0 tyX0_ok nmX0 rfl (by decide) (List.mem_of_getElem? (i := 2) rfl) (fun _ h => h) rfl rfl dX0_goOn_35, ?_⟩
  refine List.forall_mem_cons.mpr ⟨xs_aload_n X dX0_goOn_38 rfl, ?_⟩
  refine List.forall_mem_cons.mpr ⟨xs_aload_n X dX0_goOn_39 rfl, ?_⟩
  refine List.forall_mem_cons.mpr ⟨xs_callV (ci := 1) X (mpX0_isInExtra l D Y) (cwV 0 X.1.2.2.2.2 gX0_goOn_X0_isInExtra rfl rfl rfl (by decide +kernel) ⟨Nat.le_of_ble_eq_true rfl, Nat.le_of_ble_eq_true rfl⟩) rfl rfl rfl rfl dX0_goOn_40, ?_⟩
  refine List.forall_mem_cons.mpr ⟨xs_ifeq (tg := 51) X dX0_goOn_43 rfl, ?_⟩
  refine List.forall_mem_cons.mpr ⟨xs_bipush X dX0_goOn_46 rfl, ?_⟩
  refine List.forall_mem_cons.mpr ⟨xs_goto (tg := 54) X dX0_goOn_48 rfl, ?_⟩
  refine List.forall_mem_cons.mpr ⟨xs_sipush X dX0_goOn_51 rfl, ?_⟩
  refine List.forall_mem_cons.mpr ⟨xs_putf (C := RX0) (T := TX0) (N := 9) (ci := 1) (kf := 8) X (fun w h => List.mem_cons_of_mem _ (List.mem_append_right _ h)) tyX0 tyX0_ok nmX0 rfl (by decide) (List.mem_of_getElem? (i := 1) rfl) (fun _ h => h) rfl rfl dX0_goOn_54, ?_⟩
  refine List.forall_mem_cons.mpr ⟨xs_goto (tg := 2) X dX0_goOn_57 rfl, ?_⟩
  refine List.forall_mem_cons.mpr ⟨xs_aload_n X dX0_goOn_60 rfl, ?_⟩
  refine List.forall_mem_cons.mpr ⟨xs_dup X dX0_goOn_61, ?_⟩
  refine List.forall_mem_cons.mpr ⟨xs_getf (C := RX0) (T := TX0) (N := 9) (ci := 1) (kf := 8) X (fun w h => List.mem_cons_of_mem _ (List.mem_append_right _ h)) rfl (by decide) (List.mem_of_getElem? (i := 1) rfl) (fun _ h => h) dX0_goOn_62, ?_⟩
  refine List.forall_mem_cons.mpr ⟨xs_iload_n X dX0_goOn_65 rfl, ?_⟩
  refine List.forall_mem_cons.mpr ⟨xs_isub X dX0_goOn_66, ?_⟩
  refine List.forall_mem_cons.mpr ⟨xs_putf (C := RX0) (T := TX0) (N := 9) (ci := 1) (kf := 8) X (fun w h => List.mem_cons_of_mem _ (List.mem_append_right _ h)) tyX0 tyX0_ok nmX0 rfl (by decide) (List.mem_of_getElem? (i := 1) rfl) (fun _ h => h) rfl rfl dX0_goOn_67, ?_⟩
  refine List.forall_mem_cons.mpr ⟨xs_vret X hr hlocks dX0_goOn_70, ?_⟩
  exact fun _ h => nomatch h
set_option maxRecDepth 100000 in
set_option maxHeartbeats 4000000 in
theorem mpX0_winnerAsItStands (l : Launch) (D : va_G) (Y : xw_Y) : xw_MP l D vwCl (xw_ty Y) Y.1 yX0_winnerAsItStands wsX0_winnerAsItStands ({ frames := 1, cells := 0, slots := 0, locals := 20 } : Room) (ptX0_winnerAsItStands Y) 0 0 := by
  refine xw_met (cc := cX0_winnerAsItStands) (nL := 1) (ret := (some (.object "Pommel$Fencer"))) (by decide +kernel) rfl ?_
  intro p e s m args below meth c w0 post X hr hlocks hname
  unfold tbX0_winnerAsItStands
  refine List.forall_mem_cons.mpr ⟨xs_aload_n X dX0_winnerAsItStands_0 rfl, ?_⟩
  refine List.forall_mem_cons.mpr ⟨xs_getf (C := RX0) (T := TX0) (N := 9) (ci := 1) (kf := 2) X (fun w h => List.mem_cons_of_mem _ (List.mem_append_left _ (List.mem_append_right _ h))) rfl (by decide) (List.mem_of_getElem? (i := 1) rfl) (fun _ h => h) dX0_winnerAsItStands_1, ?_⟩
  refine List.forall_mem_cons.mpr ⟨xs_getf (C := RX2) (T := TX2) (N := 3) (ci := 3) (kf := 1) X (fun w h => List.mem_cons_of_mem _ (List.mem_append_right _ h)) rfl (by decide) (List.mem_of_getElem? (i := 2) rfl) (fun _ h => h) dX0_winnerAsItStands_4, ?_⟩
  refine List.forall_mem_cons.mpr ⟨xs_aload_n X dX0_winnerAsItStands_7 rfl, ?_⟩
  refine List.forall_mem_cons.mpr ⟨xs_getf (C := RX0) (T := TX0) (N := 9) (ci := 1) (kf := 3) X (fun w h => List.mem_cons_of_mem _ (List.mem_append_left _ (List.mem_append_right _ h))) rfl (by decide) (List.mem_of_getElem? (i := 3) rfl) (fun _ h => h) dX0_winnerAsItStands_8, ?_⟩
  refine List.forall_mem_cons.mpr ⟨xs_getf (C := RX2) (T := TX2) (N := 3) (ci := 3) (kf := 1) X (fun w h => List.mem_cons_of_mem _ (List.mem_append_right _ h)) rfl (by decide) (List.mem_of_getElem? (i := 2) rfl) (fun _ h => h) dX0_winnerAsItStands_11, ?_⟩
  refine List.forall_mem_cons.mpr ⟨xs_icmpne (tg := 25) X dX0_winnerAsItStands_14 rfl, ?_⟩
  refine List.forall_mem_cons.mpr ⟨xs_aload_n X dX0_winnerAsItStands_17 rfl, ?_⟩
  refine List.forall_mem_cons.mpr ⟨xs_callV (ci := 1) X (mpX0_withPriority l D Y) (cwV 0 X.1.2.2.2.2 gX0_winnerAsItStands_X0_withPriority rfl rfl rfl (by decide +kernel) ⟨Nat.le_of_ble_eq_true rfl, Nat.le_of_ble_eq_true rfl⟩) rfl rfl rfl rfl dX0_winnerAsItStands_18, ?_⟩
  refine List.forall_mem_cons.mpr ⟨xs_getf (C := RX2) (T := TX2) (N := 3) (ci := 3) (kf := 0) X (fun w h => List.mem_cons_of_mem _ (List.mem_append_right _ h)) rfl (by decide) (List.mem_of_getElem? (i := 4) rfl) (fun _ h => h) dX0_winnerAsItStands_21, ?_⟩
  refine List.forall_mem_cons.mpr ⟨xs_aret X hr (Or.inl ⟨_, rfl⟩) hlocks dX0_winnerAsItStands_24, ?_⟩
  refine List.forall_mem_cons.mpr ⟨xs_aload_n X dX0_winnerAsItStands_25 rfl, ?_⟩
  refine List.forall_mem_cons.mpr ⟨xs_getf (C := RX0) (T := TX0) (N := 9) (ci := 1) (kf := 2) X (fun w h => List.mem_cons_of_mem _ (List.mem_append_left _ (List.mem_append_right _ h))) rfl (by decide) (List.mem_of_getElem? (i := 1) rfl) (fun _ h => h) dX0_winnerAsItStands_26, ?_⟩
  refine List.forall_mem_cons.mpr ⟨xs_getf (C := RX2) (T := TX2) (N := 3) (ci := 3) (kf := 1) X (fun w h => List.mem_cons_of_mem _ (List.mem_append_right _ h)) rfl (by decide) (List.mem_of_getElem? (i := 2) rfl) (fun _ h => h) dX0_winnerAsItStands_29, ?_⟩
  refine List.forall_mem_cons.mpr ⟨xs_aload_n X dX0_winnerAsItStands_32 rfl, ?_⟩
  refine List.forall_mem_cons.mpr ⟨xs_getf (C := RX0) (T := TX0) (N := 9) (ci := 1) (kf := 3) X (fun w h => List.mem_cons_of_mem _ (List.mem_append_left _ (List.mem_append_right _ h))) rfl (by decide) (List.mem_of_getElem? (i := 3) rfl) (fun _ h => h) dX0_winnerAsItStands_33, ?_⟩
  refine List.forall_mem_cons.mpr ⟨xs_getf (C := RX2) (T := TX2) (N := 3) (ci := 3) (kf := 1) X (fun w h => List.mem_cons_of_mem _ (List.mem_append_right _ h)) rfl (by decide) (List.mem_of_getElem? (i := 2) rfl) (fun _ h => h) dX0_winnerAsItStands_36, ?_⟩
  refine List.forall_mem_cons.mpr ⟨xs_icmple (tg := 52) X dX0_winnerAsItStands_39 rfl, ?_⟩
  refine List.forall_mem_cons.mpr ⟨xs_aload_n X dX0_winnerAsItStands_42 rfl, ?_⟩
  refine List.forall_mem_cons.mpr ⟨xs_getf (C := RX0) (T := TX0) (N := 9) (ci := 1) (kf := 2) X (fun w h => List.mem_cons_of_mem _ (List.mem_append_left _ (List.mem_append_right _ h))) rfl (by decide) (List.mem_of_getElem? (i := 1) rfl) (fun _ h => h) dX0_winnerAsItStands_43, ?_⟩
  refine List.forall_mem_cons.mpr ⟨xs_getf (C := RX2) (T := TX2) (N := 3) (ci := 3) (kf := 0) X (fun w h => List.mem_cons_of_mem _ (List.mem_append_right _ h)) rfl (by decide) (List.mem_of_getElem? (i := 4) rfl) (fun _ h => h) dX0_winnerAsItStands_46, ?_⟩
  refine List.forall_mem_cons.mpr ⟨xs_goto (tg := 59) X dX0_winnerAsItStands_49 rfl, ?_⟩
  refine List.forall_mem_cons.mpr ⟨xs_aload_n X dX0_winnerAsItStands_52 rfl, ?_⟩
  refine List.forall_mem_cons.mpr ⟨xs_getf (C := RX0) (T := TX0) (N := 9) (ci := 1) (kf := 3) X (fun w h => List.mem_cons_of_mem _ (List.mem_append_left _ (List.mem_append_right _ h))) rfl (by decide) (List.mem_of_getElem? (i := 3) rfl) (fun _ h => h) dX0_winnerAsItStands_53, ?_⟩
  refine List.forall_mem_cons.mpr ⟨xs_getf (C := RX2) (T := TX2) (N := 3) (ci := 3) (kf := 0) X (fun w h => List.mem_cons_of_mem _ (List.mem_append_right _ h)) rfl (by decide) (List.mem_of_getElem? (i := 4) rfl) (fun _ h => h) dX0_winnerAsItStands_56, ?_⟩
  refine List.forall_mem_cons.mpr ⟨xs_aret X hr (Or.inl ⟨_, rfl⟩) hlocks dX0_winnerAsItStands_59, ?_⟩
  exact fun _ h => nomatch h
set_option maxRecDepth 100000 in
set_option maxHeartbeats 4000000 in
theorem mpX3_isPiste (l : Launch) (D : va_G) (Y : xw_Y) : xw_MP l D vwCl (xw_ty Y) Y.1 yX3_isPiste wsX3_isPiste ({ frames := 1, cells := 0, slots := 0, locals := 22 } : Room) (ptX3_isPiste Y) 0 0 := by
  refine xw_met (cc := cX3_isPiste) (nL := 1) (ret := (some .boolean)) (by decide +kernel) rfl ?_
  intro p e s m args below meth c w0 post X hr hlocks hname
  unfold tbX3_isPiste
  refine List.forall_mem_cons.mpr ⟨xs_iload_n X dX3_isPiste_0 rfl, ?_⟩
  refine List.forall_mem_cons.mpr ⟨xs_iconst X dX3_isPiste_1 rfl, ?_⟩
  refine List.forall_mem_cons.mpr ⟨xs_iconst X dX3_isPiste_2 rfl, ?_⟩
  refine List.forall_mem_cons.mpr ⟨xs_callS X (mpX3_isIn l D Y) (va_cwS 3 X.1.2.2.2.2 gX3_isPiste_X3_isIn rfl rfl rfl (by decide +kernel) ⟨Nat.le_of_ble_eq_true rfl, Nat.le_of_ble_eq_true rfl⟩) rfl rfl dX3_isPiste_3, ?_⟩
  refine List.forall_mem_cons.mpr ⟨xs_iret X hr hlocks dX3_isPiste_6, ?_⟩
  exact fun _ h => nomatch h
set_option maxRecDepth 100000 in
set_option maxHeartbeats 4000000 in
theorem mpX2_end (l : Launch) (D : va_G) (Y : xw_Y) : xw_MP l D vwCl (xw_ty Y) Y.1 yX2_end wsX2_end ({ frames := 0, cells := 0, slots := 0, locals := 0 } : Room) (ptX2_end Y) 0 0 := by
  refine xw_met (cc := cX2_end) (nL := 2) (ret := none) (by decide +kernel) rfl ?_
  intro p e s m args below meth c w0 post X hr hlocks hname
  unfold tbX2_end
  refine List.forall_mem_cons.mpr ⟨xs_aload_n X dX2_end_0 rfl, ?_⟩
  refine List.forall_mem_cons.mpr ⟨xs_getf (C := RX2) (T := TX2) (N := 3) (ci := 3) (kf := 0) X (fun w h => List.mem_cons_of_mem _ (List.mem_append_left _ (List.mem_append_right _ h))) rfl (by decide) (List.mem_of_getElem? (i := 1) rfl) (fun _ h => h) dX2_end_1, ?_⟩
  refine List.forall_mem_cons.mpr ⟨xs_ifnull (tg := 26) X dX2_end_4 rfl, ?_⟩
  refine List.forall_mem_cons.mpr ⟨xs_aload_n X dX2_end_7 rfl, ?_⟩
  refine List.forall_mem_cons.mpr ⟨xs_getf (C := RX2) (T := TX2) (N := 3) (ci := 3) (kf := 0) X (fun w h => List.mem_cons_of_mem _ (List.mem_append_left _ (List.mem_append_right _ h))) rfl (by decide) (List.mem_of_getElem? (i := 1) rfl) (fun _ h => h) dX2_end_8, ?_⟩
  refine List.forall_mem_cons.mpr ⟨xs_null X dX2_end_11, ?_⟩
  refine List.forall_mem_cons.mpr ⟨xs_putf (C := RX1) (T := TX1) (N := 14) (ci := 2) (kf := 6) X (fun w h => List.mem_cons_of_mem _ (List.mem_append_right _ h)) tyX1 tyX1_ok nmX1 rfl (by decide) (List.mem_of_getElem? (i := 2) rfl) (fun _ h => h) rfl rfl dX2_end_12, ?_⟩
  refine List.forall_mem_cons.mpr ⟨xs_aload_n X dX2_end_15 rfl, ?_⟩
  refine List.forall_mem_cons.mpr ⟨xs_getf (C := RX2) (T := TX2) (N := 3) (ci := 3) (kf := 0) X (fun w h => List.mem_cons_of_mem _ (List.mem_append_left _ (List.mem_append_right _ h))) rfl (by decide) (List.mem_of_getElem? (i := 1) rfl) (fun _ h => h) dX2_end_16, ?_⟩
  refine List.forall_mem_cons.mpr ⟨xs_iload_n X dX2_end_19 rfl, ?_⟩
  refine List.forall_mem_cons.mpr ⟨xs_bipush X dX2_end_20 rfl, ?_⟩
  refine List.forall_mem_cons.mpr ⟨xs_iadd X dX2_end_22, ?_⟩
  refine List.forall_mem_cons.mpr ⟨xs_putf (C := RX1) (T := TX1) (N := 14) (ci := 2) (kf := 7) X (fun w h => List.mem_cons_of_mem _ (List.mem_append_right _ h)) tyX1 tyX1_ok nmX1 rfl (by decide) (List.mem_of_getElem? (i := 3) rfl) (fun _ h => h) rfl rfl dX2_end_23, ?_⟩
  refine List.forall_mem_cons.mpr ⟨xs_vret X hr hlocks dX2_end_26, ?_⟩
  exact fun _ h => nomatch h
set_option maxRecDepth 100000 in
set_option maxHeartbeats 4000000 in
theorem mpX0_end (l : Launch) (D : va_G) (Y : xw_Y) : xw_MP l D vwCl (xw_ty Y) Y.1 yX0_end wsX0_end ({ frames := 1, cells := 0, slots := 0, locals := 21 } : Room) (ptX0_end Y) 0 0 := by
  refine xw_met (cc := cX0_end) (nL := 2) (ret := none) (by decide +kernel) rfl ?_
  intro p e s m args below meth c w0 post X hr hlocks hname
  unfold tbX0_end
  refine List.forall_mem_cons.mpr ⟨xs_aload_n X dX0_end_0 rfl, ?_⟩
  refine List.forall_mem_cons.mpr ⟨xs_iconst X dX0_end_1 rfl, ?_⟩
  refine List.forall_mem_cons.mpr ⟨xs_putf (C := RX0) (T := TX0) (N := 9) (ci := 1) (kf := 6) X (fun w h => List.mem_cons_of_mem _ (List.mem_append_left _ (List.mem_append_left _ (List.mem_append_right _ h)))) tyX0 tyX0_ok nmX0 rfl (by decide) (List.mem_of_getElem? (i := 1) rfl) (fun _ h => h) rfl rfl dX0_end_2, ?_⟩
  refine List.forall_mem_cons.mpr ⟨xs_aload_n X dX0_end_5 rfl, ?_⟩
  refine List.forall_mem_cons.mpr ⟨xs_iconst X dX0_end_6 rfl, ?_⟩
  refine List.forall_mem_cons.mpr ⟨xs_putf (C := RX0) (T := TX0) (N := 9) (ci := 1) (kf := 7) X (fun w h => List.mem_cons_of_mem _ (List.mem_append_left _ (List.mem_append_left _ (List.mem_append_right _ h)))) tyX0 tyX0_ok nmX0 rfl (by decide) (List.mem_of_getElem? (i := 2) rfl) (fun _ h => h) rfl rfl dX0_end_7, ?_⟩
  refine List.forall_mem_cons.mpr ⟨xs_aload_n X dX0_end_10 rfl, ?_⟩
  refine List.forall_mem_cons.mpr ⟨xs_iconst X dX0_end_11 rfl, ?_⟩
  refine List.forall_mem_cons.mpr ⟨xs_putf (C := RX0) (T := TX0) (N := 9) (ci := 1) (kf := 8) X (fun w h => List.mem_cons_of_mem _ (List.mem_append_left _ (List.mem_append_left _ (List.mem_append_right _ h)))) tyX0 tyX0_ok nmX0 rfl (by decide) (List.mem_of_getElem? (i := 3) rfl) (fun _ h => h) rfl rfl dX0_end_12, ?_⟩
  refine List.forall_mem_cons.mpr ⟨xs_aload_n X dX0_end_15 rfl, ?_⟩
  refine List.forall_mem_cons.mpr ⟨xs_getf (C := RX0) (T := TX0) (N := 9) (ci := 1) (kf := 2) X (fun w h => List.mem_cons_of_mem _ (List.mem_append_left _ (List.mem_append_left _ (List.mem_append_right _ h)))) rfl (by decide) (List.mem_of_getElem? (i := 4) rfl) (fun _ h => h) dX0_end_16, ?_⟩
  refine List.forall_mem_cons.mpr ⟨xs_iload_n X dX0_end_19 rfl, ?_⟩
  refine List.forall_mem_cons.mpr ⟨xs_callV (ci := 3) X (mpX2_end l D Y) (cwV 1 X.1.2.2.2.2 gX0_end_X2_end rfl rfl rfl (by decide +kernel) ⟨Nat.le_of_ble_eq_true rfl, Nat.le_of_ble_eq_true rfl⟩) rfl rfl rfl rfl dX0_end_20, ?_⟩
  refine List.forall_mem_cons.mpr ⟨xs_aload_n X dX0_end_23 rfl, ?_⟩
  refine List.forall_mem_cons.mpr ⟨xs_getf (C := RX0) (T := TX0) (N := 9) (ci := 1) (kf := 3) X (fun w h => List.mem_cons_of_mem _ (List.mem_append_left _ (List.mem_append_left _ (List.mem_append_right _ h)))) rfl (by decide) (List.mem_of_getElem? (i := 5) rfl) (fun _ h => h) dX0_end_24, ?_⟩
  refine List.forall_mem_cons.mpr ⟨xs_iload_n X dX0_end_27 rfl, ?_⟩
  refine List.forall_mem_cons.mpr ⟨xs_callV (ci := 3) X (mpX2_end l D Y) (cwV 1 X.1.2.2.2.2 gX0_end_X2_end rfl rfl rfl (by decide +kernel) ⟨Nat.le_of_ble_eq_true rfl, Nat.le_of_ble_eq_true rfl⟩) rfl rfl rfl rfl dX0_end_28, ?_⟩
  refine List.forall_mem_cons.mpr ⟨xs_vret X hr hlocks dX0_end_31, ?_⟩
  exact fun _ h => nomatch h
set_option maxRecDepth 100000 in
set_option maxHeartbeats 4000000 in
theorem mpX3_leavePiste (l : Launch) (D : va_G) (Y : xw_Y) : xw_MP l D vwCl (xw_ty Y) Y.1 yX3_leavePiste wsX3_leavePiste ({ frames := 2, cells := 0, slots := 0, locals := 42 } : Room) (ptX3_leavePiste Y) 0 0 := by
  refine xw_met (cc := cX3_leavePiste) (nL := 3) (ret := none) (by decide +kernel) rfl ?_
  intro p e s m args below meth c w0 post X hr hlocks hname
  unfold tbX3_leavePiste
  refine List.forall_mem_cons.mpr ⟨xs_aload_n X dX3_leavePiste_0 rfl, ?_⟩
  refine List.forall_mem_cons.mpr ⟨xs_getf (C := RX0) (T := TX0) (N := 9) (ci := 1) (kf := 6) X (fun w h => List.mem_cons_of_mem _ (List.mem_append_left _ (List.mem_append_left _ (List.mem_append_left _ (List.mem_append_right _ h))))) rfl (by decide) (List.mem_of_getElem? (i := 1) rfl) (fun _ h => h) dX3_leavePiste_1, ?_⟩
  refine List.forall_mem_cons.mpr ⟨xs_callS X (mpX3_isPiste l D Y) (va_cwS 1 X.1.2.2.2.2 gX3_leavePiste_X3_isPiste rfl rfl rfl (by decide +kernel) ⟨Nat.le_of_ble_eq_true rfl, Nat.le_of_ble_eq_true rfl⟩) rfl rfl dX3_leavePiste_4, ?_⟩
  refine List.forall_mem_cons.mpr ⟨xs_ifeq (tg := 20) X dX3_leavePiste_7 rfl, ?_⟩
  refine List.forall_mem_cons.mpr ⟨xs_aload_n X dX3_leavePiste_10 rfl, ?_⟩
  refine List.forall_mem_cons.mpr ⟨xs_getf (C := RX3) (T := TX3) (N := 10) (ci := 4) (kf := 2) X (fun w h => List.mem_cons_of_mem _ (List.mem_append_left _ (List.mem_append_left _ (List.mem_append_right _ h)))) rfl (by decide) (List.mem_of_getElem? (i := 2) rfl) (fun _ h => h) dX3_leavePiste_11, ?_⟩
  refine List.forall_mem_cons.mpr ⟨xs_aload_n X dX3_leavePiste_14 rfl, ?_⟩
  refine List.forall_mem_cons.mpr ⟨xs_getf (C := RX0) (T := TX0) (N := 9) (ci := 1) (kf := 6) X (fun w h => List.mem_cons_of_mem _ (List.mem_append_left _ (List.mem_append_left _ (List.mem_append_left _ (List.mem_append_right _ h))))) rfl (by decide) (List.mem_of_getElem? (i := 1) rfl) (fun _ h => h) dX3_leavePiste_15, ?_⟩
  refine List.forall_mem_cons.mpr ⟨xs_null X dX3_leavePiste_18, ?_⟩
  refine List.forall_mem_cons.mpr ⟨xs_aast (t0 := 2) X rfl (fun ci h => by
      rcases List.mem_cons.mp h with h | h
      · exact ⟨_, by rw [h]; rfl, Or.inl rfl⟩
      · cases h) dX3_leavePiste_19, ?_⟩
  refine List.forall_mem_cons.mpr ⟨xs_aload_n X dX3_leavePiste_20 rfl, ?_⟩
  refine List.forall_mem_cons.mpr ⟨xs_iload_n X dX3_leavePiste_21 rfl, ?_⟩
  refine List.forall_mem_cons.mpr ⟨xs_callV (ci := 1) X (mpX0_end l D Y) (cwV 1 X.1.2.2.2.2 gX3_leavePiste_X0_end rfl rfl rfl (by decide +kernel) ⟨Nat.le_of_ble_eq_true rfl, Nat.le_of_ble_eq_true rfl⟩) rfl rfl rfl rfl dX3_leavePiste_22, ?_⟩
  refine List.forall_mem_cons.mpr ⟨xs_vret X hr hlocks dX3_leavePiste_25, ?_⟩
  exact fun _ h => nomatch h
set_option maxRecDepth 100000 in
set_option maxHeartbeats 4000000 in
theorem mpX3_finish (l : Launch) (D : va_G) (Y : xw_Y) : xw_MP l D vwCl (xw_ty Y) Y.1 yX3_finish wsX3_finish ({ frames := 5, cells := 0, slots := 0, locals := 110 } : Room) (ptX3_finish Y) 0 0 := by
  refine xw_met (cc := cX3_finish) (nL := 4) (ret := none) (by decide +kernel) rfl ?_
  intro p e s m args below meth c w0 post X hr hlocks hname
  unfold tbX3_finish
  refine List.forall_mem_cons.mpr ⟨xs_aload_n X dX3_finish_0 rfl, ?_⟩
  refine List.forall_mem_cons.mpr ⟨xs_aload_n X dX3_finish_1 rfl, ?_⟩
  refine List.forall_mem_cons.mpr ⟨xs_iload_n X dX3_finish_2 rfl, ?_⟩
  refine List.forall_mem_cons.mpr ⟨xs_callV (ci := 4) X (mpX3_leavePiste l D Y) (cwV 2 X.1.2.2.2.2 gX3_finish_X3_leavePiste rfl rfl rfl (by decide +kernel) ⟨Nat.le_of_ble_eq_true rfl, Nat.le_of_ble_eq_true rfl⟩) rfl rfl rfl rfl dX3_finish_3, ?_⟩
  refine List.forall_mem_cons.mpr ⟨xs_aload_n X dX3_finish_6 rfl, ?_⟩
  refine List.forall_mem_cons.mpr ⟨xs_aload_n X dX3_finish_7 rfl, ?_⟩
  refine List.forall_mem_cons.mpr ⟨xs_aload_n X dX3_finish_8 rfl, ?_⟩
  refine List.forall_mem_cons.mpr ⟨xs_callV (ci := 4) X (mpX3_decide l D Y) (cwV 2 X.1.2.2.2.2 gX3_finish_X3_decide rfl rfl rfl (by decide +kernel) ⟨Nat.le_of_ble_eq_true rfl, Nat.le_of_ble_eq_true rfl⟩) rfl rfl rfl rfl dX3_finish_9, ?_⟩
  refine List.forall_mem_cons.mpr ⟨xs_vret X hr hlocks dX3_finish_12, ?_⟩
  exact fun _ h => nomatch h
set_option maxRecDepth 100000 in
set_option maxHeartbeats 4000000 in
theorem mpX3_isOverAfter (l : Launch) (D : va_G) (Y : xw_Y) : xw_MP l D vwCl (xw_ty Y) Y.1 yX3_isOverAfter wsX3_isOverAfter ({ frames := 6, cells := 0, slots := 0, locals := 133 } : Room) (ptX3_isOverAfter Y) 0 0 := by
  refine xw_met (cc := cX3_isOverAfter) (nL := 4) (ret := (some .boolean)) (by decide +kernel) rfl ?_
  intro p e s m args below meth c w0 post X hr hlocks hname
  unfold tbX3_isOverAfter
  refine List.forall_mem_cons.mpr ⟨xs_aload_n X dX3_isOverAfter_0 rfl, ?_⟩
  refine List.forall_mem_cons.mpr ⟨xs_callV (ci := 1) X (mpX0_secondsUntilOver l D Y) (cwV 0 X.1.2.2.2.2 gX3_isOverAfter_X0_secondsUntilOver rfl rfl rfl (by decide +kernel) ⟨Nat.le_of_ble_eq_true rfl, Nat.le_of_ble_eq_true rfl⟩) rfl rfl rfl rfl dX3_isOverAfter_1, ?_⟩
  refine List.forall_mem_cons.mpr ⟨xs_istore_n X dX3_isOverAfter_4 rfl (Nat.le_of_ble_eq_true rfl), ?_⟩
  refine List.forall_mem_cons.mpr ⟨xs_iload_n X dX3_isOverAfter_5 rfl, ?_⟩
  refine List.forall_mem_cons.mpr ⟨xs_iload_n X dX3_isOverAfter_6 rfl, ?_⟩
  refine List.forall_mem_cons.mpr ⟨xs_icmpge (tg := 17) X dX3_isOverAfter_7 rfl, ?_⟩
  refine List.forall_mem_cons.mpr ⟨xs_aload_n X dX3_isOverAfter_10 rfl, ?_⟩
  refine List.forall_mem_cons.mpr ⟨xs_iload_n X dX3_isOverAfter_11 rfl, ?_⟩
  refine List.forall_mem_cons.mpr ⟨xs_callV (ci := 1) X (mpX0_goOn l D Y) (cwV 1 X.1.2.2.2.2 gX3_isOverAfter_X0_goOn rfl rfl rfl (by decide +kernel) ⟨Nat.le_of_ble_eq_true rfl, Nat.le_of_ble_eq_true rfl⟩) rfl rfl rfl rfl dX3_isOverAfter_12, ?_⟩
  refine List.forall_mem_cons.mpr ⟨xs_iconst X dX3_isOverAfter_15 rfl, ?_⟩
  refine List.forall_mem_cons.mpr ⟨xs_iret X hr hlocks dX3_isOverAfter_16, ?_⟩
  refine List.forall_mem_cons.mpr ⟨xs_aload_n X dX3_isOverAfter_17 rfl, ?_⟩
  refine List.forall_mem_cons.mpr ⟨xs_aload_n X dX3_isOverAfter_18 rfl, ?_⟩
  refine List.forall_mem_cons.mpr ⟨xs_aload_n X dX3_isOverAfter_19 rfl, ?_⟩
  refine List.forall_mem_cons.mpr ⟨xs_callV (ci := 1) X (mpX0_winnerAsItStands l D Y) (cwV 0 X.1.2.2.2.2 gX3_isOverAfter_X0_winnerAsItStands rfl rfl rfl (by decide +kernel) ⟨Nat.le_of_ble_eq_true rfl, Nat.le_of_ble_eq_true rfl⟩) rfl rfl rfl rfl dX3_isOverAfter_20, ?_⟩
  refine List.forall_mem_cons.mpr ⟨xs_aload_n X dX3_isOverAfter_23 rfl, ?_⟩
  refine List.forall_mem_cons.mpr ⟨xs_getf (C := RX3) (T := TX3) (N := 10) (ci := 4) (kf := 7) X (fun w h => List.mem_cons_of_mem _ (List.mem_append_left _ (List.mem_append_left _ (List.mem_append_left _ (List.mem_append_left _ (List.mem_append_right _ h)))))) rfl (by decide) (List.mem_of_getElem? (i := 1) rfl) (fun _ h => h) dX3_isOverAfter_24, ?_⟩
  refine List.forall_mem_cons.mpr ⟨xs_iload_n X dX3_isOverAfter_27 rfl, ?_⟩
  refine List.forall_mem_cons.mpr ⟨xs_iadd X dX3_isOverAfter_28, ?_⟩
  refine List.forall_mem_cons.mpr ⟨xs_callV (ci := 4) X (mpX3_finish l D Y) (cwV 3 X.1.2.2.2.2 gX3_isOverAfter_X3_finish rfl rfl rfl (by decide +kernel) ⟨Nat.le_of_ble_eq_true rfl, Nat.le_of_ble_eq_true rfl⟩) rfl rfl rfl rfl dX3_isOverAfter_29, ?_⟩
  refine List.forall_mem_cons.mpr ⟨xs_iconst X dX3_isOverAfter_32 rfl, ?_⟩
  refine List.forall_mem_cons.mpr ⟨xs_iret X hr hlocks dX3_isOverAfter_33, ?_⟩
  exact fun _ h => nomatch h
