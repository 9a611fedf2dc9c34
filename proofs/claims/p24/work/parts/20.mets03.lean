set_option maxRecDepth 100000 in
set_option maxHeartbeats 4000000 in
theorem mpX3_of (l : Launch) (D : va_G) (Y : xw_Y) : xw_MP l D vwCl (xw_ty Y) Y.1 yX3_of wsX3_of ({ frames := 4, cells := 0, slots := 0, locals := 85 } : Room) (ptX3_of Y) 0 0 := by
  refine xw_met (cc := cX3_of) (nL := 4) (ret := (some .int)) (by decide +kernel) rfl ?_
  intro p e s m args below meth c w0 post X hr hlocks hname
  unfold tbX3_of
  refine List.forall_mem_cons.mpr ⟨xs_aload_n X dX3_of_0 rfl, ?_⟩
  refine List.forall_mem_cons.mpr ⟨xs_iload_n X dX3_of_1 rfl, ?_⟩
  refine List.forall_mem_cons.mpr ⟨xs_callV (ci := 4) X (mpX3_fencerAt l D Y) (cwV 1 X.1.2.2.2.2 gX3_of_X3_fencerAt rfl rfl rfl (by decide +kernel) ⟨Nat.le_of_ble_eq_true rfl, Nat.le_of_ble_eq_true rfl⟩) rfl rfl rfl rfl dX3_of_2, ?_⟩
  refine List.forall_mem_cons.mpr ⟨xs_astore_n X dX3_of_5 rfl (Nat.le_of_ble_eq_true rfl), ?_⟩
  refine List.forall_mem_cons.mpr ⟨xs_iload_n X dX3_of_6 rfl, ?_⟩
  refine List.forall_mem_cons.mpr ⟨xs_sw X dX3_of_7 rfl (by decide) rfl (fun j t h => by
      match j, h with
      | 0, h => cases h; exact ⟨_, rfl, rfl⟩
      | 1, h => cases h; exact ⟨_, rfl, rfl⟩
      | 2, h => cases h; exact ⟨_, rfl, rfl⟩
      | 3, h => cases h; exact ⟨_, rfl, rfl⟩
      | 4, h => cases h; exact ⟨_, rfl, rfl⟩
      | 5, h => cases h; exact ⟨_, rfl, rfl⟩
      | 6, h => cases h; exact ⟨_, rfl, rfl⟩
      | n + 7, h => exact absurd h (by simp)), ?_⟩
  refine List.forall_mem_cons.mpr ⟨xs_aload_n X dX3_of_48 rfl, ?_⟩
  refine List.forall_mem_cons.mpr ⟨xs_getf (C := RX1) (T := TX1) (N := 14) (ci := 2) (kf := 1) X (fun w h => List.mem_cons_of_mem _ (List.mem_append_left _ (List.mem_append_left _ (List.mem_append_left _ (List.mem_append_left _ (List.mem_append_left _ (List.mem_append_right _ h))))))) rfl (by decide) (List.mem_of_getElem? (i := 3) rfl) (fun _ h => h) dX3_of_49, ?_⟩
  refine List.forall_mem_cons.mpr ⟨xs_iret X hr hlocks dX3_of_52, ?_⟩
  refine List.forall_mem_cons.mpr ⟨xs_aload_n X dX3_of_53 rfl, ?_⟩
  refine List.forall_mem_cons.mpr ⟨xs_getf (C := RX1) (T := TX1) (N := 14) (ci := 2) (kf := 2) X (fun w h => List.mem_cons_of_mem _ (List.mem_append_left _ (List.mem_append_left _ (List.mem_append_left _ (List.mem_append_left _ (List.mem_append_left _ (List.mem_append_right _ h))))))) rfl (by decide) (List.mem_of_getElem? (i := 4) rfl) (fun _ h => h) dX3_of_54, ?_⟩
  refine List.forall_mem_cons.mpr ⟨xs_iret X hr hlocks dX3_of_57, ?_⟩
  refine List.forall_mem_cons.mpr ⟨xs_aload_n X dX3_of_58 rfl, ?_⟩
  refine List.forall_mem_cons.mpr ⟨xs_getf (C := RX1) (T := TX1) (N := 14) (ci := 2) (kf := 3) X (fun w h => List.mem_cons_of_mem _ (List.mem_append_left _ (List.mem_append_left _ (List.mem_append_left _ (List.mem_append_left _ (List.mem_append_left _ (List.mem_append_right _ h))))))) rfl (by decide) (List.mem_of_getElem? (i := 5) rfl) (fun _ h => h) dX3_of_59, ?_⟩
  refine List.forall_mem_cons.mpr ⟨xs_iret X hr hlocks dX3_of_62, ?_⟩
  refine List.forall_mem_cons.mpr ⟨xs_aload_n X dX3_of_63 rfl, ?_⟩
  refine List.forall_mem_cons.mpr ⟨xs_getf (C := RX1) (T := TX1) (N := 14) (ci := 2) (kf := 4) X (fun w h => List.mem_cons_of_mem _ (List.mem_append_left _ (List.mem_append_left _ (List.mem_append_left _ (List.mem_append_left _ (List.mem_append_left _ (List.mem_append_right _ h))))))) rfl (by decide) (List.mem_of_getElem? (i := 6) rfl) (fun _ h => h) dX3_of_64, ?_⟩
  refine List.forall_mem_cons.mpr ⟨xs_iret X hr hlocks dX3_of_67, ?_⟩
  refine List.forall_mem_cons.mpr ⟨xs_aload_n X dX3_of_68 rfl, ?_⟩
  refine List.forall_mem_cons.mpr ⟨xs_getf (C := RX1) (T := TX1) (N := 14) (ci := 2) (kf := 5) X (fun w h => List.mem_cons_of_mem _ (List.mem_append_left _ (List.mem_append_left _ (List.mem_append_left _ (List.mem_append_left _ (List.mem_append_left _ (List.mem_append_right _ h))))))) rfl (by decide) (List.mem_of_getElem? (i := 7) rfl) (fun _ h => h) dX3_of_69, ?_⟩
  refine List.forall_mem_cons.mpr ⟨xs_ifeq (tg := 79) X dX3_of_72 rfl, ?_⟩
  refine List.forall_mem_cons.mpr ⟨xs_iconst X dX3_of_75 rfl, ?_⟩
  refine List.forall_mem_cons.mpr ⟨xs_goto (tg := 80) X dX3_of_76 rfl, ?_⟩
  refine List.forall_mem_cons.mpr ⟨xs_iconst X dX3_of_79 rfl, ?_⟩
  refine List.forall_mem_cons.mpr ⟨xs_iret X hr hlocks dX3_of_80, ?_⟩
  refine List.forall_mem_cons.mpr ⟨xs_aload_n X dX3_of_81 rfl, ?_⟩
  refine List.forall_mem_cons.mpr ⟨xs_getf (C := RX1) (T := TX1) (N := 14) (ci := 2) (kf := 6) X (fun w h => List.mem_cons_of_mem _ (List.mem_append_left _ (List.mem_append_left _ (List.mem_append_left _ (List.mem_append_left _ (List.mem_append_left _ (List.mem_append_right _ h))))))) rfl (by decide) (List.mem_of_getElem? (i := 8) rfl) (fun _ h => h) dX3_of_82, ?_⟩
  refine List.forall_mem_cons.mpr ⟨xs_ifnonnull (tg := 92) X dX3_of_85 rfl, ?_⟩
  refine List.forall_mem_cons.mpr ⟨xs_iconst X dX3_of_88 rfl, ?_⟩
  refine List.forall_mem_cons.mpr ⟨xs_goto (tg := 99) X dX3_of_89 rfl, ?_⟩
  refine List.forall_mem_cons.mpr ⟨xs_aload_n X dX3_of_92 rfl, ?_⟩
  refine List.forall_mem_cons.mpr ⟨xs_getf (C := RX1) (T := TX1) (N := 14) (ci := 2) (kf := 6) X (fun w h => List.mem_cons_of_mem _ (List.mem_append_left _ (List.mem_append_left _ (List.mem_append_left _ (List.mem_append_left _ (List.mem_append_left _ (List.mem_append_right _ h))))))) rfl (by decide) (List.mem_of_getElem? (i := 8) rfl) (fun _ h => h) dX3_of_93, ?_⟩
  refine List.forall_mem_cons.mpr ⟨xs_getf (C := RX0) (T := TX0) (N := 9) (ci := 1) (kf := 0) X (fun w h => List.mem_cons_of_mem _ (List.mem_append_left _ (List.mem_append_left _ (List.mem_append_left _ (List.mem_append_left _ (List.mem_append_right _ h)))))) rfl (by decide) (List.mem_of_getElem? (i := 9) rfl) (fun _ h => h) dX3_of_96, ?_⟩
  refine List.forall_mem_cons.mpr ⟨xs_iret X hr hlocks dX3_of_99, ?_⟩
  refine List.forall_mem_cons.mpr ⟨xs_aload_n X dX3_of_100 rfl, ?_⟩
  refine List.forall_mem_cons.mpr ⟨xs_getf (C := RX1) (T := TX1) (N := 14) (ci := 2) (kf := 7) X (fun w h => List.mem_cons_of_mem _ (List.mem_append_left _ (List.mem_append_left _ (List.mem_append_left _ (List.mem_append_left _ (List.mem_append_left _ (List.mem_append_right _ h))))))) rfl (by decide) (List.mem_of_getElem? (i := 10) rfl) (fun _ h => h) dX3_of_101, ?_⟩
  refine List.forall_mem_cons.mpr ⟨xs_iret X hr hlocks dX3_of_104, ?_⟩
  exact fun _ h => nomatch h
set_option maxRecDepth 100000 in
set_option maxHeartbeats 4000000 in
theorem mpX3_order (l : Launch) (D : va_G) (Y : xw_Y) : xw_MP l D vwCl (xw_ty Y) Y.1 yX3_order wsX3_order ({ frames := 4, cells := 0, slots := 0, locals := 87 } : Room) (ptX3_order Y) 0 0 := by
  refine xw_met (cc := cX3_order) (nL := 4) (ret := (some .int)) (by decide +kernel) rfl ?_
  intro p e s m args below meth c w0 post X hr hlocks hname
  unfold tbX3_order
  refine List.forall_mem_cons.mpr ⟨xs_aload_n X dX3_order_0 rfl, ?_⟩
  refine List.forall_mem_cons.mpr ⟨xs_iload_n X dX3_order_1 rfl, ?_⟩
  refine List.forall_mem_cons.mpr ⟨xs_callV (ci := 4) X (mpX3_fencerAt l D Y) (cwV 1 X.1.2.2.2.2 gX3_order_X3_fencerAt rfl rfl rfl (by decide +kernel) ⟨Nat.le_of_ble_eq_true rfl, Nat.le_of_ble_eq_true rfl⟩) rfl rfl rfl rfl dX3_order_2, ?_⟩
  refine List.forall_mem_cons.mpr ⟨xs_astore_n X dX3_order_5 rfl (Nat.le_of_ble_eq_true rfl), ?_⟩
  refine List.forall_mem_cons.mpr ⟨xs_iload_n X dX3_order_6 rfl, ?_⟩
  refine List.forall_mem_cons.mpr ⟨xs_sw X dX3_order_7 rfl (by decide) rfl (fun j t h => by
      match j, h with
      | 0, h => cases h; exact ⟨_, rfl, rfl⟩
      | 1, h => cases h; exact ⟨_, rfl, rfl⟩
      | 2, h => cases h; exact ⟨_, rfl, rfl⟩
      | 3, h => cases h; exact ⟨_, rfl, rfl⟩
      | 4, h => cases h; exact ⟨_, rfl, rfl⟩
      | n + 5, h => exact absurd h (by simp)), ?_⟩
  refine List.forall_mem_cons.mpr ⟨xs_aload_n X dX3_order_40 rfl, ?_⟩
  refine List.forall_mem_cons.mpr ⟨xs_getf (C := RX1) (T := TX1) (N := 14) (ci := 2) (kf := 8) X (fun w h => List.mem_cons_of_mem _ (List.mem_append_left _ (List.mem_append_left _ (List.mem_append_left _ (List.mem_append_left _ (List.mem_append_right _ h)))))) rfl (by decide) (List.mem_of_getElem? (i := 3) rfl) (fun _ h => h) dX3_order_41, ?_⟩
  refine List.forall_mem_cons.mpr ⟨xs_iret X hr hlocks dX3_order_44, ?_⟩
  refine List.forall_mem_cons.mpr ⟨xs_aload_n X dX3_order_45 rfl, ?_⟩
  refine List.forall_mem_cons.mpr ⟨xs_getf (C := RX1) (T := TX1) (N := 14) (ci := 2) (kf := 9) X (fun w h => List.mem_cons_of_mem _ (List.mem_append_left _ (List.mem_append_left _ (List.mem_append_left _ (List.mem_append_left _ (List.mem_append_right _ h)))))) rfl (by decide) (List.mem_of_getElem? (i := 4) rfl) (fun _ h => h) dX3_order_46, ?_⟩
  refine List.forall_mem_cons.mpr ⟨xs_iret X hr hlocks dX3_order_49, ?_⟩
  refine List.forall_mem_cons.mpr ⟨xs_aload_n X dX3_order_50 rfl, ?_⟩
  refine List.forall_mem_cons.mpr ⟨xs_getf (C := RX1) (T := TX1) (N := 14) (ci := 2) (kf := 10) X (fun w h => List.mem_cons_of_mem _ (List.mem_append_left _ (List.mem_append_left _ (List.mem_append_left _ (List.mem_append_left _ (List.mem_append_right _ h)))))) rfl (by decide) (List.mem_of_getElem? (i := 5) rfl) (fun _ h => h) dX3_order_51, ?_⟩
  refine List.forall_mem_cons.mpr ⟨xs_iret X hr hlocks dX3_order_54, ?_⟩
  refine List.forall_mem_cons.mpr ⟨xs_aload_n X dX3_order_55 rfl, ?_⟩
  refine List.forall_mem_cons.mpr ⟨xs_getf (C := RX1) (T := TX1) (N := 14) (ci := 2) (kf := 11) X (fun w h => List.mem_cons_of_mem _ (List.mem_append_left _ (List.mem_append_left _ (List.mem_append_left _ (List.mem_append_left _ (List.mem_append_right _ h)))))) rfl (by decide) (List.mem_of_getElem? (i := 6) rfl) (fun _ h => h) dX3_order_56, ?_⟩
  refine List.forall_mem_cons.mpr ⟨xs_iret X hr hlocks dX3_order_59, ?_⟩
  refine List.forall_mem_cons.mpr ⟨xs_aload_n X dX3_order_60 rfl, ?_⟩
  refine List.forall_mem_cons.mpr ⟨xs_aload_n X dX3_order_61 rfl, ?_⟩
  refine List.forall_mem_cons.mpr ⟨xs_callV (ci := 4) X (mpX3_aheadInOrder l D Y) (cwV 1 X.1.2.2.2.2 gX3_order_X3_aheadInOrder rfl rfl rfl (by decide +kernel) ⟨Nat.le_of_ble_eq_true rfl, Nat.le_of_ble_eq_true rfl⟩) rfl rfl rfl rfl dX3_order_62, ?_⟩
  refine List.forall_mem_cons.mpr ⟨xs_iret X hr hlocks dX3_order_65, ?_⟩
  exact fun _ h => nomatch h
set_option maxRecDepth 100000 in
set_option maxHeartbeats 4000000 in
theorem mpX1_isPlacedAheadOf (l : Launch) (D : va_G) (Y : xw_Y) : xw_MP l D vwCl (xw_ty Y) Y.1 yX1_isPlacedAheadOf wsX1_isPlacedAheadOf ({ frames := 2, cells := 0, slots := 0, locals := 44 } : Room) (ptX1_isPlacedAheadOf Y) 0 0 := by
  refine xw_met (cc := cX1_isPlacedAheadOf) (nL := 2) (ret := (some .boolean)) (by decide +kernel) rfl ?_
  intro p e s m args below meth c w0 post X hr hlocks hname
  unfold tbX1_isPlacedAheadOf
  refine List.forall_mem_cons.mpr ⟨xs_aload_n X dX1_isPlacedAheadOf_0 rfl, ?_⟩
  refine List.forall_mem_cons.mpr ⟨xs_getf (C := RX1) (T := TX1) (N := 14) (ci := 2) (kf := 5) X (fun w h => List.mem_cons_of_mem _ (List.mem_append_right _ h)) rfl (by decide) (List.mem_of_getElem? (i := 1) rfl) (fun _ h => h) dX1_isPlacedAheadOf_1, ?_⟩
  refine List.forall_mem_cons.mpr ⟨xs_ifne (tg := 42) X dX1_isPlacedAheadOf_4 rfl, ?_⟩
  refine List.forall_mem_cons.mpr ⟨xs_aload_n X dX1_isPlacedAheadOf_7 rfl, ?_⟩
  refine List.forall_mem_cons.mpr ⟨xs_getf (C := RX1) (T := TX1) (N := 14) (ci := 2) (kf := 5) X (fun w h => List.mem_cons_of_mem _ (List.mem_append_right _ h)) rfl (by decide) (List.mem_of_getElem? (i := 1) rfl) (fun _ h => h) dX1_isPlacedAheadOf_8, ?_⟩
  refine List.forall_mem_cons.mpr ⟨xs_ifne (tg := 42) X dX1_isPlacedAheadOf_11 rfl, ?_⟩
  refine List.forall_mem_cons.mpr ⟨xs_aload_n X dX1_isPlacedAheadOf_14 rfl, ?_⟩
  refine List.forall_mem_cons.mpr ⟨xs_getf (C := RX1) (T := TX1) (N := 14) (ci := 2) (kf := 13) X (fun w h => List.mem_cons_of_mem _ (List.mem_append_right _ h)) rfl (by decide) (List.mem_of_getElem? (i := 2) rfl) (fun _ h => h) dX1_isPlacedAheadOf_15, ?_⟩
  refine List.forall_mem_cons.mpr ⟨xs_aload_n X dX1_isPlacedAheadOf_18 rfl, ?_⟩
  refine List.forall_mem_cons.mpr ⟨xs_getf (C := RX1) (T := TX1) (N := 14) (ci := 2) (kf := 13) X (fun w h => List.mem_cons_of_mem _ (List.mem_append_right _ h)) rfl (by decide) (List.mem_of_getElem? (i := 2) rfl) (fun _ h => h) dX1_isPlacedAheadOf_19, ?_⟩
  refine List.forall_mem_cons.mpr ⟨xs_icmpeq (tg := 42) X dX1_isPlacedAheadOf_22 rfl, ?_⟩
  refine List.forall_mem_cons.mpr ⟨xs_aload_n X dX1_isPlacedAheadOf_25 rfl, ?_⟩
  refine List.forall_mem_cons.mpr ⟨xs_getf (C := RX1) (T := TX1) (N := 14) (ci := 2) (kf := 13) X (fun w h => List.mem_cons_of_mem _ (List.mem_append_right _ h)) rfl (by decide) (List.mem_of_getElem? (i := 2) rfl) (fun _ h => h) dX1_isPlacedAheadOf_26, ?_⟩
  refine List.forall_mem_cons.mpr ⟨xs_aload_n X dX1_isPlacedAheadOf_29 rfl, ?_⟩
  refine List.forall_mem_cons.mpr ⟨xs_getf (C := RX1) (T := TX1) (N := 14) (ci := 2) (kf := 13) X (fun w h => List.mem_cons_of_mem _ (List.mem_append_right _ h)) rfl (by decide) (List.mem_of_getElem? (i := 2) rfl) (fun _ h => h) dX1_isPlacedAheadOf_30, ?_⟩
  refine List.forall_mem_cons.mpr ⟨xs_icmple (tg := 40) X dX1_isPlacedAheadOf_33 rfl, ?_⟩
  refine List.forall_mem_cons.mpr ⟨xs_iconst X dX1_isPlacedAheadOf_36 rfl, ?_⟩
  refine List.forall_mem_cons.mpr ⟨xs_goto (tg := 41) X dX1_isPlacedAheadOf_37 rfl, ?_⟩
  refine List.forall_mem_cons.mpr ⟨xs_iconst X dX1_isPlacedAheadOf_40 rfl, ?_⟩
  refine List.forall_mem_cons.mpr ⟨xs_iret X hr hlocks dX1_isPlacedAheadOf_41, ?_⟩
  refine List.forall_mem_cons.mpr ⟨xs_aload_n X dX1_isPlacedAheadOf_42 rfl, ?_⟩
  refine List.forall_mem_cons.mpr ⟨xs_aload_n X dX1_isPlacedAheadOf_43 rfl, ?_⟩
  refine List.forall_mem_cons.mpr ⟨xs_callV (ci := 2) X (mpX1_isAheadOf l D Y) (cwV 1 X.1.2.2.2.2 gX1_isPlacedAheadOf_X1_isAheadOf rfl rfl rfl (by decide +kernel) ⟨Nat.le_of_ble_eq_true rfl, Nat.le_of_ble_eq_true rfl⟩) rfl rfl rfl rfl dX1_isPlacedAheadOf_44, ?_⟩
  refine List.forall_mem_cons.mpr ⟨xs_iret X hr hlocks dX1_isPlacedAheadOf_47, ?_⟩
  exact fun _ h => nomatch h
set_option maxRecDepth 100000 in
set_option maxHeartbeats 4000000 in
theorem mpX3_place (l : Launch) (D : va_G) (Y : xw_Y) : xw_MP l D vwCl (xw_ty Y) Y.1 yX3_place wsX3_place ({ frames := 4, cells := 0, slots := 0, locals := 85 } : Room) (ptX3_place Y) 0 0 := by
  refine xw_met (cc := cX3_place) (nL := 5) (ret := (some .int)) (by decide +kernel) rfl ?_
  intro p e s m args below meth c w0 post X hr hlocks hname
  unfold tbX3_place
  refine List.forall_mem_cons.mpr ⟨xs_aload_n X dX3_place_0 rfl, ?_⟩
  refine List.forall_mem_cons.mpr ⟨xs_iload_n X dX3_place_1 rfl, ?_⟩
  refine List.forall_mem_cons.mpr ⟨xs_callV (ci := 4) X (mpX3_fencerAt l D Y) (cwV 1 X.1.2.2.2.2 gX3_place_X3_fencerAt rfl rfl rfl (by decide +kernel) ⟨Nat.le_of_ble_eq_true rfl, Nat.le_of_ble_eq_true rfl⟩) rfl rfl rfl rfl dX3_place_2, ?_⟩
  refine List.forall_mem_cons.mpr ⟨xs_astore_n X dX3_place_5 rfl (Nat.le_of_ble_eq_true rfl), ?_⟩
  refine List.forall_mem_cons.mpr ⟨xs_iconst X dX3_place_6 rfl, ?_⟩
  refine List.forall_mem_cons.mpr ⟨xs_istore_n X dX3_place_7 rfl (Nat.le_of_ble_eq_true rfl), ?_⟩
  refine List.forall_mem_cons.mpr ⟨xs_iconst X dX3_place_8 rfl, ?_⟩
  refine List.forall_mem_cons.mpr ⟨xs_istore X dX3_place_9 (Nat.le_of_ble_eq_true rfl), ?_⟩
  refine List.forall_mem_cons.mpr ⟨xs_iload X dX3_place_11, ?_⟩
  refine List.forall_mem_cons.mpr ⟨xs_aload_n X dX3_place_13 rfl, ?_⟩
  refine List.forall_mem_cons.mpr ⟨xs_getf (C := RX3) (T := TX3) (N := 10) (ci := 4) (kf := 0) X (fun w h => List.mem_cons_of_mem _ (List.mem_append_left _ (List.mem_append_left _ (List.mem_append_left _ (List.mem_append_right _ h))))) rfl (by decide) (List.mem_of_getElem? (i := 1) rfl) (fun _ h => h) dX3_place_14, ?_⟩
  refine List.forall_mem_cons.mpr ⟨xs_callV (ci := 0) X (mpJx4a65c_size_8abf5 l D Y) (cwV 0 X.1.2.2.2.2 gX3_place_Jx4a65c_size_8abf5 rfl rfl rfl (by decide +kernel) ⟨Nat.le_of_ble_eq_true rfl, Nat.le_of_ble_eq_true rfl⟩) rfl rfl rfl rfl dX3_place_17, ?_⟩
  refine List.forall_mem_cons.mpr ⟨xs_icmpge (tg := 51) X dX3_place_20 rfl, ?_⟩
  refine List.forall_mem_cons.mpr ⟨xs_aload_n X dX3_place_23 rfl, ?_⟩
  refine List.forall_mem_cons.mpr ⟨xs_getf (C := RX3) (T := TX3) (N := 10) (ci := 4) (kf := 0) X (fun w h => List.mem_cons_of_mem _ (List.mem_append_left _ (List.mem_append_left _ (List.mem_append_left _ (List.mem_append_right _ h))))) rfl (by decide) (List.mem_of_getElem? (i := 1) rfl) (fun _ h => h) dX3_place_24, ?_⟩
  refine List.forall_mem_cons.mpr ⟨xs_iload X dX3_place_27, ?_⟩
  refine List.forall_mem_cons.mpr ⟨xs_callV (ci := 0) X (mpJx4a65c_get_915e3 l D Y) (cwV 1 X.1.2.2.2.2 gX3_place_Jx4a65c_get_915e3 rfl rfl rfl (by decide +kernel) ⟨Nat.le_of_ble_eq_true rfl, Nat.le_of_ble_eq_true rfl⟩) rfl rfl rfl rfl dX3_place_29, ?_⟩
  refine List.forall_mem_cons.mpr ⟨xs_cast (C := RX1) (T := TX1) (N := 14) (ci := 2) X rfl (List.mem_of_getElem? (i := 2) rfl) dX3_place_32, ?_⟩
  refine List.forall_mem_cons.mpr ⟨xs_aload_n X dX3_place_35 rfl, ?_⟩
  refine List.forall_mem_cons.mpr ⟨xs_callV (ci := 2) X (mpX1_isPlacedAheadOf l D Y) (cwV 1 X.1.2.2.2.2 gX3_place_X1_isPlacedAheadOf rfl rfl rfl (by decide +kernel) ⟨Nat.le_of_ble_eq_true rfl, Nat.le_of_ble_eq_true rfl⟩) rfl rfl rfl rfl dX3_place_36, ?_⟩
  refine List.forall_mem_cons.mpr ⟨xs_ifeq (tg := 45) X dX3_place_39 rfl, ?_⟩
  refine List.forall_mem_cons.mpr ⟨xs_iinc X dX3_place_42 rfl (Nat.le_of_ble_eq_true rfl), ?_⟩
  refine List.forall_mem_cons.mpr ⟨xs_iinc X dX3_place_45 rfl (Nat.le_of_ble_eq_true rfl), ?_⟩
  refine List.forall_mem_cons.mpr ⟨xs_goto (tg := 11) X dX3_place_48 rfl, ?_⟩
  refine List.forall_mem_cons.mpr ⟨xs_iload_n X dX3_place_51 rfl, ?_⟩
  refine List.forall_mem_cons.mpr ⟨xs_iret X hr hlocks dX3_place_52, ?_⟩
  exact fun _ h => nomatch h
set_option maxRecDepth 100000 in
set_option maxHeartbeats 4000000 in
theorem mpX3_voidWith (l : Launch) (D : va_G) (Y : xw_Y) : xw_MP l D vwCl (xw_ty Y) Y.1 yX3_voidWith wsX3_voidWith ({ frames := 4, cells := 0, slots := 0, locals := 85 } : Room) (ptX3_voidWith Y) 0 0 := by
  refine xw_met (cc := cX3_voidWith) (nL := 2) (ret := (some .int)) (by decide +kernel) rfl ?_
  intro p e s m args below meth c w0 post X hr hlocks hname
  unfold tbX3_voidWith
  refine List.forall_mem_cons.mpr ⟨xs_aload_n X dX3_voidWith_0 rfl, ?_⟩
  refine List.forall_mem_cons.mpr ⟨xs_iload_n X dX3_voidWith_1 rfl, ?_⟩
  refine List.forall_mem_cons.mpr ⟨xs_callV (ci := 4) X (mpX3_fencerAt l D Y) (cwV 1 X.1.2.2.2.2 gX3_voidWith_X3_fencerAt rfl rfl rfl (by decide +kernel) ⟨Nat.le_of_ble_eq_true rfl, Nat.le_of_ble_eq_true rfl⟩) rfl rfl rfl rfl dX3_voidWith_2, ?_⟩
  refine List.forall_mem_cons.mpr ⟨xs_getf (C := RX1) (T := TX1) (N := 14) (ci := 2) (kf := 8) X (fun w h => List.mem_cons_of_mem _ (List.mem_append_left _ (List.mem_append_left _ (List.mem_append_left _ (List.mem_append_right _ h))))) rfl (by decide) (List.mem_of_getElem? (i := 1) rfl) (fun _ h => h) dX3_voidWith_5, ?_⟩
  refine List.forall_mem_cons.mpr ⟨xs_iret X hr hlocks dX3_voidWith_8, ?_⟩
  exact fun _ h => nomatch h
set_option maxRecDepth 100000 in
set_option maxHeartbeats 4000000 in
theorem mpL_isFair (l : Launch) (D : va_G) (Y : xw_Y) : xw_MP l D vwCl (xw_ty Y) Y.1 yL_isFair wsL_isFair ({ frames := 5, cells := 1, slots := 8, locals := 110 } : Room) (ptL_isFair Y) 1 8 := by
  refine xw_met (cc := cL_isFair) (nL := 10) (ret := (some .boolean)) (by decide +kernel) rfl ?_
  intro p e s m args below meth c w0 post X hr hlocks hname
  unfold tbL_isFair
  refine List.forall_mem_cons.mpr ⟨xs_aload_n X dL_isFair_0 rfl, ?_⟩
  refine List.forall_mem_cons.mpr ⟨xs_iconst X dL_isFair_1 rfl, ?_⟩
  refine List.forall_mem_cons.mpr ⟨xs_callV (ci := 4) X (mpX3_many l D Y) (cwV 1 X.1.2.2.2.2 gL_isFair_X3_many rfl rfl rfl (by decide +kernel) ⟨Nat.le_of_ble_eq_true rfl, Nat.le_of_ble_eq_true rfl⟩) rfl rfl rfl rfl dL_isFair_2, ?_⟩
  refine List.forall_mem_cons.mpr ⟨xs_istore_n X dL_isFair_5 rfl (Nat.le_of_ble_eq_true rfl), ?_⟩
  refine List.forall_mem_cons.mpr ⟨xs_iload_n X dL_isFair_6 rfl, ?_⟩
  refine List.forall_mem_cons.mpr ⟨xs_newi (t0 := 0) X rfl (List.mem_of_getElem? (i := 1) rfl) rfl rfl dL_isFair_7, ?_⟩
  refine List.forall_mem_cons.mpr ⟨xs_astore X dL_isFair_9 (Nat.le_of_ble_eq_true rfl), ?_⟩
  refine List.forall_mem_cons.mpr ⟨xs_iconst X dL_isFair_11 rfl, ?_⟩
  refine List.forall_mem_cons.mpr ⟨xs_istore X dL_isFair_12 (Nat.le_of_ble_eq_true rfl), ?_⟩
  refine List.forall_mem_cons.mpr ⟨xs_iload X dL_isFair_14, ?_⟩
  refine List.forall_mem_cons.mpr ⟨xs_iload_n X dL_isFair_16 rfl, ?_⟩
  refine List.forall_mem_cons.mpr ⟨xs_icmpge (tg := 259) X dL_isFair_17 rfl, ?_⟩
  refine List.forall_mem_cons.mpr ⟨xs_aload_n X dL_isFair_20 rfl, ?_⟩
  refine List.forall_mem_cons.mpr ⟨xs_iload X dL_isFair_21, ?_⟩
  refine List.forall_mem_cons.mpr ⟨xs_iconst X dL_isFair_23 rfl, ?_⟩
  refine List.forall_mem_cons.mpr ⟨xs_callV (ci := 4) X (mpX3_ofBout l D Y) (cwV 2 X.1.2.2.2.2 gL_isFair_X3_ofBout rfl rfl rfl (by decide +kernel) ⟨Nat.le_of_ble_eq_true rfl, Nat.le_of_ble_eq_true rfl⟩) rfl rfl rfl rfl dL_isFair_24, ?_⟩
  refine List.forall_mem_cons.mpr ⟨xs_istore X dL_isFair_27 (Nat.le_of_ble_eq_true rfl), ?_⟩
  refine List.forall_mem_cons.mpr ⟨xs_aload_n X dL_isFair_29 rfl, ?_⟩
  refine List.forall_mem_cons.mpr ⟨xs_iload X dL_isFair_30, ?_⟩
  refine List.forall_mem_cons.mpr ⟨xs_iconst X dL_isFair_32 rfl, ?_⟩
  refine List.forall_mem_cons.mpr ⟨xs_callV (ci := 4) X (mpX3_ofBout l D Y) (cwV 2 X.1.2.2.2.2 gL_isFair_X3_ofBout rfl rfl rfl (by decide +kernel) ⟨Nat.le_of_ble_eq_true rfl, Nat.le_of_ble_eq_true rfl⟩) rfl rfl rfl rfl dL_isFair_33, ?_⟩
  refine List.forall_mem_cons.mpr ⟨xs_istore X dL_isFair_36 (Nat.le_of_ble_eq_true rfl), ?_⟩
  refine List.forall_mem_cons.mpr ⟨xs_iload X dL_isFair_38, ?_⟩
  refine List.forall_mem_cons.mpr ⟨xs_iconst X dL_isFair_40 rfl, ?_⟩
  refine List.forall_mem_cons.mpr ⟨xs_icmpne (tg := 48) X dL_isFair_41 rfl, ?_⟩
  refine List.forall_mem_cons.mpr ⟨xs_iconst X dL_isFair_44 rfl, ?_⟩
  refine List.forall_mem_cons.mpr ⟨xs_goto (tg := 49) X dL_isFair_45 rfl, ?_⟩
  refine List.forall_mem_cons.mpr ⟨xs_iconst X dL_isFair_48 rfl, ?_⟩
  refine List.forall_mem_cons.mpr ⟨xs_aload_n X dL_isFair_49 rfl, ?_⟩
  refine List.forall_mem_cons.mpr ⟨xs_iload X dL_isFair_50, ?_⟩
  refine List.forall_mem_cons.mpr ⟨xs_bipush X dL_isFair_52 rfl, ?_⟩
  refine List.forall_mem_cons.mpr ⟨xs_callV (ci := 4) X (mpX3_ofBout l D Y) (cwV 2 X.1.2.2.2.2 gL_isFair_X3_ofBout rfl rfl rfl (by decide +kernel) ⟨Nat.le_of_ble_eq_true rfl, Nat.le_of_ble_eq_true rfl⟩) rfl rfl rfl rfl dL_isFair_54, ?_⟩
  refine List.forall_mem_cons.mpr ⟨xs_iflt (tg := 64) X dL_isFair_57 rfl, ?_⟩
  refine List.forall_mem_cons.mpr ⟨xs_iconst X dL_isFair_60 rfl, ?_⟩
  refine List.forall_mem_cons.mpr ⟨xs_goto (tg := 65) X dL_isFair_61 rfl, ?_⟩
  refine List.forall_mem_cons.mpr ⟨xs_iconst X dL_isFair_64 rfl, ?_⟩
  refine List.forall_mem_cons.mpr ⟨xs_icmpne (tg := 164) X dL_isFair_65 rfl, ?_⟩
  refine List.forall_mem_cons.mpr ⟨xs_iload X dL_isFair_68, ?_⟩
  refine List.forall_mem_cons.mpr ⟨xs_iconst X dL_isFair_70 rfl, ?_⟩
  refine List.forall_mem_cons.mpr ⟨xs_icmpne (tg := 78) X dL_isFair_71 rfl, ?_⟩
  refine List.forall_mem_cons.mpr ⟨xs_iconst X dL_isFair_74 rfl, ?_⟩
  refine List.forall_mem_cons.mpr ⟨xs_goto (tg := 79) X dL_isFair_75 rfl, ?_⟩
  refine List.forall_mem_cons.mpr ⟨xs_iconst X dL_isFair_78 rfl, ?_⟩
  refine List.forall_mem_cons.mpr ⟨xs_iload X dL_isFair_79, ?_⟩
  refine List.forall_mem_cons.mpr ⟨xs_iflt (tg := 88) X dL_isFair_81 rfl, ?_⟩
  refine List.forall_mem_cons.mpr ⟨xs_iconst X dL_isFair_84 rfl, ?_⟩
  refine List.forall_mem_cons.mpr ⟨xs_goto (tg := 89) X dL_isFair_85 rfl, ?_⟩
  refine List.forall_mem_cons.mpr ⟨xs_iconst X dL_isFair_88 rfl, ?_⟩
  refine List.forall_mem_cons.mpr ⟨xs_icmpne (tg := 164) X dL_isFair_89 rfl, ?_⟩
  refine List.forall_mem_cons.mpr ⟨xs_aload_n X dL_isFair_92 rfl, ?_⟩
  refine List.forall_mem_cons.mpr ⟨xs_iload X dL_isFair_93, ?_⟩
  refine List.forall_mem_cons.mpr ⟨xs_iconst X dL_isFair_95 rfl, ?_⟩
  refine List.forall_mem_cons.mpr ⟨xs_callV (ci := 4) X (mpX3_ofBout l D Y) (cwV 2 X.1.2.2.2.2 gL_isFair_X3_ofBout rfl rfl rfl (by decide +kernel) ⟨Nat.le_of_ble_eq_true rfl, Nat.le_of_ble_eq_true rfl⟩) rfl rfl rfl rfl dL_isFair_96, ?_⟩
  refine List.forall_mem_cons.mpr ⟨xs_aload_n X dL_isFair_99 rfl, ?_⟩
  refine List.forall_mem_cons.mpr ⟨xs_iload X dL_isFair_100, ?_⟩
  refine List.forall_mem_cons.mpr ⟨xs_iconst X dL_isFair_102 rfl, ?_⟩
  refine List.forall_mem_cons.mpr ⟨xs_callV (ci := 4) X (mpX3_ofBout l D Y) (cwV 2 X.1.2.2.2.2 gL_isFair_X3_ofBout rfl rfl rfl (by decide +kernel) ⟨Nat.le_of_ble_eq_true rfl, Nat.le_of_ble_eq_true rfl⟩) rfl rfl rfl rfl dL_isFair_103, ?_⟩
  refine List.forall_mem_cons.mpr ⟨xs_max X (List.mem_of_getElem? (i := 2) rfl) (List.mem_of_getElem? (i := 3) rfl) (List.mem_of_getElem? (i := 4) rfl) (List.mem_of_getElem? (i := 5) rfl) (Nat.le_of_ble_eq_true rfl) (Nat.le_of_ble_eq_true rfl) rfl rfl dL_isFair_106, ?_⟩
  refine List.forall_mem_cons.mpr ⟨xs_iload X dL_isFair_109, ?_⟩
  refine List.forall_mem_cons.mpr ⟨xs_iload_n X dL_isFair_111 rfl, ?_⟩
  refine List.forall_mem_cons.mpr ⟨xs_icmpge (tg := 119) X dL_isFair_112 rfl, ?_⟩
  refine List.forall_mem_cons.mpr ⟨xs_iconst X dL_isFair_115 rfl, ?_⟩
  refine List.forall_mem_cons.mpr ⟨xs_goto (tg := 121) X dL_isFair_116 rfl, ?_⟩
  refine List.forall_mem_cons.mpr ⟨xs_bipush X dL_isFair_119 rfl, ?_⟩
  refine List.forall_mem_cons.mpr ⟨xs_icmpgt (tg := 164) X dL_isFair_121 rfl, ?_⟩
  refine List.forall_mem_cons.mpr ⟨xs_iload X dL_isFair_124, ?_⟩
  refine List.forall_mem_cons.mpr ⟨xs_iconst X dL_isFair_126 rfl, ?_⟩
  refine List.forall_mem_cons.mpr ⟨xs_icmpeq (tg := 150) X dL_isFair_127 rfl, ?_⟩
  refine List.forall_mem_cons.mpr ⟨xs_aload_n X dL_isFair_130 rfl, ?_⟩
  refine List.forall_mem_cons.mpr ⟨xs_iload X dL_isFair_131, ?_⟩
  refine List.forall_mem_cons.mpr ⟨xs_bipush X dL_isFair_133 rfl, ?_⟩
  refine List.forall_mem_cons.mpr ⟨xs_callV (ci := 4) X (mpX3_ofBout l D Y) (cwV 2 X.1.2.2.2.2 gL_isFair_X3_ofBout rfl rfl rfl (by decide +kernel) ⟨Nat.le_of_ble_eq_true rfl, Nat.le_of_ble_eq_true rfl⟩) rfl rfl rfl rfl dL_isFair_135, ?_⟩
  refine List.forall_mem_cons.mpr ⟨xs_aload_n X dL_isFair_138 rfl, ?_⟩
  refine List.forall_mem_cons.mpr ⟨xs_iload X dL_isFair_139, ?_⟩
  refine List.forall_mem_cons.mpr ⟨xs_bipush X dL_isFair_141 rfl, ?_⟩
  refine List.forall_mem_cons.mpr ⟨xs_callV (ci := 4) X (mpX3_ofBout l D Y) (cwV 2 X.1.2.2.2.2 gL_isFair_X3_ofBout rfl rfl rfl (by decide +kernel) ⟨Nat.le_of_ble_eq_true rfl, Nat.le_of_ble_eq_true rfl⟩) rfl rfl rfl rfl dL_isFair_143, ?_⟩
  refine List.forall_mem_cons.mpr ⟨xs_iadd X dL_isFair_146, ?_⟩
  refine List.forall_mem_cons.mpr ⟨xs_ifne (tg := 164) X dL_isFair_147 rfl, ?_⟩
  refine List.forall_mem_cons.mpr ⟨xs_aload_n X dL_isFair_150 rfl, ?_⟩
  refine List.forall_mem_cons.mpr ⟨xs_iload X dL_isFair_151, ?_⟩
  refine List.forall_mem_cons.mpr ⟨xs_bipush X dL_isFair_153 rfl, ?_⟩
  refine List.forall_mem_cons.mpr ⟨xs_callV (ci := 4) X (mpX3_ofBout l D Y) (cwV 2 X.1.2.2.2.2 gL_isFair_X3_ofBout rfl rfl rfl (by decide +kernel) ⟨Nat.le_of_ble_eq_true rfl, Nat.le_of_ble_eq_true rfl⟩) rfl rfl rfl rfl dL_isFair_155, ?_⟩
  refine List.forall_mem_cons.mpr ⟨xs_sipush X dL_isFair_158 rfl, ?_⟩
  refine List.forall_mem_cons.mpr ⟨xs_icmple (tg := 166) X dL_isFair_161 rfl, ?_⟩
  refine List.forall_mem_cons.mpr ⟨xs_iconst X dL_isFair_164 rfl, ?_⟩
  refine List.forall_mem_cons.mpr ⟨xs_iret X hr hlocks dL_isFair_165, ?_⟩
  refine List.forall_mem_cons.mpr ⟨xs_iload X dL_isFair_166, ?_⟩
  refine List.forall_mem_cons.mpr ⟨xs_iflt (tg := 197) X dL_isFair_168 rfl, ?_⟩
  refine List.forall_mem_cons.mpr ⟨xs_iload X dL_isFair_171, ?_⟩
  refine List.forall_mem_cons.mpr ⟨xs_aload_n X dL_isFair_173 rfl, ?_⟩
  refine List.forall_mem_cons.mpr ⟨xs_iload X dL_isFair_174, ?_⟩
  refine List.forall_mem_cons.mpr ⟨xs_iconst X dL_isFair_176 rfl, ?_⟩
  refine List.forall_mem_cons.mpr ⟨xs_callV (ci := 4) X (mpX3_ofBout l D Y) (cwV 2 X.1.2.2.2.2 gL_isFair_X3_ofBout rfl rfl rfl (by decide +kernel) ⟨Nat.le_of_ble_eq_true rfl, Nat.le_of_ble_eq_true rfl⟩) rfl rfl rfl rfl dL_isFair_177, ?_⟩
  refine List.forall_mem_cons.mpr ⟨xs_icmpeq (tg := 197) X dL_isFair_180 rfl, ?_⟩
  refine List.forall_mem_cons.mpr ⟨xs_iload X dL_isFair_183, ?_⟩
  refine List.forall_mem_cons.mpr ⟨xs_aload_n X dL_isFair_185 rfl, ?_⟩
  refine List.forall_mem_cons.mpr ⟨xs_iload X dL_isFair_186, ?_⟩
  refine List.forall_mem_cons.mpr ⟨xs_iconst X dL_isFair_188 rfl, ?_⟩
  refine List.forall_mem_cons.mpr ⟨xs_callV (ci := 4) X (mpX3_ofBout l D Y) (cwV 2 X.1.2.2.2.2 gL_isFair_X3_ofBout rfl rfl rfl (by decide +kernel) ⟨Nat.le_of_ble_eq_true rfl, Nat.le_of_ble_eq_true rfl⟩) rfl rfl rfl rfl dL_isFair_189, ?_⟩
  refine List.forall_mem_cons.mpr ⟨xs_icmpeq (tg := 197) X dL_isFair_192 rfl, ?_⟩
  refine List.forall_mem_cons.mpr ⟨xs_iconst X dL_isFair_195 rfl, ?_⟩
  refine List.forall_mem_cons.mpr ⟨xs_iret X hr hlocks dL_isFair_196, ?_⟩
  refine List.forall_mem_cons.mpr ⟨xs_iconst X dL_isFair_197 rfl, ?_⟩
  refine List.forall_mem_cons.mpr ⟨xs_istore X dL_isFair_198 (Nat.le_of_ble_eq_true rfl), ?_⟩
  refine List.forall_mem_cons.mpr ⟨xs_iload X dL_isFair_200, ?_⟩
  refine List.forall_mem_cons.mpr ⟨xs_iconst X dL_isFair_202 rfl, ?_⟩
  refine List.forall_mem_cons.mpr ⟨xs_icmpne (tg := 253) X dL_isFair_203 rfl, ?_⟩
  refine List.forall_mem_cons.mpr ⟨xs_iload X dL_isFair_206, ?_⟩
  refine List.forall_mem_cons.mpr ⟨xs_iconst X dL_isFair_208 rfl, ?_⟩
  refine List.forall_mem_cons.mpr ⟨xs_icmpge (tg := 253) X dL_isFair_209 rfl, ?_⟩
  refine List.forall_mem_cons.mpr ⟨xs_aload X dL_isFair_212, ?_⟩
  refine List.forall_mem_cons.mpr ⟨xs_aload_n X dL_isFair_214 rfl, ?_⟩
  refine List.forall_mem_cons.mpr ⟨xs_iload X dL_isFair_215, ?_⟩
  refine List.forall_mem_cons.mpr ⟨xs_iload X dL_isFair_217, ?_⟩
  refine List.forall_mem_cons.mpr ⟨xs_callV (ci := 4) X (mpX3_ofBout l D Y) (cwV 2 X.1.2.2.2.2 gL_isFair_X3_ofBout rfl rfl rfl (by decide +kernel) ⟨Nat.le_of_ble_eq_true rfl, Nat.le_of_ble_eq_true rfl⟩) rfl rfl rfl rfl dL_isFair_219, ?_⟩
  refine List.forall_mem_cons.mpr ⟨xs_dup2 X dL_isFair_222, ?_⟩
  refine List.forall_mem_cons.mpr ⟨xs_iald (t0 := 0) X rfl dL_isFair_223, ?_⟩
  refine List.forall_mem_cons.mpr ⟨xs_iconst X dL_isFair_224 rfl, ?_⟩
  refine List.forall_mem_cons.mpr ⟨xs_iadd X dL_isFair_225, ?_⟩
  refine List.forall_mem_cons.mpr ⟨xs_iast (t0 := 0) X rfl dL_isFair_226, ?_⟩
  refine List.forall_mem_cons.mpr ⟨xs_aload_n X dL_isFair_227 rfl, ?_⟩
  refine List.forall_mem_cons.mpr ⟨xs_aload_n X dL_isFair_228 rfl, ?_⟩
  refine List.forall_mem_cons.mpr ⟨xs_iload X dL_isFair_229, ?_⟩
  refine List.forall_mem_cons.mpr ⟨xs_iload X dL_isFair_231, ?_⟩
  refine List.forall_mem_cons.mpr ⟨xs_callV (ci := 4) X (mpX3_ofBout l D Y) (cwV 2 X.1.2.2.2.2 gL_isFair_X3_ofBout rfl rfl rfl (by decide +kernel) ⟨Nat.le_of_ble_eq_true rfl, Nat.le_of_ble_eq_true rfl⟩) rfl rfl rfl rfl dL_isFair_233, ?_⟩
  refine List.forall_mem_cons.mpr ⟨xs_iconst X dL_isFair_236 rfl, ?_⟩
  refine List.forall_mem_cons.mpr ⟨xs_callV (ci := 4) X (mpX3_of l D Y) (cwV 2 X.1.2.2.2.2 gL_isFair_X3_of rfl rfl rfl (by decide +kernel) ⟨Nat.le_of_ble_eq_true rfl, Nat.le_of_ble_eq_true rfl⟩) rfl rfl rfl rfl dL_isFair_237, ?_⟩
  refine List.forall_mem_cons.mpr ⟨xs_iload X dL_isFair_240, ?_⟩
  refine List.forall_mem_cons.mpr ⟨xs_icmpeq (tg := 247) X dL_isFair_242 rfl, ?_⟩
  refine List.forall_mem_cons.mpr ⟨xs_iconst X dL_isFair_245 rfl, ?_⟩
  refine List.forall_mem_cons.mpr ⟨xs_iret X hr hlocks dL_isFair_246, ?_⟩
  refine List.forall_mem_cons.mpr ⟨xs_iinc X dL_isFair_247 rfl (Nat.le_of_ble_eq_true rfl), ?_⟩
  refine List.forall_mem_cons.mpr ⟨xs_goto (tg := 200) X dL_isFair_250 rfl, ?_⟩
  refine List.forall_mem_cons.mpr ⟨xs_iinc X dL_isFair_253 rfl (Nat.le_of_ble_eq_true rfl), ?_⟩
  refine List.forall_mem_cons.mpr ⟨xs_goto (tg := 14) X dL_isFair_256 rfl, ?_⟩
  refine List.forall_mem_cons.mpr ⟨xs_iload_n X dL_isFair_259 rfl, ?_⟩
  refine List.forall_mem_cons.mpr ⟨xs_istore X dL_isFair_260 (Nat.le_of_ble_eq_true rfl), ?_⟩
  refine List.forall_mem_cons.mpr ⟨xs_aload_n X dL_isFair_262 rfl, ?_⟩
  refine List.forall_mem_cons.mpr ⟨xs_bipush X dL_isFair_263 rfl, ?_⟩
  refine List.forall_mem_cons.mpr ⟨xs_callV (ci := 4) X (mpX3_many l D Y) (cwV 1 X.1.2.2.2.2 gL_isFair_X3_many rfl rfl rfl (by decide +kernel) ⟨Nat.le_of_ble_eq_true rfl, Nat.le_of_ble_eq_true rfl⟩) rfl rfl rfl rfl dL_isFair_265, ?_⟩
  refine List.forall_mem_cons.mpr ⟨xs_iconst X dL_isFair_268 rfl, ?_⟩
  refine List.forall_mem_cons.mpr ⟨xs_idiv X dL_isFair_269, ?_⟩
  refine List.forall_mem_cons.mpr ⟨xs_istore X dL_isFair_270 (Nat.le_of_ble_eq_true rfl), ?_⟩
  refine List.forall_mem_cons.mpr ⟨xs_iload X dL_isFair_272, ?_⟩
  refine List.forall_mem_cons.mpr ⟨xs_iconst X dL_isFair_274 rfl, ?_⟩
  refine List.forall_mem_cons.mpr ⟨xs_icmple (tg := 345) X dL_isFair_275 rfl, ?_⟩
  refine List.forall_mem_cons.mpr ⟨xs_iconst X dL_isFair_278 rfl, ?_⟩
  refine List.forall_mem_cons.mpr ⟨xs_istore X dL_isFair_279 (Nat.le_of_ble_eq_true rfl), ?_⟩
  refine List.forall_mem_cons.mpr ⟨xs_iload X dL_isFair_281, ?_⟩
  refine List.forall_mem_cons.mpr ⟨xs_iload X dL_isFair_283, ?_⟩
  refine List.forall_mem_cons.mpr ⟨xs_icmpge (tg := 329) X dL_isFair_285 rfl, ?_⟩
  refine List.forall_mem_cons.mpr ⟨xs_aload_n X dL_isFair_288 rfl, ?_⟩
  refine List.forall_mem_cons.mpr ⟨xs_iload X dL_isFair_289, ?_⟩
  refine List.forall_mem_cons.mpr ⟨xs_iload X dL_isFair_291, ?_⟩
  refine List.forall_mem_cons.mpr ⟨xs_iadd X dL_isFair_293, ?_⟩
  refine List.forall_mem_cons.mpr ⟨xs_iload X dL_isFair_294, ?_⟩
  refine List.forall_mem_cons.mpr ⟨xs_iconst X dL_isFair_296 rfl, ?_⟩
  refine List.forall_mem_cons.mpr ⟨xs_idiv X dL_isFair_297, ?_⟩
  refine List.forall_mem_cons.mpr ⟨xs_iadd X dL_isFair_298, ?_⟩
  refine List.forall_mem_cons.mpr ⟨xs_iconst X dL_isFair_299 rfl, ?_⟩
  refine List.forall_mem_cons.mpr ⟨xs_iload X dL_isFair_300, ?_⟩
  refine List.forall_mem_cons.mpr ⟨xs_iconst X dL_isFair_302 rfl, ?_⟩
  refine List.forall_mem_cons.mpr ⟨xs_irem X dL_isFair_303, ?_⟩
  refine List.forall_mem_cons.mpr ⟨xs_iadd X dL_isFair_304, ?_⟩
  refine List.forall_mem_cons.mpr ⟨xs_callV (ci := 4) X (mpX3_ofBout l D Y) (cwV 2 X.1.2.2.2.2 gL_isFair_X3_ofBout rfl rfl rfl (by decide +kernel) ⟨Nat.le_of_ble_eq_true rfl, Nat.le_of_ble_eq_true rfl⟩) rfl rfl rfl rfl dL_isFair_305, ?_⟩
  refine List.forall_mem_cons.mpr ⟨xs_aload_n X dL_isFair_308 rfl, ?_⟩
  refine List.forall_mem_cons.mpr ⟨xs_iload X dL_isFair_309, ?_⟩
  refine List.forall_mem_cons.mpr ⟨xs_iload X dL_isFair_311, ?_⟩
  refine List.forall_mem_cons.mpr ⟨xs_iadd X dL_isFair_313, ?_⟩
  refine List.forall_mem_cons.mpr ⟨xs_iconst X dL_isFair_314 rfl, ?_⟩
  refine List.forall_mem_cons.mpr ⟨xs_callV (ci := 4) X (mpX3_ofBout l D Y) (cwV 2 X.1.2.2.2.2 gL_isFair_X3_ofBout rfl rfl rfl (by decide +kernel) ⟨Nat.le_of_ble_eq_true rfl, Nat.le_of_ble_eq_true rfl⟩) rfl rfl rfl rfl dL_isFair_315, ?_⟩
  refine List.forall_mem_cons.mpr ⟨xs_icmpeq (tg := 323) X dL_isFair_318 rfl, ?_⟩
  refine List.forall_mem_cons.mpr ⟨xs_iconst X dL_isFair_321 rfl, ?_⟩
  refine List.forall_mem_cons.mpr ⟨xs_iret X hr hlocks dL_isFair_322, ?_⟩
  refine List.forall_mem_cons.mpr ⟨xs_iinc X dL_isFair_323 rfl (Nat.le_of_ble_eq_true rfl), ?_⟩
  refine List.forall_mem_cons.mpr ⟨xs_goto (tg := 281) X dL_isFair_326 rfl, ?_⟩
  refine List.forall_mem_cons.mpr ⟨xs_iload X dL_isFair_329, ?_⟩
  refine List.forall_mem_cons.mpr ⟨xs_iload X dL_isFair_331, ?_⟩
  refine List.forall_mem_cons.mpr ⟨xs_iadd X dL_isFair_333, ?_⟩
  refine List.forall_mem_cons.mpr ⟨xs_istore X dL_isFair_334 (Nat.le_of_ble_eq_true rfl), ?_⟩
  refine List.forall_mem_cons.mpr ⟨xs_iload X dL_isFair_336, ?_⟩
  refine List.forall_mem_cons.mpr ⟨xs_iconst X dL_isFair_338 rfl, ?_⟩
  refine List.forall_mem_cons.mpr ⟨xs_idiv X dL_isFair_339, ?_⟩
  refine List.forall_mem_cons.mpr ⟨xs_istore X dL_isFair_340 (Nat.le_of_ble_eq_true rfl), ?_⟩
  refine List.forall_mem_cons.mpr ⟨xs_goto (tg := 272) X dL_isFair_342 rfl, ?_⟩
  refine List.forall_mem_cons.mpr ⟨xs_iconst X dL_isFair_345 rfl, ?_⟩
  refine List.forall_mem_cons.mpr ⟨xs_istore X dL_isFair_346 (Nat.le_of_ble_eq_true rfl), ?_⟩
  refine List.forall_mem_cons.mpr ⟨xs_iconst X dL_isFair_348 rfl, ?_⟩
  refine List.forall_mem_cons.mpr ⟨xs_istore X dL_isFair_349 (Nat.le_of_ble_eq_true rfl), ?_⟩
  refine List.forall_mem_cons.mpr ⟨xs_iconst X dL_isFair_351 rfl, ?_⟩
  refine List.forall_mem_cons.mpr ⟨xs_istore X dL_isFair_352 (Nat.le_of_ble_eq_true rfl), ?_⟩
  refine List.forall_mem_cons.mpr ⟨xs_iload X dL_isFair_354, ?_⟩
  refine List.forall_mem_cons.mpr ⟨xs_iload_n X dL_isFair_356 rfl, ?_⟩
  refine List.forall_mem_cons.mpr ⟨xs_icmpge (tg := 536) X dL_isFair_357 rfl, ?_⟩
  refine List.forall_mem_cons.mpr ⟨xs_aload X dL_isFair_360, ?_⟩
  refine List.forall_mem_cons.mpr ⟨xs_iload X dL_isFair_362, ?_⟩
  refine List.forall_mem_cons.mpr ⟨xs_iald (t0 := 0) X rfl dL_isFair_364, ?_⟩
  refine List.forall_mem_cons.mpr ⟨xs_iconst X dL_isFair_365 rfl, ?_⟩
  refine List.forall_mem_cons.mpr ⟨xs_icmpgt (tg := 400) X dL_isFair_366 rfl, ?_⟩
  refine List.forall_mem_cons.mpr ⟨xs_aload X dL_isFair_369, ?_⟩
  refine List.forall_mem_cons.mpr ⟨xs_iload X dL_isFair_371, ?_⟩
  refine List.forall_mem_cons.mpr ⟨xs_iald (t0 := 0) X rfl dL_isFair_373, ?_⟩
  refine List.forall_mem_cons.mpr ⟨xs_ifne (tg := 381) X dL_isFair_374 rfl, ?_⟩
  refine List.forall_mem_cons.mpr ⟨xs_iconst X dL_isFair_377 rfl, ?_⟩
  refine List.forall_mem_cons.mpr ⟨xs_goto (tg := 382) X dL_isFair_378 rfl, ?_⟩
  refine List.forall_mem_cons.mpr ⟨xs_iconst X dL_isFair_381 rfl, ?_⟩
  refine List.forall_mem_cons.mpr ⟨xs_aload_n X dL_isFair_382 rfl, ?_⟩
  refine List.forall_mem_cons.mpr ⟨xs_iload X dL_isFair_383, ?_⟩
  refine List.forall_mem_cons.mpr ⟨xs_iconst X dL_isFair_385 rfl, ?_⟩
  refine List.forall_mem_cons.mpr ⟨xs_callV (ci := 4) X (mpX3_of l D Y) (cwV 2 X.1.2.2.2.2 gL_isFair_X3_of rfl rfl rfl (by decide +kernel) ⟨Nat.le_of_ble_eq_true rfl, Nat.le_of_ble_eq_true rfl⟩) rfl rfl rfl rfl dL_isFair_386, ?_⟩
  refine List.forall_mem_cons.mpr ⟨xs_ifge (tg := 396) X dL_isFair_389 rfl, ?_⟩
  refine List.forall_mem_cons.mpr ⟨xs_iconst X dL_isFair_392 rfl, ?_⟩
  refine List.forall_mem_cons.mpr ⟨xs_goto (tg := 397) X dL_isFair_393 rfl, ?_⟩
  refine List.forall_mem_cons.mpr ⟨xs_iconst X dL_isFair_396 rfl, ?_⟩
  refine List.forall_mem_cons.mpr ⟨xs_icmpeq (tg := 402) X dL_isFair_397 rfl, ?_⟩
  refine List.forall_mem_cons.mpr ⟨xs_iconst X dL_isFair_400 rfl, ?_⟩
  refine List.forall_mem_cons.mpr ⟨xs_iret X hr hlocks dL_isFair_401, ?_⟩
  refine List.forall_mem_cons.mpr ⟨xs_iload X dL_isFair_402, ?_⟩
  refine List.forall_mem_cons.mpr ⟨xs_iconst X dL_isFair_404 rfl, ?_⟩
  refine List.forall_mem_cons.mpr ⟨xs_aload_n X dL_isFair_405 rfl, ?_⟩
  refine List.forall_mem_cons.mpr ⟨xs_iload X dL_isFair_406, ?_⟩
  refine List.forall_mem_cons.mpr ⟨xs_iconst X dL_isFair_408 rfl, ?_⟩
  refine List.forall_mem_cons.mpr ⟨xs_callV (ci := 4) X (mpX3_order l D Y) (cwV 2 X.1.2.2.2.2 gL_isFair_X3_order rfl rfl rfl (by decide +kernel) ⟨Nat.le_of_ble_eq_true rfl, Nat.le_of_ble_eq_true rfl⟩) rfl rfl rfl rfl dL_isFair_409, ?_⟩
  refine List.forall_mem_cons.mpr ⟨xs_ishl X dL_isFair_412, ?_⟩
  refine List.forall_mem_cons.mpr ⟨xs_ior X dL_isFair_413, ?_⟩
  refine List.forall_mem_cons.mpr ⟨xs_istore X dL_isFair_414 (Nat.le_of_ble_eq_true rfl), ?_⟩
  refine List.forall_mem_cons.mpr ⟨xs_iload X dL_isFair_416, ?_⟩
  refine List.forall_mem_cons.mpr ⟨xs_iconst X dL_isFair_418 rfl, ?_⟩
  refine List.forall_mem_cons.mpr ⟨xs_aload_n X dL_isFair_419 rfl, ?_⟩
  refine List.forall_mem_cons.mpr ⟨xs_iload X dL_isFair_420, ?_⟩
  refine List.forall_mem_cons.mpr ⟨xs_callV (ci := 4) X (mpX3_place l D Y) (cwV 1 X.1.2.2.2.2 gL_isFair_X3_place rfl rfl rfl (by decide +kernel) ⟨Nat.le_of_ble_eq_true rfl, Nat.le_of_ble_eq_true rfl⟩) rfl rfl rfl rfl dL_isFair_422, ?_⟩
  refine List.forall_mem_cons.mpr ⟨xs_ishl X dL_isFair_425, ?_⟩
  refine List.forall_mem_cons.mpr ⟨xs_ior X dL_isFair_426, ?_⟩
  refine List.forall_mem_cons.mpr ⟨xs_istore X dL_isFair_427 (Nat.le_of_ble_eq_true rfl), ?_⟩
  refine List.forall_mem_cons.mpr ⟨xs_aload_n X dL_isFair_429 rfl, ?_⟩
  refine List.forall_mem_cons.mpr ⟨xs_iload X dL_isFair_430, ?_⟩
  refine List.forall_mem_cons.mpr ⟨xs_iconst X dL_isFair_432 rfl, ?_⟩
  refine List.forall_mem_cons.mpr ⟨xs_callV (ci := 4) X (mpX3_order l D Y) (cwV 2 X.1.2.2.2.2 gL_isFair_X3_order rfl rfl rfl (by decide +kernel) ⟨Nat.le_of_ble_eq_true rfl, Nat.le_of_ble_eq_true rfl⟩) rfl rfl rfl rfl dL_isFair_433, ?_⟩
  refine List.forall_mem_cons.mpr ⟨xs_aload_n X dL_isFair_436 rfl, ?_⟩
  refine List.forall_mem_cons.mpr ⟨xs_iload X dL_isFair_437, ?_⟩
  refine List.forall_mem_cons.mpr ⟨xs_iconst X dL_isFair_439 rfl, ?_⟩
  refine List.forall_mem_cons.mpr ⟨xs_callV (ci := 4) X (mpX3_order l D Y) (cwV 2 X.1.2.2.2.2 gL_isFair_X3_order rfl rfl rfl (by decide +kernel) ⟨Nat.le_of_ble_eq_true rfl, Nat.le_of_ble_eq_true rfl⟩) rfl rfl rfl rfl dL_isFair_440, ?_⟩
  refine List.forall_mem_cons.mpr ⟨xs_icmpgt (tg := 462) X dL_isFair_443 rfl, ?_⟩
  refine List.forall_mem_cons.mpr ⟨xs_aload_n X dL_isFair_446 rfl, ?_⟩
  refine List.forall_mem_cons.mpr ⟨xs_iload X dL_isFair_447, ?_⟩
  refine List.forall_mem_cons.mpr ⟨xs_callV (ci := 4) X (mpX3_voidWith l D Y) (cwV 1 X.1.2.2.2.2 gL_isFair_X3_voidWith rfl rfl rfl (by decide +kernel) ⟨Nat.le_of_ble_eq_true rfl, Nat.le_of_ble_eq_true rfl⟩) rfl rfl rfl rfl dL_isFair_449, ?_⟩
  refine List.forall_mem_cons.mpr ⟨xs_aload_n X dL_isFair_452 rfl, ?_⟩
  refine List.forall_mem_cons.mpr ⟨xs_iload X dL_isFair_453, ?_⟩
  refine List.forall_mem_cons.mpr ⟨xs_iconst X dL_isFair_455 rfl, ?_⟩
  refine List.forall_mem_cons.mpr ⟨xs_callV (ci := 4) X (mpX3_order l D Y) (cwV 2 X.1.2.2.2.2 gL_isFair_X3_order rfl rfl rfl (by decide +kernel) ⟨Nat.le_of_ble_eq_true rfl, Nat.le_of_ble_eq_true rfl⟩) rfl rfl rfl rfl dL_isFair_456, ?_⟩
  refine List.forall_mem_cons.mpr ⟨xs_icmpeq (tg := 464) X dL_isFair_459 rfl, ?_⟩
  refine List.forall_mem_cons.mpr ⟨xs_iconst X dL_isFair_462 rfl, ?_⟩
  refine List.forall_mem_cons.mpr ⟨xs_iret X hr hlocks dL_isFair_463, ?_⟩
  refine List.forall_mem_cons.mpr ⟨xs_iconst X dL_isFair_464 rfl, ?_⟩
  refine List.forall_mem_cons.mpr ⟨xs_istore X dL_isFair_465 (Nat.le_of_ble_eq_true rfl), ?_⟩
  refine List.forall_mem_cons.mpr ⟨xs_iload X dL_isFair_467, ?_⟩
  refine List.forall_mem_cons.mpr ⟨xs_iload_n X dL_isFair_469 rfl, ?_⟩
  refine List.forall_mem_cons.mpr ⟨xs_icmpge (tg := 530) X dL_isFair_470 rfl, ?_⟩
  refine List.forall_mem_cons.mpr ⟨xs_aload_n X dL_isFair_473 rfl, ?_⟩
  refine List.forall_mem_cons.mpr ⟨xs_iload X dL_isFair_474, ?_⟩
  refine List.forall_mem_cons.mpr ⟨xs_iconst X dL_isFair_476 rfl, ?_⟩
  refine List.forall_mem_cons.mpr ⟨xs_callV (ci := 4) X (mpX3_of l D Y) (cwV 2 X.1.2.2.2.2 gL_isFair_X3_of rfl rfl rfl (by decide +kernel) ⟨Nat.le_of_ble_eq_true rfl, Nat.le_of_ble_eq_true rfl⟩) rfl rfl rfl rfl dL_isFair_477, ?_⟩
  refine List.forall_mem_cons.mpr ⟨xs_aload_n X dL_isFair_480 rfl, ?_⟩
  refine List.forall_mem_cons.mpr ⟨xs_iload X dL_isFair_481, ?_⟩
  refine List.forall_mem_cons.mpr ⟨xs_iconst X dL_isFair_483 rfl, ?_⟩
  refine List.forall_mem_cons.mpr ⟨xs_callV (ci := 4) X (mpX3_of l D Y) (cwV 2 X.1.2.2.2.2 gL_isFair_X3_of rfl rfl rfl (by decide +kernel) ⟨Nat.le_of_ble_eq_true rfl, Nat.le_of_ble_eq_true rfl⟩) rfl rfl rfl rfl dL_isFair_484, ?_⟩
  refine List.forall_mem_cons.mpr ⟨xs_icmpge (tg := 524) X dL_isFair_487 rfl, ?_⟩
  refine List.forall_mem_cons.mpr ⟨xs_aload_n X dL_isFair_490 rfl, ?_⟩
  refine List.forall_mem_cons.mpr ⟨xs_iload X dL_isFair_491, ?_⟩
  refine List.forall_mem_cons.mpr ⟨xs_iconst X dL_isFair_493 rfl, ?_⟩
  refine List.forall_mem_cons.mpr ⟨xs_callV (ci := 4) X (mpX3_order l D Y) (cwV 2 X.1.2.2.2.2 gL_isFair_X3_order rfl rfl rfl (by decide +kernel) ⟨Nat.le_of_ble_eq_true rfl, Nat.le_of_ble_eq_true rfl⟩) rfl rfl rfl rfl dL_isFair_494, ?_⟩
  refine List.forall_mem_cons.mpr ⟨xs_aload_n X dL_isFair_497 rfl, ?_⟩
  refine List.forall_mem_cons.mpr ⟨xs_iload X dL_isFair_498, ?_⟩
  refine List.forall_mem_cons.mpr ⟨xs_iconst X dL_isFair_500 rfl, ?_⟩
  refine List.forall_mem_cons.mpr ⟨xs_callV (ci := 4) X (mpX3_order l D Y) (cwV 2 X.1.2.2.2.2 gL_isFair_X3_order rfl rfl rfl (by decide +kernel) ⟨Nat.le_of_ble_eq_true rfl, Nat.le_of_ble_eq_true rfl⟩) rfl rfl rfl rfl dL_isFair_501, ?_⟩
  refine List.forall_mem_cons.mpr ⟨xs_icmpgt (tg := 522) X dL_isFair_504 rfl, ?_⟩
  refine List.forall_mem_cons.mpr ⟨xs_aload_n X dL_isFair_507 rfl, ?_⟩
  refine List.forall_mem_cons.mpr ⟨xs_iload X dL_isFair_508, ?_⟩
  refine List.forall_mem_cons.mpr ⟨xs_callV (ci := 4) X (mpX3_place l D Y) (cwV 1 X.1.2.2.2.2 gL_isFair_X3_place rfl rfl rfl (by decide +kernel) ⟨Nat.le_of_ble_eq_true rfl, Nat.le_of_ble_eq_true rfl⟩) rfl rfl rfl rfl dL_isFair_510, ?_⟩
  refine List.forall_mem_cons.mpr ⟨xs_aload_n X dL_isFair_513 rfl, ?_⟩
  refine List.forall_mem_cons.mpr ⟨xs_iload X dL_isFair_514, ?_⟩
  refine List.forall_mem_cons.mpr ⟨xs_callV (ci := 4) X (mpX3_place l D Y) (cwV 1 X.1.2.2.2.2 gL_isFair_X3_place rfl rfl rfl (by decide +kernel) ⟨Nat.le_of_ble_eq_true rfl, Nat.le_of_ble_eq_true rfl⟩) rfl rfl rfl rfl dL_isFair_516, ?_⟩
  refine List.forall_mem_cons.mpr ⟨xs_icmple (tg := 524) X dL_isFair_519 rfl, ?_⟩
  refine List.forall_mem_cons.mpr ⟨xs_iconst X dL_isFair_522 rfl, ?_⟩
  refine List.forall_mem_cons.mpr ⟨xs_iret X hr hlocks dL_isFair_523, ?_⟩
  refine List.forall_mem_cons.mpr ⟨xs_iinc X dL_isFair_524 rfl (Nat.le_of_ble_eq_true rfl), ?_⟩
  refine List.forall_mem_cons.mpr ⟨xs_goto (tg := 467) X dL_isFair_527 rfl, ?_⟩
  refine List.forall_mem_cons.mpr ⟨xs_iinc X dL_isFair_530 rfl (Nat.le_of_ble_eq_true rfl), ?_⟩
  refine List.forall_mem_cons.mpr ⟨xs_goto (tg := 354) X dL_isFair_533 rfl, ?_⟩
  refine List.forall_mem_cons.mpr ⟨xs_iload X dL_isFair_536, ?_⟩
  refine List.forall_mem_cons.mpr ⟨xs_iconst X dL_isFair_538 rfl, ?_⟩
  refine List.forall_mem_cons.mpr ⟨xs_iload_n X dL_isFair_539 rfl, ?_⟩
  refine List.forall_mem_cons.mpr ⟨xs_ishl X dL_isFair_540, ?_⟩
  refine List.forall_mem_cons.mpr ⟨xs_iconst X dL_isFair_541 rfl, ?_⟩
  refine List.forall_mem_cons.mpr ⟨xs_isub X dL_isFair_542, ?_⟩
  refine List.forall_mem_cons.mpr ⟨xs_icmpne (tg := 585) X dL_isFair_543 rfl, ?_⟩
  refine List.forall_mem_cons.mpr ⟨xs_iload X dL_isFair_546, ?_⟩
  refine List.forall_mem_cons.mpr ⟨xs_iload X dL_isFair_548, ?_⟩
  refine List.forall_mem_cons.mpr ⟨xs_icmpne (tg := 585) X dL_isFair_550 rfl, ?_⟩
  refine List.forall_mem_cons.mpr ⟨xs_aload_n X dL_isFair_553 rfl, ?_⟩
  refine List.forall_mem_cons.mpr ⟨xs_iconst X dL_isFair_554 rfl, ?_⟩
  refine List.forall_mem_cons.mpr ⟨xs_callV (ci := 4) X (mpX3_many l D Y) (cwV 1 X.1.2.2.2.2 gL_isFair_X3_many rfl rfl rfl (by decide +kernel) ⟨Nat.le_of_ble_eq_true rfl, Nat.le_of_ble_eq_true rfl⟩) rfl rfl rfl rfl dL_isFair_555, ?_⟩
  refine List.forall_mem_cons.mpr ⟨xs_aload_n X dL_isFair_558 rfl, ?_⟩
  refine List.forall_mem_cons.mpr ⟨xs_iconst X dL_isFair_559 rfl, ?_⟩
  refine List.forall_mem_cons.mpr ⟨xs_callV (ci := 4) X (mpX3_many l D Y) (cwV 1 X.1.2.2.2.2 gL_isFair_X3_many rfl rfl rfl (by decide +kernel) ⟨Nat.le_of_ble_eq_true rfl, Nat.le_of_ble_eq_true rfl⟩) rfl rfl rfl rfl dL_isFair_560, ?_⟩
  refine List.forall_mem_cons.mpr ⟨xs_iadd X dL_isFair_563, ?_⟩
  refine List.forall_mem_cons.mpr ⟨xs_aload_n X dL_isFair_564 rfl, ?_⟩
  refine List.forall_mem_cons.mpr ⟨xs_iconst X dL_isFair_565 rfl, ?_⟩
  refine List.forall_mem_cons.mpr ⟨xs_callV (ci := 4) X (mpX3_many l D Y) (cwV 1 X.1.2.2.2.2 gL_isFair_X3_many rfl rfl rfl (by decide +kernel) ⟨Nat.le_of_ble_eq_true rfl, Nat.le_of_ble_eq_true rfl⟩) rfl rfl rfl rfl dL_isFair_566, ?_⟩
  refine List.forall_mem_cons.mpr ⟨xs_iadd X dL_isFair_569, ?_⟩
  refine List.forall_mem_cons.mpr ⟨xs_aload_n X dL_isFair_570 rfl, ?_⟩
  refine List.forall_mem_cons.mpr ⟨xs_bipush X dL_isFair_571 rfl, ?_⟩
  refine List.forall_mem_cons.mpr ⟨xs_callV (ci := 4) X (mpX3_many l D Y) (cwV 1 X.1.2.2.2.2 gL_isFair_X3_many rfl rfl rfl (by decide +kernel) ⟨Nat.le_of_ble_eq_true rfl, Nat.le_of_ble_eq_true rfl⟩) rfl rfl rfl rfl dL_isFair_573, ?_⟩
  refine List.forall_mem_cons.mpr ⟨xs_iadd X dL_isFair_576, ?_⟩
  refine List.forall_mem_cons.mpr ⟨xs_iload_n X dL_isFair_577 rfl, ?_⟩
  refine List.forall_mem_cons.mpr ⟨xs_icmpne (tg := 585) X dL_isFair_578 rfl, ?_⟩
  refine List.forall_mem_cons.mpr ⟨xs_iconst X dL_isFair_581 rfl, ?_⟩
  refine List.forall_mem_cons.mpr ⟨xs_goto (tg := 586) X dL_isFair_582 rfl, ?_⟩
  refine List.forall_mem_cons.mpr ⟨xs_iconst X dL_isFair_585 rfl, ?_⟩
  refine List.forall_mem_cons.mpr ⟨xs_iret X hr hlocks dL_isFair_586, ?_⟩
  exact fun _ h => nomatch h
set_option maxRecDepth 100000 in
set_option maxHeartbeats 4000000 in
theorem mpX3_seed (l : Launch) (D : va_G) (Y : xw_Y) : xw_MP l D vwCl (xw_ty Y) Y.1 yX3_seed wsX3_seed ({ frames := 5, cells := 0, slots := 0, locals := 110 } : Room) (ptX3_seed Y) 0 0 := by
  refine xw_met (cc := cX3_seed) (nL := 3) (ret := none) (by decide +kernel) rfl ?_
  intro p e s m args below meth c w0 post X hr hlocks hname
  unfold tbX3_seed
  refine List.forall_mem_cons.mpr ⟨xs_iconst X dX3_seed_0 rfl, ?_⟩
  refine List.forall_mem_cons.mpr ⟨xs_istore_n X dX3_seed_1 rfl (Nat.le_of_ble_eq_true rfl), ?_⟩
  refine List.forall_mem_cons.mpr ⟨xs_iload_n X dX3_seed_2 rfl, ?_⟩
  refine List.forall_mem_cons.mpr ⟨xs_iload_n X dX3_seed_3 rfl, ?_⟩
  refine List.forall_mem_cons.mpr ⟨xs_icmpge (tg := 30) X dX3_seed_4 rfl, ?_⟩
  refine List.forall_mem_cons.mpr ⟨xs_iload_n X dX3_seed_7 rfl, ?_⟩
  refine List.forall_mem_cons.mpr ⟨xs_bipush X dX3_seed_8 rfl, ?_⟩
  refine List.forall_mem_cons.mpr ⟨xs_icmpge (tg := 30) X dX3_seed_10 rfl, ?_⟩
  refine List.forall_mem_cons.mpr ⟨xs_aload_n X dX3_seed_13 rfl, ?_⟩
  refine List.forall_mem_cons.mpr ⟨xs_getf (C := RX3) (T := TX3) (N := 10) (ci := 4) (kf := 4) X (fun w h => List.mem_cons_of_mem _ (List.mem_append_left _ (List.mem_append_left _ (List.mem_append_right _ h)))) rfl (by decide) (List.mem_of_getElem? (i := 1) rfl) (fun _ h => h) dX3_seed_14, ?_⟩
  refine List.forall_mem_cons.mpr ⟨xs_iload_n X dX3_seed_17 rfl, ?_⟩
  refine List.forall_mem_cons.mpr ⟨xs_aload_n X dX3_seed_18 rfl, ?_⟩
  refine List.forall_mem_cons.mpr ⟨xs_iload_n X dX3_seed_19 rfl, ?_⟩
  refine List.forall_mem_cons.mpr ⟨xs_callV (ci := 4) X (mpX3_fencerInOrder l D Y) (cwV 1 X.1.2.2.2.2 gX3_seed_X3_fencerInOrder rfl rfl rfl (by decide +kernel) ⟨Nat.le_of_ble_eq_true rfl, Nat.le_of_ble_eq_true rfl⟩) rfl rfl rfl rfl dX3_seed_20, ?_⟩
  refine List.forall_mem_cons.mpr ⟨xs_aast (t0 := 3) X rfl (fun ci h => by
      rcases List.mem_cons.mp h with h | h
      · exact ⟨_, by rw [h]; rfl, Or.inl rfl⟩
      · cases h) dX3_seed_23, ?_⟩
  refine List.forall_mem_cons.mpr ⟨xs_iinc X dX3_seed_24 rfl (Nat.le_of_ble_eq_true rfl), ?_⟩
  refine List.forall_mem_cons.mpr ⟨xs_goto (tg := 2) X dX3_seed_27 rfl, ?_⟩
  refine List.forall_mem_cons.mpr ⟨xs_vret X hr hlocks dX3_seed_30, ?_⟩
  exact fun _ h => nomatch h
