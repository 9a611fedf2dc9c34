set_option maxRecDepth 100000 in
set_option maxHeartbeats 4000000 in
theorem mpX3_pass (l : Launch) (D : va_G) (Y : xw_Y) : xw_MP l D vwCl (xw_ty Y) Y.1 yX3_pass wsX3_pass ({ frames := 7, cells := 0, slots := 0, locals := 156 } : Room) (ptX3_pass Y) 0 0 := by
  refine xw_met (cc := cX3_pass) (nL := 5) (ret := (some .int)) (by decide +kernel) rfl ?_
  intro p e s m args below meth c w0 post X hr hlocks hname
  unfold tbX3_pass
  refine List.forall_mem_cons.mpr ⟨xs_iload_n X dX3_pass_0 rfl, ?_⟩
  refine List.forall_mem_cons.mpr ⟨xs_iconst X dX3_pass_1 rfl, ?_⟩
  refine List.forall_mem_cons.mpr ⟨xs_sipush X dX3_pass_2 rfl, ?_⟩
  refine List.forall_mem_cons.mpr ⟨xs_callS X (mpX3_isIn l D Y) (va_cwS 3 X.1.2.2.2.2 gX3_pass_X3_isIn rfl rfl rfl (by decide +kernel) ⟨Nat.le_of_ble_eq_true rfl, Nat.le_of_ble_eq_true rfl⟩) rfl rfl dX3_pass_5, ?_⟩
  refine List.forall_mem_cons.mpr ⟨xs_ifne (tg := 21) X dX3_pass_8 rfl, ?_⟩
  refine List.forall_mem_cons.mpr ⟨xs_iconst X dX3_pass_21 rfl, ?_⟩
  refine List.forall_mem_cons.mpr ⟨xs_istore_n X dX3_pass_22 rfl (Nat.le_of_ble_eq_true rfl), ?_⟩
  refine List.forall_mem_cons.mpr ⟨xs_iconst X dX3_pass_23 rfl, ?_⟩
  refine List.forall_mem_cons.mpr ⟨xs_istore_n X dX3_pass_24 rfl (Nat.le_of_ble_eq_true rfl), ?_⟩
  refine List.forall_mem_cons.mpr ⟨xs_iload_n X dX3_pass_25 rfl, ?_⟩
  refine List.forall_mem_cons.mpr ⟨xs_iconst X dX3_pass_26 rfl, ?_⟩
  refine List.forall_mem_cons.mpr ⟨xs_icmpge (tg := 62) X dX3_pass_27 rfl, ?_⟩
  refine List.forall_mem_cons.mpr ⟨xs_aload_n X dX3_pass_30 rfl, ?_⟩
  refine List.forall_mem_cons.mpr ⟨xs_getf (C := RX3) (T := TX3) (N := 10) (ci := 4) (kf := 2) X (fun w h => List.mem_cons_of_mem _ (List.mem_append_left _ (List.mem_append_left _ (List.mem_append_left _ (List.mem_append_left _ (List.mem_append_left _ (List.mem_append_right _ h))))))) rfl (by decide) (List.mem_of_getElem? (i := 3) rfl) (fun _ h => h) dX3_pass_31, ?_⟩
  refine List.forall_mem_cons.mpr ⟨xs_iload_n X dX3_pass_34 rfl, ?_⟩
  refine List.forall_mem_cons.mpr ⟨xs_aald (t0 := 2) X rfl dX3_pass_35, ?_⟩
  refine List.forall_mem_cons.mpr ⟨xs_astore X dX3_pass_36 (Nat.le_of_ble_eq_true rfl), ?_⟩
  refine List.forall_mem_cons.mpr ⟨xs_aload X dX3_pass_38, ?_⟩
  refine List.forall_mem_cons.mpr ⟨xs_ifnull (tg := 56) X dX3_pass_40 rfl, ?_⟩
  refine List.forall_mem_cons.mpr ⟨xs_aload_n X dX3_pass_43 rfl, ?_⟩
  refine List.forall_mem_cons.mpr ⟨xs_aload X dX3_pass_44, ?_⟩
  refine List.forall_mem_cons.mpr ⟨xs_iload_n X dX3_pass_46 rfl, ?_⟩
  refine List.forall_mem_cons.mpr ⟨xs_callV (ci := 4) X (mpX3_isOverAfter l D Y) (cwV 2 X.1.2.2.2.2 gX3_pass_X3_isOverAfter rfl rfl rfl (by decide +kernel) ⟨Nat.le_of_ble_eq_true rfl, Nat.le_of_ble_eq_true rfl⟩) rfl rfl rfl rfl dX3_pass_47, ?_⟩
  refine List.forall_mem_cons.mpr ⟨xs_ifeq (tg := 56) X dX3_pass_50 rfl, ?_⟩
  refine List.forall_mem_cons.mpr ⟨xs_iinc X dX3_pass_53 rfl (Nat.le_of_ble_eq_true rfl), ?_⟩
  refine List.forall_mem_cons.mpr ⟨xs_iinc X dX3_pass_56 rfl (Nat.le_of_ble_eq_true rfl), ?_⟩
  refine List.forall_mem_cons.mpr ⟨xs_goto (tg := 25) X dX3_pass_59 rfl, ?_⟩
  refine List.forall_mem_cons.mpr ⟨xs_aload_n X dX3_pass_62 rfl, ?_⟩
  refine List.forall_mem_cons.mpr ⟨xs_dup X dX3_pass_63, ?_⟩
  refine List.forall_mem_cons.mpr ⟨xs_getf (C := RX3) (T := TX3) (N := 10) (ci := 4) (kf := 7) X (fun w h => List.mem_cons_of_mem _ (List.mem_append_left _ (List.mem_append_left _ (List.mem_append_left _ (List.mem_append_left _ (List.mem_append_left _ (List.mem_append_right _ h))))))) rfl (by decide) (List.mem_of_getElem? (i := 4) rfl) (fun _ h => h) dX3_pass_64, ?_⟩
  refine List.forall_mem_cons.mpr ⟨xs_iload_n X dX3_pass_67 rfl, ?_⟩
  refine List.forall_mem_cons.mpr ⟨xs_iadd X dX3_pass_68, ?_⟩
  refine List.forall_mem_cons.mpr ⟨xs_putf (C := RX3) (T := TX3) (N := 10) (ci := 4) (kf := 7) X (fun w h => List.mem_cons_of_mem _ (List.mem_append_left _ (List.mem_append_left _ (List.mem_append_left _ (List.mem_append_left _ (List.mem_append_left _ (List.mem_append_right _ h))))))) tyX3 tyX3_ok nmX3 rfl (by decide) (List.mem_of_getElem? (i := 4) rfl) (fun _ h => h) rfl rfl dX3_pass_69, ?_⟩
  refine List.forall_mem_cons.mpr ⟨xs_iload_n X dX3_pass_72 rfl, ?_⟩
  refine List.forall_mem_cons.mpr ⟨xs_iret X hr hlocks dX3_pass_73, ?_⟩
  exact fun _ h => nomatch h
set_option maxRecDepth 100000 in
set_option maxHeartbeats 4000000 in
theorem mpX3_reason (l : Launch) (D : va_G) (Y : xw_Y) : xw_MP l D vwCl (xw_ty Y) Y.1 yX3_reason wsX3_reason ({ frames := 4, cells := 0, slots := 0, locals := 85 } : Room) (ptX3_reason Y) 0 0 := by
  refine xw_met (cc := cX3_reason) (nL := 2) (ret := (some .int)) (by decide +kernel) rfl ?_
  intro p e s m args below meth c w0 post X hr hlocks hname
  unfold tbX3_reason
  refine List.forall_mem_cons.mpr ⟨xs_aload_n X dX3_reason_0 rfl, ?_⟩
  refine List.forall_mem_cons.mpr ⟨xs_aload_n X dX3_reason_1 rfl, ?_⟩
  refine List.forall_mem_cons.mpr ⟨xs_iload_n X dX3_reason_2 rfl, ?_⟩
  refine List.forall_mem_cons.mpr ⟨xs_callV (ci := 4) X (mpX3_boutAt l D Y) (cwV 1 X.1.2.2.2.2 gX3_reason_X3_boutAt rfl rfl rfl (by decide +kernel) ⟨Nat.le_of_ble_eq_true rfl, Nat.le_of_ble_eq_true rfl⟩) rfl rfl rfl rfl dX3_reason_3, ?_⟩
  refine List.forall_mem_cons.mpr ⟨xs_callV (ci := 4) X (mpX3_whyNotReady l D Y) (cwV 1 X.1.2.2.2.2 gX3_reason_X3_whyNotReady rfl rfl rfl (by decide +kernel) ⟨Nat.le_of_ble_eq_true rfl, Nat.le_of_ble_eq_true rfl⟩) rfl rfl rfl rfl dX3_reason_6, ?_⟩
  refine List.forall_mem_cons.mpr ⟨xs_iret X hr hlocks dX3_reason_9, ?_⟩
  exact fun _ h => nomatch h
set_option maxRecDepth 100000 in
set_option maxHeartbeats 4000000 in
theorem mpX2_begin (l : Launch) (D : va_G) (Y : xw_Y) : xw_MP l D vwCl (xw_ty Y) Y.1 yX2_begin wsX2_begin ({ frames := 0, cells := 0, slots := 0, locals := 0 } : Room) (ptX2_begin Y) 0 0 := by
  refine xw_met (cc := cX2_begin) (nL := 2) (ret := none) (by decide +kernel) rfl ?_
  intro p e s m args below meth c w0 post X hr hlocks hname
  unfold tbX2_begin
  refine List.forall_mem_cons.mpr ⟨xs_aload_n X dX2_begin_0 rfl, ?_⟩
  refine List.forall_mem_cons.mpr ⟨xs_getf (C := RX2) (T := TX2) (N := 3) (ci := 3) (kf := 0) X (fun w h => List.mem_cons_of_mem _ (List.mem_append_left _ (List.mem_append_right _ h))) rfl (by decide) (List.mem_of_getElem? (i := 1) rfl) (fun _ h => h) dX2_begin_1, ?_⟩
  refine List.forall_mem_cons.mpr ⟨xs_ifnull (tg := 15) X dX2_begin_4 rfl, ?_⟩
  refine List.forall_mem_cons.mpr ⟨xs_aload_n X dX2_begin_7 rfl, ?_⟩
  refine List.forall_mem_cons.mpr ⟨xs_getf (C := RX2) (T := TX2) (N := 3) (ci := 3) (kf := 0) X (fun w h => List.mem_cons_of_mem _ (List.mem_append_left _ (List.mem_append_right _ h))) rfl (by decide) (List.mem_of_getElem? (i := 1) rfl) (fun _ h => h) dX2_begin_8, ?_⟩
  refine List.forall_mem_cons.mpr ⟨xs_aload_n X dX2_begin_11 rfl, ?_⟩
  refine List.forall_mem_cons.mpr ⟨xs_putf (C := RX1) (T := TX1) (N := 14) (ci := 2) (kf := 6) X (fun w h => List.mem_cons_of_mem _ (List.mem_append_right _ h)) tyX1 tyX1_ok nmX1 rfl (by decide) (List.mem_of_getElem? (i := 2) rfl) (fun _ h => h) rfl rfl dX2_begin_12, ?_⟩
  refine List.forall_mem_cons.mpr ⟨xs_vret X hr hlocks dX2_begin_15, ?_⟩
  exact fun _ h => nomatch h
set_option maxRecDepth 100000 in
set_option maxHeartbeats 4000000 in
theorem mpX0_begin (l : Launch) (D : va_G) (Y : xw_Y) : xw_MP l D vwCl (xw_ty Y) Y.1 yX0_begin wsX0_begin ({ frames := 1, cells := 0, slots := 0, locals := 21 } : Room) (ptX0_begin Y) 0 0 := by
  refine xw_met (cc := cX0_begin) (nL := 2) (ret := none) (by decide +kernel) rfl ?_
  intro p e s m args below meth c w0 post X hr hlocks hname
  unfold tbX0_begin
  refine List.forall_mem_cons.mpr ⟨xs_aload_n X dX0_begin_0 rfl, ?_⟩
  refine List.forall_mem_cons.mpr ⟨xs_iconst X dX0_begin_1 rfl, ?_⟩
  refine List.forall_mem_cons.mpr ⟨xs_putf (C := RX0) (T := TX0) (N := 9) (ci := 1) (kf := 4) X (fun w h => List.mem_cons_of_mem _ (List.mem_append_left _ (List.mem_append_left _ (List.mem_append_right _ h)))) tyX0 tyX0_ok nmX0 rfl (by decide) (List.mem_of_getElem? (i := 1) rfl) (fun _ h => h) rfl rfl dX0_begin_2, ?_⟩
  refine List.forall_mem_cons.mpr ⟨xs_aload_n X dX0_begin_5 rfl, ?_⟩
  refine List.forall_mem_cons.mpr ⟨xs_iload_n X dX0_begin_6 rfl, ?_⟩
  refine List.forall_mem_cons.mpr ⟨xs_putf (C := RX0) (T := TX0) (N := 9) (ci := 1) (kf := 6) X (fun w h => List.mem_cons_of_mem _ (List.mem_append_left _ (List.mem_append_left _ (List.mem_append_right _ h)))) tyX0 tyX0_ok nmX0 rfl (by decide) (List.mem_of_getElem? (i := 2) rfl) (fun _ h => h) rfl rfl dX0_begin_7, ?_⟩
  refine List.forall_mem_cons.mpr ⟨xs_aload_n X dX0_begin_10 rfl, ?_⟩
  refine List.forall_mem_cons.mpr ⟨xs_iconst X dX0_begin_11 rfl, ?_⟩
  refine List.forall_mem_cons.mpr ⟨xs_putf (C := RX0) (T := TX0) (N := 9) (ci := 1) (kf := 7) X (fun w h => List.mem_cons_of_mem _ (List.mem_append_left _ (List.mem_append_left _ (List.mem_append_right _ h)))) tyX0 tyX0_ok nmX0 rfl (by decide) (List.mem_of_getElem? (i := 3) rfl) (fun _ h => h) rfl rfl dX0_begin_12, ?_⟩
  refine List.forall_mem_cons.mpr ⟨xs_aload_n X dX0_begin_15 rfl, ?_⟩
  refine List.forall_mem_cons.mpr ⟨xs_sipush X dX0_begin_16 rfl, ?_⟩
  refine List.forall_mem_cons.mpr ⟨xs_putf (C := RX0) (T := TX0) (N := 9) (ci := 1) (kf := 8) X (fun w h => List.mem_cons_of_mem _ (List.mem_append_left _ (List.mem_append_left _ (List.mem_append_right _ h)))) tyX0 tyX0_ok nmX0 rfl (by decide) (List.mem_of_getElem? (i := 4) rfl) (fun _ h => h) rfl rfl dX0_begin_19, ?_⟩
  refine List.forall_mem_cons.mpr ⟨xs_aload_n X dX0_begin_22 rfl, ?_⟩
  refine List.forall_mem_cons.mpr ⟨xs_getf (C := RX0) (T := TX0) (N := 9) (ci := 1) (kf := 2) X (fun w h => List.mem_cons_of_mem _ (List.mem_append_left _ (List.mem_append_left _ (List.mem_append_right _ h)))) rfl (by decide) (List.mem_of_getElem? (i := 5) rfl) (fun _ h => h) dX0_begin_23, ?_⟩
  refine List.forall_mem_cons.mpr ⟨xs_aload_n X dX0_begin_26 rfl, ?_⟩
  refine List.forall_mem_cons.mpr ⟨xs_callV (ci := 3) X (mpX2_begin l D Y) (cwV 1 X.1.2.2.2.2 gX0_begin_X2_begin rfl rfl rfl (by decide +kernel) ⟨Nat.le_of_ble_eq_true rfl, Nat.le_of_ble_eq_true rfl⟩) rfl rfl rfl rfl dX0_begin_27, ?_⟩
  refine List.forall_mem_cons.mpr ⟨xs_aload_n X dX0_begin_30 rfl, ?_⟩
  refine List.forall_mem_cons.mpr ⟨xs_getf (C := RX0) (T := TX0) (N := 9) (ci := 1) (kf := 3) X (fun w h => List.mem_cons_of_mem _ (List.mem_append_left _ (List.mem_append_left _ (List.mem_append_right _ h)))) rfl (by decide) (List.mem_of_getElem? (i := 6) rfl) (fun _ h => h) dX0_begin_31, ?_⟩
  refine List.forall_mem_cons.mpr ⟨xs_aload_n X dX0_begin_34 rfl, ?_⟩
  refine List.forall_mem_cons.mpr ⟨xs_callV (ci := 3) X (mpX2_begin l D Y) (cwV 1 X.1.2.2.2.2 gX0_begin_X2_begin rfl rfl rfl (by decide +kernel) ⟨Nat.le_of_ble_eq_true rfl, Nat.le_of_ble_eq_true rfl⟩) rfl rfl rfl rfl dX0_begin_35, ?_⟩
  refine List.forall_mem_cons.mpr ⟨xs_vret X hr hlocks dX0_begin_38, ?_⟩
  exact fun _ h => nomatch h
set_option maxRecDepth 100000 in
set_option maxHeartbeats 4000000 in
theorem mpX3_start (l : Launch) (D : va_G) (Y : xw_Y) : xw_MP l D vwCl (xw_ty Y) Y.1 yX3_start wsX3_start ({ frames := 4, cells := 0, slots := 0, locals := 85 } : Room) (ptX3_start Y) 0 0 := by
  refine xw_met (cc := cX3_start) (nL := 4) (ret := none) (by decide +kernel) rfl ?_
  intro p e s m args below meth c w0 post X hr hlocks hname
  unfold tbX3_start
  refine List.forall_mem_cons.mpr ⟨xs_aload_n X dX3_start_0 rfl, ?_⟩
  refine List.forall_mem_cons.mpr ⟨xs_iload_n X dX3_start_1 rfl, ?_⟩
  refine List.forall_mem_cons.mpr ⟨xs_callV (ci := 4) X (mpX3_boutAt l D Y) (cwV 1 X.1.2.2.2.2 gX3_start_X3_boutAt rfl rfl rfl (by decide +kernel) ⟨Nat.le_of_ble_eq_true rfl, Nat.le_of_ble_eq_true rfl⟩) rfl rfl rfl rfl dX3_start_2, ?_⟩
  refine List.forall_mem_cons.mpr ⟨xs_astore_n X dX3_start_5 rfl (Nat.le_of_ble_eq_true rfl), ?_⟩
  refine List.forall_mem_cons.mpr ⟨xs_iload_n X dX3_start_6 rfl, ?_⟩
  refine List.forall_mem_cons.mpr ⟨xs_callS X (mpX3_isPiste l D Y) (va_cwS 1 X.1.2.2.2.2 gX3_start_X3_isPiste rfl rfl rfl (by decide +kernel) ⟨Nat.le_of_ble_eq_true rfl, Nat.le_of_ble_eq_true rfl⟩) rfl rfl dX3_start_7, ?_⟩
  refine List.forall_mem_cons.mpr ⟨xs_ifne (tg := 23) X dX3_start_10 rfl, ?_⟩
  refine List.forall_mem_cons.mpr ⟨xs_aload_n X dX3_start_23 rfl, ?_⟩
  refine List.forall_mem_cons.mpr ⟨xs_aload_n X dX3_start_24 rfl, ?_⟩
  refine List.forall_mem_cons.mpr ⟨xs_callV (ci := 4) X (mpX3_whyNotReady l D Y) (cwV 1 X.1.2.2.2.2 gX3_start_X3_whyNotReady rfl rfl rfl (by decide +kernel) ⟨Nat.le_of_ble_eq_true rfl, Nat.le_of_ble_eq_true rfl⟩) rfl rfl rfl rfl dX3_start_25, ?_⟩
  refine List.forall_mem_cons.mpr ⟨xs_ifne (tg := 40) X dX3_start_28 rfl, ?_⟩
  refine List.forall_mem_cons.mpr ⟨xs_aload_n X dX3_start_31 rfl, ?_⟩
  refine List.forall_mem_cons.mpr ⟨xs_getf (C := RX3) (T := TX3) (N := 10) (ci := 4) (kf := 2) X (fun w h => List.mem_cons_of_mem _ (List.mem_append_left _ (List.mem_append_left _ (List.mem_append_left _ (List.mem_append_left _ (List.mem_append_left _ (List.mem_append_left _ (List.mem_append_left _ (List.mem_append_right _ h))))))))) rfl (by decide) (List.mem_of_getElem? (i := 5) rfl) (fun _ h => h) dX3_start_32, ?_⟩
  refine List.forall_mem_cons.mpr ⟨xs_iload_n X dX3_start_35 rfl, ?_⟩
  refine List.forall_mem_cons.mpr ⟨xs_aald (t0 := 2) X rfl dX3_start_36, ?_⟩
  refine List.forall_mem_cons.mpr ⟨xs_ifnull (tg := 50) X dX3_start_37 rfl, ?_⟩
  refine List.forall_mem_cons.mpr ⟨xs_aload_n X dX3_start_50 rfl, ?_⟩
  refine List.forall_mem_cons.mpr ⟨xs_iload_n X dX3_start_51 rfl, ?_⟩
  refine List.forall_mem_cons.mpr ⟨xs_callV (ci := 1) X (mpX0_begin l D Y) (cwV 1 X.1.2.2.2.2 gX3_start_X0_begin rfl rfl rfl (by decide +kernel) ⟨Nat.le_of_ble_eq_true rfl, Nat.le_of_ble_eq_true rfl⟩) rfl rfl rfl rfl dX3_start_52, ?_⟩
  refine List.forall_mem_cons.mpr ⟨xs_aload_n X dX3_start_55 rfl, ?_⟩
  refine List.forall_mem_cons.mpr ⟨xs_getf (C := RX3) (T := TX3) (N := 10) (ci := 4) (kf := 2) X (fun w h => List.mem_cons_of_mem _ (List.mem_append_left _ (List.mem_append_left _ (List.mem_append_left _ (List.mem_append_left _ (List.mem_append_left _ (List.mem_append_left _ (List.mem_append_left _ (List.mem_append_right _ h))))))))) rfl (by decide) (List.mem_of_getElem? (i := 5) rfl) (fun _ h => h) dX3_start_56, ?_⟩
  refine List.forall_mem_cons.mpr ⟨xs_iload_n X dX3_start_59 rfl, ?_⟩
  refine List.forall_mem_cons.mpr ⟨xs_aload_n X dX3_start_60 rfl, ?_⟩
  refine List.forall_mem_cons.mpr ⟨xs_aast (t0 := 2) X rfl (fun ci h => by
      rcases List.mem_cons.mp h with h | h
      · exact ⟨_, by rw [h]; rfl, Or.inl rfl⟩
      · cases h) dX3_start_61, ?_⟩
  refine List.forall_mem_cons.mpr ⟨xs_vret X hr hlocks dX3_start_62, ?_⟩
  exact fun _ h => nomatch h
set_option maxRecDepth 100000 in
set_option maxHeartbeats 4000000 in
theorem mpX3_liveBoutOn (l : Launch) (D : va_G) (Y : xw_Y) : xw_MP l D vwCl (xw_ty Y) Y.1 yX3_liveBoutOn wsX3_liveBoutOn ({ frames := 2, cells := 0, slots := 0, locals := 42 } : Room) (ptX3_liveBoutOn Y) 0 0 := by
  refine xw_met (cc := cX3_liveBoutOn) (nL := 3) (ret := (some (.object "Pommel$Bout"))) (by decide +kernel) rfl ?_
  intro p e s m args below meth c w0 post X hr hlocks hname
  unfold tbX3_liveBoutOn
  refine List.forall_mem_cons.mpr ⟨xs_iload_n X dX3_liveBoutOn_0 rfl, ?_⟩
  refine List.forall_mem_cons.mpr ⟨xs_callS X (mpX3_isPiste l D Y) (va_cwS 1 X.1.2.2.2.2 gX3_liveBoutOn_X3_isPiste rfl rfl rfl (by decide +kernel) ⟨Nat.le_of_ble_eq_true rfl, Nat.le_of_ble_eq_true rfl⟩) rfl rfl dX3_liveBoutOn_1, ?_⟩
  refine List.forall_mem_cons.mpr ⟨xs_ifeq (tg := 16) X dX3_liveBoutOn_4 rfl, ?_⟩
  refine List.forall_mem_cons.mpr ⟨xs_aload_n X dX3_liveBoutOn_7 rfl, ?_⟩
  refine List.forall_mem_cons.mpr ⟨xs_getf (C := RX3) (T := TX3) (N := 10) (ci := 4) (kf := 2) X (fun w h => List.mem_cons_of_mem _ (List.mem_append_left _ (List.mem_append_right _ h))) rfl (by decide) (List.mem_of_getElem? (i := 3) rfl) (fun _ h => h) dX3_liveBoutOn_8, ?_⟩
  refine List.forall_mem_cons.mpr ⟨xs_iload_n X dX3_liveBoutOn_11 rfl, ?_⟩
  refine List.forall_mem_cons.mpr ⟨xs_aald (t0 := 2) X rfl dX3_liveBoutOn_12, ?_⟩
  refine List.forall_mem_cons.mpr ⟨xs_goto (tg := 17) X dX3_liveBoutOn_13 rfl, ?_⟩
  refine List.forall_mem_cons.mpr ⟨xs_null X dX3_liveBoutOn_16, ?_⟩
  refine List.forall_mem_cons.mpr ⟨xs_astore_n X dX3_liveBoutOn_17 rfl (Nat.le_of_ble_eq_true rfl), ?_⟩
  refine List.forall_mem_cons.mpr ⟨xs_aload_n X dX3_liveBoutOn_18 rfl, ?_⟩
  refine List.forall_mem_cons.mpr ⟨xs_ifnonnull (tg := 33) X dX3_liveBoutOn_19 rfl, ?_⟩
  refine List.forall_mem_cons.mpr ⟨xs_aload_n X dX3_liveBoutOn_33 rfl, ?_⟩
  refine List.forall_mem_cons.mpr ⟨xs_aret X hr (Or.inl ⟨_, rfl⟩) hlocks dX3_liveBoutOn_34, ?_⟩
  exact fun _ h => nomatch h
set_option maxRecDepth 100000 in
set_option maxHeartbeats 4000000 in
theorem mpX0_goal (l : Launch) (D : va_G) (Y : xw_Y) : xw_MP l D vwCl (xw_ty Y) Y.1 yX0_goal wsX0_goal ({ frames := 1, cells := 0, slots := 0, locals := 20 } : Room) (ptX0_goal Y) 0 0 := by
  refine xw_met (cc := cX0_goal) (nL := 1) (ret := (some .int)) (by decide +kernel) rfl ?_
  intro p e s m args below meth c w0 post X hr hlocks hname
  unfold tbX0_goal
  refine List.forall_mem_cons.mpr ⟨xs_aload_n X dX0_goal_0 rfl, ?_⟩
  refine List.forall_mem_cons.mpr ⟨xs_callV (ci := 1) X (mpX0_isOfTable l D Y) (cwV 0 X.1.2.2.2.2 gX0_goal_X0_isOfTable rfl rfl rfl (by decide +kernel) ⟨Nat.le_of_ble_eq_true rfl, Nat.le_of_ble_eq_true rfl⟩) rfl rfl rfl rfl dX0_goal_1, ?_⟩
  refine List.forall_mem_cons.mpr ⟨xs_ifeq (tg := 12) X dX0_goal_4 rfl, ?_⟩
  refine List.forall_mem_cons.mpr ⟨xs_bipush X dX0_goal_7 rfl, ?_⟩
  refine List.forall_mem_cons.mpr ⟨xs_goto (tg := 13) X dX0_goal_9 rfl, ?_⟩
  refine List.forall_mem_cons.mpr ⟨xs_iconst X dX0_goal_12 rfl, ?_⟩
  refine List.forall_mem_cons.mpr ⟨xs_iret X hr hlocks dX0_goal_13, ?_⟩
  exact fun _ h => nomatch h
set_option maxRecDepth 100000 in
set_option maxHeartbeats 4000000 in
theorem mpX0_countsForBoth (l : Launch) (D : va_G) (Y : xw_Y) : xw_MP l D vwCl (xw_ty Y) Y.1 yX0_countsForBoth wsX0_countsForBoth ({ frames := 3, cells := 0, slots := 0, locals := 60 } : Room) (ptX0_countsForBoth Y) 0 0 := by
  refine xw_met (cc := cX0_countsForBoth) (nL := 1) (ret := (some .boolean)) (by decide +kernel) rfl ?_
  intro p e s m args below meth c w0 post X hr hlocks hname
  unfold tbX0_countsForBoth
  refine List.forall_mem_cons.mpr ⟨xs_aload_n X dX0_countsForBoth_0 rfl, ?_⟩
  refine List.forall_mem_cons.mpr ⟨xs_callV (ci := 1) X (mpX0_isInExtra l D Y) (cwV 0 X.1.2.2.2.2 gX0_countsForBoth_X0_isInExtra rfl rfl rfl (by decide +kernel) ⟨Nat.le_of_ble_eq_true rfl, Nat.le_of_ble_eq_true rfl⟩) rfl rfl rfl rfl dX0_countsForBoth_1, ?_⟩
  refine List.forall_mem_cons.mpr ⟨xs_ifne (tg := 43) X dX0_countsForBoth_4 rfl, ?_⟩
  refine List.forall_mem_cons.mpr ⟨xs_aload_n X dX0_countsForBoth_7 rfl, ?_⟩
  refine List.forall_mem_cons.mpr ⟨xs_getf (C := RX0) (T := TX0) (N := 9) (ci := 1) (kf := 2) X (fun w h => List.mem_cons_of_mem _ (List.mem_append_left _ (List.mem_append_right _ h))) rfl (by decide) (List.mem_of_getElem? (i := 1) rfl) (fun _ h => h) dX0_countsForBoth_8, ?_⟩
  refine List.forall_mem_cons.mpr ⟨xs_getf (C := RX2) (T := TX2) (N := 3) (ci := 3) (kf := 1) X (fun w h => List.mem_cons_of_mem _ (List.mem_append_right _ h)) rfl (by decide) (List.mem_of_getElem? (i := 2) rfl) (fun _ h => h) dX0_countsForBoth_11, ?_⟩
  refine List.forall_mem_cons.mpr ⟨xs_iconst X dX0_countsForBoth_14 rfl, ?_⟩
  refine List.forall_mem_cons.mpr ⟨xs_iadd X dX0_countsForBoth_15, ?_⟩
  refine List.forall_mem_cons.mpr ⟨xs_aload_n X dX0_countsForBoth_16 rfl, ?_⟩
  refine List.forall_mem_cons.mpr ⟨xs_callV (ci := 1) X (mpX0_goal l D Y) (cwV 0 X.1.2.2.2.2 gX0_countsForBoth_X0_goal rfl rfl rfl (by decide +kernel) ⟨Nat.le_of_ble_eq_true rfl, Nat.le_of_ble_eq_true rfl⟩) rfl rfl rfl rfl dX0_countsForBoth_17, ?_⟩
  refine List.forall_mem_cons.mpr ⟨xs_icmplt (tg := 39) X dX0_countsForBoth_20 rfl, ?_⟩
  refine List.forall_mem_cons.mpr ⟨xs_aload_n X dX0_countsForBoth_23 rfl, ?_⟩
  refine List.forall_mem_cons.mpr ⟨xs_getf (C := RX0) (T := TX0) (N := 9) (ci := 1) (kf := 3) X (fun w h => List.mem_cons_of_mem _ (List.mem_append_left _ (List.mem_append_right _ h))) rfl (by decide) (List.mem_of_getElem? (i := 3) rfl) (fun _ h => h) dX0_countsForBoth_24, ?_⟩
  refine List.forall_mem_cons.mpr ⟨xs_getf (C := RX2) (T := TX2) (N := 3) (ci := 3) (kf := 1) X (fun w h => List.mem_cons_of_mem _ (List.mem_append_right _ h)) rfl (by decide) (List.mem_of_getElem? (i := 2) rfl) (fun _ h => h) dX0_countsForBoth_27, ?_⟩
  refine List.forall_mem_cons.mpr ⟨xs_iconst X dX0_countsForBoth_30 rfl, ?_⟩
  refine List.forall_mem_cons.mpr ⟨xs_iadd X dX0_countsForBoth_31, ?_⟩
  refine List.forall_mem_cons.mpr ⟨xs_aload_n X dX0_countsForBoth_32 rfl, ?_⟩
  refine List.forall_mem_cons.mpr ⟨xs_callV (ci := 1) X (mpX0_goal l D Y) (cwV 0 X.1.2.2.2.2 gX0_countsForBoth_X0_goal rfl rfl rfl (by decide +kernel) ⟨Nat.le_of_ble_eq_true rfl, Nat.le_of_ble_eq_true rfl⟩) rfl rfl rfl rfl dX0_countsForBoth_33, ?_⟩
  refine List.forall_mem_cons.mpr ⟨xs_icmpge (tg := 43) X dX0_countsForBoth_36 rfl, ?_⟩
  refine List.forall_mem_cons.mpr ⟨xs_iconst X dX0_countsForBoth_39 rfl, ?_⟩
  refine List.forall_mem_cons.mpr ⟨xs_goto (tg := 44) X dX0_countsForBoth_40 rfl, ?_⟩
  refine List.forall_mem_cons.mpr ⟨xs_iconst X dX0_countsForBoth_43 rfl, ?_⟩
  refine List.forall_mem_cons.mpr ⟨xs_iret X hr hlocks dX0_countsForBoth_44, ?_⟩
  exact fun _ h => nomatch h
set_option maxRecDepth 100000 in
set_option maxHeartbeats 4000000 in
theorem mpX0_isDecidedByHit (l : Launch) (D : va_G) (Y : xw_Y) : xw_MP l D vwCl (xw_ty Y) Y.1 yX0_isDecidedByHit wsX0_isDecidedByHit ({ frames := 3, cells := 0, slots := 0, locals := 60 } : Room) (ptX0_isDecidedByHit Y) 0 0 := by
  refine xw_met (cc := cX0_isDecidedByHit) (nL := 1) (ret := (some .boolean)) (by decide +kernel) rfl ?_
  intro p e s m args below meth c w0 post X hr hlocks hname
  unfold tbX0_isDecidedByHit
  refine List.forall_mem_cons.mpr ⟨xs_aload_n X dX0_isDecidedByHit_0 rfl, ?_⟩
  refine List.forall_mem_cons.mpr ⟨xs_callV (ci := 1) X (mpX0_isInExtra l D Y) (cwV 0 X.1.2.2.2.2 gX0_isDecidedByHit_X0_isInExtra rfl rfl rfl (by decide +kernel) ⟨Nat.le_of_ble_eq_true rfl, Nat.le_of_ble_eq_true rfl⟩) rfl rfl rfl rfl dX0_isDecidedByHit_1, ?_⟩
  refine List.forall_mem_cons.mpr ⟨xs_ifne (tg := 35) X dX0_isDecidedByHit_4 rfl, ?_⟩
  refine List.forall_mem_cons.mpr ⟨xs_aload_n X dX0_isDecidedByHit_7 rfl, ?_⟩
  refine List.forall_mem_cons.mpr ⟨xs_getf (C := RX0) (T := TX0) (N := 9) (ci := 1) (kf := 2) X (fun w h => List.mem_cons_of_mem _ (List.mem_append_left _ (List.mem_append_right _ h))) rfl (by decide) (List.mem_of_getElem? (i := 1) rfl) (fun _ h => h) dX0_isDecidedByHit_8, ?_⟩
  refine List.forall_mem_cons.mpr ⟨xs_getf (C := RX2) (T := TX2) (N := 3) (ci := 3) (kf := 1) X (fun w h => List.mem_cons_of_mem _ (List.mem_append_right _ h)) rfl (by decide) (List.mem_of_getElem? (i := 2) rfl) (fun _ h => h) dX0_isDecidedByHit_11, ?_⟩
  refine List.forall_mem_cons.mpr ⟨xs_aload_n X dX0_isDecidedByHit_14 rfl, ?_⟩
  refine List.forall_mem_cons.mpr ⟨xs_callV (ci := 1) X (mpX0_goal l D Y) (cwV 0 X.1.2.2.2.2 gX0_isDecidedByHit_X0_goal rfl rfl rfl (by decide +kernel) ⟨Nat.le_of_ble_eq_true rfl, Nat.le_of_ble_eq_true rfl⟩) rfl rfl rfl rfl dX0_isDecidedByHit_15, ?_⟩
  refine List.forall_mem_cons.mpr ⟨xs_icmpge (tg := 35) X dX0_isDecidedByHit_18 rfl, ?_⟩
  refine List.forall_mem_cons.mpr ⟨xs_aload_n X dX0_isDecidedByHit_21 rfl, ?_⟩
  refine List.forall_mem_cons.mpr ⟨xs_getf (C := RX0) (T := TX0) (N := 9) (ci := 1) (kf := 3) X (fun w h => List.mem_cons_of_mem _ (List.mem_append_left _ (List.mem_append_right _ h))) rfl (by decide) (List.mem_of_getElem? (i := 3) rfl) (fun _ h => h) dX0_isDecidedByHit_22, ?_⟩
  refine List.forall_mem_cons.mpr ⟨xs_getf (C := RX2) (T := TX2) (N := 3) (ci := 3) (kf := 1) X (fun w h => List.mem_cons_of_mem _ (List.mem_append_right _ h)) rfl (by decide) (List.mem_of_getElem? (i := 2) rfl) (fun _ h => h) dX0_isDecidedByHit_25, ?_⟩
  refine List.forall_mem_cons.mpr ⟨xs_aload_n X dX0_isDecidedByHit_28 rfl, ?_⟩
  refine List.forall_mem_cons.mpr ⟨xs_callV (ci := 1) X (mpX0_goal l D Y) (cwV 0 X.1.2.2.2.2 gX0_isDecidedByHit_X0_goal rfl rfl rfl (by decide +kernel) ⟨Nat.le_of_ble_eq_true rfl, Nat.le_of_ble_eq_true rfl⟩) rfl rfl rfl rfl dX0_isDecidedByHit_29, ?_⟩
  refine List.forall_mem_cons.mpr ⟨xs_icmplt (tg := 39) X dX0_isDecidedByHit_32 rfl, ?_⟩
  refine List.forall_mem_cons.mpr ⟨xs_iconst X dX0_isDecidedByHit_35 rfl, ?_⟩
  refine List.forall_mem_cons.mpr ⟨xs_goto (tg := 40) X dX0_isDecidedByHit_36 rfl, ?_⟩
  refine List.forall_mem_cons.mpr ⟨xs_iconst X dX0_isDecidedByHit_39 rfl, ?_⟩
  refine List.forall_mem_cons.mpr ⟨xs_iret X hr hlocks dX0_isDecidedByHit_40, ?_⟩
  exact fun _ h => nomatch h
set_option maxRecDepth 100000 in
set_option maxHeartbeats 4000000 in
theorem mpX3_isOverByHit (l : Launch) (D : va_G) (Y : xw_Y) : xw_MP l D vwCl (xw_ty Y) Y.1 yX3_isOverByHit wsX3_isOverByHit ({ frames := 6, cells := 0, slots := 0, locals := 133 } : Room) (ptX3_isOverByHit Y) 0 0 := by
  refine xw_met (cc := cX3_isOverByHit) (nL := 2) (ret := (some .boolean)) (by decide +kernel) rfl ?_
  intro p e s m args below meth c w0 post X hr hlocks hname
  unfold tbX3_isOverByHit
  refine List.forall_mem_cons.mpr ⟨xs_aload_n X dX3_isOverByHit_0 rfl, ?_⟩
  refine List.forall_mem_cons.mpr ⟨xs_callV (ci := 1) X (mpX0_isDecidedByHit l D Y) (cwV 0 X.1.2.2.2.2 gX3_isOverByHit_X0_isDecidedByHit rfl rfl rfl (by decide +kernel) ⟨Nat.le_of_ble_eq_true rfl, Nat.le_of_ble_eq_true rfl⟩) rfl rfl rfl rfl dX3_isOverByHit_1, ?_⟩
  refine List.forall_mem_cons.mpr ⟨xs_ifne (tg := 9) X dX3_isOverByHit_4 rfl, ?_⟩
  refine List.forall_mem_cons.mpr ⟨xs_iconst X dX3_isOverByHit_7 rfl, ?_⟩
  refine List.forall_mem_cons.mpr ⟨xs_iret X hr hlocks dX3_isOverByHit_8, ?_⟩
  refine List.forall_mem_cons.mpr ⟨xs_aload_n X dX3_isOverByHit_9 rfl, ?_⟩
  refine List.forall_mem_cons.mpr ⟨xs_aload_n X dX3_isOverByHit_10 rfl, ?_⟩
  refine List.forall_mem_cons.mpr ⟨xs_aload_n X dX3_isOverByHit_11 rfl, ?_⟩
  refine List.forall_mem_cons.mpr ⟨xs_callV (ci := 1) X (mpX0_winnerAsItStands l D Y) (cwV 0 X.1.2.2.2.2 gX3_isOverByHit_X0_winnerAsItStands rfl rfl rfl (by decide +kernel) ⟨Nat.le_of_ble_eq_true rfl, Nat.le_of_ble_eq_true rfl⟩) rfl rfl rfl rfl dX3_isOverByHit_12, ?_⟩
  refine List.forall_mem_cons.mpr ⟨xs_aload_n X dX3_isOverByHit_15 rfl, ?_⟩
  refine List.forall_mem_cons.mpr ⟨xs_getf (C := RX3) (T := TX3) (N := 10) (ci := 4) (kf := 7) X (fun w h => List.mem_cons_of_mem _ (List.mem_append_left _ (List.mem_append_left _ (List.mem_append_left _ (List.mem_append_left _ (List.mem_append_right _ h)))))) rfl (by decide) (List.mem_of_getElem? (i := 1) rfl) (fun _ h => h) dX3_isOverByHit_16, ?_⟩
  refine List.forall_mem_cons.mpr ⟨xs_callV (ci := 4) X (mpX3_finish l D Y) (cwV 3 X.1.2.2.2.2 gX3_isOverByHit_X3_finish rfl rfl rfl (by decide +kernel) ⟨Nat.le_of_ble_eq_true rfl, Nat.le_of_ble_eq_true rfl⟩) rfl rfl rfl rfl dX3_isOverByHit_19, ?_⟩
  refine List.forall_mem_cons.mpr ⟨xs_iconst X dX3_isOverByHit_22 rfl, ?_⟩
  refine List.forall_mem_cons.mpr ⟨xs_iret X hr hlocks dX3_isOverByHit_23, ?_⟩
  exact fun _ h => nomatch h
set_option maxRecDepth 100000 in
set_option maxHeartbeats 4000000 in
theorem mpX3_hit (l : Launch) (D : va_G) (Y : xw_Y) : xw_MP l D vwCl (xw_ty Y) Y.1 yX3_hit wsX3_hit ({ frames := 7, cells := 0, slots := 0, locals := 154 } : Room) (ptX3_hit Y) 0 0 := by
  refine xw_met (cc := cX3_hit) (nL := 4) (ret := (some .boolean)) (by decide +kernel) rfl ?_
  intro p e s m args below meth c w0 post X hr hlocks hname
  unfold tbX3_hit
  refine List.forall_mem_cons.mpr ⟨xs_iload_n X dX3_hit_0 rfl, ?_⟩
  refine List.forall_mem_cons.mpr ⟨xs_callS X (mpX3_isPiste l D Y) (va_cwS 1 X.1.2.2.2.2 gX3_hit_X3_isPiste rfl rfl rfl (by decide +kernel) ⟨Nat.le_of_ble_eq_true rfl, Nat.le_of_ble_eq_true rfl⟩) rfl rfl dX3_hit_1, ?_⟩
  refine List.forall_mem_cons.mpr ⟨xs_ifeq (tg := 16) X dX3_hit_4 rfl, ?_⟩
  refine List.forall_mem_cons.mpr ⟨xs_iload_n X dX3_hit_7 rfl, ?_⟩
  refine List.forall_mem_cons.mpr ⟨xs_iconst X dX3_hit_8 rfl, ?_⟩
  refine List.forall_mem_cons.mpr ⟨xs_iconst X dX3_hit_9 rfl, ?_⟩
  refine List.forall_mem_cons.mpr ⟨xs_callS X (mpX3_isIn l D Y) (va_cwS 3 X.1.2.2.2.2 gX3_hit_X3_isIn rfl rfl rfl (by decide +kernel) ⟨Nat.le_of_ble_eq_true rfl, Nat.le_of_ble_eq_true rfl⟩) rfl rfl dX3_hit_10, ?_⟩
  refine List.forall_mem_cons.mpr ⟨xs_ifne (tg := 26) X dX3_hit_13 rfl, ?_⟩
  refine List.forall_mem_cons.mpr ⟨xs_aload_n X dX3_hit_26 rfl, ?_⟩
  refine List.forall_mem_cons.mpr ⟨xs_iload_n X dX3_hit_27 rfl, ?_⟩
  refine List.forall_mem_cons.mpr ⟨xs_callV (ci := 4) X (mpX3_liveBoutOn l D Y) (cwV 1 X.1.2.2.2.2 gX3_hit_X3_liveBoutOn rfl rfl rfl (by decide +kernel) ⟨Nat.le_of_ble_eq_true rfl, Nat.le_of_ble_eq_true rfl⟩) rfl rfl rfl rfl dX3_hit_28, ?_⟩
  refine List.forall_mem_cons.mpr ⟨xs_astore_n X dX3_hit_31 rfl (Nat.le_of_ble_eq_true rfl), ?_⟩
  refine List.forall_mem_cons.mpr ⟨xs_iload_n X dX3_hit_32 rfl, ?_⟩
  refine List.forall_mem_cons.mpr ⟨xs_iconst X dX3_hit_33 rfl, ?_⟩
  refine List.forall_mem_cons.mpr ⟨xs_icmpne (tg := 46) X dX3_hit_34 rfl, ?_⟩
  refine List.forall_mem_cons.mpr ⟨xs_aload_n X dX3_hit_37 rfl, ?_⟩
  refine List.forall_mem_cons.mpr ⟨xs_callV (ci := 1) X (mpX0_countsForBoth l D Y) (cwV 0 X.1.2.2.2.2 gX3_hit_X0_countsForBoth rfl rfl rfl (by decide +kernel) ⟨Nat.le_of_ble_eq_true rfl, Nat.le_of_ble_eq_true rfl⟩) rfl rfl rfl rfl dX3_hit_38, ?_⟩
  refine List.forall_mem_cons.mpr ⟨xs_ifne (tg := 46) X dX3_hit_41 rfl, ?_⟩
  refine List.forall_mem_cons.mpr ⟨xs_iconst X dX3_hit_44 rfl, ?_⟩
  refine List.forall_mem_cons.mpr ⟨xs_iret X hr hlocks dX3_hit_45, ?_⟩
  refine List.forall_mem_cons.mpr ⟨xs_iload_n X dX3_hit_46 rfl, ?_⟩
  refine List.forall_mem_cons.mpr ⟨xs_iconst X dX3_hit_47 rfl, ?_⟩
  refine List.forall_mem_cons.mpr ⟨xs_icmpeq (tg := 64) X dX3_hit_48 rfl, ?_⟩
  refine List.forall_mem_cons.mpr ⟨xs_aload_n X dX3_hit_51 rfl, ?_⟩
  refine List.forall_mem_cons.mpr ⟨xs_getf (C := RX0) (T := TX0) (N := 9) (ci := 1) (kf := 2) X (fun w h => List.mem_cons_of_mem _ (List.mem_append_left _ (List.mem_append_left _ (List.mem_append_left _ (List.mem_append_left _ (List.mem_append_left _ (List.mem_append_left _ (List.mem_append_right _ h)))))))) rfl (by decide) (List.mem_of_getElem? (i := 3) rfl) (fun _ h => h) dX3_hit_52, ?_⟩
  refine List.forall_mem_cons.mpr ⟨xs_dup X dX3_hit_55, ?_⟩
  refine List.forall_mem_cons.mpr ⟨xs_getf (C := RX2) (T := TX2) (N := 3) (ci := 3) (kf := 1) X (fun w h => List.mem_cons_of_mem _ (List.mem_append_left _ (List.mem_append_left _ (List.mem_append_left _ (List.mem_append_left _ (List.mem_append_left _ (List.mem_append_right _ h))))))) rfl (by decide) (List.mem_of_getElem? (i := 4) rfl) (fun _ h => h) dX3_hit_56, ?_⟩
  refine List.forall_mem_cons.mpr ⟨xs_iconst X dX3_hit_59 rfl, ?_⟩
  refine List.forall_mem_cons.mpr ⟨xs_iadd X dX3_hit_60, ?_⟩
  refine List.forall_mem_cons.mpr ⟨xs_putf (C := RX2) (T := TX2) (N := 3) (ci := 3) (kf := 1) X (fun w h => List.mem_cons_of_mem _ (List.mem_append_left _ (List.mem_append_left _ (List.mem_append_left _ (List.mem_append_left _ (List.mem_append_left _ (List.mem_append_right _ h))))))) tyX2 tyX2_ok nmX2 rfl (by decide) (List.mem_of_getElem? (i := 4) rfl) (fun _ h => h) rfl rfl dX3_hit_61, ?_⟩
  refine List.forall_mem_cons.mpr ⟨xs_iload_n X dX3_hit_64 rfl, ?_⟩
  refine List.forall_mem_cons.mpr ⟨xs_ifeq (tg := 81) X dX3_hit_65 rfl, ?_⟩
  refine List.forall_mem_cons.mpr ⟨xs_aload_n X dX3_hit_68 rfl, ?_⟩
  refine List.forall_mem_cons.mpr ⟨xs_getf (C := RX0) (T := TX0) (N := 9) (ci := 1) (kf := 3) X (fun w h => List.mem_cons_of_mem _ (List.mem_append_left _ (List.mem_append_left _ (List.mem_append_left _ (List.mem_append_left _ (List.mem_append_left _ (List.mem_append_left _ (List.mem_append_right _ h)))))))) rfl (by decide) (List.mem_of_getElem? (i := 5) rfl) (fun _ h => h) dX3_hit_69, ?_⟩
  refine List.forall_mem_cons.mpr ⟨xs_dup X dX3_hit_72, ?_⟩
  refine List.forall_mem_cons.mpr ⟨xs_getf (C := RX2) (T := TX2) (N := 3) (ci := 3) (kf := 1) X (fun w h => List.mem_cons_of_mem _ (List.mem_append_left _ (List.mem_append_left _ (List.mem_append_left _ (List.mem_append_left _ (List.mem_append_left _ (List.mem_append_right _ h))))))) rfl (by decide) (List.mem_of_getElem? (i := 4) rfl) (fun _ h => h) dX3_hit_73, ?_⟩
  refine List.forall_mem_cons.mpr ⟨xs_iconst X dX3_hit_76 rfl, ?_⟩
  refine List.forall_mem_cons.mpr ⟨xs_iadd X dX3_hit_77, ?_⟩
  refine List.forall_mem_cons.mpr ⟨xs_putf (C := RX2) (T := TX2) (N := 3) (ci := 3) (kf := 1) X (fun w h => List.mem_cons_of_mem _ (List.mem_append_left _ (List.mem_append_left _ (List.mem_append_left _ (List.mem_append_left _ (List.mem_append_left _ (List.mem_append_right _ h))))))) tyX2 tyX2_ok nmX2 rfl (by decide) (List.mem_of_getElem? (i := 4) rfl) (fun _ h => h) rfl rfl dX3_hit_78, ?_⟩
  refine List.forall_mem_cons.mpr ⟨xs_aload_n X dX3_hit_81 rfl, ?_⟩
  refine List.forall_mem_cons.mpr ⟨xs_aload_n X dX3_hit_82 rfl, ?_⟩
  refine List.forall_mem_cons.mpr ⟨xs_callV (ci := 4) X (mpX3_isOverByHit l D Y) (cwV 1 X.1.2.2.2.2 gX3_hit_X3_isOverByHit rfl rfl rfl (by decide +kernel) ⟨Nat.le_of_ble_eq_true rfl, Nat.le_of_ble_eq_true rfl⟩) rfl rfl rfl rfl dX3_hit_83, ?_⟩
  refine List.forall_mem_cons.mpr ⟨xs_iret X hr hlocks dX3_hit_86, ?_⟩
  exact fun _ h => nomatch h
set_option maxRecDepth 100000 in
set_option maxHeartbeats 4000000 in
theorem mpX3_winnerIn (l : Launch) (D : va_G) (Y : xw_Y) : xw_MP l D vwCl (xw_ty Y) Y.1 yX3_winnerIn wsX3_winnerIn ({ frames := 4, cells := 0, slots := 0, locals := 81 } : Room) (ptX3_winnerIn Y) 0 0 := by
  refine xw_met (cc := cX3_winnerIn) (nL := 4) (ret := (some .int)) (by decide +kernel) rfl ?_
  intro p e s m args below meth c w0 post X hr hlocks hname
  unfold tbX3_winnerIn
  refine List.forall_mem_cons.mpr ⟨xs_iload_n X dX3_winnerIn_0 rfl, ?_⟩
  refine List.forall_mem_cons.mpr ⟨xs_callS X (mpX3_isPiste l D Y) (va_cwS 1 X.1.2.2.2.2 gX3_winnerIn_X3_isPiste rfl rfl rfl (by decide +kernel) ⟨Nat.le_of_ble_eq_true rfl, Nat.le_of_ble_eq_true rfl⟩) rfl rfl dX3_winnerIn_1, ?_⟩
  refine List.forall_mem_cons.mpr ⟨xs_ifeq (tg := 18) X dX3_winnerIn_4 rfl, ?_⟩
  refine List.forall_mem_cons.mpr ⟨xs_iload_n X dX3_winnerIn_7 rfl, ?_⟩
  refine List.forall_mem_cons.mpr ⟨xs_iconst X dX3_winnerIn_8 rfl, ?_⟩
  refine List.forall_mem_cons.mpr ⟨xs_sipush X dX3_winnerIn_9 rfl, ?_⟩
  refine List.forall_mem_cons.mpr ⟨xs_callS X (mpX3_isIn l D Y) (va_cwS 3 X.1.2.2.2.2 gX3_winnerIn_X3_isIn rfl rfl rfl (by decide +kernel) ⟨Nat.le_of_ble_eq_true rfl, Nat.le_of_ble_eq_true rfl⟩) rfl rfl dX3_winnerIn_12, ?_⟩
  refine List.forall_mem_cons.mpr ⟨xs_ifne (tg := 29) X dX3_winnerIn_15 rfl, ?_⟩
  refine List.forall_mem_cons.mpr ⟨xs_aload_n X dX3_winnerIn_29 rfl, ?_⟩
  refine List.forall_mem_cons.mpr ⟨xs_iload_n X dX3_winnerIn_30 rfl, ?_⟩
  refine List.forall_mem_cons.mpr ⟨xs_callV (ci := 4) X (mpX3_liveBoutOn l D Y) (cwV 1 X.1.2.2.2.2 gX3_winnerIn_X3_liveBoutOn rfl rfl rfl (by decide +kernel) ⟨Nat.le_of_ble_eq_true rfl, Nat.le_of_ble_eq_true rfl⟩) rfl rfl rfl rfl dX3_winnerIn_31, ?_⟩
  refine List.forall_mem_cons.mpr ⟨xs_astore_n X dX3_winnerIn_34 rfl (Nat.le_of_ble_eq_true rfl), ?_⟩
  refine List.forall_mem_cons.mpr ⟨xs_iload_n X dX3_winnerIn_35 rfl, ?_⟩
  refine List.forall_mem_cons.mpr ⟨xs_aload_n X dX3_winnerIn_36 rfl, ?_⟩
  refine List.forall_mem_cons.mpr ⟨xs_callV (ci := 1) X (mpX0_secondsUntilOver l D Y) (cwV 0 X.1.2.2.2.2 gX3_winnerIn_X0_secondsUntilOver rfl rfl rfl (by decide +kernel) ⟨Nat.le_of_ble_eq_true rfl, Nat.le_of_ble_eq_true rfl⟩) rfl rfl rfl rfl dX3_winnerIn_37, ?_⟩
  refine List.forall_mem_cons.mpr ⟨xs_icmpge (tg := 47) X dX3_winnerIn_40 rfl, ?_⟩
  refine List.forall_mem_cons.mpr ⟨xs_iconst X dX3_winnerIn_43 rfl, ?_⟩
  refine List.forall_mem_cons.mpr ⟨xs_goto (tg := 54) X dX3_winnerIn_44 rfl, ?_⟩
  refine List.forall_mem_cons.mpr ⟨xs_aload_n X dX3_winnerIn_47 rfl, ?_⟩
  refine List.forall_mem_cons.mpr ⟨xs_callV (ci := 1) X (mpX0_winnerAsItStands l D Y) (cwV 0 X.1.2.2.2.2 gX3_winnerIn_X0_winnerAsItStands rfl rfl rfl (by decide +kernel) ⟨Nat.le_of_ble_eq_true rfl, Nat.le_of_ble_eq_true rfl⟩) rfl rfl rfl rfl dX3_winnerIn_48, ?_⟩
  refine List.forall_mem_cons.mpr ⟨xs_callS X (mpX3_numberOf l D Y) (va_cwS 1 X.1.2.2.2.2 gX3_winnerIn_X3_numberOf rfl rfl rfl (by decide +kernel) ⟨Nat.le_of_ble_eq_true rfl, Nat.le_of_ble_eq_true rfl⟩) rfl rfl dX3_winnerIn_51, ?_⟩
  refine List.forall_mem_cons.mpr ⟨xs_iret X hr hlocks dX3_winnerIn_54, ?_⟩
  exact fun _ h => nomatch h
set_option maxRecDepth 100000 in
set_option maxHeartbeats 4000000 in
theorem mpX3_makeVoid (l : Launch) (D : va_G) (Y : xw_Y) : xw_MP l D vwCl (xw_ty Y) Y.1 yX3_makeVoid wsX3_makeVoid ({ frames := 3, cells := 0, slots := 0, locals := 72 } : Room) (ptX3_makeVoid Y) 0 0 := by
  refine xw_met (cc := cX3_makeVoid) (nL := 2) (ret := none) (by decide +kernel) rfl ?_
  intro p e s m args below meth c w0 post X hr hlocks hname
  unfold tbX3_makeVoid
  refine List.forall_mem_cons.mpr ⟨xs_aload_n X dX3_makeVoid_0 rfl, ?_⟩
  refine List.forall_mem_cons.mpr ⟨xs_getf (C := RX0) (T := TX0) (N := 9) (ci := 1) (kf := 4) X (fun w h => List.mem_cons_of_mem _ (List.mem_append_left _ (List.mem_append_left _ (List.mem_append_right _ h)))) rfl (by decide) (List.mem_of_getElem? (i := 1) rfl) (fun _ h => h) dX3_makeVoid_1, ?_⟩
  refine List.forall_mem_cons.mpr ⟨xs_iconst X dX3_makeVoid_4 rfl, ?_⟩
  refine List.forall_mem_cons.mpr ⟨xs_icmpne (tg := 31) X dX3_makeVoid_5 rfl, ?_⟩
  refine List.forall_mem_cons.mpr ⟨xs_aload_n X dX3_makeVoid_8 rfl, ?_⟩
  refine List.forall_mem_cons.mpr ⟨xs_aload_n X dX3_makeVoid_9 rfl, ?_⟩
  refine List.forall_mem_cons.mpr ⟨xs_getf (C := RX0) (T := TX0) (N := 9) (ci := 1) (kf := 5) X (fun w h => List.mem_cons_of_mem _ (List.mem_append_left _ (List.mem_append_left _ (List.mem_append_right _ h)))) rfl (by decide) (List.mem_of_getElem? (i := 2) rfl) (fun _ h => h) dX3_makeVoid_10, ?_⟩
  refine List.forall_mem_cons.mpr ⟨xs_aload_n X dX3_makeVoid_13 rfl, ?_⟩
  refine List.forall_mem_cons.mpr ⟨xs_getf (C := RX0) (T := TX0) (N := 9) (ci := 1) (kf := 2) X (fun w h => List.mem_cons_of_mem _ (List.mem_append_left _ (List.mem_append_left _ (List.mem_append_right _ h)))) rfl (by decide) (List.mem_of_getElem? (i := 3) rfl) (fun _ h => h) dX3_makeVoid_14, ?_⟩
  refine List.forall_mem_cons.mpr ⟨xs_getf (C := RX2) (T := TX2) (N := 3) (ci := 3) (kf := 1) X (fun w h => List.mem_cons_of_mem _ (List.mem_append_left _ (List.mem_append_right _ h))) rfl (by decide) (List.mem_of_getElem? (i := 4) rfl) (fun _ h => h) dX3_makeVoid_17, ?_⟩
  refine List.forall_mem_cons.mpr ⟨xs_aload_n X dX3_makeVoid_20 rfl, ?_⟩
  refine List.forall_mem_cons.mpr ⟨xs_getf (C := RX0) (T := TX0) (N := 9) (ci := 1) (kf := 3) X (fun w h => List.mem_cons_of_mem _ (List.mem_append_left _ (List.mem_append_left _ (List.mem_append_right _ h)))) rfl (by decide) (List.mem_of_getElem? (i := 5) rfl) (fun _ h => h) dX3_makeVoid_21, ?_⟩
  refine List.forall_mem_cons.mpr ⟨xs_getf (C := RX2) (T := TX2) (N := 3) (ci := 3) (kf := 1) X (fun w h => List.mem_cons_of_mem _ (List.mem_append_left _ (List.mem_append_right _ h))) rfl (by decide) (List.mem_of_getElem? (i := 4) rfl) (fun _ h => h) dX3_makeVoid_24, ?_⟩
  refine List.forall_mem_cons.mpr ⟨xs_iconst X dX3_makeVoid_27 rfl, ?_⟩
  refine List.forall_mem_cons.mpr ⟨xs_callV (ci := 1) X (mpX0_count l D Y) (cwV 4 X.1.2.2.2.2 gX3_makeVoid_X0_count rfl rfl rfl (by decide +kernel) ⟨Nat.le_of_ble_eq_true rfl, Nat.le_of_ble_eq_true rfl⟩) rfl rfl rfl rfl dX3_makeVoid_28, ?_⟩
  refine List.forall_mem_cons.mpr ⟨xs_aload_n X dX3_makeVoid_31 rfl, ?_⟩
  refine List.forall_mem_cons.mpr ⟨xs_iconst X dX3_makeVoid_32 rfl, ?_⟩
  refine List.forall_mem_cons.mpr ⟨xs_putf (C := RX0) (T := TX0) (N := 9) (ci := 1) (kf := 4) X (fun w h => List.mem_cons_of_mem _ (List.mem_append_left _ (List.mem_append_left _ (List.mem_append_right _ h)))) tyX0 tyX0_ok nmX0 rfl (by decide) (List.mem_of_getElem? (i := 1) rfl) (fun _ h => h) rfl rfl dX3_makeVoid_33, ?_⟩
  refine List.forall_mem_cons.mpr ⟨xs_aload_n X dX3_makeVoid_36 rfl, ?_⟩
  refine List.forall_mem_cons.mpr ⟨xs_null X dX3_makeVoid_37, ?_⟩
  refine List.forall_mem_cons.mpr ⟨xs_putf (C := RX0) (T := TX0) (N := 9) (ci := 1) (kf := 5) X (fun w h => List.mem_cons_of_mem _ (List.mem_append_left _ (List.mem_append_left _ (List.mem_append_right _ h)))) tyX0 tyX0_ok nmX0 rfl (by decide) (List.mem_of_getElem? (i := 2) rfl) (fun _ h => h) rfl rfl dX3_makeVoid_38, ?_⟩
  refine List.forall_mem_cons.mpr ⟨xs_vret X hr hlocks dX3_makeVoid_41, ?_⟩
  exact fun _ h => nomatch h
set_option maxRecDepth 100000 in
set_option maxHeartbeats 4000000 in
theorem mpX3_putOut (l : Launch) (D : va_G) (Y : xw_Y) : xw_MP l D vwCl (xw_ty Y) Y.1 yX3_putOut wsX3_putOut ({ frames := 6, cells := 0, slots := 0, locals := 133 } : Room) (ptX3_putOut Y) 0 0 := by
  refine xw_met (cc := cX3_putOut) (nL := 6) (ret := none) (by decide +kernel) rfl ?_
  intro p e s m args below meth c w0 post X hr hlocks hname
  unfold tbX3_putOut
  refine List.forall_mem_cons.mpr ⟨xs_aload_n X dX3_putOut_0 rfl, ?_⟩
  refine List.forall_mem_cons.mpr ⟨xs_ifnonnull (tg := 5) X dX3_putOut_1 rfl, ?_⟩
  refine List.forall_mem_cons.mpr ⟨xs_vret X hr hlocks dX3_putOut_4, ?_⟩
  refine List.forall_mem_cons.mpr ⟨xs_aload_n X dX3_putOut_5 rfl, ?_⟩
  refine List.forall_mem_cons.mpr ⟨xs_iconst X dX3_putOut_6 rfl, ?_⟩
  refine List.forall_mem_cons.mpr ⟨xs_putf (C := RX1) (T := TX1) (N := 14) (ci := 2) (kf := 5) X (fun w h => List.mem_cons_of_mem _ (List.mem_append_left _ (List.mem_append_left _ (List.mem_append_left _ (List.mem_append_left _ (List.mem_append_right _ h)))))) tyX1 tyX1_ok nmX1 rfl (by decide) (List.mem_of_getElem? (i := 1) rfl) (fun _ h => h) rfl rfl dX3_putOut_7, ?_⟩
  refine List.forall_mem_cons.mpr ⟨xs_aload_n X dX3_putOut_10 rfl, ?_⟩
  refine List.forall_mem_cons.mpr ⟨xs_callV (ci := 1) X (mpX0_isOfTable l D Y) (cwV 0 X.1.2.2.2.2 gX3_putOut_X0_isOfTable rfl rfl rfl (by decide +kernel) ⟨Nat.le_of_ble_eq_true rfl, Nat.le_of_ble_eq_true rfl⟩) rfl rfl rfl rfl dX3_putOut_11, ?_⟩
  refine List.forall_mem_cons.mpr ⟨xs_ifeq (tg := 28) X dX3_putOut_14 rfl, ?_⟩
  refine List.forall_mem_cons.mpr ⟨xs_aload_n X dX3_putOut_17 rfl, ?_⟩
  refine List.forall_mem_cons.mpr ⟨xs_aload_n X dX3_putOut_18 rfl, ?_⟩
  refine List.forall_mem_cons.mpr ⟨xs_aload_n X dX3_putOut_19 rfl, ?_⟩
  refine List.forall_mem_cons.mpr ⟨xs_aload_n X dX3_putOut_20 rfl, ?_⟩
  refine List.forall_mem_cons.mpr ⟨xs_getf (C := RX3) (T := TX3) (N := 10) (ci := 4) (kf := 7) X (fun w h => List.mem_cons_of_mem _ (List.mem_append_left _ (List.mem_append_left _ (List.mem_append_left _ (List.mem_append_right _ h))))) rfl (by decide) (List.mem_of_getElem? (i := 2) rfl) (fun _ h => h) dX3_putOut_21, ?_⟩
  refine List.forall_mem_cons.mpr ⟨xs_callV (ci := 4) X (mpX3_finish l D Y) (cwV 3 X.1.2.2.2.2 gX3_putOut_X3_finish rfl rfl rfl (by decide +kernel) ⟨Nat.le_of_ble_eq_true rfl, Nat.le_of_ble_eq_true rfl⟩) rfl rfl rfl rfl dX3_putOut_24, ?_⟩
  refine List.forall_mem_cons.mpr ⟨xs_vret X hr hlocks dX3_putOut_27, ?_⟩
  refine List.forall_mem_cons.mpr ⟨xs_aload_n X dX3_putOut_28 rfl, ?_⟩
  refine List.forall_mem_cons.mpr ⟨xs_aload_n X dX3_putOut_29 rfl, ?_⟩
  refine List.forall_mem_cons.mpr ⟨xs_aload_n X dX3_putOut_30 rfl, ?_⟩
  refine List.forall_mem_cons.mpr ⟨xs_getf (C := RX3) (T := TX3) (N := 10) (ci := 4) (kf := 7) X (fun w h => List.mem_cons_of_mem _ (List.mem_append_left _ (List.mem_append_left _ (List.mem_append_left _ (List.mem_append_right _ h))))) rfl (by decide) (List.mem_of_getElem? (i := 2) rfl) (fun _ h => h) dX3_putOut_31, ?_⟩
  refine List.forall_mem_cons.mpr ⟨xs_callV (ci := 4) X (mpX3_leavePiste l D Y) (cwV 2 X.1.2.2.2.2 gX3_putOut_X3_leavePiste rfl rfl rfl (by decide +kernel) ⟨Nat.le_of_ble_eq_true rfl, Nat.le_of_ble_eq_true rfl⟩) rfl rfl rfl rfl dX3_putOut_34, ?_⟩
  refine List.forall_mem_cons.mpr ⟨xs_iconst X dX3_putOut_37 rfl, ?_⟩
  refine List.forall_mem_cons.mpr ⟨xs_istore X dX3_putOut_38 (Nat.le_of_ble_eq_true rfl), ?_⟩
  refine List.forall_mem_cons.mpr ⟨xs_iload X dX3_putOut_40, ?_⟩
  refine List.forall_mem_cons.mpr ⟨xs_aload_n X dX3_putOut_42 rfl, ?_⟩
  refine List.forall_mem_cons.mpr ⟨xs_getf (C := RX3) (T := TX3) (N := 10) (ci := 4) (kf := 1) X (fun w h => List.mem_cons_of_mem _ (List.mem_append_left _ (List.mem_append_left _ (List.mem_append_left _ (List.mem_append_right _ h))))) rfl (by decide) (List.mem_of_getElem? (i := 3) rfl) (fun _ h => h) dX3_putOut_43, ?_⟩
  refine List.forall_mem_cons.mpr ⟨xs_callV (ci := 0) X (mpJx4a65c_size_8abf5 l D Y) (cwV 0 X.1.2.2.2.2 gX3_putOut_Jx4a65c_size_8abf5 rfl rfl rfl (by decide +kernel) ⟨Nat.le_of_ble_eq_true rfl, Nat.le_of_ble_eq_true rfl⟩) rfl rfl rfl rfl dX3_putOut_46, ?_⟩
  refine List.forall_mem_cons.mpr ⟨xs_icmpge (tg := 102) X dX3_putOut_49 rfl, ?_⟩
  refine List.forall_mem_cons.mpr ⟨xs_aload_n X dX3_putOut_52 rfl, ?_⟩
  refine List.forall_mem_cons.mpr ⟨xs_getf (C := RX3) (T := TX3) (N := 10) (ci := 4) (kf := 1) X (fun w h => List.mem_cons_of_mem _ (List.mem_append_left _ (List.mem_append_left _ (List.mem_append_left _ (List.mem_append_right _ h))))) rfl (by decide) (List.mem_of_getElem? (i := 3) rfl) (fun _ h => h) dX3_putOut_53, ?_⟩
  refine List.forall_mem_cons.mpr ⟨xs_iload X dX3_putOut_56, ?_⟩
  refine List.forall_mem_cons.mpr ⟨xs_callV (ci := 0) X (mpJx4a65c_get_915e3 l D Y) (cwV 1 X.1.2.2.2.2 gX3_putOut_Jx4a65c_get_915e3 rfl rfl rfl (by decide +kernel) ⟨Nat.le_of_ble_eq_true rfl, Nat.le_of_ble_eq_true rfl⟩) rfl rfl rfl rfl dX3_putOut_58, ?_⟩
  refine List.forall_mem_cons.mpr ⟨xs_cast (C := RX0) (T := TX0) (N := 9) (ci := 1) X rfl (List.mem_of_getElem? (i := 4) rfl) dX3_putOut_61, ?_⟩
  refine List.forall_mem_cons.mpr ⟨xs_astore X dX3_putOut_64 (Nat.le_of_ble_eq_true rfl), ?_⟩
  refine List.forall_mem_cons.mpr ⟨xs_aload X dX3_putOut_66, ?_⟩
  refine List.forall_mem_cons.mpr ⟨xs_getf (C := RX0) (T := TX0) (N := 9) (ci := 1) (kf := 2) X (fun w h => List.mem_cons_of_mem _ (List.mem_append_left _ (List.mem_append_left _ (List.mem_append_right _ h)))) rfl (by decide) (List.mem_of_getElem? (i := 5) rfl) (fun _ h => h) dX3_putOut_68, ?_⟩
  refine List.forall_mem_cons.mpr ⟨xs_getf (C := RX2) (T := TX2) (N := 3) (ci := 3) (kf := 0) X (fun w h => List.mem_cons_of_mem _ (List.mem_append_left _ (List.mem_append_right _ h))) rfl (by decide) (List.mem_of_getElem? (i := 6) rfl) (fun _ h => h) dX3_putOut_71, ?_⟩
  refine List.forall_mem_cons.mpr ⟨xs_aload_n X dX3_putOut_74 rfl, ?_⟩
  refine List.forall_mem_cons.mpr ⟨xs_acmpeq (tg := 90) X dX3_putOut_75 rfl, ?_⟩
  refine List.forall_mem_cons.mpr ⟨xs_aload X dX3_putOut_78, ?_⟩
  refine List.forall_mem_cons.mpr ⟨xs_getf (C := RX0) (T := TX0) (N := 9) (ci := 1) (kf := 3) X (fun w h => List.mem_cons_of_mem _ (List.mem_append_left _ (List.mem_append_left _ (List.mem_append_right _ h)))) rfl (by decide) (List.mem_of_getElem? (i := 7) rfl) (fun _ h => h) dX3_putOut_80, ?_⟩
  refine List.forall_mem_cons.mpr ⟨xs_getf (C := RX2) (T := TX2) (N := 3) (ci := 3) (kf := 0) X (fun w h => List.mem_cons_of_mem _ (List.mem_append_left _ (List.mem_append_right _ h))) rfl (by decide) (List.mem_of_getElem? (i := 6) rfl) (fun _ h => h) dX3_putOut_83, ?_⟩
  refine List.forall_mem_cons.mpr ⟨xs_aload_n X dX3_putOut_86 rfl, ?_⟩
  refine List.forall_mem_cons.mpr ⟨xs_acmpne (tg := 96) X dX3_putOut_87 rfl, ?_⟩
  refine List.forall_mem_cons.mpr ⟨xs_aload_n X dX3_putOut_90 rfl, ?_⟩
  refine List.forall_mem_cons.mpr ⟨xs_aload X dX3_putOut_91, ?_⟩
  refine List.forall_mem_cons.mpr ⟨xs_callV (ci := 4) X (mpX3_makeVoid l D Y) (cwV 1 X.1.2.2.2.2 gX3_putOut_X3_makeVoid rfl rfl rfl (by decide +kernel) ⟨Nat.le_of_ble_eq_true rfl, Nat.le_of_ble_eq_true rfl⟩) rfl rfl rfl rfl dX3_putOut_93, ?_⟩
  refine List.forall_mem_cons.mpr ⟨xs_iinc X dX3_putOut_96 rfl (Nat.le_of_ble_eq_true rfl), ?_⟩
  refine List.forall_mem_cons.mpr ⟨xs_goto (tg := 40) X dX3_putOut_99 rfl, ?_⟩
  refine List.forall_mem_cons.mpr ⟨xs_vret X hr hlocks dX3_putOut_102, ?_⟩
  exact fun _ h => nomatch h
set_option maxRecDepth 100000 in
set_option maxHeartbeats 4000000 in
theorem mpX3_card (l : Launch) (D : va_G) (Y : xw_Y) : xw_MP l D vwCl (xw_ty Y) Y.1 yX3_card wsX3_card ({ frames := 7, cells := 0, slots := 0, locals := 158 } : Room) (ptX3_card Y) 0 0 := by
  refine xw_met (cc := cX3_card) (nL := 8) (ret := (some .int)) (by decide +kernel) rfl ?_
  intro p e s m args below meth c w0 post X hr hlocks hname
  unfold tbX3_card
  refine List.forall_mem_cons.mpr ⟨xs_iload_n X dX3_card_0 rfl, ?_⟩
  refine List.forall_mem_cons.mpr ⟨xs_callS X (mpX3_isPiste l D Y) (va_cwS 1 X.1.2.2.2.2 gX3_card_X3_isPiste rfl rfl rfl (by decide +kernel) ⟨Nat.le_of_ble_eq_true rfl, Nat.le_of_ble_eq_true rfl⟩) rfl rfl dX3_card_1, ?_⟩
  refine List.forall_mem_cons.mpr ⟨xs_ifeq (tg := 25) X dX3_card_4 rfl, ?_⟩
  refine List.forall_mem_cons.mpr ⟨xs_iload_n X dX3_card_7 rfl, ?_⟩
  refine List.forall_mem_cons.mpr ⟨xs_iconst X dX3_card_8 rfl, ?_⟩
  refine List.forall_mem_cons.mpr ⟨xs_iconst X dX3_card_9 rfl, ?_⟩
  refine List.forall_mem_cons.mpr ⟨xs_callS X (mpX3_isIn l D Y) (va_cwS 3 X.1.2.2.2.2 gX3_card_X3_isIn rfl rfl rfl (by decide +kernel) ⟨Nat.le_of_ble_eq_true rfl, Nat.le_of_ble_eq_true rfl⟩) rfl rfl dX3_card_10, ?_⟩
  refine List.forall_mem_cons.mpr ⟨xs_ifeq (tg := 25) X dX3_card_13 rfl, ?_⟩
  refine List.forall_mem_cons.mpr ⟨xs_iload_n X dX3_card_16 rfl, ?_⟩
  refine List.forall_mem_cons.mpr ⟨xs_iconst X dX3_card_17 rfl, ?_⟩
  refine List.forall_mem_cons.mpr ⟨xs_iconst X dX3_card_18 rfl, ?_⟩
  refine List.forall_mem_cons.mpr ⟨xs_callS X (mpX3_isIn l D Y) (va_cwS 3 X.1.2.2.2.2 gX3_card_X3_isIn rfl rfl rfl (by decide +kernel) ⟨Nat.le_of_ble_eq_true rfl, Nat.le_of_ble_eq_true rfl⟩) rfl rfl dX3_card_19, ?_⟩
  refine List.forall_mem_cons.mpr ⟨xs_ifne (tg := 35) X dX3_card_22 rfl, ?_⟩
  refine List.forall_mem_cons.mpr ⟨xs_aload_n X dX3_card_35 rfl, ?_⟩
  refine List.forall_mem_cons.mpr ⟨xs_iload_n X dX3_card_36 rfl, ?_⟩
  refine List.forall_mem_cons.mpr ⟨xs_callV (ci := 4) X (mpX3_liveBoutOn l D Y) (cwV 1 X.1.2.2.2.2 gX3_card_X3_liveBoutOn rfl rfl rfl (by decide +kernel) ⟨Nat.le_of_ble_eq_true rfl, Nat.le_of_ble_eq_true rfl⟩) rfl rfl rfl rfl dX3_card_37, ?_⟩
  refine List.forall_mem_cons.mpr ⟨xs_astore X dX3_card_40 (Nat.le_of_ble_eq_true rfl), ?_⟩
  refine List.forall_mem_cons.mpr ⟨xs_aload X dX3_card_42, ?_⟩
  refine List.forall_mem_cons.mpr ⟨xs_iload_n X dX3_card_44 rfl, ?_⟩
  refine List.forall_mem_cons.mpr ⟨xs_callV (ci := 1) X (mpX0_sideOf l D Y) (cwV 1 X.1.2.2.2.2 gX3_card_X0_sideOf rfl rfl rfl (by decide +kernel) ⟨Nat.le_of_ble_eq_true rfl, Nat.le_of_ble_eq_true rfl⟩) rfl rfl rfl rfl dX3_card_45, ?_⟩
  refine List.forall_mem_cons.mpr ⟨xs_astore X dX3_card_48 (Nat.le_of_ble_eq_true rfl), ?_⟩
  refine List.forall_mem_cons.mpr ⟨xs_aload X dX3_card_50, ?_⟩
  refine List.forall_mem_cons.mpr ⟨xs_iconst X dX3_card_52 rfl, ?_⟩
  refine List.forall_mem_cons.mpr ⟨xs_iload_n X dX3_card_53 rfl, ?_⟩
  refine List.forall_mem_cons.mpr ⟨xs_isub X dX3_card_54, ?_⟩
  refine List.forall_mem_cons.mpr ⟨xs_callV (ci := 1) X (mpX0_sideOf l D Y) (cwV 1 X.1.2.2.2.2 gX3_card_X0_sideOf rfl rfl rfl (by decide +kernel) ⟨Nat.le_of_ble_eq_true rfl, Nat.le_of_ble_eq_true rfl⟩) rfl rfl rfl rfl dX3_card_55, ?_⟩
  refine List.forall_mem_cons.mpr ⟨xs_astore X dX3_card_58 (Nat.le_of_ble_eq_true rfl), ?_⟩
  refine List.forall_mem_cons.mpr ⟨xs_iload_n X dX3_card_60 rfl, ?_⟩
  refine List.forall_mem_cons.mpr ⟨xs_ifne (tg := 76) X dX3_card_61 rfl, ?_⟩
  refine List.forall_mem_cons.mpr ⟨xs_aload X dX3_card_64, ?_⟩
  refine List.forall_mem_cons.mpr ⟨xs_getf (C := RX2) (T := TX2) (N := 3) (ci := 3) (kf := 2) X (fun w h => List.mem_cons_of_mem _ (List.mem_append_left _ (List.mem_append_left _ (List.mem_append_left _ (List.mem_append_left _ (List.mem_append_left _ (List.mem_append_left _ (List.mem_append_right _ h)))))))) rfl (by decide) (List.mem_of_getElem? (i := 3) rfl) (fun _ h => h) dX3_card_66, ?_⟩
  refine List.forall_mem_cons.mpr ⟨xs_ifle (tg := 76) X dX3_card_69 rfl, ?_⟩
  refine List.forall_mem_cons.mpr ⟨xs_iconst X dX3_card_72 rfl, ?_⟩
  refine List.forall_mem_cons.mpr ⟨xs_goto (tg := 77) X dX3_card_73 rfl, ?_⟩
  refine List.forall_mem_cons.mpr ⟨xs_iload_n X dX3_card_76 rfl, ?_⟩
  refine List.forall_mem_cons.mpr ⟨xs_istore X dX3_card_77 (Nat.le_of_ble_eq_true rfl), ?_⟩
  refine List.forall_mem_cons.mpr ⟨xs_aload X dX3_card_79, ?_⟩
  refine List.forall_mem_cons.mpr ⟨xs_aload X dX3_card_81, ?_⟩
  refine List.forall_mem_cons.mpr ⟨xs_getf (C := RX2) (T := TX2) (N := 3) (ci := 3) (kf := 2) X (fun w h => List.mem_cons_of_mem _ (List.mem_append_left _ (List.mem_append_left _ (List.mem_append_left _ (List.mem_append_left _ (List.mem_append_left _ (List.mem_append_left _ (List.mem_append_right _ h)))))))) rfl (by decide) (List.mem_of_getElem? (i := 3) rfl) (fun _ h => h) dX3_card_83, ?_⟩
  refine List.forall_mem_cons.mpr ⟨xs_iload X dX3_card_86, ?_⟩
  refine List.forall_mem_cons.mpr ⟨xs_iconst X dX3_card_88 rfl, ?_⟩
  refine List.forall_mem_cons.mpr ⟨xs_iadd X dX3_card_89, ?_⟩
  refine List.forall_mem_cons.mpr ⟨xs_max X (List.mem_of_getElem? (i := 4) rfl) (List.mem_of_getElem? (i := 5) rfl) (List.mem_of_getElem? (i := 6) rfl) (List.mem_of_getElem? (i := 7) rfl) (Nat.le_of_ble_eq_true rfl) (Nat.le_of_ble_eq_true rfl) rfl rfl dX3_card_90, ?_⟩
  refine List.forall_mem_cons.mpr ⟨xs_putf (C := RX2) (T := TX2) (N := 3) (ci := 3) (kf := 2) X (fun w h => List.mem_cons_of_mem _ (List.mem_append_left _ (List.mem_append_left _ (List.mem_append_left _ (List.mem_append_left _ (List.mem_append_left _ (List.mem_append_left _ (List.mem_append_right _ h)))))))) tyX2 tyX2_ok nmX2 rfl (by decide) (List.mem_of_getElem? (i := 3) rfl) (fun _ h => h) rfl rfl dX3_card_93, ?_⟩
  refine List.forall_mem_cons.mpr ⟨xs_iload X dX3_card_96, ?_⟩
  refine List.forall_mem_cons.mpr ⟨xs_iconst X dX3_card_98 rfl, ?_⟩
  refine List.forall_mem_cons.mpr ⟨xs_icmpne (tg := 123) X dX3_card_99 rfl, ?_⟩
  refine List.forall_mem_cons.mpr ⟨xs_aload X dX3_card_102, ?_⟩
  refine List.forall_mem_cons.mpr ⟨xs_dup X dX3_card_104, ?_⟩
  refine List.forall_mem_cons.mpr ⟨xs_getf (C := RX2) (T := TX2) (N := 3) (ci := 3) (kf := 1) X (fun w h => List.mem_cons_of_mem _ (List.mem_append_left _ (List.mem_append_left _ (List.mem_append_left _ (List.mem_append_left _ (List.mem_append_left _ (List.mem_append_left _ (List.mem_append_right _ h)))))))) rfl (by decide) (List.mem_of_getElem? (i := 8) rfl) (fun _ h => h) dX3_card_105, ?_⟩
  refine List.forall_mem_cons.mpr ⟨xs_iconst X dX3_card_108 rfl, ?_⟩
  refine List.forall_mem_cons.mpr ⟨xs_iadd X dX3_card_109, ?_⟩
  refine List.forall_mem_cons.mpr ⟨xs_putf (C := RX2) (T := TX2) (N := 3) (ci := 3) (kf := 1) X (fun w h => List.mem_cons_of_mem _ (List.mem_append_left _ (List.mem_append_left _ (List.mem_append_left _ (List.mem_append_left _ (List.mem_append_left _ (List.mem_append_left _ (List.mem_append_right _ h)))))))) tyX2 tyX2_ok nmX2 rfl (by decide) (List.mem_of_getElem? (i := 8) rfl) (fun _ h => h) rfl rfl dX3_card_110, ?_⟩
  refine List.forall_mem_cons.mpr ⟨xs_aload_n X dX3_card_113 rfl, ?_⟩
  refine List.forall_mem_cons.mpr ⟨xs_aload X dX3_card_114, ?_⟩
  refine List.forall_mem_cons.mpr ⟨xs_callV (ci := 4) X (mpX3_isOverByHit l D Y) (cwV 1 X.1.2.2.2.2 gX3_card_X3_isOverByHit rfl rfl rfl (by decide +kernel) ⟨Nat.le_of_ble_eq_true rfl, Nat.le_of_ble_eq_true rfl⟩) rfl rfl rfl rfl dX3_card_116, ?_⟩
  refine List.forall_mem_cons.mpr ⟨xs_pop X dX3_card_119, ?_⟩
  refine List.forall_mem_cons.mpr ⟨xs_goto (tg := 145) X dX3_card_120 rfl, ?_⟩
  refine List.forall_mem_cons.mpr ⟨xs_iload X dX3_card_123, ?_⟩
  refine List.forall_mem_cons.mpr ⟨xs_iconst X dX3_card_125 rfl, ?_⟩
  refine List.forall_mem_cons.mpr ⟨xs_icmpne (tg := 145) X dX3_card_126 rfl, ?_⟩
  refine List.forall_mem_cons.mpr ⟨xs_aload_n X dX3_card_129 rfl, ?_⟩
  refine List.forall_mem_cons.mpr ⟨xs_aload X dX3_card_130, ?_⟩
  refine List.forall_mem_cons.mpr ⟨xs_aload X dX3_card_132, ?_⟩
  refine List.forall_mem_cons.mpr ⟨xs_getf (C := RX2) (T := TX2) (N := 3) (ci := 3) (kf := 0) X (fun w h => List.mem_cons_of_mem _ (List.mem_append_left _ (List.mem_append_left _ (List.mem_append_left _ (List.mem_append_left _ (List.mem_append_left _ (List.mem_append_left _ (List.mem_append_right _ h)))))))) rfl (by decide) (List.mem_of_getElem? (i := 9) rfl) (fun _ h => h) dX3_card_134, ?_⟩
  refine List.forall_mem_cons.mpr ⟨xs_aload X dX3_card_137, ?_⟩
  refine List.forall_mem_cons.mpr ⟨xs_getf (C := RX2) (T := TX2) (N := 3) (ci := 3) (kf := 0) X (fun w h => List.mem_cons_of_mem _ (List.mem_append_left _ (List.mem_append_left _ (List.mem_append_left _ (List.mem_append_left _ (List.mem_append_left _ (List.mem_append_left _ (List.mem_append_right _ h)))))))) rfl (by decide) (List.mem_of_getElem? (i := 9) rfl) (fun _ h => h) dX3_card_139, ?_⟩
  refine List.forall_mem_cons.mpr ⟨xs_callV (ci := 4) X (mpX3_putOut l D Y) (cwV 3 X.1.2.2.2.2 gX3_card_X3_putOut rfl rfl rfl (by decide +kernel) ⟨Nat.le_of_ble_eq_true rfl, Nat.le_of_ble_eq_true rfl⟩) rfl rfl rfl rfl dX3_card_142, ?_⟩
  refine List.forall_mem_cons.mpr ⟨xs_iload X dX3_card_145, ?_⟩
  refine List.forall_mem_cons.mpr ⟨xs_iret X hr hlocks dX3_card_147, ?_⟩
  exact fun _ h => nomatch h
