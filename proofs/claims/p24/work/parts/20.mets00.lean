set_option maxRecDepth 100000 in
set_option maxHeartbeats 4000000 in
theorem mpL_below (l : Launch) (D : va_G) (Y : xw_Y) : xw_MP l D vwCl (xw_ty Y) Y.1 yL_below wsL_below ({ frames := 0, cells := 0, slots := 0, locals := 0 } : Room) (ptL_below Y) 0 0 := by
  refine xw_met (cc := cL_below) (nL := 2) (ret := (some .int)) (by decide +kernel) rfl ?_
  intro p e s m args below meth c w0 post X hr hlocks hname
  unfold tbL_below
  refine List.forall_mem_cons.mpr ⟨xs_iload_n X dL_below_0 rfl, ?_⟩
  refine List.forall_mem_cons.mpr ⟨xs_ldc X (List.mem_of_getElem? (i := 1) rfl) dL_below_1, ?_⟩
  refine List.forall_mem_cons.mpr ⟨xs_iand X dL_below_3, ?_⟩
  refine List.forall_mem_cons.mpr ⟨xs_iload_n X dL_below_4 rfl, ?_⟩
  refine List.forall_mem_cons.mpr ⟨xs_irem X dL_below_5, ?_⟩
  refine List.forall_mem_cons.mpr ⟨xs_iret X hr hlocks dL_below_6, ?_⟩
  exact fun _ h => nomatch h
set_option maxRecDepth 100000 in
set_option maxHeartbeats 4000000 in
theorem mpL_cell (l : Launch) (D : va_G) (Y : xw_Y) : xw_MP l D vwCl (xw_ty Y) Y.1 yL_cell wsL_cell ({ frames := 0, cells := 0, slots := 0, locals := 0 } : Room) (ptL_cell Y) 0 0 := by
  refine xw_met (cc := cL_cell) (nL := 2) (ret := (some .int)) (by decide +kernel) rfl ?_
  intro p e s m args below meth c w0 post X hr hlocks hname
  unfold tbL_cell
  refine List.forall_mem_cons.mpr ⟨xs_iload_n X dL_cell_0 rfl, ?_⟩
  refine List.forall_mem_cons.mpr ⟨xs_aload_n X dL_cell_1 rfl, ?_⟩
  refine List.forall_mem_cons.mpr ⟨xs_xlen X dL_cell_2, ?_⟩
  refine List.forall_mem_cons.mpr ⟨xs_icmpge (tg := 12) X dL_cell_3 rfl, ?_⟩
  refine List.forall_mem_cons.mpr ⟨xs_aload_n X dL_cell_6 rfl, ?_⟩
  refine List.forall_mem_cons.mpr ⟨xs_iload_n X dL_cell_7 rfl, ?_⟩
  refine List.forall_mem_cons.mpr ⟨xs_xald X dL_cell_8, ?_⟩
  refine List.forall_mem_cons.mpr ⟨xs_goto (tg := 18) X dL_cell_9 rfl, ?_⟩
  refine List.forall_mem_cons.mpr ⟨xs_ldc X (List.mem_of_getElem? (i := 1) rfl) dL_cell_12, ?_⟩
  refine List.forall_mem_cons.mpr ⟨xs_iload_n X dL_cell_14 rfl, ?_⟩
  refine List.forall_mem_cons.mpr ⟨xs_iconst X dL_cell_15 rfl, ?_⟩
  refine List.forall_mem_cons.mpr ⟨xs_iadd X dL_cell_16, ?_⟩
  refine List.forall_mem_cons.mpr ⟨xs_imul X dL_cell_17, ?_⟩
  refine List.forall_mem_cons.mpr ⟨xs_iret X hr hlocks dL_cell_18, ?_⟩
  exact fun _ h => nomatch h
set_option maxRecDepth 100000 in
set_option maxHeartbeats 4000000 in
theorem mpJxa1e45_init_da8c8 (l : Launch) (D : va_G) (Y : xw_Y) : xw_MP l D vwCl (xw_ty Y) Y.1 yJxa1e45_init_da8c8 wsJxa1e45_init_da8c8 ({ frames := 1, cells := 0, slots := 0, locals := 20 } : Room) (ptJxa1e45_init_da8c8 Y) 0 0 := by
  refine xw_met (cc := cJxa1e45_init_da8c8) (nL := 1) (ret := none) (by decide +kernel) rfl ?_
  intro p e s m args below meth c w0 post X hr hlocks hname
  unfold tbJxa1e45_init_da8c8
  refine List.forall_mem_cons.mpr ⟨xs_aload_n X dJxa1e45_init_da8c8_0 rfl, ?_⟩
  refine List.forall_mem_cons.mpr ⟨xs_obj X (List.mem_of_getElem? (i := 1) rfl) (List.mem_of_getElem? (i := 2) rfl) (List.mem_of_getElem? (i := 3) rfl) (Nat.le_of_ble_eq_true rfl) (Nat.le_of_ble_eq_true rfl) dJxa1e45_init_da8c8_1, ?_⟩
  refine List.forall_mem_cons.mpr ⟨xs_vret X hr hlocks dJxa1e45_init_da8c8_4, ?_⟩
  exact fun _ h => nomatch h
set_option maxRecDepth 100000 in
set_option maxHeartbeats 4000000 in
theorem mpJxc12de_init_da8c8 (l : Launch) (D : va_G) (Y : xw_Y) : xw_MP l D vwCl (xw_ty Y) Y.1 yJxc12de_init_da8c8 wsJxc12de_init_da8c8 ({ frames := 2, cells := 0, slots := 0, locals := 40 } : Room) (ptJxc12de_init_da8c8 Y) 0 0 := by
  refine xw_met (cc := cJxc12de_init_da8c8) (nL := 1) (ret := none) (by decide +kernel) rfl ?_
  intro p e s m args below meth c w0 post X hr hlocks hname
  unfold tbJxc12de_init_da8c8
  refine List.forall_mem_cons.mpr ⟨xs_aload_n X dJxc12de_init_da8c8_0 rfl, ?_⟩
  refine List.forall_mem_cons.mpr ⟨xs_callI X (mpJxa1e45_init_da8c8 l D Y) (cwI 0 X.1.2.2.2.2 gJxc12de_init_da8c8_Jxa1e45_init_da8c8 rfl rfl rfl (X.1.2.2.2.2 _ (List.mem_of_getElem? (i := 4) rfl)) (X.1.2.2.2.2 _ (List.mem_of_getElem? (i := 2) rfl)) (X.1.2.2.2.2 _ (List.mem_of_getElem? (i := 3) rfl)) rfl (by decide +kernel) ⟨Nat.le_of_ble_eq_true rfl, Nat.le_of_ble_eq_true rfl⟩) rfl rfl dJxc12de_init_da8c8_1, ?_⟩
  refine List.forall_mem_cons.mpr ⟨xs_aload_n X dJxc12de_init_da8c8_4 rfl, ?_⟩
  refine List.forall_mem_cons.mpr ⟨xs_iconst X dJxc12de_init_da8c8_5 rfl, ?_⟩
  refine List.forall_mem_cons.mpr ⟨xs_putf (C := RJx4a65c) (T := TJx4a65c) (N := 3) (ci := 0) (kf := 0) X (fun w h => List.mem_cons_of_mem _ (List.mem_append_right _ h)) tyJx4a65c tyJx4a65c_ok nmJx4a65c rfl (by decide) (List.mem_of_getElem? (i := 1) rfl) (fun _ h => h) rfl rfl dJxc12de_init_da8c8_6, ?_⟩
  refine List.forall_mem_cons.mpr ⟨xs_vret X hr hlocks dJxc12de_init_da8c8_9, ?_⟩
  exact fun _ h => nomatch h
set_option maxRecDepth 100000 in
set_option maxHeartbeats 4000000 in
theorem mpJx4a65c_init_da8c8 (l : Launch) (D : va_G) (Y : xw_Y) : xw_MP l D vwCl (xw_ty Y) Y.1 yJx4a65c_init_da8c8 wsJx4a65c_init_da8c8 ({ frames := 3, cells := 0, slots := 0, locals := 60 } : Room) (ptJx4a65c_init_da8c8 Y) 0 0 := by
  refine xw_met (cc := cJx4a65c_init_da8c8) (nL := 1) (ret := none) (by decide +kernel) rfl ?_
  intro p e s m args below meth c w0 post X hr hlocks hname
  unfold tbJx4a65c_init_da8c8
  refine List.forall_mem_cons.mpr ⟨xs_aload_n X dJx4a65c_init_da8c8_0 rfl, ?_⟩
  refine List.forall_mem_cons.mpr ⟨xs_callI X (mpJxc12de_init_da8c8 l D Y) (cwI 0 X.1.2.2.2.2 gJx4a65c_init_da8c8_Jxc12de_init_da8c8 rfl rfl rfl (X.1.2.2.2.2 _ (List.mem_of_getElem? (i := 5) rfl)) (X.1.2.2.2.2 _ (List.mem_of_getElem? (i := 3) rfl)) (X.1.2.2.2.2 _ (List.mem_of_getElem? (i := 4) rfl)) rfl (by decide +kernel) ⟨Nat.le_of_ble_eq_true rfl, Nat.le_of_ble_eq_true rfl⟩) rfl rfl dJx4a65c_init_da8c8_1, ?_⟩
  refine List.forall_mem_cons.mpr ⟨xs_aload_n X dJx4a65c_init_da8c8_4 rfl, ?_⟩
  refine List.forall_mem_cons.mpr ⟨xs_gets X (List.mem_of_getElem? (i := 1) rfl) rfl dJx4a65c_init_da8c8_5, ?_⟩
  refine List.forall_mem_cons.mpr ⟨xs_putf (C := RJx4a65c) (T := TJx4a65c) (N := 3) (ci := 0) (kf := 1) X (fun w h => List.mem_cons_of_mem _ (List.mem_append_right _ h)) tyJx4a65c tyJx4a65c_ok nmJx4a65c rfl (by decide) (List.mem_of_getElem? (i := 2) rfl) (fun _ h => h) rfl rfl dJx4a65c_init_da8c8_8, ?_⟩
  refine List.forall_mem_cons.mpr ⟨xs_vret X hr hlocks dJx4a65c_init_da8c8_11, ?_⟩
  exact fun _ h => nomatch h
set_option maxRecDepth 100000 in
set_option maxHeartbeats 4000000 in
theorem mpX3_init (l : Launch) (D : va_G) (Y : xw_Y) : xw_MP l D vwCl (xw_ty Y) Y.1 yX3_init wsX3_init ({ frames := 4, cells := 6, slots := 45, locals := 80 } : Room) (ptX3_init Y) 6 45 := by
  refine xw_met (cc := cX3_init) (nL := 1) (ret := none) (by decide +kernel) rfl ?_
  intro p e s m args below meth c w0 post X hr hlocks hname
  unfold tbX3_init
  refine List.forall_mem_cons.mpr ⟨xs_aload_n X dX3_init_0 rfl, ?_⟩
  refine List.forall_mem_cons.mpr ⟨xs_obj X (List.mem_of_getElem? (i := 1) rfl) (List.mem_of_getElem? (i := 2) rfl) (List.mem_of_getElem? (i := 3) rfl) (Nat.le_of_ble_eq_true rfl) (Nat.le_of_ble_eq_true rfl) dX3_init_1, ?_⟩
  refine List.forall_mem_cons.mpr ⟨xs_aload_n X dX3_init_4 rfl, ?_⟩
  refine List.forall_mem_cons.mpr ⟨xs_new (C := RJx4a65c) (T := TJx4a65c) (N := 3) (ci := 0) X (fun w h => List.mem_cons_of_mem _ (List.mem_append_left _ (List.mem_append_right _ h))) tyJx4a65c tyJx4a65c_ok rfl (List.mem_of_getElem? (i := 4) rfl) (List.mem_of_getElem? (i := 5) rfl) (List.mem_of_getElem? (i := 6) rfl) (fun j hj => by
      match j, hj with
      | 0, _ => rfl
      | 1, _ => rfl
      | 2, _ => rfl
      | n + 3, h => exact absurd h (by omega)) rfl rfl dX3_init_5, ?_⟩
  refine List.forall_mem_cons.mpr ⟨xs_dup X dX3_init_8, ?_⟩
  refine List.forall_mem_cons.mpr ⟨xs_callI X (mpJx4a65c_init_da8c8 l D Y) (cwI 0 X.1.2.2.2.2 gX3_init_Jx4a65c_init_da8c8 rfl rfl rfl (X.1.2.2.2.2 _ (List.mem_of_getElem? (i := 6) rfl)) (X.1.2.2.2.2 _ (List.mem_of_getElem? (i := 16) rfl)) (X.1.2.2.2.2 _ (List.mem_of_getElem? (i := 17) rfl)) rfl (by decide +kernel) ⟨Nat.le_of_ble_eq_true rfl, Nat.le_of_ble_eq_true rfl⟩) rfl rfl dX3_init_9, ?_⟩
  refine List.forall_mem_cons.mpr ⟨xs_putF (C := RX3) (T := TX3) (N := 10) (ci := 4) (kf := 0) X (fun w h => List.mem_cons_of_mem _ (List.mem_append_right _ h)) tyX3 tyX3_ok nmX3 rfl (by decide) (List.mem_of_getElem? (i := 7) rfl) (fun _ h => h) rfl hname rfl rfl dX3_init_12, ?_⟩
  refine List.forall_mem_cons.mpr ⟨xs_aload_n X dX3_init_15 rfl, ?_⟩
  refine List.forall_mem_cons.mpr ⟨xs_new (C := RJx4a65c) (T := TJx4a65c) (N := 3) (ci := 0) X (fun w h => List.mem_cons_of_mem _ (List.mem_append_left _ (List.mem_append_right _ h))) tyJx4a65c tyJx4a65c_ok rfl (List.mem_of_getElem? (i := 4) rfl) (List.mem_of_getElem? (i := 5) rfl) (List.mem_of_getElem? (i := 6) rfl) (fun j hj => by
      match j, hj with
      | 0, _ => rfl
      | 1, _ => rfl
      | 2, _ => rfl
      | n + 3, h => exact absurd h (by omega)) rfl rfl dX3_init_16, ?_⟩
  refine List.forall_mem_cons.mpr ⟨xs_dup X dX3_init_19, ?_⟩
  refine List.forall_mem_cons.mpr ⟨xs_callI X (mpJx4a65c_init_da8c8 l D Y) (cwI 0 X.1.2.2.2.2 gX3_init_Jx4a65c_init_da8c8 rfl rfl rfl (X.1.2.2.2.2 _ (List.mem_of_getElem? (i := 6) rfl)) (X.1.2.2.2.2 _ (List.mem_of_getElem? (i := 16) rfl)) (X.1.2.2.2.2 _ (List.mem_of_getElem? (i := 17) rfl)) rfl (by decide +kernel) ⟨Nat.le_of_ble_eq_true rfl, Nat.le_of_ble_eq_true rfl⟩) rfl rfl dX3_init_20, ?_⟩
  refine List.forall_mem_cons.mpr ⟨xs_putF (C := RX3) (T := TX3) (N := 10) (ci := 4) (kf := 1) X (fun w h => List.mem_cons_of_mem _ (List.mem_append_right _ h)) tyX3 tyX3_ok nmX3 rfl (by decide) (List.mem_of_getElem? (i := 8) rfl) (fun _ h => h) rfl hname rfl rfl dX3_init_23, ?_⟩
  refine List.forall_mem_cons.mpr ⟨xs_aload_n X dX3_init_26 rfl, ?_⟩
  refine List.forall_mem_cons.mpr ⟨xs_iconst X dX3_init_27 rfl, ?_⟩
  refine List.forall_mem_cons.mpr ⟨xs_newq (t0 := 2) (C := "Pommel$Bout") X rfl (List.mem_of_getElem? (i := 9) rfl) X.2.2.2.2.2.1 rfl rfl dX3_init_28, ?_⟩
  refine List.forall_mem_cons.mpr ⟨xs_putF (C := RX3) (T := TX3) (N := 10) (ci := 4) (kf := 2) X (fun w h => List.mem_cons_of_mem _ (List.mem_append_right _ h)) tyX3 tyX3_ok nmX3 rfl (by decide) (List.mem_of_getElem? (i := 10) rfl) (fun _ h => h) rfl hname rfl rfl dX3_init_31, ?_⟩
  refine List.forall_mem_cons.mpr ⟨xs_aload_n X dX3_init_34 rfl, ?_⟩
  refine List.forall_mem_cons.mpr ⟨xs_iconst X dX3_init_35 rfl, ?_⟩
  refine List.forall_mem_cons.mpr ⟨xs_newi (t0 := 0) X rfl (List.mem_of_getElem? (i := 11) rfl) rfl rfl dX3_init_36, ?_⟩
  refine List.forall_mem_cons.mpr ⟨xs_putF (C := RX3) (T := TX3) (N := 10) (ci := 4) (kf := 3) X (fun w h => List.mem_cons_of_mem _ (List.mem_append_right _ h)) tyX3 tyX3_ok nmX3 rfl (by decide) (List.mem_of_getElem? (i := 12) rfl) (fun _ h => h) rfl hname rfl rfl dX3_init_38, ?_⟩
  refine List.forall_mem_cons.mpr ⟨xs_aload_n X dX3_init_41 rfl, ?_⟩
  refine List.forall_mem_cons.mpr ⟨xs_bipush X dX3_init_42 rfl, ?_⟩
  refine List.forall_mem_cons.mpr ⟨xs_newq (t0 := 3) (C := "Pommel$Fencer") X rfl (List.mem_of_getElem? (i := 13) rfl) X.2.2.2.2.2.2.1 rfl rfl dX3_init_44, ?_⟩
  refine List.forall_mem_cons.mpr ⟨xs_putF (C := RX3) (T := TX3) (N := 10) (ci := 4) (kf := 4) X (fun w h => List.mem_cons_of_mem _ (List.mem_append_right _ h)) tyX3 tyX3_ok nmX3 rfl (by decide) (List.mem_of_getElem? (i := 14) rfl) (fun _ h => h) rfl hname rfl rfl dX3_init_47, ?_⟩
  refine List.forall_mem_cons.mpr ⟨xs_aload_n X dX3_init_50 rfl, ?_⟩
  refine List.forall_mem_cons.mpr ⟨xs_bipush X dX3_init_51 rfl, ?_⟩
  refine List.forall_mem_cons.mpr ⟨xs_newi (t0 := 0) X rfl (List.mem_of_getElem? (i := 11) rfl) rfl rfl dX3_init_53, ?_⟩
  refine List.forall_mem_cons.mpr ⟨xs_putF (C := RX3) (T := TX3) (N := 10) (ci := 4) (kf := 5) X (fun w h => List.mem_cons_of_mem _ (List.mem_append_right _ h)) tyX3 tyX3_ok nmX3 rfl (by decide) (List.mem_of_getElem? (i := 15) rfl) (fun _ h => h) rfl hname rfl rfl dX3_init_55, ?_⟩
  refine List.forall_mem_cons.mpr ⟨xs_vret X hr hlocks dX3_init_58, ?_⟩
  exact fun _ h => nomatch h
set_option maxRecDepth 100000 in
set_option maxHeartbeats 4000000 in
theorem mpX3_isIn (l : Launch) (D : va_G) (Y : xw_Y) : xw_MP l D vwCl (xw_ty Y) Y.1 yX3_isIn wsX3_isIn ({ frames := 0, cells := 0, slots := 0, locals := 0 } : Room) (ptX3_isIn Y) 0 0 := by
  refine xw_met (cc := cX3_isIn) (nL := 3) (ret := (some .boolean)) (by decide +kernel) rfl ?_
  intro p e s m args below meth c w0 post X hr hlocks hname
  unfold tbX3_isIn
  refine List.forall_mem_cons.mpr ⟨xs_iload_n X dX3_isIn_0 rfl, ?_⟩
  refine List.forall_mem_cons.mpr ⟨xs_iload_n X dX3_isIn_1 rfl, ?_⟩
  refine List.forall_mem_cons.mpr ⟨xs_icmplt (tg := 14) X dX3_isIn_2 rfl, ?_⟩
  refine List.forall_mem_cons.mpr ⟨xs_iload_n X dX3_isIn_5 rfl, ?_⟩
  refine List.forall_mem_cons.mpr ⟨xs_iload_n X dX3_isIn_6 rfl, ?_⟩
  refine List.forall_mem_cons.mpr ⟨xs_icmpgt (tg := 14) X dX3_isIn_7 rfl, ?_⟩
  refine List.forall_mem_cons.mpr ⟨xs_iconst X dX3_isIn_10 rfl, ?_⟩
  refine List.forall_mem_cons.mpr ⟨xs_goto (tg := 15) X dX3_isIn_11 rfl, ?_⟩
  refine List.forall_mem_cons.mpr ⟨xs_iconst X dX3_isIn_14 rfl, ?_⟩
  refine List.forall_mem_cons.mpr ⟨xs_iret X hr hlocks dX3_isIn_15, ?_⟩
  exact fun _ h => nomatch h
set_option maxRecDepth 100000 in
set_option maxHeartbeats 4000000 in
theorem mpJx4a65c_size_8abf5 (l : Launch) (D : va_G) (Y : xw_Y) : xw_MP l D vwCl (xw_ty Y) Y.1 yJx4a65c_size_8abf5 wsJx4a65c_size_8abf5 ({ frames := 0, cells := 0, slots := 0, locals := 0 } : Room) (ptJx4a65c_size_8abf5 Y) 0 0 := by
  refine xw_met (cc := cJx4a65c_size_8abf5) (nL := 1) (ret := (some .int)) (by decide +kernel) rfl ?_
  intro p e s m args below meth c w0 post X hr hlocks hname
  unfold tbJx4a65c_size_8abf5
  refine List.forall_mem_cons.mpr ⟨xs_aload_n X dJx4a65c_size_8abf5_0 rfl, ?_⟩
  refine List.forall_mem_cons.mpr ⟨xs_getf (C := RJx4a65c) (T := TJx4a65c) (N := 3) (ci := 0) (kf := 2) X (fun w h => List.mem_cons_of_mem _ (List.mem_append_right _ h)) rfl (by decide) (List.mem_of_getElem? (i := 1) rfl) (fun _ h => h) dJx4a65c_size_8abf5_1, ?_⟩
  refine List.forall_mem_cons.mpr ⟨xs_iret X hr hlocks dJx4a65c_size_8abf5_4, ?_⟩
  exact fun _ h => nomatch h
set_option maxRecDepth 100000 in
set_option maxHeartbeats 4000000 in
theorem mpX1_init (l : Launch) (D : va_G) (Y : xw_Y) : xw_MP l D vwCl (xw_ty Y) Y.1 yX1_init wsX1_init ({ frames := 1, cells := 0, slots := 0, locals := 20 } : Room) (ptX1_init Y) 0 0 := by
  refine xw_met (cc := cX1_init) (nL := 4) (ret := none) (by decide +kernel) rfl ?_
  intro p e s m args below meth c w0 post X hr hlocks hname
  unfold tbX1_init
  refine List.forall_mem_cons.mpr ⟨xs_aload_n X dX1_init_0 rfl, ?_⟩
  refine List.forall_mem_cons.mpr ⟨xs_obj X (List.mem_of_getElem? (i := 1) rfl) (List.mem_of_getElem? (i := 2) rfl) (List.mem_of_getElem? (i := 3) rfl) (Nat.le_of_ble_eq_true rfl) (Nat.le_of_ble_eq_true rfl) dX1_init_1, ?_⟩
  refine List.forall_mem_cons.mpr ⟨xs_aload_n X dX1_init_4 rfl, ?_⟩
  refine List.forall_mem_cons.mpr ⟨xs_iconst X dX1_init_5 rfl, ?_⟩
  refine List.forall_mem_cons.mpr ⟨xs_putf (C := RX1) (T := TX1) (N := 14) (ci := 2) (kf := 3) X (fun w h => List.mem_cons_of_mem _ (List.mem_append_right _ h)) tyX1 tyX1_ok nmX1 rfl (by decide) (List.mem_of_getElem? (i := 4) rfl) (fun _ h => h) rfl rfl dX1_init_6, ?_⟩
  refine List.forall_mem_cons.mpr ⟨xs_aload_n X dX1_init_9 rfl, ?_⟩
  refine List.forall_mem_cons.mpr ⟨xs_iconst X dX1_init_10 rfl, ?_⟩
  refine List.forall_mem_cons.mpr ⟨xs_putf (C := RX1) (T := TX1) (N := 14) (ci := 2) (kf := 4) X (fun w h => List.mem_cons_of_mem _ (List.mem_append_right _ h)) tyX1 tyX1_ok nmX1 rfl (by decide) (List.mem_of_getElem? (i := 5) rfl) (fun _ h => h) rfl rfl dX1_init_11, ?_⟩
  refine List.forall_mem_cons.mpr ⟨xs_aload_n X dX1_init_14 rfl, ?_⟩
  refine List.forall_mem_cons.mpr ⟨xs_iconst X dX1_init_15 rfl, ?_⟩
  refine List.forall_mem_cons.mpr ⟨xs_putf (C := RX1) (T := TX1) (N := 14) (ci := 2) (kf := 12) X (fun w h => List.mem_cons_of_mem _ (List.mem_append_right _ h)) tyX1 tyX1_ok nmX1 rfl (by decide) (List.mem_of_getElem? (i := 6) rfl) (fun _ h => h) rfl rfl dX1_init_16, ?_⟩
  refine List.forall_mem_cons.mpr ⟨xs_aload_n X dX1_init_19 rfl, ?_⟩
  refine List.forall_mem_cons.mpr ⟨xs_iconst X dX1_init_20 rfl, ?_⟩
  refine List.forall_mem_cons.mpr ⟨xs_putf (C := RX1) (T := TX1) (N := 14) (ci := 2) (kf := 13) X (fun w h => List.mem_cons_of_mem _ (List.mem_append_right _ h)) tyX1 tyX1_ok nmX1 rfl (by decide) (List.mem_of_getElem? (i := 7) rfl) (fun _ h => h) rfl rfl dX1_init_21, ?_⟩
  refine List.forall_mem_cons.mpr ⟨xs_aload_n X dX1_init_24 rfl, ?_⟩
  refine List.forall_mem_cons.mpr ⟨xs_iload_n X dX1_init_25 rfl, ?_⟩
  refine List.forall_mem_cons.mpr ⟨xs_putF (C := RX1) (T := TX1) (N := 14) (ci := 2) (kf := 0) X (fun w h => List.mem_cons_of_mem _ (List.mem_append_right _ h)) tyX1 tyX1_ok nmX1 rfl (by decide) (List.mem_of_getElem? (i := 8) rfl) (fun _ h => h) rfl hname rfl rfl dX1_init_26, ?_⟩
  refine List.forall_mem_cons.mpr ⟨xs_aload_n X dX1_init_29 rfl, ?_⟩
  refine List.forall_mem_cons.mpr ⟨xs_iload_n X dX1_init_30 rfl, ?_⟩
  refine List.forall_mem_cons.mpr ⟨xs_putF (C := RX1) (T := TX1) (N := 14) (ci := 2) (kf := 1) X (fun w h => List.mem_cons_of_mem _ (List.mem_append_right _ h)) tyX1 tyX1_ok nmX1 rfl (by decide) (List.mem_of_getElem? (i := 9) rfl) (fun _ h => h) rfl hname rfl rfl dX1_init_31, ?_⟩
  refine List.forall_mem_cons.mpr ⟨xs_aload_n X dX1_init_34 rfl, ?_⟩
  refine List.forall_mem_cons.mpr ⟨xs_iload_n X dX1_init_35 rfl, ?_⟩
  refine List.forall_mem_cons.mpr ⟨xs_putF (C := RX1) (T := TX1) (N := 14) (ci := 2) (kf := 2) X (fun w h => List.mem_cons_of_mem _ (List.mem_append_right _ h)) tyX1 tyX1_ok nmX1 rfl (by decide) (List.mem_of_getElem? (i := 10) rfl) (fun _ h => h) rfl hname rfl rfl dX1_init_36, ?_⟩
  refine List.forall_mem_cons.mpr ⟨xs_vret X hr hlocks dX1_init_39, ?_⟩
  exact fun _ h => nomatch h
set_option maxRecDepth 100000 in
set_option maxHeartbeats 4000000 in
theorem mpJ8_hugeLength_7cf53 (l : Launch) (D : va_G) (Y : xw_Y) : xw_MP l D vwCl (xw_ty Y) Y.1 yJ8_hugeLength_7cf53 wsJ8_hugeLength_7cf53 ({ frames := 0, cells := 0, slots := 0, locals := 0 } : Room) (ptJ8_hugeLength_7cf53 Y) 0 0 := by
  refine xw_met (cc := cJ8_hugeLength_7cf53) (nL := 3) (ret := (some .int)) (by decide +kernel) rfl ?_
  intro p e s m args below meth c w0 post X hr hlocks hname
  unfold tbJ8_hugeLength_7cf53
  refine List.forall_mem_cons.mpr ⟨xs_iload_n X dJ8_hugeLength_7cf53_0 rfl, ?_⟩
  refine List.forall_mem_cons.mpr ⟨xs_iload_n X dJ8_hugeLength_7cf53_1 rfl, ?_⟩
  refine List.forall_mem_cons.mpr ⟨xs_iadd X dJ8_hugeLength_7cf53_2, ?_⟩
  refine List.forall_mem_cons.mpr ⟨xs_istore_n X dJ8_hugeLength_7cf53_3 rfl (Nat.le_of_ble_eq_true rfl), ?_⟩
  refine List.forall_mem_cons.mpr ⟨xs_iload_n X dJ8_hugeLength_7cf53_4 rfl, ?_⟩
  refine List.forall_mem_cons.mpr ⟨xs_ifge (tg := 49) X dJ8_hugeLength_7cf53_5 rfl, ?_⟩
  refine List.forall_mem_cons.mpr ⟨xs_iload_n X dJ8_hugeLength_7cf53_49 rfl, ?_⟩
  refine List.forall_mem_cons.mpr ⟨xs_ldc X (List.mem_of_getElem? (i := 1) rfl) dJ8_hugeLength_7cf53_50, ?_⟩
  refine List.forall_mem_cons.mpr ⟨xs_icmpgt (tg := 58) X dJ8_hugeLength_7cf53_52 rfl, ?_⟩
  refine List.forall_mem_cons.mpr ⟨xs_ldc X (List.mem_of_getElem? (i := 1) rfl) dJ8_hugeLength_7cf53_55, ?_⟩
  refine List.forall_mem_cons.mpr ⟨xs_iret X hr hlocks dJ8_hugeLength_7cf53_57, ?_⟩
  refine List.forall_mem_cons.mpr ⟨xs_iload_n X dJ8_hugeLength_7cf53_58 rfl, ?_⟩
  refine List.forall_mem_cons.mpr ⟨xs_iret X hr hlocks dJ8_hugeLength_7cf53_59, ?_⟩
  exact fun _ h => nomatch h
set_option maxRecDepth 100000 in
set_option maxHeartbeats 4000000 in
theorem mpJ8_newLength_cabcc (l : Launch) (D : va_G) (Y : xw_Y) : xw_MP l D vwCl (xw_ty Y) Y.1 yJ8_newLength_cabcc wsJ8_newLength_cabcc ({ frames := 1, cells := 0, slots := 0, locals := 22 } : Room) (ptJ8_newLength_cabcc Y) 0 0 := by
  refine xw_met (cc := cJ8_newLength_cabcc) (nL := 4) (ret := (some .int)) (by decide +kernel) rfl ?_
  intro p e s m args below meth c w0 post X hr hlocks hname
  unfold tbJ8_newLength_cabcc
  refine List.forall_mem_cons.mpr ⟨xs_iload_n X dJ8_newLength_cabcc_0 rfl, ?_⟩
  refine List.forall_mem_cons.mpr ⟨xs_iload_n X dJ8_newLength_cabcc_1 rfl, ?_⟩
  refine List.forall_mem_cons.mpr ⟨xs_iload_n X dJ8_newLength_cabcc_2 rfl, ?_⟩
  refine List.forall_mem_cons.mpr ⟨xs_max X (List.mem_of_getElem? (i := 1) rfl) (List.mem_of_getElem? (i := 2) rfl) (List.mem_of_getElem? (i := 3) rfl) (List.mem_of_getElem? (i := 4) rfl) (Nat.le_of_ble_eq_true rfl) (Nat.le_of_ble_eq_true rfl) rfl rfl dJ8_newLength_cabcc_3, ?_⟩
  refine List.forall_mem_cons.mpr ⟨xs_iadd X dJ8_newLength_cabcc_6, ?_⟩
  refine List.forall_mem_cons.mpr ⟨xs_istore_n X dJ8_newLength_cabcc_7 rfl (Nat.le_of_ble_eq_true rfl), ?_⟩
  refine List.forall_mem_cons.mpr ⟨xs_iconst X dJ8_newLength_cabcc_8 rfl, ?_⟩
  refine List.forall_mem_cons.mpr ⟨xs_iload_n X dJ8_newLength_cabcc_9 rfl, ?_⟩
  refine List.forall_mem_cons.mpr ⟨xs_icmpge (tg := 21) X dJ8_newLength_cabcc_10 rfl, ?_⟩
  refine List.forall_mem_cons.mpr ⟨xs_iload_n X dJ8_newLength_cabcc_13 rfl, ?_⟩
  refine List.forall_mem_cons.mpr ⟨xs_ldc X (List.mem_of_getElem? (i := 5) rfl) dJ8_newLength_cabcc_14, ?_⟩
  refine List.forall_mem_cons.mpr ⟨xs_icmpgt (tg := 21) X dJ8_newLength_cabcc_16 rfl, ?_⟩
  refine List.forall_mem_cons.mpr ⟨xs_iload_n X dJ8_newLength_cabcc_19 rfl, ?_⟩
  refine List.forall_mem_cons.mpr ⟨xs_iret X hr hlocks dJ8_newLength_cabcc_20, ?_⟩
  refine List.forall_mem_cons.mpr ⟨xs_iload_n X dJ8_newLength_cabcc_21 rfl, ?_⟩
  refine List.forall_mem_cons.mpr ⟨xs_iload_n X dJ8_newLength_cabcc_22 rfl, ?_⟩
  refine List.forall_mem_cons.mpr ⟨xs_callS X (mpJ8_hugeLength_7cf53 l D Y) (va_cwS 2 X.1.2.2.2.2 gJ8_newLength_cabcc_J8_hugeLength_7cf53 rfl rfl rfl (by decide +kernel) ⟨Nat.le_of_ble_eq_true rfl, Nat.le_of_ble_eq_true rfl⟩) rfl rfl dJ8_newLength_cabcc_23, ?_⟩
  refine List.forall_mem_cons.mpr ⟨xs_iret X hr hlocks dJ8_newLength_cabcc_26, ?_⟩
  exact fun _ h => nomatch h
set_option maxRecDepth 100000 in
set_option maxHeartbeats 4000000 in
theorem mpJ7_copyOf_6403c (l : Launch) (D : va_G) (Y : xw_Y) : xw_MP l D vwCl (xw_ty Y) Y.1 yJ7_copyOf_6403c wsJ7_copyOf_6403c ({ frames := 1, cells := 1, slots := 200, locals := 26 } : Room) (ptJ7_copyOf_6403c Y) 1 200 := by
  refine xw_met (cc := cJ7_copyOf_6403c) (nL := 4) (ret := (some (.array (.object "java/lang/Object")))) (by decide +kernel) rfl ?_
  intro p e s m args below meth c w0 post X hr hlocks hname
  unfold tbJ7_copyOf_6403c
  refine List.forall_mem_cons.mpr ⟨xs_aload_n X dJ7_copyOf_6403c_0 rfl, ?_⟩
  refine List.forall_mem_cons.mpr ⟨xs_ldcM X (List.mem_of_getElem? (i := 1) rfl) dJ7_copyOf_6403c_1, ?_⟩
  refine List.forall_mem_cons.mpr ⟨xs_acmpne (tg := 13) X dJ7_copyOf_6403c_3 rfl, ?_⟩
  refine List.forall_mem_cons.mpr ⟨xs_iload_n X dJ7_copyOf_6403c_6 rfl, ?_⟩
  refine List.forall_mem_cons.mpr ⟨xs_newq (t0 := 1) (C := "java/lang/Object") X rfl (List.mem_of_getElem? (i := 2) rfl) X.2.2.2.2.2.2.2.1 rfl rfl dJ7_copyOf_6403c_7, ?_⟩
  refine List.forall_mem_cons.mpr ⟨xs_goto (tg := 24) X dJ7_copyOf_6403c_10 rfl, ?_⟩
  refine List.forall_mem_cons.mpr ⟨xs_aload_n X dJ7_copyOf_6403c_13 rfl, ?_⟩
  refine List.forall_mem_cons.mpr ⟨xs_iload_n X dJ7_copyOf_6403c_17 rfl, ?_⟩
  refine List.forall_mem_cons.mpr ⟨xs_astore_n X dJ7_copyOf_6403c_24 rfl (Nat.le_of_ble_eq_true rfl), ?_⟩
  refine List.forall_mem_cons.mpr ⟨xs_aload_n X dJ7_copyOf_6403c_25 rfl, ?_⟩
  refine List.forall_mem_cons.mpr ⟨xs_iconst X dJ7_copyOf_6403c_26 rfl, ?_⟩
  refine List.forall_mem_cons.mpr ⟨xs_aload_n X dJ7_copyOf_6403c_27 rfl, ?_⟩
  refine List.forall_mem_cons.mpr ⟨xs_iconst X dJ7_copyOf_6403c_28 rfl, ?_⟩
  refine List.forall_mem_cons.mpr ⟨xs_aload_n X dJ7_copyOf_6403c_29 rfl, ?_⟩
  refine List.forall_mem_cons.mpr ⟨xs_or (xs_alen X (fun cA h => by
      rcases List.mem_cons.mp h with h | h
      · exact ⟨1, _, by rw [h]; rfl⟩
      · cases h) dJ7_copyOf_6403c_30) (xs_zlen X dJ7_copyOf_6403c_30), ?_⟩
  refine List.forall_mem_cons.mpr ⟨xs_iload_n X dJ7_copyOf_6403c_31 rfl, ?_⟩
  refine List.forall_mem_cons.mpr ⟨xs_min X (List.mem_of_getElem? (i := 3) rfl) (List.mem_of_getElem? (i := 4) rfl) (List.mem_of_getElem? (i := 5) rfl) (List.mem_of_getElem? (i := 6) rfl) (Nat.le_of_ble_eq_true rfl) (Nat.le_of_ble_eq_true rfl) rfl rfl dJ7_copyOf_6403c_32, ?_⟩
  refine List.forall_mem_cons.mpr ⟨xs_copy (t0 := 1) X rfl (fun ci h => by
      rcases List.mem_cons.mp h with h | h
      · exact ⟨_, by rw [h]; rfl, X.2.2.2.2.1.1⟩
      rcases List.mem_cons.mp h with h | h
      · exact ⟨_, by rw [h]; rfl, X.2.2.2.2.1.2.1⟩
      · cases h) (List.mem_of_getElem? (i := 7) rfl) (List.mem_of_getElem? (i := 8) rfl) (List.mem_of_getElem? (i := 9) rfl) (List.mem_of_getElem? (i := 10) rfl) (Nat.le_of_ble_eq_true rfl) (by decide +kernel) dJ7_copyOf_6403c_35, ?_⟩
  refine List.forall_mem_cons.mpr ⟨xs_aload_n X dJ7_copyOf_6403c_38 rfl, ?_⟩
  refine List.forall_mem_cons.mpr ⟨xs_aret X hr (Or.inr ⟨_, rfl⟩) hlocks dJ7_copyOf_6403c_39, ?_⟩
  exact fun _ h => nomatch h
set_option maxRecDepth 100000 in
set_option maxHeartbeats 4000000 in
theorem mpJ7_copyOf_1904c (l : Launch) (D : va_G) (Y : xw_Y) : xw_MP l D vwCl (xw_ty Y) Y.1 yJ7_copyOf_1904c wsJ7_copyOf_1904c ({ frames := 2, cells := 1, slots := 200, locals := 49 } : Room) (ptJ7_copyOf_1904c Y) 1 200 := by
  refine xw_met (cc := cJ7_copyOf_1904c) (nL := 2) (ret := (some (.array (.object "java/lang/Object")))) (by decide +kernel) rfl ?_
  intro p e s m args below meth c w0 post X hr hlocks hname
  unfold tbJ7_copyOf_1904c
  refine List.forall_mem_cons.mpr ⟨xs_aload_n X dJ7_copyOf_1904c_0 rfl, ?_⟩
  refine List.forall_mem_cons.mpr ⟨xs_iload_n X dJ7_copyOf_1904c_1 rfl, ?_⟩
  refine List.forall_mem_cons.mpr ⟨xs_aload_n X dJ7_copyOf_1904c_2 rfl, ?_⟩
  refine List.forall_mem_cons.mpr ⟨xs_getc (t0 := 1) X rfl (List.mem_of_getElem? (i := 1) rfl) (List.mem_of_getElem? (i := 2) rfl) (List.mem_of_getElem? (i := 3) rfl) (List.mem_of_getElem? (i := 4) rfl) (Nat.le_of_ble_eq_true rfl) (Nat.le_of_ble_eq_true rfl) dJ7_copyOf_1904c_3, ?_⟩
  refine List.forall_mem_cons.mpr ⟨xs_callS X (mpJ7_copyOf_6403c l D Y) (va_cwS 3 X.1.2.2.2.2 gJ7_copyOf_1904c_J7_copyOf_6403c rfl rfl rfl (by decide +kernel) ⟨Nat.le_of_ble_eq_true rfl, Nat.le_of_ble_eq_true rfl⟩) rfl rfl dJ7_copyOf_1904c_6, ?_⟩
  refine List.forall_mem_cons.mpr ⟨xs_aret X hr (Or.inr ⟨_, rfl⟩) hlocks dJ7_copyOf_1904c_9, ?_⟩
  exact fun _ h => nomatch h
set_option maxRecDepth 100000 in
set_option maxHeartbeats 4000000 in
theorem mpJx4a65c_grow_92f84 (l : Launch) (D : va_G) (Y : xw_Y) : xw_MP l D vwCl (xw_ty Y) Y.1 yJx4a65c_grow_92f84 wsJx4a65c_grow_92f84 ({ frames := 3, cells := 1, slots := 200, locals := 70 } : Room) (ptJx4a65c_grow_92f84 Y) 1 200 := by
  refine xw_met (cc := cJx4a65c_grow_92f84) (nL := 4) (ret := (some (.array (.object "java/lang/Object")))) (by decide +kernel) rfl ?_
  intro p e s m args below meth c w0 post X hr hlocks hname
  unfold tbJx4a65c_grow_92f84
  refine List.forall_mem_cons.mpr ⟨xs_aload_n X dJx4a65c_grow_92f84_0 rfl, ?_⟩
  refine List.forall_mem_cons.mpr ⟨xs_getf (C := RJx4a65c) (T := TJx4a65c) (N := 3) (ci := 0) (kf := 1) X (fun w h => List.mem_cons_of_mem _ (List.mem_append_right _ h)) rfl (by decide) (List.mem_of_getElem? (i := 1) rfl) (fun _ h => h) dJx4a65c_grow_92f84_1, ?_⟩
  refine List.forall_mem_cons.mpr ⟨xs_or (xs_alen X (fun cA h => by
      rcases List.mem_cons.mp h with h | h
      · exact ⟨1, _, by rw [h]; rfl⟩
      · cases h) dJx4a65c_grow_92f84_4) (xs_zlen X dJx4a65c_grow_92f84_4), ?_⟩
  refine List.forall_mem_cons.mpr ⟨xs_istore_n X dJx4a65c_grow_92f84_5 rfl (Nat.le_of_ble_eq_true rfl), ?_⟩
  refine List.forall_mem_cons.mpr ⟨xs_iload_n X dJx4a65c_grow_92f84_6 rfl, ?_⟩
  refine List.forall_mem_cons.mpr ⟨xs_ifgt (tg := 20) X dJx4a65c_grow_92f84_7 rfl, ?_⟩
  refine List.forall_mem_cons.mpr ⟨xs_aload_n X dJx4a65c_grow_92f84_10 rfl, ?_⟩
  refine List.forall_mem_cons.mpr ⟨xs_getf (C := RJx4a65c) (T := TJx4a65c) (N := 3) (ci := 0) (kf := 1) X (fun w h => List.mem_cons_of_mem _ (List.mem_append_right _ h)) rfl (by decide) (List.mem_of_getElem? (i := 1) rfl) (fun _ h => h) dJx4a65c_grow_92f84_11, ?_⟩
  refine List.forall_mem_cons.mpr ⟨xs_gets X (List.mem_of_getElem? (i := 2) rfl) rfl dJx4a65c_grow_92f84_14, ?_⟩
  refine List.forall_mem_cons.mpr ⟨xs_acmpeq (tg := 45) X dJx4a65c_grow_92f84_17 rfl, ?_⟩
  refine List.forall_mem_cons.mpr ⟨xs_iload_n X dJx4a65c_grow_92f84_20 rfl, ?_⟩
  refine List.forall_mem_cons.mpr ⟨xs_iload_n X dJx4a65c_grow_92f84_21 rfl, ?_⟩
  refine List.forall_mem_cons.mpr ⟨xs_iload_n X dJx4a65c_grow_92f84_22 rfl, ?_⟩
  refine List.forall_mem_cons.mpr ⟨xs_isub X dJx4a65c_grow_92f84_23, ?_⟩
  refine List.forall_mem_cons.mpr ⟨xs_iload_n X dJx4a65c_grow_92f84_24 rfl, ?_⟩
  refine List.forall_mem_cons.mpr ⟨xs_iconst X dJx4a65c_grow_92f84_25 rfl, ?_⟩
  refine List.forall_mem_cons.mpr ⟨xs_ishr X dJx4a65c_grow_92f84_26, ?_⟩
  refine List.forall_mem_cons.mpr ⟨xs_callS X (mpJ8_newLength_cabcc l D Y) (va_cwS 3 X.1.2.2.2.2 gJx4a65c_grow_92f84_J8_newLength_cabcc rfl rfl rfl (by decide +kernel) ⟨Nat.le_of_ble_eq_true rfl, Nat.le_of_ble_eq_true rfl⟩) rfl rfl dJx4a65c_grow_92f84_27, ?_⟩
  refine List.forall_mem_cons.mpr ⟨xs_istore_n X dJx4a65c_grow_92f84_30 rfl (Nat.le_of_ble_eq_true rfl), ?_⟩
  refine List.forall_mem_cons.mpr ⟨xs_aload_n X dJx4a65c_grow_92f84_31 rfl, ?_⟩
  refine List.forall_mem_cons.mpr ⟨xs_aload_n X dJx4a65c_grow_92f84_32 rfl, ?_⟩
  refine List.forall_mem_cons.mpr ⟨xs_getf (C := RJx4a65c) (T := TJx4a65c) (N := 3) (ci := 0) (kf := 1) X (fun w h => List.mem_cons_of_mem _ (List.mem_append_right _ h)) rfl (by decide) (List.mem_of_getElem? (i := 1) rfl) (fun _ h => h) dJx4a65c_grow_92f84_33, ?_⟩
  refine List.forall_mem_cons.mpr ⟨xs_iload_n X dJx4a65c_grow_92f84_36 rfl, ?_⟩
  refine List.forall_mem_cons.mpr ⟨xs_callS X (mpJ7_copyOf_1904c l D Y) (va_cwS 2 X.1.2.2.2.2 gJx4a65c_grow_92f84_J7_copyOf_1904c rfl rfl rfl (by decide +kernel) ⟨Nat.le_of_ble_eq_true rfl, Nat.le_of_ble_eq_true rfl⟩) rfl rfl dJx4a65c_grow_92f84_37, ?_⟩
  refine List.forall_mem_cons.mpr ⟨xs_dupx1 X dJx4a65c_grow_92f84_40, ?_⟩
  refine List.forall_mem_cons.mpr ⟨xs_putf (C := RJx4a65c) (T := TJx4a65c) (N := 3) (ci := 0) (kf := 1) X (fun w h => List.mem_cons_of_mem _ (List.mem_append_right _ h)) tyJx4a65c tyJx4a65c_ok nmJx4a65c rfl (by decide) (List.mem_of_getElem? (i := 1) rfl) (fun _ h => h) rfl rfl dJx4a65c_grow_92f84_41, ?_⟩
  refine List.forall_mem_cons.mpr ⟨xs_aret X hr (Or.inr ⟨_, rfl⟩) hlocks dJx4a65c_grow_92f84_44, ?_⟩
  refine List.forall_mem_cons.mpr ⟨xs_aload_n X dJx4a65c_grow_92f84_45 rfl, ?_⟩
  refine List.forall_mem_cons.mpr ⟨xs_bipush X dJx4a65c_grow_92f84_46 rfl, ?_⟩
  refine List.forall_mem_cons.mpr ⟨xs_iload_n X dJx4a65c_grow_92f84_48 rfl, ?_⟩
  refine List.forall_mem_cons.mpr ⟨xs_max X (List.mem_of_getElem? (i := 3) rfl) (List.mem_of_getElem? (i := 4) rfl) (List.mem_of_getElem? (i := 5) rfl) (List.mem_of_getElem? (i := 6) rfl) (Nat.le_of_ble_eq_true rfl) (Nat.le_of_ble_eq_true rfl) rfl rfl dJx4a65c_grow_92f84_49, ?_⟩
  refine List.forall_mem_cons.mpr ⟨xs_newq (t0 := 1) (C := "java/lang/Object") X rfl (List.mem_of_getElem? (i := 7) rfl) X.2.2.2.2.2.2.2.1 rfl rfl dJx4a65c_grow_92f84_52, ?_⟩
  refine List.forall_mem_cons.mpr ⟨xs_dupx1 X dJx4a65c_grow_92f84_55, ?_⟩
  refine List.forall_mem_cons.mpr ⟨xs_putf (C := RJx4a65c) (T := TJx4a65c) (N := 3) (ci := 0) (kf := 1) X (fun w h => List.mem_cons_of_mem _ (List.mem_append_right _ h)) tyJx4a65c tyJx4a65c_ok nmJx4a65c rfl (by decide) (List.mem_of_getElem? (i := 1) rfl) (fun _ h => h) rfl rfl dJx4a65c_grow_92f84_56, ?_⟩
  refine List.forall_mem_cons.mpr ⟨xs_aret X hr (Or.inr ⟨_, rfl⟩) hlocks dJx4a65c_grow_92f84_59, ?_⟩
  exact fun _ h => nomatch h
set_option maxRecDepth 100000 in
set_option maxHeartbeats 4000000 in
theorem mpJx4a65c_grow_d5877 (l : Launch) (D : va_G) (Y : xw_Y) : xw_MP l D vwCl (xw_ty Y) Y.1 yJx4a65c_grow_d5877 wsJx4a65c_grow_d5877 ({ frames := 4, cells := 1, slots := 200, locals := 93 } : Room) (ptJx4a65c_grow_d5877 Y) 1 200 := by
  refine xw_met (cc := cJx4a65c_grow_d5877) (nL := 1) (ret := (some (.array (.object "java/lang/Object")))) (by decide +kernel) rfl ?_
  intro p e s m args below meth c w0 post X hr hlocks hname
  unfold tbJx4a65c_grow_d5877
  refine List.forall_mem_cons.mpr ⟨xs_aload_n X dJx4a65c_grow_d5877_0 rfl, ?_⟩
  refine List.forall_mem_cons.mpr ⟨xs_aload_n X dJx4a65c_grow_d5877_1 rfl, ?_⟩
  refine List.forall_mem_cons.mpr ⟨xs_getf (C := RJx4a65c) (T := TJx4a65c) (N := 3) (ci := 0) (kf := 2) X (fun w h => List.mem_cons_of_mem _ (List.mem_append_right _ h)) rfl (by decide) (List.mem_of_getElem? (i := 1) rfl) (fun _ h => h) dJx4a65c_grow_d5877_2, ?_⟩
  refine List.forall_mem_cons.mpr ⟨xs_iconst X dJx4a65c_grow_d5877_5 rfl, ?_⟩
  refine List.forall_mem_cons.mpr ⟨xs_iadd X dJx4a65c_grow_d5877_6, ?_⟩
  refine List.forall_mem_cons.mpr ⟨xs_callV (ci := 0) X (mpJx4a65c_grow_92f84 l D Y) (cwV 1 X.1.2.2.2.2 gJx4a65c_grow_d5877_Jx4a65c_grow_92f84 rfl rfl rfl (by decide +kernel) ⟨Nat.le_of_ble_eq_true rfl, Nat.le_of_ble_eq_true rfl⟩) rfl rfl rfl rfl dJx4a65c_grow_d5877_7, ?_⟩
  refine List.forall_mem_cons.mpr ⟨xs_aret X hr (Or.inr ⟨_, rfl⟩) hlocks dJx4a65c_grow_d5877_10, ?_⟩
  exact fun _ h => nomatch h
set_option maxRecDepth 100000 in
set_option maxHeartbeats 4000000 in
theorem mpJx4a65c_add_72be8 (l : Launch) (D : va_G) (Y : xw_Y) : xw_MP l D vwCl (xw_ty Y) Y.1 yJx4a65c_add_72be8 wsJx4a65c_add_72be8 ({ frames := 5, cells := 1, slots := 200, locals := 113 } : Room) (ptJx4a65c_add_72be8 Y) 1 200 := by
  refine xw_met (cc := cJx4a65c_add_72be8) (nL := 4) (ret := none) (by decide +kernel) rfl ?_
  intro p e s m args below meth c w0 post X hr hlocks hname
  unfold tbJx4a65c_add_72be8
  refine List.forall_mem_cons.mpr ⟨xs_iload_n X dJx4a65c_add_72be8_0 rfl, ?_⟩
  refine List.forall_mem_cons.mpr ⟨xs_aload_n X dJx4a65c_add_72be8_1 rfl, ?_⟩
  refine List.forall_mem_cons.mpr ⟨xs_or (xs_alen X (fun cA h => by
      rcases List.mem_cons.mp h with h | h
      · exact ⟨1, _, by rw [h]; rfl⟩
      · cases h) dJx4a65c_add_72be8_2) (xs_zlen X dJx4a65c_add_72be8_2), ?_⟩
  refine List.forall_mem_cons.mpr ⟨xs_icmpne (tg := 11) X dJx4a65c_add_72be8_3 rfl, ?_⟩
  refine List.forall_mem_cons.mpr ⟨xs_aload_n X dJx4a65c_add_72be8_6 rfl, ?_⟩
  refine List.forall_mem_cons.mpr ⟨xs_callV (ci := 0) X (mpJx4a65c_grow_d5877 l D Y) (cwV 0 X.1.2.2.2.2 gJx4a65c_add_72be8_Jx4a65c_grow_d5877 rfl rfl rfl (by decide +kernel) ⟨Nat.le_of_ble_eq_true rfl, Nat.le_of_ble_eq_true rfl⟩) rfl rfl rfl rfl dJx4a65c_add_72be8_7, ?_⟩
  refine List.forall_mem_cons.mpr ⟨xs_astore_n X dJx4a65c_add_72be8_10 rfl (Nat.le_of_ble_eq_true rfl), ?_⟩
  refine List.forall_mem_cons.mpr ⟨xs_aload_n X dJx4a65c_add_72be8_11 rfl, ?_⟩
  refine List.forall_mem_cons.mpr ⟨xs_iload_n X dJx4a65c_add_72be8_12 rfl, ?_⟩
  refine List.forall_mem_cons.mpr ⟨xs_aload_n X dJx4a65c_add_72be8_13 rfl, ?_⟩
  refine List.forall_mem_cons.mpr ⟨xs_aast (t0 := 1) X rfl (fun ci h => by
      rcases List.mem_cons.mp h with h | h
      · exact ⟨_, by rw [h]; rfl, Or.inr X.2.2.2.2.1.1⟩
      rcases List.mem_cons.mp h with h | h
      · exact ⟨_, by rw [h]; rfl, Or.inr X.2.2.2.2.1.2.1⟩
      · cases h) dJx4a65c_add_72be8_14, ?_⟩
  refine List.forall_mem_cons.mpr ⟨xs_aload_n X dJx4a65c_add_72be8_15 rfl, ?_⟩
  refine List.forall_mem_cons.mpr ⟨xs_iload_n X dJx4a65c_add_72be8_16 rfl, ?_⟩
  refine List.forall_mem_cons.mpr ⟨xs_iconst X dJx4a65c_add_72be8_17 rfl, ?_⟩
  refine List.forall_mem_cons.mpr ⟨xs_iadd X dJx4a65c_add_72be8_18, ?_⟩
  refine List.forall_mem_cons.mpr ⟨xs_putf (C := RJx4a65c) (T := TJx4a65c) (N := 3) (ci := 0) (kf := 2) X (fun w h => List.mem_cons_of_mem _ (List.mem_append_right _ h)) tyJx4a65c tyJx4a65c_ok nmJx4a65c rfl (by decide) (List.mem_of_getElem? (i := 1) rfl) (fun _ h => h) rfl rfl dJx4a65c_add_72be8_19, ?_⟩
  refine List.forall_mem_cons.mpr ⟨xs_vret X hr hlocks dJx4a65c_add_72be8_22, ?_⟩
  exact fun _ h => nomatch h
set_option maxRecDepth 100000 in
set_option maxHeartbeats 4000000 in
theorem mpJx4a65c_add_9ea2d (l : Launch) (D : va_G) (Y : xw_Y) : xw_MP l D vwCl (xw_ty Y) Y.1 yJx4a65c_add_9ea2d wsJx4a65c_add_9ea2d ({ frames := 6, cells := 1, slots := 200, locals := 136 } : Room) (ptJx4a65c_add_9ea2d Y) 1 200 := by
  refine xw_met (cc := cJx4a65c_add_9ea2d) (nL := 2) (ret := (some .boolean)) (by decide +kernel) rfl ?_
  intro p e s m args below meth c w0 post X hr hlocks hname
  unfold tbJx4a65c_add_9ea2d
  refine List.forall_mem_cons.mpr ⟨xs_aload_n X dJx4a65c_add_9ea2d_0 rfl, ?_⟩
  refine List.forall_mem_cons.mpr ⟨xs_dup X dJx4a65c_add_9ea2d_1, ?_⟩
  refine List.forall_mem_cons.mpr ⟨xs_getf (C := RJx4a65c) (T := TJx4a65c) (N := 3) (ci := 0) (kf := 0) X (fun w h => List.mem_cons_of_mem _ (List.mem_append_right _ h)) rfl (by decide) (List.mem_of_getElem? (i := 1) rfl) (u_same (X.1.2.2.2.2 _ (List.mem_of_getElem? (i := 2) rfl))) dJx4a65c_add_9ea2d_2, ?_⟩
  refine List.forall_mem_cons.mpr ⟨xs_iconst X dJx4a65c_add_9ea2d_5 rfl, ?_⟩
  refine List.forall_mem_cons.mpr ⟨xs_iadd X dJx4a65c_add_9ea2d_6, ?_⟩
  refine List.forall_mem_cons.mpr ⟨xs_putf (C := RJx4a65c) (T := TJx4a65c) (N := 3) (ci := 0) (kf := 0) X (fun w h => List.mem_cons_of_mem _ (List.mem_append_right _ h)) tyJx4a65c tyJx4a65c_ok nmJx4a65c rfl (by decide) (List.mem_of_getElem? (i := 1) rfl) (u_same (X.1.2.2.2.2 _ (List.mem_of_getElem? (i := 2) rfl))) rfl rfl dJx4a65c_add_9ea2d_7, ?_⟩
  refine List.forall_mem_cons.mpr ⟨xs_aload_n X dJx4a65c_add_9ea2d_10 rfl, ?_⟩
  refine List.forall_mem_cons.mpr ⟨xs_aload_n X dJx4a65c_add_9ea2d_11 rfl, ?_⟩
  refine List.forall_mem_cons.mpr ⟨xs_aload_n X dJx4a65c_add_9ea2d_12 rfl, ?_⟩
  refine List.forall_mem_cons.mpr ⟨xs_getf (C := RJx4a65c) (T := TJx4a65c) (N := 3) (ci := 0) (kf := 1) X (fun w h => List.mem_cons_of_mem _ (List.mem_append_right _ h)) rfl (by decide) (List.mem_of_getElem? (i := 3) rfl) (fun _ h => h) dJx4a65c_add_9ea2d_13, ?_⟩
  refine List.forall_mem_cons.mpr ⟨xs_aload_n X dJx4a65c_add_9ea2d_16 rfl, ?_⟩
  refine List.forall_mem_cons.mpr ⟨xs_getf (C := RJx4a65c) (T := TJx4a65c) (N := 3) (ci := 0) (kf := 2) X (fun w h => List.mem_cons_of_mem _ (List.mem_append_right _ h)) rfl (by decide) (List.mem_of_getElem? (i := 4) rfl) (fun _ h => h) dJx4a65c_add_9ea2d_17, ?_⟩
  refine List.forall_mem_cons.mpr ⟨xs_callV (ci := 0) X (mpJx4a65c_add_72be8 l D Y) (cwV 3 X.1.2.2.2.2 gJx4a65c_add_9ea2d_Jx4a65c_add_72be8 rfl rfl rfl (by decide +kernel) ⟨Nat.le_of_ble_eq_true rfl, Nat.le_of_ble_eq_true rfl⟩) rfl rfl rfl rfl dJx4a65c_add_9ea2d_20, ?_⟩
  refine List.forall_mem_cons.mpr ⟨xs_iconst X dJx4a65c_add_9ea2d_23 rfl, ?_⟩
  refine List.forall_mem_cons.mpr ⟨xs_iret X hr hlocks dJx4a65c_add_9ea2d_24, ?_⟩
  exact fun _ h => nomatch h
set_option maxRecDepth 100000 in
set_option maxHeartbeats 4000000 in
theorem mpX3_fencer (l : Launch) (D : va_G) (Y : xw_Y) : xw_MP l D vwCl (xw_ty Y) Y.1 yX3_fencer wsX3_fencer ({ frames := 7, cells := 2, slots := 214, locals := 157 } : Room) (ptX3_fencer Y) 2 214 := by
  refine xw_met (cc := cX3_fencer) (nL := 3) (ret := (some .int)) (by decide +kernel) rfl ?_
  intro p e s m args below meth c w0 post X hr hlocks hname
  unfold tbX3_fencer
  refine List.forall_mem_cons.mpr ⟨xs_iload_n X dX3_fencer_0 rfl, ?_⟩
  refine List.forall_mem_cons.mpr ⟨xs_iconst X dX3_fencer_1 rfl, ?_⟩
  refine List.forall_mem_cons.mpr ⟨xs_bipush X dX3_fencer_2 rfl, ?_⟩
  refine List.forall_mem_cons.mpr ⟨xs_callS X (mpX3_isIn l D Y) (va_cwS 3 X.1.2.2.2.2 gX3_fencer_X3_isIn rfl rfl rfl (by decide +kernel) ⟨Nat.le_of_ble_eq_true rfl, Nat.le_of_ble_eq_true rfl⟩) rfl rfl dX3_fencer_4, ?_⟩
  refine List.forall_mem_cons.mpr ⟨xs_ifeq (tg := 19) X dX3_fencer_7 rfl, ?_⟩
  refine List.forall_mem_cons.mpr ⟨xs_iload_n X dX3_fencer_10 rfl, ?_⟩
  refine List.forall_mem_cons.mpr ⟨xs_iconst X dX3_fencer_11 rfl, ?_⟩
  refine List.forall_mem_cons.mpr ⟨xs_iconst X dX3_fencer_12 rfl, ?_⟩
  refine List.forall_mem_cons.mpr ⟨xs_callS X (mpX3_isIn l D Y) (va_cwS 3 X.1.2.2.2.2 gX3_fencer_X3_isIn rfl rfl rfl (by decide +kernel) ⟨Nat.le_of_ble_eq_true rfl, Nat.le_of_ble_eq_true rfl⟩) rfl rfl dX3_fencer_13, ?_⟩
  refine List.forall_mem_cons.mpr ⟨xs_ifne (tg := 29) X dX3_fencer_16 rfl, ?_⟩
  refine List.forall_mem_cons.mpr ⟨xs_aload_n X dX3_fencer_29 rfl, ?_⟩
  refine List.forall_mem_cons.mpr ⟨xs_getf (C := RX3) (T := TX3) (N := 10) (ci := 4) (kf := 0) X (fun w h => List.mem_cons_of_mem _ (List.mem_append_left _ (List.mem_append_left _ (List.mem_append_left _ (List.mem_append_left _ (List.mem_append_right _ h)))))) rfl (by decide) (List.mem_of_getElem? (i := 5) rfl) (fun _ h => h) dX3_fencer_30, ?_⟩
  refine List.forall_mem_cons.mpr ⟨xs_callV (ci := 0) X (mpJx4a65c_size_8abf5 l D Y) (cwV 0 X.1.2.2.2.2 gX3_fencer_Jx4a65c_size_8abf5 rfl rfl rfl (by decide +kernel) ⟨Nat.le_of_ble_eq_true rfl, Nat.le_of_ble_eq_true rfl⟩) rfl rfl rfl rfl dX3_fencer_33, ?_⟩
  refine List.forall_mem_cons.mpr ⟨xs_bipush X dX3_fencer_36 rfl, ?_⟩
  refine List.forall_mem_cons.mpr ⟨xs_icmpge (tg := 48) X dX3_fencer_38 rfl, ?_⟩
  refine List.forall_mem_cons.mpr ⟨xs_aload_n X dX3_fencer_41 rfl, ?_⟩
  refine List.forall_mem_cons.mpr ⟨xs_getf (C := RX3) (T := TX3) (N := 10) (ci := 4) (kf := 6) X (fun w h => List.mem_cons_of_mem _ (List.mem_append_left _ (List.mem_append_left _ (List.mem_append_left _ (List.mem_append_left _ (List.mem_append_right _ h)))))) rfl (by decide) (List.mem_of_getElem? (i := 6) rfl) (fun _ h => h) dX3_fencer_42, ?_⟩
  refine List.forall_mem_cons.mpr ⟨xs_ifle (tg := 58) X dX3_fencer_45 rfl, ?_⟩
  refine List.forall_mem_cons.mpr ⟨xs_aload_n X dX3_fencer_58 rfl, ?_⟩
  refine List.forall_mem_cons.mpr ⟨xs_getf (C := RX3) (T := TX3) (N := 10) (ci := 4) (kf := 0) X (fun w h => List.mem_cons_of_mem _ (List.mem_append_left _ (List.mem_append_left _ (List.mem_append_left _ (List.mem_append_left _ (List.mem_append_right _ h)))))) rfl (by decide) (List.mem_of_getElem? (i := 5) rfl) (fun _ h => h) dX3_fencer_59, ?_⟩
  refine List.forall_mem_cons.mpr ⟨xs_new (C := RX1) (T := TX1) (N := 14) (ci := 2) X (fun w h => List.mem_cons_of_mem _ (List.mem_append_left _ (List.mem_append_left _ (List.mem_append_left _ (List.mem_append_right _ h))))) tyX1 tyX1_ok rfl (List.mem_of_getElem? (i := 7) rfl) (List.mem_of_getElem? (i := 8) rfl) (List.mem_of_getElem? (i := 9) rfl) (fun j hj => by
      match j, hj with
      | 0, _ => rfl
      | 1, _ => rfl
      | 2, _ => rfl
      | 3, _ => rfl
      | 4, _ => rfl
      | 5, _ => rfl
      | 6, _ => rfl
      | 7, _ => rfl
      | 8, _ => rfl
      | 9, _ => rfl
      | 10, _ => rfl
      | 11, _ => rfl
      | 12, _ => rfl
      | 13, _ => rfl
      | n + 14, h => exact absurd h (by omega)) rfl rfl dX3_fencer_62, ?_⟩
  refine List.forall_mem_cons.mpr ⟨xs_dup X dX3_fencer_65, ?_⟩
  refine List.forall_mem_cons.mpr ⟨xs_aload_n X dX3_fencer_66 rfl, ?_⟩
  refine List.forall_mem_cons.mpr ⟨xs_getf (C := RX3) (T := TX3) (N := 10) (ci := 4) (kf := 0) X (fun w h => List.mem_cons_of_mem _ (List.mem_append_left _ (List.mem_append_left _ (List.mem_append_left _ (List.mem_append_left _ (List.mem_append_right _ h)))))) rfl (by decide) (List.mem_of_getElem? (i := 5) rfl) (fun _ h => h) dX3_fencer_67, ?_⟩
  refine List.forall_mem_cons.mpr ⟨xs_callV (ci := 0) X (mpJx4a65c_size_8abf5 l D Y) (cwV 0 X.1.2.2.2.2 gX3_fencer_Jx4a65c_size_8abf5 rfl rfl rfl (by decide +kernel) ⟨Nat.le_of_ble_eq_true rfl, Nat.le_of_ble_eq_true rfl⟩) rfl rfl rfl rfl dX3_fencer_70, ?_⟩
  refine List.forall_mem_cons.mpr ⟨xs_iload_n X dX3_fencer_73 rfl, ?_⟩
  refine List.forall_mem_cons.mpr ⟨xs_iload_n X dX3_fencer_74 rfl, ?_⟩
  refine List.forall_mem_cons.mpr ⟨xs_callI X (mpX1_init l D Y) (cwI 3 X.1.2.2.2.2 gX3_fencer_X1_init rfl rfl rfl (X.1.2.2.2.2 _ (List.mem_of_getElem? (i := 9) rfl)) (X.1.2.2.2.2 _ (List.mem_of_getElem? (i := 20) rfl)) (X.1.2.2.2.2 _ (List.mem_of_getElem? (i := 21) rfl)) rfl (by decide +kernel) ⟨Nat.le_of_ble_eq_true rfl, Nat.le_of_ble_eq_true rfl⟩) rfl rfl dX3_fencer_75, ?_⟩
  refine List.forall_mem_cons.mpr ⟨xs_callV (ci := 0) X (mpJx4a65c_add_9ea2d l D Y) (cwV 1 X.1.2.2.2.2 gX3_fencer_Jx4a65c_add_9ea2d rfl rfl rfl (by decide +kernel) ⟨Nat.le_of_ble_eq_true rfl, Nat.le_of_ble_eq_true rfl⟩) rfl rfl rfl rfl dX3_fencer_78, ?_⟩
  refine List.forall_mem_cons.mpr ⟨xs_pop X dX3_fencer_81, ?_⟩
  refine List.forall_mem_cons.mpr ⟨xs_aload_n X dX3_fencer_82 rfl, ?_⟩
  refine List.forall_mem_cons.mpr ⟨xs_getf (C := RX3) (T := TX3) (N := 10) (ci := 4) (kf := 0) X (fun w h => List.mem_cons_of_mem _ (List.mem_append_left _ (List.mem_append_left _ (List.mem_append_left _ (List.mem_append_left _ (List.mem_append_right _ h)))))) rfl (by decide) (List.mem_of_getElem? (i := 5) rfl) (fun _ h => h) dX3_fencer_83, ?_⟩
  refine List.forall_mem_cons.mpr ⟨xs_callV (ci := 0) X (mpJx4a65c_size_8abf5 l D Y) (cwV 0 X.1.2.2.2.2 gX3_fencer_Jx4a65c_size_8abf5 rfl rfl rfl (by decide +kernel) ⟨Nat.le_of_ble_eq_true rfl, Nat.le_of_ble_eq_true rfl⟩) rfl rfl rfl rfl dX3_fencer_86, ?_⟩
  refine List.forall_mem_cons.mpr ⟨xs_iconst X dX3_fencer_89 rfl, ?_⟩
  refine List.forall_mem_cons.mpr ⟨xs_isub X dX3_fencer_90, ?_⟩
  refine List.forall_mem_cons.mpr ⟨xs_iret X hr hlocks dX3_fencer_91, ?_⟩
  exact fun _ h => nomatch h
set_option maxRecDepth 100000 in
set_option maxHeartbeats 4000000 in
theorem mpJ3_checkIndex_8e157 (l : Launch) (D : va_G) (Y : xw_Y) : xw_MP l D vwCl (xw_ty Y) Y.1 yJ3_checkIndex_8e157 wsJ3_checkIndex_8e157 ({ frames := 0, cells := 0, slots := 0, locals := 0 } : Room) (ptJ3_checkIndex_8e157 Y) 0 0 := by
  refine xw_met (cc := cJ3_checkIndex_8e157) (nL := 3) (ret := (some .int)) (by decide +kernel) rfl ?_
  intro p e s m args below meth c w0 post X hr hlocks hname
  unfold tbJ3_checkIndex_8e157
  refine List.forall_mem_cons.mpr ⟨xs_iload_n X dJ3_checkIndex_8e157_0 rfl, ?_⟩
  refine List.forall_mem_cons.mpr ⟨xs_iflt (tg := 9) X dJ3_checkIndex_8e157_1 rfl, ?_⟩
  refine List.forall_mem_cons.mpr ⟨xs_iload_n X dJ3_checkIndex_8e157_4 rfl, ?_⟩
  refine List.forall_mem_cons.mpr ⟨xs_iload_n X dJ3_checkIndex_8e157_5 rfl, ?_⟩
  refine List.forall_mem_cons.mpr ⟨xs_icmplt (tg := 16) X dJ3_checkIndex_8e157_6 rfl, ?_⟩
  refine List.forall_mem_cons.mpr ⟨xs_aload_n X dJ3_checkIndex_8e157_9 rfl, ?_⟩
  refine List.forall_mem_cons.mpr ⟨xs_iload_n X dJ3_checkIndex_8e157_10 rfl, ?_⟩
  refine List.forall_mem_cons.mpr ⟨xs_iload_n X dJ3_checkIndex_8e157_11 rfl, ?_⟩
  refine List.forall_mem_cons.mpr ⟨xs_iload_n X dJ3_checkIndex_8e157_16 rfl, ?_⟩
  refine List.forall_mem_cons.mpr ⟨xs_iret X hr hlocks dJ3_checkIndex_8e157_17, ?_⟩
  exact fun _ h => nomatch h
set_option maxRecDepth 100000 in
set_option maxHeartbeats 4000000 in
theorem mpJ15_checkIndex_7cf53 (l : Launch) (D : va_G) (Y : xw_Y) : xw_MP l D vwCl (xw_ty Y) Y.1 yJ15_checkIndex_7cf53 wsJ15_checkIndex_7cf53 ({ frames := 1, cells := 0, slots := 0, locals := 22 } : Room) (ptJ15_checkIndex_7cf53 Y) 0 0 := by
  refine xw_met (cc := cJ15_checkIndex_7cf53) (nL := 2) (ret := (some .int)) (by decide +kernel) rfl ?_
  intro p e s m args below meth c w0 post X hr hlocks hname
  unfold tbJ15_checkIndex_7cf53
  refine List.forall_mem_cons.mpr ⟨xs_iload_n X dJ15_checkIndex_7cf53_0 rfl, ?_⟩
  refine List.forall_mem_cons.mpr ⟨xs_iload_n X dJ15_checkIndex_7cf53_1 rfl, ?_⟩
  refine List.forall_mem_cons.mpr ⟨xs_null X dJ15_checkIndex_7cf53_2, ?_⟩
  refine List.forall_mem_cons.mpr ⟨xs_callS X (mpJ3_checkIndex_8e157 l D Y) (va_cwS 3 X.1.2.2.2.2 gJ15_checkIndex_7cf53_J3_checkIndex_8e157 rfl rfl rfl (by decide +kernel) ⟨Nat.le_of_ble_eq_true rfl, Nat.le_of_ble_eq_true rfl⟩) rfl rfl dJ15_checkIndex_7cf53_3, ?_⟩
  refine List.forall_mem_cons.mpr ⟨xs_iret X hr hlocks dJ15_checkIndex_7cf53_6, ?_⟩
  exact fun _ h => nomatch h
set_option maxRecDepth 100000 in
set_option maxHeartbeats 4000000 in
theorem mpJx4a65c_elementData_915e3 (l : Launch) (D : va_G) (Y : xw_Y) : xw_MP l D vwCl (xw_ty Y) Y.1 yJx4a65c_elementData_915e3 wsJx4a65c_elementData_915e3 ({ frames := 0, cells := 0, slots := 0, locals := 0 } : Room) (ptJx4a65c_elementData_915e3 Y) 0 0 := by
  refine xw_met (cc := cJx4a65c_elementData_915e3) (nL := 2) (ret := (some (.object "java/lang/Object"))) (by decide +kernel) rfl ?_
  intro p e s m args below meth c w0 post X hr hlocks hname
  unfold tbJx4a65c_elementData_915e3
  refine List.forall_mem_cons.mpr ⟨xs_aload_n X dJx4a65c_elementData_915e3_0 rfl, ?_⟩
  refine List.forall_mem_cons.mpr ⟨xs_getf (C := RJx4a65c) (T := TJx4a65c) (N := 3) (ci := 0) (kf := 1) X (fun w h => List.mem_cons_of_mem _ (List.mem_append_right _ h)) rfl (by decide) (List.mem_of_getElem? (i := 1) rfl) (fun _ h => h) dJx4a65c_elementData_915e3_1, ?_⟩
  refine List.forall_mem_cons.mpr ⟨xs_iload_n X dJx4a65c_elementData_915e3_4 rfl, ?_⟩
  refine List.forall_mem_cons.mpr ⟨xs_aald (t0 := 1) X rfl dJx4a65c_elementData_915e3_5, ?_⟩
  refine List.forall_mem_cons.mpr ⟨xs_aret X hr (Or.inl ⟨_, rfl⟩) hlocks dJx4a65c_elementData_915e3_6, ?_⟩
  exact fun _ h => nomatch h
set_option maxRecDepth 100000 in
set_option maxHeartbeats 4000000 in
theorem mpJx4a65c_get_915e3 (l : Launch) (D : va_G) (Y : xw_Y) : xw_MP l D vwCl (xw_ty Y) Y.1 yJx4a65c_get_915e3 wsJx4a65c_get_915e3 ({ frames := 2, cells := 0, slots := 0, locals := 43 } : Room) (ptJx4a65c_get_915e3 Y) 0 0 := by
  refine xw_met (cc := cJx4a65c_get_915e3) (nL := 2) (ret := (some (.object "java/lang/Object"))) (by decide +kernel) rfl ?_
  intro p e s m args below meth c w0 post X hr hlocks hname
  unfold tbJx4a65c_get_915e3
  refine List.forall_mem_cons.mpr ⟨xs_iload_n X dJx4a65c_get_915e3_0 rfl, ?_⟩
  refine List.forall_mem_cons.mpr ⟨xs_aload_n X dJx4a65c_get_915e3_1 rfl, ?_⟩
  refine List.forall_mem_cons.mpr ⟨xs_getf (C := RJx4a65c) (T := TJx4a65c) (N := 3) (ci := 0) (kf := 2) X (fun w h => List.mem_cons_of_mem _ (List.mem_append_right _ h)) rfl (by decide) (List.mem_of_getElem? (i := 1) rfl) (fun _ h => h) dJx4a65c_get_915e3_2, ?_⟩
  refine List.forall_mem_cons.mpr ⟨xs_callS X (mpJ15_checkIndex_7cf53 l D Y) (va_cwS 2 X.1.2.2.2.2 gJx4a65c_get_915e3_J15_checkIndex_7cf53 rfl rfl rfl (by decide +kernel) ⟨Nat.le_of_ble_eq_true rfl, Nat.le_of_ble_eq_true rfl⟩) rfl rfl dJx4a65c_get_915e3_5, ?_⟩
  refine List.forall_mem_cons.mpr ⟨xs_pop X dJx4a65c_get_915e3_8, ?_⟩
  refine List.forall_mem_cons.mpr ⟨xs_aload_n X dJx4a65c_get_915e3_9 rfl, ?_⟩
  refine List.forall_mem_cons.mpr ⟨xs_iload_n X dJx4a65c_get_915e3_10 rfl, ?_⟩
  refine List.forall_mem_cons.mpr ⟨xs_callV (ci := 0) X (mpJx4a65c_elementData_915e3 l D Y) (cwV 1 X.1.2.2.2.2 gJx4a65c_get_915e3_Jx4a65c_elementData_915e3 rfl rfl rfl (by decide +kernel) ⟨Nat.le_of_ble_eq_true rfl, Nat.le_of_ble_eq_true rfl⟩) rfl rfl rfl rfl dJx4a65c_get_915e3_11, ?_⟩
  refine List.forall_mem_cons.mpr ⟨xs_aret X hr (Or.inl ⟨_, rfl⟩) hlocks dJx4a65c_get_915e3_14, ?_⟩
  exact fun _ h => nomatch h
