set_option maxRecDepth 100000 in
set_option maxHeartbeats 4000000 in
theorem mpX3_form (l : Launch) (D : va_G) (Y : xw_Y) : xw_MP l D vwCl (xw_ty Y) Y.1 yX3_form wsX3_form ({ frames := 8, cells := 400, slots := 22000, locals := 183 } : Room) (ptX3_form Y) 400 22000 := by
  refine xw_met (cc := cX3_form) (nL := 3) (ret := (some .int)) (by decide +kernel) rfl ?_
  intro p e s m args below meth c w0 post X hr hlocks hname
  unfold tbX3_form
  refine List.forall_mem_cons.mpr ⟨xs_iload_n X dX3_form_0 rfl, ?_⟩
  refine List.forall_mem_cons.mpr ⟨xs_iconst X dX3_form_1 rfl, ?_⟩
  refine List.forall_mem_cons.mpr ⟨xs_iconst X dX3_form_2 rfl, ?_⟩
  refine List.forall_mem_cons.mpr ⟨xs_callS X (mpX3_isIn l D Y) (va_cwS 3 X.1.2.2.2.2 gX3_form_X3_isIn rfl rfl rfl (by decide +kernel) ⟨Nat.le_of_ble_eq_true rfl, Nat.le_of_ble_eq_true rfl⟩) rfl rfl dX3_form_3, ?_⟩
  refine List.forall_mem_cons.mpr ⟨xs_ifne (tg := 19) X dX3_form_6 rfl, ?_⟩
  refine List.forall_mem_cons.mpr ⟨xs_aload_n X dX3_form_19 rfl, ?_⟩
  refine List.forall_mem_cons.mpr ⟨xs_getf (C := RX3) (T := TX3) (N := 10) (ci := 4) (kf := 6) X (fun w h => List.mem_cons_of_mem _ (List.mem_append_left _ (List.mem_append_left _ (List.mem_append_left _ (List.mem_append_left _ (List.mem_append_left _ (List.mem_append_left _ (List.mem_append_right _ h)))))))) rfl (by decide) (List.mem_of_getElem? (i := 5) rfl) (fun _ h => h) dX3_form_20, ?_⟩
  refine List.forall_mem_cons.mpr ⟨xs_ifgt (tg := 39) X dX3_form_23 rfl, ?_⟩
  refine List.forall_mem_cons.mpr ⟨xs_aload_n X dX3_form_26 rfl, ?_⟩
  refine List.forall_mem_cons.mpr ⟨xs_getf (C := RX3) (T := TX3) (N := 10) (ci := 4) (kf := 0) X (fun w h => List.mem_cons_of_mem _ (List.mem_append_left _ (List.mem_append_left _ (List.mem_append_left _ (List.mem_append_left _ (List.mem_append_left _ (List.mem_append_left _ (List.mem_append_right _ h)))))))) rfl (by decide) (List.mem_of_getElem? (i := 6) rfl) (fun _ h => h) dX3_form_27, ?_⟩
  refine List.forall_mem_cons.mpr ⟨xs_callV (ci := 0) X (mpJx4a65c_size_8abf5 l D Y) (cwV 0 X.1.2.2.2.2 gX3_form_Jx4a65c_size_8abf5 rfl rfl rfl (by decide +kernel) ⟨Nat.le_of_ble_eq_true rfl, Nat.le_of_ble_eq_true rfl⟩) rfl rfl rfl rfl dX3_form_30, ?_⟩
  refine List.forall_mem_cons.mpr ⟨xs_iconst X dX3_form_33 rfl, ?_⟩
  refine List.forall_mem_cons.mpr ⟨xs_iload_n X dX3_form_34 rfl, ?_⟩
  refine List.forall_mem_cons.mpr ⟨xs_imul X dX3_form_35, ?_⟩
  refine List.forall_mem_cons.mpr ⟨xs_icmpge (tg := 49) X dX3_form_36 rfl, ?_⟩
  refine List.forall_mem_cons.mpr ⟨xs_aload_n X dX3_form_49 rfl, ?_⟩
  refine List.forall_mem_cons.mpr ⟨xs_iload_n X dX3_form_50 rfl, ?_⟩
  refine List.forall_mem_cons.mpr ⟨xs_putf (C := RX3) (T := TX3) (N := 10) (ci := 4) (kf := 6) X (fun w h => List.mem_cons_of_mem _ (List.mem_append_left _ (List.mem_append_left _ (List.mem_append_left _ (List.mem_append_left _ (List.mem_append_left _ (List.mem_append_left _ (List.mem_append_right _ h)))))))) tyX3 tyX3_ok nmX3 rfl (by decide) (List.mem_of_getElem? (i := 5) rfl) (fun _ h => h) rfl rfl dX3_form_51, ?_⟩
  refine List.forall_mem_cons.mpr ⟨xs_iconst X dX3_form_54 rfl, ?_⟩
  refine List.forall_mem_cons.mpr ⟨xs_istore_n X dX3_form_55 rfl (Nat.le_of_ble_eq_true rfl), ?_⟩
  refine List.forall_mem_cons.mpr ⟨xs_iload_n X dX3_form_56 rfl, ?_⟩
  refine List.forall_mem_cons.mpr ⟨xs_aload_n X dX3_form_57 rfl, ?_⟩
  refine List.forall_mem_cons.mpr ⟨xs_getf (C := RX3) (T := TX3) (N := 10) (ci := 4) (kf := 0) X (fun w h => List.mem_cons_of_mem _ (List.mem_append_left _ (List.mem_append_left _ (List.mem_append_left _ (List.mem_append_left _ (List.mem_append_left _ (List.mem_append_left _ (List.mem_append_right _ h)))))))) rfl (by decide) (List.mem_of_getElem? (i := 6) rfl) (fun _ h => h) dX3_form_58, ?_⟩
  refine List.forall_mem_cons.mpr ⟨xs_callV (ci := 0) X (mpJx4a65c_size_8abf5 l D Y) (cwV 0 X.1.2.2.2.2 gX3_form_Jx4a65c_size_8abf5 rfl rfl rfl (by decide +kernel) ⟨Nat.le_of_ble_eq_true rfl, Nat.le_of_ble_eq_true rfl⟩) rfl rfl rfl rfl dX3_form_61, ?_⟩
  refine List.forall_mem_cons.mpr ⟨xs_icmpge (tg := 85) X dX3_form_64 rfl, ?_⟩
  refine List.forall_mem_cons.mpr ⟨xs_aload_n X dX3_form_67 rfl, ?_⟩
  refine List.forall_mem_cons.mpr ⟨xs_aload_n X dX3_form_68 rfl, ?_⟩
  refine List.forall_mem_cons.mpr ⟨xs_iload_n X dX3_form_69 rfl, ?_⟩
  refine List.forall_mem_cons.mpr ⟨xs_callV (ci := 4) X (mpX3_fencerInOrder l D Y) (cwV 1 X.1.2.2.2.2 gX3_form_X3_fencerInOrder rfl rfl rfl (by decide +kernel) ⟨Nat.le_of_ble_eq_true rfl, Nat.le_of_ble_eq_true rfl⟩) rfl rfl rfl rfl dX3_form_70, ?_⟩
  refine List.forall_mem_cons.mpr ⟨xs_iload_n X dX3_form_73 rfl, ?_⟩
  refine List.forall_mem_cons.mpr ⟨xs_iload_n X dX3_form_74 rfl, ?_⟩
  refine List.forall_mem_cons.mpr ⟨xs_idiv X dX3_form_75, ?_⟩
  refine List.forall_mem_cons.mpr ⟨xs_callV (ci := 4) X (mpX3_putIntoPool l D Y) (cwV 2 X.1.2.2.2.2 gX3_form_X3_putIntoPool rfl rfl rfl (by decide +kernel) ⟨Nat.le_of_ble_eq_true rfl, Nat.le_of_ble_eq_true rfl⟩) rfl rfl rfl rfl dX3_form_76, ?_⟩
  refine List.forall_mem_cons.mpr ⟨xs_iinc X dX3_form_79 rfl (Nat.le_of_ble_eq_true rfl), ?_⟩
  refine List.forall_mem_cons.mpr ⟨xs_goto (tg := 56) X dX3_form_82 rfl, ?_⟩
  refine List.forall_mem_cons.mpr ⟨xs_iconst X dX3_form_85 rfl, ?_⟩
  refine List.forall_mem_cons.mpr ⟨xs_istore_n X dX3_form_86 rfl (Nat.le_of_ble_eq_true rfl), ?_⟩
  refine List.forall_mem_cons.mpr ⟨xs_iload_n X dX3_form_87 rfl, ?_⟩
  refine List.forall_mem_cons.mpr ⟨xs_iload_n X dX3_form_88 rfl, ?_⟩
  refine List.forall_mem_cons.mpr ⟨xs_icmpge (tg := 103) X dX3_form_89 rfl, ?_⟩
  refine List.forall_mem_cons.mpr ⟨xs_aload_n X dX3_form_92 rfl, ?_⟩
  refine List.forall_mem_cons.mpr ⟨xs_iload_n X dX3_form_93 rfl, ?_⟩
  refine List.forall_mem_cons.mpr ⟨xs_callV (ci := 4) X (mpX3_addPoolBouts l D Y) (cwV 1 X.1.2.2.2.2 gX3_form_X3_addPoolBouts rfl rfl rfl (by decide +kernel) ⟨Nat.le_of_ble_eq_true rfl, Nat.le_of_ble_eq_true rfl⟩) rfl rfl rfl rfl dX3_form_94, ?_⟩
  refine List.forall_mem_cons.mpr ⟨xs_iinc X dX3_form_97 rfl (Nat.le_of_ble_eq_true rfl), ?_⟩
  refine List.forall_mem_cons.mpr ⟨xs_goto (tg := 87) X dX3_form_100 rfl, ?_⟩
  refine List.forall_mem_cons.mpr ⟨xs_aload_n X dX3_form_103 rfl, ?_⟩
  refine List.forall_mem_cons.mpr ⟨xs_getf (C := RX3) (T := TX3) (N := 10) (ci := 4) (kf := 1) X (fun w h => List.mem_cons_of_mem _ (List.mem_append_left _ (List.mem_append_left _ (List.mem_append_left _ (List.mem_append_left _ (List.mem_append_left _ (List.mem_append_left _ (List.mem_append_right _ h)))))))) rfl (by decide) (List.mem_of_getElem? (i := 7) rfl) (fun _ h => h) dX3_form_104, ?_⟩
  refine List.forall_mem_cons.mpr ⟨xs_callV (ci := 0) X (mpJx4a65c_size_8abf5 l D Y) (cwV 0 X.1.2.2.2.2 gX3_form_Jx4a65c_size_8abf5 rfl rfl rfl (by decide +kernel) ⟨Nat.le_of_ble_eq_true rfl, Nat.le_of_ble_eq_true rfl⟩) rfl rfl rfl rfl dX3_form_107, ?_⟩
  refine List.forall_mem_cons.mpr ⟨xs_iret X hr hlocks dX3_form_110, ?_⟩
  exact fun _ h => nomatch h
set_option maxRecDepth 100000 in
set_option maxHeartbeats 4000000 in
theorem mpX3_boutsIn (l : Launch) (D : va_G) (Y : xw_Y) : xw_MP l D vwCl (xw_ty Y) Y.1 yX3_boutsIn wsX3_boutsIn ({ frames := 3, cells := 0, slots := 0, locals := 64 } : Room) (ptX3_boutsIn Y) 0 0 := by
  refine xw_met (cc := cX3_boutsIn) (nL := 4) (ret := (some .int)) (by decide +kernel) rfl ?_
  intro p e s m args below meth c w0 post X hr hlocks hname
  unfold tbX3_boutsIn
  refine List.forall_mem_cons.mpr ⟨xs_iconst X dX3_boutsIn_0 rfl, ?_⟩
  refine List.forall_mem_cons.mpr ⟨xs_istore_n X dX3_boutsIn_1 rfl (Nat.le_of_ble_eq_true rfl), ?_⟩
  refine List.forall_mem_cons.mpr ⟨xs_iconst X dX3_boutsIn_2 rfl, ?_⟩
  refine List.forall_mem_cons.mpr ⟨xs_istore_n X dX3_boutsIn_3 rfl (Nat.le_of_ble_eq_true rfl), ?_⟩
  refine List.forall_mem_cons.mpr ⟨xs_iload_n X dX3_boutsIn_4 rfl, ?_⟩
  refine List.forall_mem_cons.mpr ⟨xs_aload_n X dX3_boutsIn_5 rfl, ?_⟩
  refine List.forall_mem_cons.mpr ⟨xs_getf (C := RX3) (T := TX3) (N := 10) (ci := 4) (kf := 1) X (fun w h => List.mem_cons_of_mem _ (List.mem_append_left _ (List.mem_append_left _ (List.mem_append_right _ h)))) rfl (by decide) (List.mem_of_getElem? (i := 1) rfl) (fun _ h => h) dX3_boutsIn_6, ?_⟩
  refine List.forall_mem_cons.mpr ⟨xs_callV (ci := 0) X (mpJx4a65c_size_8abf5 l D Y) (cwV 0 X.1.2.2.2.2 gX3_boutsIn_Jx4a65c_size_8abf5 rfl rfl rfl (by decide +kernel) ⟨Nat.le_of_ble_eq_true rfl, Nat.le_of_ble_eq_true rfl⟩) rfl rfl rfl rfl dX3_boutsIn_9, ?_⟩
  refine List.forall_mem_cons.mpr ⟨xs_icmpge (tg := 42) X dX3_boutsIn_12 rfl, ?_⟩
  refine List.forall_mem_cons.mpr ⟨xs_aload_n X dX3_boutsIn_15 rfl, ?_⟩
  refine List.forall_mem_cons.mpr ⟨xs_getf (C := RX3) (T := TX3) (N := 10) (ci := 4) (kf := 1) X (fun w h => List.mem_cons_of_mem _ (List.mem_append_left _ (List.mem_append_left _ (List.mem_append_right _ h)))) rfl (by decide) (List.mem_of_getElem? (i := 1) rfl) (fun _ h => h) dX3_boutsIn_16, ?_⟩
  refine List.forall_mem_cons.mpr ⟨xs_iload_n X dX3_boutsIn_19 rfl, ?_⟩
  refine List.forall_mem_cons.mpr ⟨xs_callV (ci := 0) X (mpJx4a65c_get_915e3 l D Y) (cwV 1 X.1.2.2.2.2 gX3_boutsIn_Jx4a65c_get_915e3 rfl rfl rfl (by decide +kernel) ⟨Nat.le_of_ble_eq_true rfl, Nat.le_of_ble_eq_true rfl⟩) rfl rfl rfl rfl dX3_boutsIn_20, ?_⟩
  refine List.forall_mem_cons.mpr ⟨xs_cast (C := RX0) (T := TX0) (N := 9) (ci := 1) X rfl (List.mem_of_getElem? (i := 2) rfl) dX3_boutsIn_23, ?_⟩
  refine List.forall_mem_cons.mpr ⟨xs_getf (C := RX0) (T := TX0) (N := 9) (ci := 1) (kf := 4) X (fun w h => List.mem_cons_of_mem _ (List.mem_append_left _ (List.mem_append_right _ h))) rfl (by decide) (List.mem_of_getElem? (i := 3) rfl) (fun _ h => h) dX3_boutsIn_26, ?_⟩
  refine List.forall_mem_cons.mpr ⟨xs_iload_n X dX3_boutsIn_29 rfl, ?_⟩
  refine List.forall_mem_cons.mpr ⟨xs_icmpne (tg := 36) X dX3_boutsIn_30 rfl, ?_⟩
  refine List.forall_mem_cons.mpr ⟨xs_iinc X dX3_boutsIn_33 rfl (Nat.le_of_ble_eq_true rfl), ?_⟩
  refine List.forall_mem_cons.mpr ⟨xs_iinc X dX3_boutsIn_36 rfl (Nat.le_of_ble_eq_true rfl), ?_⟩
  refine List.forall_mem_cons.mpr ⟨xs_goto (tg := 4) X dX3_boutsIn_39 rfl, ?_⟩
  refine List.forall_mem_cons.mpr ⟨xs_iload_n X dX3_boutsIn_42 rfl, ?_⟩
  refine List.forall_mem_cons.mpr ⟨xs_iret X hr hlocks dX3_boutsIn_43, ?_⟩
  exact fun _ h => nomatch h
set_option maxRecDepth 100000 in
set_option maxHeartbeats 4000000 in
theorem mpX3_fencersOut (l : Launch) (D : va_G) (Y : xw_Y) : xw_MP l D vwCl (xw_ty Y) Y.1 yX3_fencersOut wsX3_fencersOut ({ frames := 3, cells := 0, slots := 0, locals := 64 } : Room) (ptX3_fencersOut Y) 0 0 := by
  refine xw_met (cc := cX3_fencersOut) (nL := 3) (ret := (some .int)) (by decide +kernel) rfl ?_
  intro p e s m args below meth c w0 post X hr hlocks hname
  unfold tbX3_fencersOut
  refine List.forall_mem_cons.mpr ⟨xs_iconst X dX3_fencersOut_0 rfl, ?_⟩
  refine List.forall_mem_cons.mpr ⟨xs_istore_n X dX3_fencersOut_1 rfl (Nat.le_of_ble_eq_true rfl), ?_⟩
  refine List.forall_mem_cons.mpr ⟨xs_iconst X dX3_fencersOut_2 rfl, ?_⟩
  refine List.forall_mem_cons.mpr ⟨xs_istore_n X dX3_fencersOut_3 rfl (Nat.le_of_ble_eq_true rfl), ?_⟩
  refine List.forall_mem_cons.mpr ⟨xs_iload_n X dX3_fencersOut_4 rfl, ?_⟩
  refine List.forall_mem_cons.mpr ⟨xs_aload_n X dX3_fencersOut_5 rfl, ?_⟩
  refine List.forall_mem_cons.mpr ⟨xs_getf (C := RX3) (T := TX3) (N := 10) (ci := 4) (kf := 0) X (fun w h => List.mem_cons_of_mem _ (List.mem_append_left _ (List.mem_append_left _ (List.mem_append_right _ h)))) rfl (by decide) (List.mem_of_getElem? (i := 1) rfl) (fun _ h => h) dX3_fencersOut_6, ?_⟩
  refine List.forall_mem_cons.mpr ⟨xs_callV (ci := 0) X (mpJx4a65c_size_8abf5 l D Y) (cwV 0 X.1.2.2.2.2 gX3_fencersOut_Jx4a65c_size_8abf5 rfl rfl rfl (by decide +kernel) ⟨Nat.le_of_ble_eq_true rfl, Nat.le_of_ble_eq_true rfl⟩) rfl rfl rfl rfl dX3_fencersOut_9, ?_⟩
  refine List.forall_mem_cons.mpr ⟨xs_icmpge (tg := 41) X dX3_fencersOut_12 rfl, ?_⟩
  refine List.forall_mem_cons.mpr ⟨xs_aload_n X dX3_fencersOut_15 rfl, ?_⟩
  refine List.forall_mem_cons.mpr ⟨xs_getf (C := RX3) (T := TX3) (N := 10) (ci := 4) (kf := 0) X (fun w h => List.mem_cons_of_mem _ (List.mem_append_left _ (List.mem_append_left _ (List.mem_append_right _ h)))) rfl (by decide) (List.mem_of_getElem? (i := 1) rfl) (fun _ h => h) dX3_fencersOut_16, ?_⟩
  refine List.forall_mem_cons.mpr ⟨xs_iload_n X dX3_fencersOut_19 rfl, ?_⟩
  refine List.forall_mem_cons.mpr ⟨xs_callV (ci := 0) X (mpJx4a65c_get_915e3 l D Y) (cwV 1 X.1.2.2.2.2 gX3_fencersOut_Jx4a65c_get_915e3 rfl rfl rfl (by decide +kernel) ⟨Nat.le_of_ble_eq_true rfl, Nat.le_of_ble_eq_true rfl⟩) rfl rfl rfl rfl dX3_fencersOut_20, ?_⟩
  refine List.forall_mem_cons.mpr ⟨xs_cast (C := RX1) (T := TX1) (N := 14) (ci := 2) X rfl (List.mem_of_getElem? (i := 2) rfl) dX3_fencersOut_23, ?_⟩
  refine List.forall_mem_cons.mpr ⟨xs_getf (C := RX1) (T := TX1) (N := 14) (ci := 2) (kf := 5) X (fun w h => List.mem_cons_of_mem _ (List.mem_append_left _ (List.mem_append_right _ h))) rfl (by decide) (List.mem_of_getElem? (i := 3) rfl) (fun _ h => h) dX3_fencersOut_26, ?_⟩
  refine List.forall_mem_cons.mpr ⟨xs_ifeq (tg := 35) X dX3_fencersOut_29 rfl, ?_⟩
  refine List.forall_mem_cons.mpr ⟨xs_iinc X dX3_fencersOut_32 rfl (Nat.le_of_ble_eq_true rfl), ?_⟩
  refine List.forall_mem_cons.mpr ⟨xs_iinc X dX3_fencersOut_35 rfl (Nat.le_of_ble_eq_true rfl), ?_⟩
  refine List.forall_mem_cons.mpr ⟨xs_goto (tg := 4) X dX3_fencersOut_38 rfl, ?_⟩
  refine List.forall_mem_cons.mpr ⟨xs_iload_n X dX3_fencersOut_41 rfl, ?_⟩
  refine List.forall_mem_cons.mpr ⟨xs_iret X hr hlocks dX3_fencersOut_42, ?_⟩
  exact fun _ h => nomatch h
set_option maxRecDepth 100000 in
set_option maxHeartbeats 4000000 in
theorem mpX3_winnerOfTable (l : Launch) (D : va_G) (Y : xw_Y) : xw_MP l D vwCl (xw_ty Y) Y.1 yX3_winnerOfTable wsX3_winnerOfTable ({ frames := 3, cells := 0, slots := 0, locals := 64 } : Room) (ptX3_winnerOfTable Y) 0 0 := by
  refine xw_met (cc := cX3_winnerOfTable) (nL := 2) (ret := (some (.object "Pommel$Fencer"))) (by decide +kernel) rfl ?_
  intro p e s m args below meth c w0 post X hr hlocks hname
  unfold tbX3_winnerOfTable
  refine List.forall_mem_cons.mpr ⟨xs_aload_n X dX3_winnerOfTable_0 rfl, ?_⟩
  refine List.forall_mem_cons.mpr ⟨xs_getf (C := RX3) (T := TX3) (N := 10) (ci := 4) (kf := 1) X (fun w h => List.mem_cons_of_mem _ (List.mem_append_left _ (List.mem_append_left _ (List.mem_append_right _ h)))) rfl (by decide) (List.mem_of_getElem? (i := 1) rfl) (fun _ h => h) dX3_winnerOfTable_1, ?_⟩
  refine List.forall_mem_cons.mpr ⟨xs_callV (ci := 0) X (mpJx4a65c_size_8abf5 l D Y) (cwV 0 X.1.2.2.2.2 gX3_winnerOfTable_Jx4a65c_size_8abf5 rfl rfl rfl (by decide +kernel) ⟨Nat.le_of_ble_eq_true rfl, Nat.le_of_ble_eq_true rfl⟩) rfl rfl rfl rfl dX3_winnerOfTable_4, ?_⟩
  refine List.forall_mem_cons.mpr ⟨xs_iconst X dX3_winnerOfTable_7 rfl, ?_⟩
  refine List.forall_mem_cons.mpr ⟨xs_isub X dX3_winnerOfTable_8, ?_⟩
  refine List.forall_mem_cons.mpr ⟨xs_istore_n X dX3_winnerOfTable_9 rfl (Nat.le_of_ble_eq_true rfl), ?_⟩
  refine List.forall_mem_cons.mpr ⟨xs_aload_n X dX3_winnerOfTable_10 rfl, ?_⟩
  refine List.forall_mem_cons.mpr ⟨xs_getf (C := RX3) (T := TX3) (N := 10) (ci := 4) (kf := 8) X (fun w h => List.mem_cons_of_mem _ (List.mem_append_left _ (List.mem_append_left _ (List.mem_append_right _ h)))) rfl (by decide) (List.mem_of_getElem? (i := 2) rfl) (fun _ h => h) dX3_winnerOfTable_11, ?_⟩
  refine List.forall_mem_cons.mpr ⟨xs_ifeq (tg := 21) X dX3_winnerOfTable_14 rfl, ?_⟩
  refine List.forall_mem_cons.mpr ⟨xs_iload_n X dX3_winnerOfTable_17 rfl, ?_⟩
  refine List.forall_mem_cons.mpr ⟨xs_ifge (tg := 25) X dX3_winnerOfTable_18 rfl, ?_⟩
  refine List.forall_mem_cons.mpr ⟨xs_null X dX3_winnerOfTable_21, ?_⟩
  refine List.forall_mem_cons.mpr ⟨xs_goto (tg := 39) X dX3_winnerOfTable_22 rfl, ?_⟩
  refine List.forall_mem_cons.mpr ⟨xs_aload_n X dX3_winnerOfTable_25 rfl, ?_⟩
  refine List.forall_mem_cons.mpr ⟨xs_getf (C := RX3) (T := TX3) (N := 10) (ci := 4) (kf := 1) X (fun w h => List.mem_cons_of_mem _ (List.mem_append_left _ (List.mem_append_left _ (List.mem_append_right _ h)))) rfl (by decide) (List.mem_of_getElem? (i := 1) rfl) (fun _ h => h) dX3_winnerOfTable_26, ?_⟩
  refine List.forall_mem_cons.mpr ⟨xs_iload_n X dX3_winnerOfTable_29 rfl, ?_⟩
  refine List.forall_mem_cons.mpr ⟨xs_callV (ci := 0) X (mpJx4a65c_get_915e3 l D Y) (cwV 1 X.1.2.2.2.2 gX3_winnerOfTable_Jx4a65c_get_915e3 rfl rfl rfl (by decide +kernel) ⟨Nat.le_of_ble_eq_true rfl, Nat.le_of_ble_eq_true rfl⟩) rfl rfl rfl rfl dX3_winnerOfTable_30, ?_⟩
  refine List.forall_mem_cons.mpr ⟨xs_cast (C := RX0) (T := TX0) (N := 9) (ci := 1) X rfl (List.mem_of_getElem? (i := 3) rfl) dX3_winnerOfTable_33, ?_⟩
  refine List.forall_mem_cons.mpr ⟨xs_getf (C := RX0) (T := TX0) (N := 9) (ci := 1) (kf := 5) X (fun w h => List.mem_cons_of_mem _ (List.mem_append_left _ (List.mem_append_right _ h))) rfl (by decide) (List.mem_of_getElem? (i := 4) rfl) (fun _ h => h) dX3_winnerOfTable_36, ?_⟩
  refine List.forall_mem_cons.mpr ⟨xs_aret X hr (Or.inl ⟨_, rfl⟩) hlocks dX3_winnerOfTable_39, ?_⟩
  exact fun _ h => nomatch h
set_option maxRecDepth 100000 in
set_option maxHeartbeats 4000000 in
theorem mpX3_numberOf (l : Launch) (D : va_G) (Y : xw_Y) : xw_MP l D vwCl (xw_ty Y) Y.1 yX3_numberOf wsX3_numberOf ({ frames := 0, cells := 0, slots := 0, locals := 0 } : Room) (ptX3_numberOf Y) 0 0 := by
  refine xw_met (cc := cX3_numberOf) (nL := 1) (ret := (some .int)) (by decide +kernel) rfl ?_
  intro p e s m args below meth c w0 post X hr hlocks hname
  unfold tbX3_numberOf
  refine List.forall_mem_cons.mpr ⟨xs_aload_n X dX3_numberOf_0 rfl, ?_⟩
  refine List.forall_mem_cons.mpr ⟨xs_ifnonnull (tg := 8) X dX3_numberOf_1 rfl, ?_⟩
  refine List.forall_mem_cons.mpr ⟨xs_iconst X dX3_numberOf_4 rfl, ?_⟩
  refine List.forall_mem_cons.mpr ⟨xs_goto (tg := 12) X dX3_numberOf_5 rfl, ?_⟩
  refine List.forall_mem_cons.mpr ⟨xs_aload_n X dX3_numberOf_8 rfl, ?_⟩
  refine List.forall_mem_cons.mpr ⟨xs_getf (C := RX1) (T := TX1) (N := 14) (ci := 2) (kf := 0) X (fun w h => List.mem_cons_of_mem _ (List.mem_append_right _ h)) rfl (by decide) (List.mem_of_getElem? (i := 1) rfl) (fun _ h => h) dX3_numberOf_9, ?_⟩
  refine List.forall_mem_cons.mpr ⟨xs_iret X hr hlocks dX3_numberOf_12, ?_⟩
  exact fun _ h => nomatch h
set_option maxRecDepth 100000 in
set_option maxHeartbeats 4000000 in
theorem mpX3_many (l : Launch) (D : va_G) (Y : xw_Y) : xw_MP l D vwCl (xw_ty Y) Y.1 yX3_many wsX3_many ({ frames := 4, cells := 0, slots := 0, locals := 87 } : Room) (ptX3_many Y) 0 0 := by
  refine xw_met (cc := cX3_many) (nL := 2) (ret := (some .int)) (by decide +kernel) rfl ?_
  intro p e s m args below meth c w0 post X hr hlocks hname
  unfold tbX3_many
  refine List.forall_mem_cons.mpr ⟨xs_iload_n X dX3_many_0 rfl, ?_⟩
  refine List.forall_mem_cons.mpr ⟨xs_sw X dX3_many_1 rfl (by decide) rfl (fun j t h => by
      match j, h with
      | 0, h => cases h; exact ⟨_, rfl, rfl⟩
      | 1, h => cases h; exact ⟨_, rfl, rfl⟩
      | 2, h => cases h; exact ⟨_, rfl, rfl⟩
      | 3, h => cases h; exact ⟨_, rfl, rfl⟩
      | 4, h => cases h; exact ⟨_, rfl, rfl⟩
      | 5, h => cases h; exact ⟨_, rfl, rfl⟩
      | 6, h => cases h; exact ⟨_, rfl, rfl⟩
      | 7, h => cases h; exact ⟨_, rfl, rfl⟩
      | 8, h => cases h; exact ⟨_, rfl, rfl⟩
      | 9, h => cases h; exact ⟨_, rfl, rfl⟩
      | 10, h => cases h; exact ⟨_, rfl, rfl⟩
      | n + 11, h => exact absurd h (by simp)), ?_⟩
  refine List.forall_mem_cons.mpr ⟨xs_aload_n X dX3_many_60 rfl, ?_⟩
  refine List.forall_mem_cons.mpr ⟨xs_getf (C := RX3) (T := TX3) (N := 10) (ci := 4) (kf := 0) X (fun w h => List.mem_cons_of_mem _ (List.mem_append_left _ (List.mem_append_left _ (List.mem_append_left _ (List.mem_append_left _ (List.mem_append_right _ h)))))) rfl (by decide) (List.mem_of_getElem? (i := 3) rfl) (fun _ h => h) dX3_many_61, ?_⟩
  refine List.forall_mem_cons.mpr ⟨xs_callV (ci := 0) X (mpJx4a65c_size_8abf5 l D Y) (cwV 0 X.1.2.2.2.2 gX3_many_Jx4a65c_size_8abf5 rfl rfl rfl (by decide +kernel) ⟨Nat.le_of_ble_eq_true rfl, Nat.le_of_ble_eq_true rfl⟩) rfl rfl rfl rfl dX3_many_64, ?_⟩
  refine List.forall_mem_cons.mpr ⟨xs_iret X hr hlocks dX3_many_67, ?_⟩
  refine List.forall_mem_cons.mpr ⟨xs_aload_n X dX3_many_68 rfl, ?_⟩
  refine List.forall_mem_cons.mpr ⟨xs_getf (C := RX3) (T := TX3) (N := 10) (ci := 4) (kf := 6) X (fun w h => List.mem_cons_of_mem _ (List.mem_append_left _ (List.mem_append_left _ (List.mem_append_left _ (List.mem_append_left _ (List.mem_append_right _ h)))))) rfl (by decide) (List.mem_of_getElem? (i := 4) rfl) (fun _ h => h) dX3_many_69, ?_⟩
  refine List.forall_mem_cons.mpr ⟨xs_iret X hr hlocks dX3_many_72, ?_⟩
  refine List.forall_mem_cons.mpr ⟨xs_aload_n X dX3_many_73 rfl, ?_⟩
  refine List.forall_mem_cons.mpr ⟨xs_getf (C := RX3) (T := TX3) (N := 10) (ci := 4) (kf := 1) X (fun w h => List.mem_cons_of_mem _ (List.mem_append_left _ (List.mem_append_left _ (List.mem_append_left _ (List.mem_append_left _ (List.mem_append_right _ h)))))) rfl (by decide) (List.mem_of_getElem? (i := 5) rfl) (fun _ h => h) dX3_many_74, ?_⟩
  refine List.forall_mem_cons.mpr ⟨xs_callV (ci := 0) X (mpJx4a65c_size_8abf5 l D Y) (cwV 0 X.1.2.2.2.2 gX3_many_Jx4a65c_size_8abf5 rfl rfl rfl (by decide +kernel) ⟨Nat.le_of_ble_eq_true rfl, Nat.le_of_ble_eq_true rfl⟩) rfl rfl rfl rfl dX3_many_77, ?_⟩
  refine List.forall_mem_cons.mpr ⟨xs_iret X hr hlocks dX3_many_80, ?_⟩
  refine List.forall_mem_cons.mpr ⟨xs_aload_n X dX3_many_81 rfl, ?_⟩
  refine List.forall_mem_cons.mpr ⟨xs_iconst X dX3_many_82 rfl, ?_⟩
  refine List.forall_mem_cons.mpr ⟨xs_callV (ci := 4) X (mpX3_boutsIn l D Y) (cwV 1 X.1.2.2.2.2 gX3_many_X3_boutsIn rfl rfl rfl (by decide +kernel) ⟨Nat.le_of_ble_eq_true rfl, Nat.le_of_ble_eq_true rfl⟩) rfl rfl rfl rfl dX3_many_83, ?_⟩
  refine List.forall_mem_cons.mpr ⟨xs_iret X hr hlocks dX3_many_86, ?_⟩
  refine List.forall_mem_cons.mpr ⟨xs_aload_n X dX3_many_87 rfl, ?_⟩
  refine List.forall_mem_cons.mpr ⟨xs_iconst X dX3_many_88 rfl, ?_⟩
  refine List.forall_mem_cons.mpr ⟨xs_callV (ci := 4) X (mpX3_boutsIn l D Y) (cwV 1 X.1.2.2.2.2 gX3_many_X3_boutsIn rfl rfl rfl (by decide +kernel) ⟨Nat.le_of_ble_eq_true rfl, Nat.le_of_ble_eq_true rfl⟩) rfl rfl rfl rfl dX3_many_89, ?_⟩
  refine List.forall_mem_cons.mpr ⟨xs_iret X hr hlocks dX3_many_92, ?_⟩
  refine List.forall_mem_cons.mpr ⟨xs_aload_n X dX3_many_93 rfl, ?_⟩
  refine List.forall_mem_cons.mpr ⟨xs_iconst X dX3_many_94 rfl, ?_⟩
  refine List.forall_mem_cons.mpr ⟨xs_callV (ci := 4) X (mpX3_boutsIn l D Y) (cwV 1 X.1.2.2.2.2 gX3_many_X3_boutsIn rfl rfl rfl (by decide +kernel) ⟨Nat.le_of_ble_eq_true rfl, Nat.le_of_ble_eq_true rfl⟩) rfl rfl rfl rfl dX3_many_95, ?_⟩
  refine List.forall_mem_cons.mpr ⟨xs_iret X hr hlocks dX3_many_98, ?_⟩
  refine List.forall_mem_cons.mpr ⟨xs_aload_n X dX3_many_99 rfl, ?_⟩
  refine List.forall_mem_cons.mpr ⟨xs_iconst X dX3_many_100 rfl, ?_⟩
  refine List.forall_mem_cons.mpr ⟨xs_callV (ci := 4) X (mpX3_boutsIn l D Y) (cwV 1 X.1.2.2.2.2 gX3_many_X3_boutsIn rfl rfl rfl (by decide +kernel) ⟨Nat.le_of_ble_eq_true rfl, Nat.le_of_ble_eq_true rfl⟩) rfl rfl rfl rfl dX3_many_101, ?_⟩
  refine List.forall_mem_cons.mpr ⟨xs_iret X hr hlocks dX3_many_104, ?_⟩
  refine List.forall_mem_cons.mpr ⟨xs_aload_n X dX3_many_105 rfl, ?_⟩
  refine List.forall_mem_cons.mpr ⟨xs_getf (C := RX3) (T := TX3) (N := 10) (ci := 4) (kf := 7) X (fun w h => List.mem_cons_of_mem _ (List.mem_append_left _ (List.mem_append_left _ (List.mem_append_left _ (List.mem_append_left _ (List.mem_append_right _ h)))))) rfl (by decide) (List.mem_of_getElem? (i := 6) rfl) (fun _ h => h) dX3_many_106, ?_⟩
  refine List.forall_mem_cons.mpr ⟨xs_iret X hr hlocks dX3_many_109, ?_⟩
  refine List.forall_mem_cons.mpr ⟨xs_aload_n X dX3_many_110 rfl, ?_⟩
  refine List.forall_mem_cons.mpr ⟨xs_callV (ci := 4) X (mpX3_fencersOut l D Y) (cwV 0 X.1.2.2.2.2 gX3_many_X3_fencersOut rfl rfl rfl (by decide +kernel) ⟨Nat.le_of_ble_eq_true rfl, Nat.le_of_ble_eq_true rfl⟩) rfl rfl rfl rfl dX3_many_111, ?_⟩
  refine List.forall_mem_cons.mpr ⟨xs_iret X hr hlocks dX3_many_114, ?_⟩
  refine List.forall_mem_cons.mpr ⟨xs_aload_n X dX3_many_115 rfl, ?_⟩
  refine List.forall_mem_cons.mpr ⟨xs_getf (C := RX3) (T := TX3) (N := 10) (ci := 4) (kf := 8) X (fun w h => List.mem_cons_of_mem _ (List.mem_append_left _ (List.mem_append_left _ (List.mem_append_left _ (List.mem_append_left _ (List.mem_append_right _ h)))))) rfl (by decide) (List.mem_of_getElem? (i := 7) rfl) (fun _ h => h) dX3_many_116, ?_⟩
  refine List.forall_mem_cons.mpr ⟨xs_iret X hr hlocks dX3_many_119, ?_⟩
  refine List.forall_mem_cons.mpr ⟨xs_aload_n X dX3_many_120 rfl, ?_⟩
  refine List.forall_mem_cons.mpr ⟨xs_callV (ci := 4) X (mpX3_winnerOfTable l D Y) (cwV 0 X.1.2.2.2.2 gX3_many_X3_winnerOfTable rfl rfl rfl (by decide +kernel) ⟨Nat.le_of_ble_eq_true rfl, Nat.le_of_ble_eq_true rfl⟩) rfl rfl rfl rfl dX3_many_121, ?_⟩
  refine List.forall_mem_cons.mpr ⟨xs_callS X (mpX3_numberOf l D Y) (va_cwS 1 X.1.2.2.2.2 gX3_many_X3_numberOf rfl rfl rfl (by decide +kernel) ⟨Nat.le_of_ble_eq_true rfl, Nat.le_of_ble_eq_true rfl⟩) rfl rfl dX3_many_124, ?_⟩
  refine List.forall_mem_cons.mpr ⟨xs_iret X hr hlocks dX3_many_127, ?_⟩
  exact fun _ h => nomatch h
set_option maxRecDepth 100000 in
set_option maxHeartbeats 4000000 in
theorem mpX3_boutAt (l : Launch) (D : va_G) (Y : xw_Y) : xw_MP l D vwCl (xw_ty Y) Y.1 yX3_boutAt wsX3_boutAt ({ frames := 3, cells := 0, slots := 0, locals := 64 } : Room) (ptX3_boutAt Y) 0 0 := by
  refine xw_met (cc := cX3_boutAt) (nL := 2) (ret := (some (.object "Pommel$Bout"))) (by decide +kernel) rfl ?_
  intro p e s m args below meth c w0 post X hr hlocks hname
  unfold tbX3_boutAt
  refine List.forall_mem_cons.mpr ⟨xs_iload_n X dX3_boutAt_0 rfl, ?_⟩
  refine List.forall_mem_cons.mpr ⟨xs_iconst X dX3_boutAt_1 rfl, ?_⟩
  refine List.forall_mem_cons.mpr ⟨xs_aload_n X dX3_boutAt_2 rfl, ?_⟩
  refine List.forall_mem_cons.mpr ⟨xs_getf (C := RX3) (T := TX3) (N := 10) (ci := 4) (kf := 1) X (fun w h => List.mem_cons_of_mem _ (List.mem_append_left _ (List.mem_append_left _ (List.mem_append_right _ h)))) rfl (by decide) (List.mem_of_getElem? (i := 3) rfl) (fun _ h => h) dX3_boutAt_3, ?_⟩
  refine List.forall_mem_cons.mpr ⟨xs_callV (ci := 0) X (mpJx4a65c_size_8abf5 l D Y) (cwV 0 X.1.2.2.2.2 gX3_boutAt_Jx4a65c_size_8abf5 rfl rfl rfl (by decide +kernel) ⟨Nat.le_of_ble_eq_true rfl, Nat.le_of_ble_eq_true rfl⟩) rfl rfl rfl rfl dX3_boutAt_6, ?_⟩
  refine List.forall_mem_cons.mpr ⟨xs_iconst X dX3_boutAt_9 rfl, ?_⟩
  refine List.forall_mem_cons.mpr ⟨xs_isub X dX3_boutAt_10, ?_⟩
  refine List.forall_mem_cons.mpr ⟨xs_callS X (mpX3_isIn l D Y) (va_cwS 3 X.1.2.2.2.2 gX3_boutAt_X3_isIn rfl rfl rfl (by decide +kernel) ⟨Nat.le_of_ble_eq_true rfl, Nat.le_of_ble_eq_true rfl⟩) rfl rfl dX3_boutAt_11, ?_⟩
  refine List.forall_mem_cons.mpr ⟨xs_ifne (tg := 28) X dX3_boutAt_14 rfl, ?_⟩
  refine List.forall_mem_cons.mpr ⟨xs_aload_n X dX3_boutAt_28 rfl, ?_⟩
  refine List.forall_mem_cons.mpr ⟨xs_getf (C := RX3) (T := TX3) (N := 10) (ci := 4) (kf := 1) X (fun w h => List.mem_cons_of_mem _ (List.mem_append_left _ (List.mem_append_left _ (List.mem_append_right _ h)))) rfl (by decide) (List.mem_of_getElem? (i := 3) rfl) (fun _ h => h) dX3_boutAt_29, ?_⟩
  refine List.forall_mem_cons.mpr ⟨xs_iload_n X dX3_boutAt_32 rfl, ?_⟩
  refine List.forall_mem_cons.mpr ⟨xs_callV (ci := 0) X (mpJx4a65c_get_915e3 l D Y) (cwV 1 X.1.2.2.2.2 gX3_boutAt_Jx4a65c_get_915e3 rfl rfl rfl (by decide +kernel) ⟨Nat.le_of_ble_eq_true rfl, Nat.le_of_ble_eq_true rfl⟩) rfl rfl rfl rfl dX3_boutAt_33, ?_⟩
  refine List.forall_mem_cons.mpr ⟨xs_cast (C := RX0) (T := TX0) (N := 9) (ci := 1) X rfl (List.mem_of_getElem? (i := 4) rfl) dX3_boutAt_36, ?_⟩
  refine List.forall_mem_cons.mpr ⟨xs_aret X hr (Or.inl ⟨_, rfl⟩) hlocks dX3_boutAt_39, ?_⟩
  exact fun _ h => nomatch h
set_option maxRecDepth 100000 in
set_option maxHeartbeats 4000000 in
theorem mpX0_isOfTable (l : Launch) (D : va_G) (Y : xw_Y) : xw_MP l D vwCl (xw_ty Y) Y.1 yX0_isOfTable wsX0_isOfTable ({ frames := 0, cells := 0, slots := 0, locals := 0 } : Room) (ptX0_isOfTable Y) 0 0 := by
  refine xw_met (cc := cX0_isOfTable) (nL := 1) (ret := (some .boolean)) (by decide +kernel) rfl ?_
  intro p e s m args below meth c w0 post X hr hlocks hname
  unfold tbX0_isOfTable
  refine List.forall_mem_cons.mpr ⟨xs_aload_n X dX0_isOfTable_0 rfl, ?_⟩
  refine List.forall_mem_cons.mpr ⟨xs_getf (C := RX0) (T := TX0) (N := 9) (ci := 1) (kf := 1) X (fun w h => List.mem_cons_of_mem _ (List.mem_append_right _ h)) rfl (by decide) (List.mem_of_getElem? (i := 1) rfl) (fun _ h => h) dX0_isOfTable_1, ?_⟩
  refine List.forall_mem_cons.mpr ⟨xs_iconst X dX0_isOfTable_4 rfl, ?_⟩
  refine List.forall_mem_cons.mpr ⟨xs_icmpeq (tg := 12) X dX0_isOfTable_5 rfl, ?_⟩
  refine List.forall_mem_cons.mpr ⟨xs_iconst X dX0_isOfTable_8 rfl, ?_⟩
  refine List.forall_mem_cons.mpr ⟨xs_goto (tg := 13) X dX0_isOfTable_9 rfl, ?_⟩
  refine List.forall_mem_cons.mpr ⟨xs_iconst X dX0_isOfTable_12 rfl, ?_⟩
  refine List.forall_mem_cons.mpr ⟨xs_iret X hr hlocks dX0_isOfTable_13, ?_⟩
  exact fun _ h => nomatch h
set_option maxRecDepth 100000 in
set_option maxHeartbeats 4000000 in
theorem mpX0_periods (l : Launch) (D : va_G) (Y : xw_Y) : xw_MP l D vwCl (xw_ty Y) Y.1 yX0_periods wsX0_periods ({ frames := 1, cells := 0, slots := 0, locals := 20 } : Room) (ptX0_periods Y) 0 0 := by
  refine xw_met (cc := cX0_periods) (nL := 1) (ret := (some .int)) (by decide +kernel) rfl ?_
  intro p e s m args below meth c w0 post X hr hlocks hname
  unfold tbX0_periods
  refine List.forall_mem_cons.mpr ⟨xs_aload_n X dX0_periods_0 rfl, ?_⟩
  refine List.forall_mem_cons.mpr ⟨xs_callV (ci := 1) X (mpX0_isOfTable l D Y) (cwV 0 X.1.2.2.2.2 gX0_periods_X0_isOfTable rfl rfl rfl (by decide +kernel) ⟨Nat.le_of_ble_eq_true rfl, Nat.le_of_ble_eq_true rfl⟩) rfl rfl rfl rfl dX0_periods_1, ?_⟩
  refine List.forall_mem_cons.mpr ⟨xs_ifeq (tg := 11) X dX0_periods_4 rfl, ?_⟩
  refine List.forall_mem_cons.mpr ⟨xs_iconst X dX0_periods_7 rfl, ?_⟩
  refine List.forall_mem_cons.mpr ⟨xs_goto (tg := 12) X dX0_periods_8 rfl, ?_⟩
  refine List.forall_mem_cons.mpr ⟨xs_iconst X dX0_periods_11 rfl, ?_⟩
  refine List.forall_mem_cons.mpr ⟨xs_iret X hr hlocks dX0_periods_12, ?_⟩
  exact fun _ h => nomatch h
set_option maxRecDepth 100000 in
set_option maxHeartbeats 4000000 in
theorem mpX0_isInExtra (l : Launch) (D : va_G) (Y : xw_Y) : xw_MP l D vwCl (xw_ty Y) Y.1 yX0_isInExtra wsX0_isInExtra ({ frames := 2, cells := 0, slots := 0, locals := 40 } : Room) (ptX0_isInExtra Y) 0 0 := by
  refine xw_met (cc := cX0_isInExtra) (nL := 1) (ret := (some .boolean)) (by decide +kernel) rfl ?_
  intro p e s m args below meth c w0 post X hr hlocks hname
  unfold tbX0_isInExtra
  refine List.forall_mem_cons.mpr ⟨xs_aload_n X dX0_isInExtra_0 rfl, ?_⟩
  refine List.forall_mem_cons.mpr ⟨xs_getf (C := RX0) (T := TX0) (N := 9) (ci := 1) (kf := 7) X (fun w h => List.mem_cons_of_mem _ (List.mem_append_right _ h)) rfl (by decide) (List.mem_of_getElem? (i := 1) rfl) (fun _ h => h) dX0_isInExtra_1, ?_⟩
  refine List.forall_mem_cons.mpr ⟨xs_aload_n X dX0_isInExtra_4 rfl, ?_⟩
  refine List.forall_mem_cons.mpr ⟨xs_callV (ci := 1) X (mpX0_periods l D Y) (cwV 0 X.1.2.2.2.2 gX0_isInExtra_X0_periods rfl rfl rfl (by decide +kernel) ⟨Nat.le_of_ble_eq_true rfl, Nat.le_of_ble_eq_true rfl⟩) rfl rfl rfl rfl dX0_isInExtra_5, ?_⟩
  refine List.forall_mem_cons.mpr ⟨xs_icmple (tg := 15) X dX0_isInExtra_8 rfl, ?_⟩
  refine List.forall_mem_cons.mpr ⟨xs_iconst X dX0_isInExtra_11 rfl, ?_⟩
  refine List.forall_mem_cons.mpr ⟨xs_goto (tg := 16) X dX0_isInExtra_12 rfl, ?_⟩
  refine List.forall_mem_cons.mpr ⟨xs_iconst X dX0_isInExtra_15 rfl, ?_⟩
  refine List.forall_mem_cons.mpr ⟨xs_iret X hr hlocks dX0_isInExtra_16, ?_⟩
  exact fun _ h => nomatch h
set_option maxRecDepth 100000 in
set_option maxHeartbeats 4000000 in
theorem mpX0_withPriority (l : Launch) (D : va_G) (Y : xw_Y) : xw_MP l D vwCl (xw_ty Y) Y.1 yX0_withPriority wsX0_withPriority ({ frames := 0, cells := 0, slots := 0, locals := 0 } : Room) (ptX0_withPriority Y) 0 0 := by
  refine xw_met (cc := cX0_withPriority) (nL := 1) (ret := (some (.object "Pommel$Side"))) (by decide +kernel) rfl ?_
  intro p e s m args below meth c w0 post X hr hlocks hname
  unfold tbX0_withPriority
  refine List.forall_mem_cons.mpr ⟨xs_aload_n X dX0_withPriority_0 rfl, ?_⟩
  refine List.forall_mem_cons.mpr ⟨xs_getf (C := RX0) (T := TX0) (N := 9) (ci := 1) (kf := 0) X (fun w h => List.mem_cons_of_mem _ (List.mem_append_left _ (List.mem_append_right _ h))) rfl (by decide) (List.mem_of_getElem? (i := 1) rfl) (fun _ h => h) dX0_withPriority_1, ?_⟩
  refine List.forall_mem_cons.mpr ⟨xs_aload_n X dX0_withPriority_4 rfl, ?_⟩
  refine List.forall_mem_cons.mpr ⟨xs_getf (C := RX0) (T := TX0) (N := 9) (ci := 1) (kf := 2) X (fun w h => List.mem_cons_of_mem _ (List.mem_append_left _ (List.mem_append_right _ h))) rfl (by decide) (List.mem_of_getElem? (i := 2) rfl) (fun _ h => h) dX0_withPriority_5, ?_⟩
  refine List.forall_mem_cons.mpr ⟨xs_getf (C := RX2) (T := TX2) (N := 3) (ci := 3) (kf := 1) X (fun w h => List.mem_cons_of_mem _ (List.mem_append_right _ h)) rfl (by decide) (List.mem_of_getElem? (i := 3) rfl) (fun _ h => h) dX0_withPriority_8, ?_⟩
  refine List.forall_mem_cons.mpr ⟨xs_iadd X dX0_withPriority_11, ?_⟩
  refine List.forall_mem_cons.mpr ⟨xs_iconst X dX0_withPriority_12 rfl, ?_⟩
  refine List.forall_mem_cons.mpr ⟨xs_irem X dX0_withPriority_13, ?_⟩
  refine List.forall_mem_cons.mpr ⟨xs_ifne (tg := 24) X dX0_withPriority_14 rfl, ?_⟩
  refine List.forall_mem_cons.mpr ⟨xs_aload_n X dX0_withPriority_17 rfl, ?_⟩
  refine List.forall_mem_cons.mpr ⟨xs_getf (C := RX0) (T := TX0) (N := 9) (ci := 1) (kf := 2) X (fun w h => List.mem_cons_of_mem _ (List.mem_append_left _ (List.mem_append_right _ h))) rfl (by decide) (List.mem_of_getElem? (i := 2) rfl) (fun _ h => h) dX0_withPriority_18, ?_⟩
  refine List.forall_mem_cons.mpr ⟨xs_goto (tg := 28) X dX0_withPriority_21 rfl, ?_⟩
  refine List.forall_mem_cons.mpr ⟨xs_aload_n X dX0_withPriority_24 rfl, ?_⟩
  refine List.forall_mem_cons.mpr ⟨xs_getf (C := RX0) (T := TX0) (N := 9) (ci := 1) (kf := 3) X (fun w h => List.mem_cons_of_mem _ (List.mem_append_left _ (List.mem_append_right _ h))) rfl (by decide) (List.mem_of_getElem? (i := 4) rfl) (fun _ h => h) dX0_withPriority_25, ?_⟩
  refine List.forall_mem_cons.mpr ⟨xs_aret X hr (Or.inl ⟨_, rfl⟩) hlocks dX0_withPriority_28, ?_⟩
  exact fun _ h => nomatch h
set_option maxRecDepth 100000 in
set_option maxHeartbeats 4000000 in
theorem mpX3_ofBout (l : Launch) (D : va_G) (Y : xw_Y) : xw_MP l D vwCl (xw_ty Y) Y.1 yX3_ofBout wsX3_ofBout ({ frames := 4, cells := 0, slots := 0, locals := 85 } : Room) (ptX3_ofBout Y) 0 0 := by
  refine xw_met (cc := cX3_ofBout) (nL := 4) (ret := (some .int)) (by decide +kernel) rfl ?_
  intro p e s m args below meth c w0 post X hr hlocks hname
  unfold tbX3_ofBout
  refine List.forall_mem_cons.mpr ⟨xs_aload_n X dX3_ofBout_0 rfl, ?_⟩
  refine List.forall_mem_cons.mpr ⟨xs_iload_n X dX3_ofBout_1 rfl, ?_⟩
  refine List.forall_mem_cons.mpr ⟨xs_callV (ci := 4) X (mpX3_boutAt l D Y) (cwV 1 X.1.2.2.2.2 gX3_ofBout_X3_boutAt rfl rfl rfl (by decide +kernel) ⟨Nat.le_of_ble_eq_true rfl, Nat.le_of_ble_eq_true rfl⟩) rfl rfl rfl rfl dX3_ofBout_2, ?_⟩
  refine List.forall_mem_cons.mpr ⟨xs_astore_n X dX3_ofBout_5 rfl (Nat.le_of_ble_eq_true rfl), ?_⟩
  refine List.forall_mem_cons.mpr ⟨xs_iload_n X dX3_ofBout_6 rfl, ?_⟩
  refine List.forall_mem_cons.mpr ⟨xs_sw X dX3_ofBout_7 rfl (by decide) rfl (fun j t h => by
      match j, h with
      | 0, h => cases h; exact ⟨_, rfl, rfl⟩
      | 1, h => cases h; exact ⟨_, rfl, rfl⟩
      | 2, h => cases h; exact ⟨_, rfl, rfl⟩
      | 3, h => cases h; exact ⟨_, rfl, rfl⟩
      | 4, h => cases h; exact ⟨_, rfl, rfl⟩
      | 5, h => cases h; exact ⟨_, rfl, rfl⟩
      | 6, h => cases h; exact ⟨_, rfl, rfl⟩
      | 7, h => cases h; exact ⟨_, rfl, rfl⟩
      | 8, h => cases h; exact ⟨_, rfl, rfl⟩
      | 9, h => cases h; exact ⟨_, rfl, rfl⟩
      | 10, h => cases h; exact ⟨_, rfl, rfl⟩
      | 11, h => cases h; exact ⟨_, rfl, rfl⟩
      | n + 12, h => exact absurd h (by simp)), ?_⟩
  refine List.forall_mem_cons.mpr ⟨xs_aload_n X dX3_ofBout_68 rfl, ?_⟩
  refine List.forall_mem_cons.mpr ⟨xs_getf (C := RX0) (T := TX0) (N := 9) (ci := 1) (kf := 4) X (fun w h => List.mem_cons_of_mem _ (List.mem_append_left _ (List.mem_append_left _ (List.mem_append_left _ (List.mem_append_left _ (List.mem_append_left _ (List.mem_append_left _ (List.mem_append_right _ h)))))))) rfl (by decide) (List.mem_of_getElem? (i := 3) rfl) (fun _ h => h) dX3_ofBout_69, ?_⟩
  refine List.forall_mem_cons.mpr ⟨xs_iret X hr hlocks dX3_ofBout_72, ?_⟩
  refine List.forall_mem_cons.mpr ⟨xs_aload_n X dX3_ofBout_73 rfl, ?_⟩
  refine List.forall_mem_cons.mpr ⟨xs_getf (C := RX0) (T := TX0) (N := 9) (ci := 1) (kf := 2) X (fun w h => List.mem_cons_of_mem _ (List.mem_append_left _ (List.mem_append_left _ (List.mem_append_left _ (List.mem_append_left _ (List.mem_append_left _ (List.mem_append_left _ (List.mem_append_right _ h)))))))) rfl (by decide) (List.mem_of_getElem? (i := 4) rfl) (fun _ h => h) dX3_ofBout_74, ?_⟩
  refine List.forall_mem_cons.mpr ⟨xs_getf (C := RX2) (T := TX2) (N := 3) (ci := 3) (kf := 0) X (fun w h => List.mem_cons_of_mem _ (List.mem_append_left _ (List.mem_append_left _ (List.mem_append_left _ (List.mem_append_left _ (List.mem_append_left _ (List.mem_append_right _ h))))))) rfl (by decide) (List.mem_of_getElem? (i := 5) rfl) (fun _ h => h) dX3_ofBout_77, ?_⟩
  refine List.forall_mem_cons.mpr ⟨xs_callS X (mpX3_numberOf l D Y) (va_cwS 1 X.1.2.2.2.2 gX3_ofBout_X3_numberOf rfl rfl rfl (by decide +kernel) ⟨Nat.le_of_ble_eq_true rfl, Nat.le_of_ble_eq_true rfl⟩) rfl rfl dX3_ofBout_80, ?_⟩
  refine List.forall_mem_cons.mpr ⟨xs_iret X hr hlocks dX3_ofBout_83, ?_⟩
  refine List.forall_mem_cons.mpr ⟨xs_aload_n X dX3_ofBout_84 rfl, ?_⟩
  refine List.forall_mem_cons.mpr ⟨xs_getf (C := RX0) (T := TX0) (N := 9) (ci := 1) (kf := 3) X (fun w h => List.mem_cons_of_mem _ (List.mem_append_left _ (List.mem_append_left _ (List.mem_append_left _ (List.mem_append_left _ (List.mem_append_left _ (List.mem_append_left _ (List.mem_append_right _ h)))))))) rfl (by decide) (List.mem_of_getElem? (i := 6) rfl) (fun _ h => h) dX3_ofBout_85, ?_⟩
  refine List.forall_mem_cons.mpr ⟨xs_getf (C := RX2) (T := TX2) (N := 3) (ci := 3) (kf := 0) X (fun w h => List.mem_cons_of_mem _ (List.mem_append_left _ (List.mem_append_left _ (List.mem_append_left _ (List.mem_append_left _ (List.mem_append_left _ (List.mem_append_right _ h))))))) rfl (by decide) (List.mem_of_getElem? (i := 5) rfl) (fun _ h => h) dX3_ofBout_88, ?_⟩
  refine List.forall_mem_cons.mpr ⟨xs_callS X (mpX3_numberOf l D Y) (va_cwS 1 X.1.2.2.2.2 gX3_ofBout_X3_numberOf rfl rfl rfl (by decide +kernel) ⟨Nat.le_of_ble_eq_true rfl, Nat.le_of_ble_eq_true rfl⟩) rfl rfl dX3_ofBout_91, ?_⟩
  refine List.forall_mem_cons.mpr ⟨xs_iret X hr hlocks dX3_ofBout_94, ?_⟩
  refine List.forall_mem_cons.mpr ⟨xs_aload_n X dX3_ofBout_95 rfl, ?_⟩
  refine List.forall_mem_cons.mpr ⟨xs_getf (C := RX0) (T := TX0) (N := 9) (ci := 1) (kf := 2) X (fun w h => List.mem_cons_of_mem _ (List.mem_append_left _ (List.mem_append_left _ (List.mem_append_left _ (List.mem_append_left _ (List.mem_append_left _ (List.mem_append_left _ (List.mem_append_right _ h)))))))) rfl (by decide) (List.mem_of_getElem? (i := 4) rfl) (fun _ h => h) dX3_ofBout_96, ?_⟩
  refine List.forall_mem_cons.mpr ⟨xs_getf (C := RX2) (T := TX2) (N := 3) (ci := 3) (kf := 1) X (fun w h => List.mem_cons_of_mem _ (List.mem_append_left _ (List.mem_append_left _ (List.mem_append_left _ (List.mem_append_left _ (List.mem_append_left _ (List.mem_append_right _ h))))))) rfl (by decide) (List.mem_of_getElem? (i := 7) rfl) (fun _ h => h) dX3_ofBout_99, ?_⟩
  refine List.forall_mem_cons.mpr ⟨xs_iret X hr hlocks dX3_ofBout_102, ?_⟩
  refine List.forall_mem_cons.mpr ⟨xs_aload_n X dX3_ofBout_103 rfl, ?_⟩
  refine List.forall_mem_cons.mpr ⟨xs_getf (C := RX0) (T := TX0) (N := 9) (ci := 1) (kf := 3) X (fun w h => List.mem_cons_of_mem _ (List.mem_append_left _ (List.mem_append_left _ (List.mem_append_left _ (List.mem_append_left _ (List.mem_append_left _ (List.mem_append_left _ (List.mem_append_right _ h)))))))) rfl (by decide) (List.mem_of_getElem? (i := 6) rfl) (fun _ h => h) dX3_ofBout_104, ?_⟩
  refine List.forall_mem_cons.mpr ⟨xs_getf (C := RX2) (T := TX2) (N := 3) (ci := 3) (kf := 1) X (fun w h => List.mem_cons_of_mem _ (List.mem_append_left _ (List.mem_append_left _ (List.mem_append_left _ (List.mem_append_left _ (List.mem_append_left _ (List.mem_append_right _ h))))))) rfl (by decide) (List.mem_of_getElem? (i := 7) rfl) (fun _ h => h) dX3_ofBout_107, ?_⟩
  refine List.forall_mem_cons.mpr ⟨xs_iret X hr hlocks dX3_ofBout_110, ?_⟩
  refine List.forall_mem_cons.mpr ⟨xs_aload_n X dX3_ofBout_111 rfl, ?_⟩
  refine List.forall_mem_cons.mpr ⟨xs_getf (C := RX0) (T := TX0) (N := 9) (ci := 1) (kf := 5) X (fun w h => List.mem_cons_of_mem _ (List.mem_append_left _ (List.mem_append_left _ (List.mem_append_left _ (List.mem_append_left _ (List.mem_append_left _ (List.mem_append_left _ (List.mem_append_right _ h)))))))) rfl (by decide) (List.mem_of_getElem? (i := 8) rfl) (fun _ h => h) dX3_ofBout_112, ?_⟩
  refine List.forall_mem_cons.mpr ⟨xs_callS X (mpX3_numberOf l D Y) (va_cwS 1 X.1.2.2.2.2 gX3_ofBout_X3_numberOf rfl rfl rfl (by decide +kernel) ⟨Nat.le_of_ble_eq_true rfl, Nat.le_of_ble_eq_true rfl⟩) rfl rfl dX3_ofBout_115, ?_⟩
  refine List.forall_mem_cons.mpr ⟨xs_iret X hr hlocks dX3_ofBout_118, ?_⟩
  refine List.forall_mem_cons.mpr ⟨xs_aload_n X dX3_ofBout_119 rfl, ?_⟩
  refine List.forall_mem_cons.mpr ⟨xs_getf (C := RX0) (T := TX0) (N := 9) (ci := 1) (kf := 6) X (fun w h => List.mem_cons_of_mem _ (List.mem_append_left _ (List.mem_append_left _ (List.mem_append_left _ (List.mem_append_left _ (List.mem_append_left _ (List.mem_append_left _ (List.mem_append_right _ h)))))))) rfl (by decide) (List.mem_of_getElem? (i := 9) rfl) (fun _ h => h) dX3_ofBout_120, ?_⟩
  refine List.forall_mem_cons.mpr ⟨xs_iret X hr hlocks dX3_ofBout_123, ?_⟩
  refine List.forall_mem_cons.mpr ⟨xs_aload_n X dX3_ofBout_124 rfl, ?_⟩
  refine List.forall_mem_cons.mpr ⟨xs_getf (C := RX0) (T := TX0) (N := 9) (ci := 1) (kf := 8) X (fun w h => List.mem_cons_of_mem _ (List.mem_append_left _ (List.mem_append_left _ (List.mem_append_left _ (List.mem_append_left _ (List.mem_append_left _ (List.mem_append_left _ (List.mem_append_right _ h)))))))) rfl (by decide) (List.mem_of_getElem? (i := 10) rfl) (fun _ h => h) dX3_ofBout_125, ?_⟩
  refine List.forall_mem_cons.mpr ⟨xs_iret X hr hlocks dX3_ofBout_128, ?_⟩
  refine List.forall_mem_cons.mpr ⟨xs_aload_n X dX3_ofBout_129 rfl, ?_⟩
  refine List.forall_mem_cons.mpr ⟨xs_getf (C := RX0) (T := TX0) (N := 9) (ci := 1) (kf := 7) X (fun w h => List.mem_cons_of_mem _ (List.mem_append_left _ (List.mem_append_left _ (List.mem_append_left _ (List.mem_append_left _ (List.mem_append_left _ (List.mem_append_left _ (List.mem_append_right _ h)))))))) rfl (by decide) (List.mem_of_getElem? (i := 11) rfl) (fun _ h => h) dX3_ofBout_130, ?_⟩
  refine List.forall_mem_cons.mpr ⟨xs_iret X hr hlocks dX3_ofBout_133, ?_⟩
  refine List.forall_mem_cons.mpr ⟨xs_aload_n X dX3_ofBout_134 rfl, ?_⟩
  refine List.forall_mem_cons.mpr ⟨xs_callV (ci := 1) X (mpX0_isInExtra l D Y) (cwV 0 X.1.2.2.2.2 gX3_ofBout_X0_isInExtra rfl rfl rfl (by decide +kernel) ⟨Nat.le_of_ble_eq_true rfl, Nat.le_of_ble_eq_true rfl⟩) rfl rfl rfl rfl dX3_ofBout_135, ?_⟩
  refine List.forall_mem_cons.mpr ⟨xs_ifeq (tg := 154) X dX3_ofBout_138 rfl, ?_⟩
  refine List.forall_mem_cons.mpr ⟨xs_aload_n X dX3_ofBout_141 rfl, ?_⟩
  refine List.forall_mem_cons.mpr ⟨xs_callV (ci := 1) X (mpX0_withPriority l D Y) (cwV 0 X.1.2.2.2.2 gX3_ofBout_X0_withPriority rfl rfl rfl (by decide +kernel) ⟨Nat.le_of_ble_eq_true rfl, Nat.le_of_ble_eq_true rfl⟩) rfl rfl rfl rfl dX3_ofBout_142, ?_⟩
  refine List.forall_mem_cons.mpr ⟨xs_getf (C := RX2) (T := TX2) (N := 3) (ci := 3) (kf := 0) X (fun w h => List.mem_cons_of_mem _ (List.mem_append_left _ (List.mem_append_left _ (List.mem_append_left _ (List.mem_append_left _ (List.mem_append_left _ (List.mem_append_right _ h))))))) rfl (by decide) (List.mem_of_getElem? (i := 5) rfl) (fun _ h => h) dX3_ofBout_145, ?_⟩
  refine List.forall_mem_cons.mpr ⟨xs_callS X (mpX3_numberOf l D Y) (va_cwS 1 X.1.2.2.2.2 gX3_ofBout_X3_numberOf rfl rfl rfl (by decide +kernel) ⟨Nat.le_of_ble_eq_true rfl, Nat.le_of_ble_eq_true rfl⟩) rfl rfl dX3_ofBout_148, ?_⟩
  refine List.forall_mem_cons.mpr ⟨xs_goto (tg := 155) X dX3_ofBout_151 rfl, ?_⟩
  refine List.forall_mem_cons.mpr ⟨xs_iconst X dX3_ofBout_154 rfl, ?_⟩
  refine List.forall_mem_cons.mpr ⟨xs_iret X hr hlocks dX3_ofBout_155, ?_⟩
  refine List.forall_mem_cons.mpr ⟨xs_aload_n X dX3_ofBout_156 rfl, ?_⟩
  refine List.forall_mem_cons.mpr ⟨xs_getf (C := RX0) (T := TX0) (N := 9) (ci := 1) (kf := 2) X (fun w h => List.mem_cons_of_mem _ (List.mem_append_left _ (List.mem_append_left _ (List.mem_append_left _ (List.mem_append_left _ (List.mem_append_left _ (List.mem_append_left _ (List.mem_append_right _ h)))))))) rfl (by decide) (List.mem_of_getElem? (i := 4) rfl) (fun _ h => h) dX3_ofBout_157, ?_⟩
  refine List.forall_mem_cons.mpr ⟨xs_getf (C := RX2) (T := TX2) (N := 3) (ci := 3) (kf := 2) X (fun w h => List.mem_cons_of_mem _ (List.mem_append_left _ (List.mem_append_left _ (List.mem_append_left _ (List.mem_append_left _ (List.mem_append_left _ (List.mem_append_right _ h))))))) rfl (by decide) (List.mem_of_getElem? (i := 12) rfl) (fun _ h => h) dX3_ofBout_160, ?_⟩
  refine List.forall_mem_cons.mpr ⟨xs_iret X hr hlocks dX3_ofBout_163, ?_⟩
  refine List.forall_mem_cons.mpr ⟨xs_aload_n X dX3_ofBout_164 rfl, ?_⟩
  refine List.forall_mem_cons.mpr ⟨xs_getf (C := RX0) (T := TX0) (N := 9) (ci := 1) (kf := 3) X (fun w h => List.mem_cons_of_mem _ (List.mem_append_left _ (List.mem_append_left _ (List.mem_append_left _ (List.mem_append_left _ (List.mem_append_left _ (List.mem_append_left _ (List.mem_append_right _ h)))))))) rfl (by decide) (List.mem_of_getElem? (i := 6) rfl) (fun _ h => h) dX3_ofBout_165, ?_⟩
  refine List.forall_mem_cons.mpr ⟨xs_getf (C := RX2) (T := TX2) (N := 3) (ci := 3) (kf := 2) X (fun w h => List.mem_cons_of_mem _ (List.mem_append_left _ (List.mem_append_left _ (List.mem_append_left _ (List.mem_append_left _ (List.mem_append_left _ (List.mem_append_right _ h))))))) rfl (by decide) (List.mem_of_getElem? (i := 12) rfl) (fun _ h => h) dX3_ofBout_168, ?_⟩
  refine List.forall_mem_cons.mpr ⟨xs_iret X hr hlocks dX3_ofBout_171, ?_⟩
  exact fun _ h => nomatch h
set_option maxRecDepth 100000 in
set_option maxHeartbeats 4000000 in
theorem mpL_live (l : Launch) (D : va_G) (Y : xw_Y) : xw_MP l D vwCl (xw_ty Y) Y.1 yL_live wsL_live ({ frames := 5, cells := 0, slots := 0, locals := 108 } : Room) (ptL_live Y) 0 0 := by
  refine xw_met (cc := cL_live) (nL := 3) (ret := (some .int)) (by decide +kernel) rfl ?_
  intro p e s m args below meth c w0 post X hr hlocks hname
  unfold tbL_live
  refine List.forall_mem_cons.mpr ⟨xs_iconst X dL_live_0 rfl, ?_⟩
  refine List.forall_mem_cons.mpr ⟨xs_istore_n X dL_live_1 rfl (Nat.le_of_ble_eq_true rfl), ?_⟩
  refine List.forall_mem_cons.mpr ⟨xs_iload_n X dL_live_2 rfl, ?_⟩
  refine List.forall_mem_cons.mpr ⟨xs_aload_n X dL_live_3 rfl, ?_⟩
  refine List.forall_mem_cons.mpr ⟨xs_iconst X dL_live_4 rfl, ?_⟩
  refine List.forall_mem_cons.mpr ⟨xs_callV (ci := 4) X (mpX3_many l D Y) (cwV 1 X.1.2.2.2.2 gL_live_X3_many rfl rfl rfl (by decide +kernel) ⟨Nat.le_of_ble_eq_true rfl, Nat.le_of_ble_eq_true rfl⟩) rfl rfl rfl rfl dL_live_5, ?_⟩
  refine List.forall_mem_cons.mpr ⟨xs_icmpge (tg := 30) X dL_live_8 rfl, ?_⟩
  refine List.forall_mem_cons.mpr ⟨xs_aload_n X dL_live_11 rfl, ?_⟩
  refine List.forall_mem_cons.mpr ⟨xs_iload_n X dL_live_12 rfl, ?_⟩
  refine List.forall_mem_cons.mpr ⟨xs_bipush X dL_live_13 rfl, ?_⟩
  refine List.forall_mem_cons.mpr ⟨xs_callV (ci := 4) X (mpX3_ofBout l D Y) (cwV 2 X.1.2.2.2.2 gL_live_X3_ofBout rfl rfl rfl (by decide +kernel) ⟨Nat.le_of_ble_eq_true rfl, Nat.le_of_ble_eq_true rfl⟩) rfl rfl rfl rfl dL_live_15, ?_⟩
  refine List.forall_mem_cons.mpr ⟨xs_iload_n X dL_live_18 rfl, ?_⟩
  refine List.forall_mem_cons.mpr ⟨xs_icmpne (tg := 24) X dL_live_19 rfl, ?_⟩
  refine List.forall_mem_cons.mpr ⟨xs_iload_n X dL_live_22 rfl, ?_⟩
  refine List.forall_mem_cons.mpr ⟨xs_iret X hr hlocks dL_live_23, ?_⟩
  refine List.forall_mem_cons.mpr ⟨xs_iinc X dL_live_24 rfl (Nat.le_of_ble_eq_true rfl), ?_⟩
  refine List.forall_mem_cons.mpr ⟨xs_goto (tg := 2) X dL_live_27 rfl, ?_⟩
  refine List.forall_mem_cons.mpr ⟨xs_iconst X dL_live_30 rfl, ?_⟩
  refine List.forall_mem_cons.mpr ⟨xs_iret X hr hlocks dL_live_31, ?_⟩
  exact fun _ h => nomatch h
set_option maxRecDepth 100000 in
set_option maxHeartbeats 4000000 in
theorem mpX3_fencerAt (l : Launch) (D : va_G) (Y : xw_Y) : xw_MP l D vwCl (xw_ty Y) Y.1 yX3_fencerAt wsX3_fencerAt ({ frames := 3, cells := 0, slots := 0, locals := 64 } : Room) (ptX3_fencerAt Y) 0 0 := by
  refine xw_met (cc := cX3_fencerAt) (nL := 2) (ret := (some (.object "Pommel$Fencer"))) (by decide +kernel) rfl ?_
  intro p e s m args below meth c w0 post X hr hlocks hname
  unfold tbX3_fencerAt
  refine List.forall_mem_cons.mpr ⟨xs_iload_n X dX3_fencerAt_0 rfl, ?_⟩
  refine List.forall_mem_cons.mpr ⟨xs_iconst X dX3_fencerAt_1 rfl, ?_⟩
  refine List.forall_mem_cons.mpr ⟨xs_aload_n X dX3_fencerAt_2 rfl, ?_⟩
  refine List.forall_mem_cons.mpr ⟨xs_getf (C := RX3) (T := TX3) (N := 10) (ci := 4) (kf := 0) X (fun w h => List.mem_cons_of_mem _ (List.mem_append_left _ (List.mem_append_left _ (List.mem_append_right _ h)))) rfl (by decide) (List.mem_of_getElem? (i := 3) rfl) (fun _ h => h) dX3_fencerAt_3, ?_⟩
  refine List.forall_mem_cons.mpr ⟨xs_callV (ci := 0) X (mpJx4a65c_size_8abf5 l D Y) (cwV 0 X.1.2.2.2.2 gX3_fencerAt_Jx4a65c_size_8abf5 rfl rfl rfl (by decide +kernel) ⟨Nat.le_of_ble_eq_true rfl, Nat.le_of_ble_eq_true rfl⟩) rfl rfl rfl rfl dX3_fencerAt_6, ?_⟩
  refine List.forall_mem_cons.mpr ⟨xs_iconst X dX3_fencerAt_9 rfl, ?_⟩
  refine List.forall_mem_cons.mpr ⟨xs_isub X dX3_fencerAt_10, ?_⟩
  refine List.forall_mem_cons.mpr ⟨xs_callS X (mpX3_isIn l D Y) (va_cwS 3 X.1.2.2.2.2 gX3_fencerAt_X3_isIn rfl rfl rfl (by decide +kernel) ⟨Nat.le_of_ble_eq_true rfl, Nat.le_of_ble_eq_true rfl⟩) rfl rfl dX3_fencerAt_11, ?_⟩
  refine List.forall_mem_cons.mpr ⟨xs_ifne (tg := 28) X dX3_fencerAt_14 rfl, ?_⟩
  refine List.forall_mem_cons.mpr ⟨xs_aload_n X dX3_fencerAt_28 rfl, ?_⟩
  refine List.forall_mem_cons.mpr ⟨xs_getf (C := RX3) (T := TX3) (N := 10) (ci := 4) (kf := 0) X (fun w h => List.mem_cons_of_mem _ (List.mem_append_left _ (List.mem_append_left _ (List.mem_append_right _ h)))) rfl (by decide) (List.mem_of_getElem? (i := 3) rfl) (fun _ h => h) dX3_fencerAt_29, ?_⟩
  refine List.forall_mem_cons.mpr ⟨xs_iload_n X dX3_fencerAt_32 rfl, ?_⟩
  refine List.forall_mem_cons.mpr ⟨xs_callV (ci := 0) X (mpJx4a65c_get_915e3 l D Y) (cwV 1 X.1.2.2.2.2 gX3_fencerAt_Jx4a65c_get_915e3 rfl rfl rfl (by decide +kernel) ⟨Nat.le_of_ble_eq_true rfl, Nat.le_of_ble_eq_true rfl⟩) rfl rfl rfl rfl dX3_fencerAt_33, ?_⟩
  refine List.forall_mem_cons.mpr ⟨xs_cast (C := RX1) (T := TX1) (N := 14) (ci := 2) X rfl (List.mem_of_getElem? (i := 4) rfl) dX3_fencerAt_36, ?_⟩
  refine List.forall_mem_cons.mpr ⟨xs_aret X hr (Or.inl ⟨_, rfl⟩) hlocks dX3_fencerAt_39, ?_⟩
  exact fun _ h => nomatch h
