set_option maxRecDepth 100000 in
set_option maxHeartbeats 4000000 in
theorem mpX1_isAheadOf (l : Launch) (D : va_G) (Y : xw_Y) : xw_MP l D vwCl (xw_ty Y) Y.1 yX1_isAheadOf wsX1_isAheadOf ({ frames := 1, cells := 0, slots := 0, locals := 21 } : Room) (ptX1_isAheadOf Y) 0 0 := by
  refine xw_met (cc := cX1_isAheadOf) (nL := 4) (ret := (some .boolean)) (by decide +kernel) rfl ?_
  intro p e s m args below meth c w0 post X hr hlocks hname
  unfold tbX1_isAheadOf
  refine List.forall_mem_cons.mpr ⟨xs_aload_n X dX1_isAheadOf_0 rfl, ?_⟩
  refine List.forall_mem_cons.mpr ⟨xs_getf (C := RX1) (T := TX1) (N := 14) (ci := 2) (kf := 5) X (fun w h => List.mem_cons_of_mem _ (List.mem_append_right _ h)) rfl (by decide) (List.mem_of_getElem? (i := 1) rfl) (fun _ h => h) dX1_isAheadOf_1, ?_⟩
  refine List.forall_mem_cons.mpr ⟨xs_aload_n X dX1_isAheadOf_4 rfl, ?_⟩
  refine List.forall_mem_cons.mpr ⟨xs_getf (C := RX1) (T := TX1) (N := 14) (ci := 2) (kf := 5) X (fun w h => List.mem_cons_of_mem _ (List.mem_append_right _ h)) rfl (by decide) (List.mem_of_getElem? (i := 1) rfl) (fun _ h => h) dX1_isAheadOf_5, ?_⟩
  refine List.forall_mem_cons.mpr ⟨xs_icmpeq (tg := 16) X dX1_isAheadOf_8 rfl, ?_⟩
  refine List.forall_mem_cons.mpr ⟨xs_aload_n X dX1_isAheadOf_11 rfl, ?_⟩
  refine List.forall_mem_cons.mpr ⟨xs_getf (C := RX1) (T := TX1) (N := 14) (ci := 2) (kf := 5) X (fun w h => List.mem_cons_of_mem _ (List.mem_append_right _ h)) rfl (by decide) (List.mem_of_getElem? (i := 1) rfl) (fun _ h => h) dX1_isAheadOf_12, ?_⟩
  refine List.forall_mem_cons.mpr ⟨xs_iret X hr hlocks dX1_isAheadOf_15, ?_⟩
  refine List.forall_mem_cons.mpr ⟨xs_aload_n X dX1_isAheadOf_16 rfl, ?_⟩
  refine List.forall_mem_cons.mpr ⟨xs_getf (C := RX1) (T := TX1) (N := 14) (ci := 2) (kf := 9) X (fun w h => List.mem_cons_of_mem _ (List.mem_append_right _ h)) rfl (by decide) (List.mem_of_getElem? (i := 2) rfl) (fun _ h => h) dX1_isAheadOf_17, ?_⟩
  refine List.forall_mem_cons.mpr ⟨xs_aload_n X dX1_isAheadOf_20 rfl, ?_⟩
  refine List.forall_mem_cons.mpr ⟨xs_getf (C := RX1) (T := TX1) (N := 14) (ci := 2) (kf := 8) X (fun w h => List.mem_cons_of_mem _ (List.mem_append_right _ h)) rfl (by decide) (List.mem_of_getElem? (i := 3) rfl) (fun _ h => h) dX1_isAheadOf_21, ?_⟩
  refine List.forall_mem_cons.mpr ⟨xs_iconst X dX1_isAheadOf_24 rfl, ?_⟩
  refine List.forall_mem_cons.mpr ⟨xs_max X (List.mem_of_getElem? (i := 4) rfl) (List.mem_of_getElem? (i := 5) rfl) (List.mem_of_getElem? (i := 6) rfl) (List.mem_of_getElem? (i := 7) rfl) (Nat.le_of_ble_eq_true rfl) (Nat.le_of_ble_eq_true rfl) rfl rfl dX1_isAheadOf_25, ?_⟩
  refine List.forall_mem_cons.mpr ⟨xs_imul X dX1_isAheadOf_28, ?_⟩
  refine List.forall_mem_cons.mpr ⟨xs_istore_n X dX1_isAheadOf_29 rfl (Nat.le_of_ble_eq_true rfl), ?_⟩
  refine List.forall_mem_cons.mpr ⟨xs_aload_n X dX1_isAheadOf_30 rfl, ?_⟩
  refine List.forall_mem_cons.mpr ⟨xs_getf (C := RX1) (T := TX1) (N := 14) (ci := 2) (kf := 9) X (fun w h => List.mem_cons_of_mem _ (List.mem_append_right _ h)) rfl (by decide) (List.mem_of_getElem? (i := 2) rfl) (fun _ h => h) dX1_isAheadOf_31, ?_⟩
  refine List.forall_mem_cons.mpr ⟨xs_aload_n X dX1_isAheadOf_34 rfl, ?_⟩
  refine List.forall_mem_cons.mpr ⟨xs_getf (C := RX1) (T := TX1) (N := 14) (ci := 2) (kf := 8) X (fun w h => List.mem_cons_of_mem _ (List.mem_append_right _ h)) rfl (by decide) (List.mem_of_getElem? (i := 3) rfl) (fun _ h => h) dX1_isAheadOf_35, ?_⟩
  refine List.forall_mem_cons.mpr ⟨xs_iconst X dX1_isAheadOf_38 rfl, ?_⟩
  refine List.forall_mem_cons.mpr ⟨xs_max X (List.mem_of_getElem? (i := 4) rfl) (List.mem_of_getElem? (i := 5) rfl) (List.mem_of_getElem? (i := 6) rfl) (List.mem_of_getElem? (i := 7) rfl) (Nat.le_of_ble_eq_true rfl) (Nat.le_of_ble_eq_true rfl) rfl rfl dX1_isAheadOf_39, ?_⟩
  refine List.forall_mem_cons.mpr ⟨xs_imul X dX1_isAheadOf_42, ?_⟩
  refine List.forall_mem_cons.mpr ⟨xs_istore_n X dX1_isAheadOf_43 rfl (Nat.le_of_ble_eq_true rfl), ?_⟩
  refine List.forall_mem_cons.mpr ⟨xs_iload_n X dX1_isAheadOf_44 rfl, ?_⟩
  refine List.forall_mem_cons.mpr ⟨xs_iload_n X dX1_isAheadOf_45 rfl, ?_⟩
  refine List.forall_mem_cons.mpr ⟨xs_icmpeq (tg := 60) X dX1_isAheadOf_46 rfl, ?_⟩
  refine List.forall_mem_cons.mpr ⟨xs_iload_n X dX1_isAheadOf_49 rfl, ?_⟩
  refine List.forall_mem_cons.mpr ⟨xs_iload_n X dX1_isAheadOf_50 rfl, ?_⟩
  refine List.forall_mem_cons.mpr ⟨xs_icmple (tg := 58) X dX1_isAheadOf_51 rfl, ?_⟩
  refine List.forall_mem_cons.mpr ⟨xs_iconst X dX1_isAheadOf_54 rfl, ?_⟩
  refine List.forall_mem_cons.mpr ⟨xs_goto (tg := 59) X dX1_isAheadOf_55 rfl, ?_⟩
  refine List.forall_mem_cons.mpr ⟨xs_iconst X dX1_isAheadOf_58 rfl, ?_⟩
  refine List.forall_mem_cons.mpr ⟨xs_iret X hr hlocks dX1_isAheadOf_59, ?_⟩
  refine List.forall_mem_cons.mpr ⟨xs_aload_n X dX1_isAheadOf_60 rfl, ?_⟩
  refine List.forall_mem_cons.mpr ⟨xs_getf (C := RX1) (T := TX1) (N := 14) (ci := 2) (kf := 10) X (fun w h => List.mem_cons_of_mem _ (List.mem_append_right _ h)) rfl (by decide) (List.mem_of_getElem? (i := 8) rfl) (fun _ h => h) dX1_isAheadOf_61, ?_⟩
  refine List.forall_mem_cons.mpr ⟨xs_aload_n X dX1_isAheadOf_64 rfl, ?_⟩
  refine List.forall_mem_cons.mpr ⟨xs_getf (C := RX1) (T := TX1) (N := 14) (ci := 2) (kf := 11) X (fun w h => List.mem_cons_of_mem _ (List.mem_append_right _ h)) rfl (by decide) (List.mem_of_getElem? (i := 9) rfl) (fun _ h => h) dX1_isAheadOf_65, ?_⟩
  refine List.forall_mem_cons.mpr ⟨xs_isub X dX1_isAheadOf_68, ?_⟩
  refine List.forall_mem_cons.mpr ⟨xs_aload_n X dX1_isAheadOf_69 rfl, ?_⟩
  refine List.forall_mem_cons.mpr ⟨xs_getf (C := RX1) (T := TX1) (N := 14) (ci := 2) (kf := 10) X (fun w h => List.mem_cons_of_mem _ (List.mem_append_right _ h)) rfl (by decide) (List.mem_of_getElem? (i := 8) rfl) (fun _ h => h) dX1_isAheadOf_70, ?_⟩
  refine List.forall_mem_cons.mpr ⟨xs_aload_n X dX1_isAheadOf_73 rfl, ?_⟩
  refine List.forall_mem_cons.mpr ⟨xs_getf (C := RX1) (T := TX1) (N := 14) (ci := 2) (kf := 11) X (fun w h => List.mem_cons_of_mem _ (List.mem_append_right _ h)) rfl (by decide) (List.mem_of_getElem? (i := 9) rfl) (fun _ h => h) dX1_isAheadOf_74, ?_⟩
  refine List.forall_mem_cons.mpr ⟨xs_isub X dX1_isAheadOf_77, ?_⟩
  refine List.forall_mem_cons.mpr ⟨xs_icmpeq (tg := 108) X dX1_isAheadOf_78 rfl, ?_⟩
  refine List.forall_mem_cons.mpr ⟨xs_aload_n X dX1_isAheadOf_81 rfl, ?_⟩
  refine List.forall_mem_cons.mpr ⟨xs_getf (C := RX1) (T := TX1) (N := 14) (ci := 2) (kf := 10) X (fun w h => List.mem_cons_of_mem _ (List.mem_append_right _ h)) rfl (by decide) (List.mem_of_getElem? (i := 8) rfl) (fun _ h => h) dX1_isAheadOf_82, ?_⟩
  refine List.forall_mem_cons.mpr ⟨xs_aload_n X dX1_isAheadOf_85 rfl, ?_⟩
  refine List.forall_mem_cons.mpr ⟨xs_getf (C := RX1) (T := TX1) (N := 14) (ci := 2) (kf := 11) X (fun w h => List.mem_cons_of_mem _ (List.mem_append_right _ h)) rfl (by decide) (List.mem_of_getElem? (i := 9) rfl) (fun _ h => h) dX1_isAheadOf_86, ?_⟩
  refine List.forall_mem_cons.mpr ⟨xs_isub X dX1_isAheadOf_89, ?_⟩
  refine List.forall_mem_cons.mpr ⟨xs_aload_n X dX1_isAheadOf_90 rfl, ?_⟩
  refine List.forall_mem_cons.mpr ⟨xs_getf (C := RX1) (T := TX1) (N := 14) (ci := 2) (kf := 10) X (fun w h => List.mem_cons_of_mem _ (List.mem_append_right _ h)) rfl (by decide) (List.mem_of_getElem? (i := 8) rfl) (fun _ h => h) dX1_isAheadOf_91, ?_⟩
  refine List.forall_mem_cons.mpr ⟨xs_aload_n X dX1_isAheadOf_94 rfl, ?_⟩
  refine List.forall_mem_cons.mpr ⟨xs_getf (C := RX1) (T := TX1) (N := 14) (ci := 2) (kf := 11) X (fun w h => List.mem_cons_of_mem _ (List.mem_append_right _ h)) rfl (by decide) (List.mem_of_getElem? (i := 9) rfl) (fun _ h => h) dX1_isAheadOf_95, ?_⟩
  refine List.forall_mem_cons.mpr ⟨xs_isub X dX1_isAheadOf_98, ?_⟩
  refine List.forall_mem_cons.mpr ⟨xs_icmple (tg := 106) X dX1_isAheadOf_99 rfl, ?_⟩
  refine List.forall_mem_cons.mpr ⟨xs_iconst X dX1_isAheadOf_102 rfl, ?_⟩
  refine List.forall_mem_cons.mpr ⟨xs_goto (tg := 107) X dX1_isAheadOf_103 rfl, ?_⟩
  refine List.forall_mem_cons.mpr ⟨xs_iconst X dX1_isAheadOf_106 rfl, ?_⟩
  refine List.forall_mem_cons.mpr ⟨xs_iret X hr hlocks dX1_isAheadOf_107, ?_⟩
  refine List.forall_mem_cons.mpr ⟨xs_aload_n X dX1_isAheadOf_108 rfl, ?_⟩
  refine List.forall_mem_cons.mpr ⟨xs_getf (C := RX1) (T := TX1) (N := 14) (ci := 2) (kf := 10) X (fun w h => List.mem_cons_of_mem _ (List.mem_append_right _ h)) rfl (by decide) (List.mem_of_getElem? (i := 8) rfl) (fun _ h => h) dX1_isAheadOf_109, ?_⟩
  refine List.forall_mem_cons.mpr ⟨xs_aload_n X dX1_isAheadOf_112 rfl, ?_⟩
  refine List.forall_mem_cons.mpr ⟨xs_getf (C := RX1) (T := TX1) (N := 14) (ci := 2) (kf := 10) X (fun w h => List.mem_cons_of_mem _ (List.mem_append_right _ h)) rfl (by decide) (List.mem_of_getElem? (i := 8) rfl) (fun _ h => h) dX1_isAheadOf_113, ?_⟩
  refine List.forall_mem_cons.mpr ⟨xs_icmpeq (tg := 136) X dX1_isAheadOf_116 rfl, ?_⟩
  refine List.forall_mem_cons.mpr ⟨xs_aload_n X dX1_isAheadOf_119 rfl, ?_⟩
  refine List.forall_mem_cons.mpr ⟨xs_getf (C := RX1) (T := TX1) (N := 14) (ci := 2) (kf := 10) X (fun w h => List.mem_cons_of_mem _ (List.mem_append_right _ h)) rfl (by decide) (List.mem_of_getElem? (i := 8) rfl) (fun _ h => h) dX1_isAheadOf_120, ?_⟩
  refine List.forall_mem_cons.mpr ⟨xs_aload_n X dX1_isAheadOf_123 rfl, ?_⟩
  refine List.forall_mem_cons.mpr ⟨xs_getf (C := RX1) (T := TX1) (N := 14) (ci := 2) (kf := 10) X (fun w h => List.mem_cons_of_mem _ (List.mem_append_right _ h)) rfl (by decide) (List.mem_of_getElem? (i := 8) rfl) (fun _ h => h) dX1_isAheadOf_124, ?_⟩
  refine List.forall_mem_cons.mpr ⟨xs_icmple (tg := 134) X dX1_isAheadOf_127 rfl, ?_⟩
  refine List.forall_mem_cons.mpr ⟨xs_iconst X dX1_isAheadOf_130 rfl, ?_⟩
  refine List.forall_mem_cons.mpr ⟨xs_goto (tg := 135) X dX1_isAheadOf_131 rfl, ?_⟩
  refine List.forall_mem_cons.mpr ⟨xs_iconst X dX1_isAheadOf_134 rfl, ?_⟩
  refine List.forall_mem_cons.mpr ⟨xs_iret X hr hlocks dX1_isAheadOf_135, ?_⟩
  refine List.forall_mem_cons.mpr ⟨xs_aload_n X dX1_isAheadOf_136 rfl, ?_⟩
  refine List.forall_mem_cons.mpr ⟨xs_getf (C := RX1) (T := TX1) (N := 14) (ci := 2) (kf := 1) X (fun w h => List.mem_cons_of_mem _ (List.mem_append_right _ h)) rfl (by decide) (List.mem_of_getElem? (i := 10) rfl) (fun _ h => h) dX1_isAheadOf_137, ?_⟩
  refine List.forall_mem_cons.mpr ⟨xs_aload_n X dX1_isAheadOf_140 rfl, ?_⟩
  refine List.forall_mem_cons.mpr ⟨xs_getf (C := RX1) (T := TX1) (N := 14) (ci := 2) (kf := 1) X (fun w h => List.mem_cons_of_mem _ (List.mem_append_right _ h)) rfl (by decide) (List.mem_of_getElem? (i := 10) rfl) (fun _ h => h) dX1_isAheadOf_141, ?_⟩
  refine List.forall_mem_cons.mpr ⟨xs_icmpeq (tg := 164) X dX1_isAheadOf_144 rfl, ?_⟩
  refine List.forall_mem_cons.mpr ⟨xs_aload_n X dX1_isAheadOf_147 rfl, ?_⟩
  refine List.forall_mem_cons.mpr ⟨xs_getf (C := RX1) (T := TX1) (N := 14) (ci := 2) (kf := 1) X (fun w h => List.mem_cons_of_mem _ (List.mem_append_right _ h)) rfl (by decide) (List.mem_of_getElem? (i := 10) rfl) (fun _ h => h) dX1_isAheadOf_148, ?_⟩
  refine List.forall_mem_cons.mpr ⟨xs_aload_n X dX1_isAheadOf_151 rfl, ?_⟩
  refine List.forall_mem_cons.mpr ⟨xs_getf (C := RX1) (T := TX1) (N := 14) (ci := 2) (kf := 1) X (fun w h => List.mem_cons_of_mem _ (List.mem_append_right _ h)) rfl (by decide) (List.mem_of_getElem? (i := 10) rfl) (fun _ h => h) dX1_isAheadOf_152, ?_⟩
  refine List.forall_mem_cons.mpr ⟨xs_icmpge (tg := 162) X dX1_isAheadOf_155 rfl, ?_⟩
  refine List.forall_mem_cons.mpr ⟨xs_iconst X dX1_isAheadOf_158 rfl, ?_⟩
  refine List.forall_mem_cons.mpr ⟨xs_goto (tg := 163) X dX1_isAheadOf_159 rfl, ?_⟩
  refine List.forall_mem_cons.mpr ⟨xs_iconst X dX1_isAheadOf_162 rfl, ?_⟩
  refine List.forall_mem_cons.mpr ⟨xs_iret X hr hlocks dX1_isAheadOf_163, ?_⟩
  refine List.forall_mem_cons.mpr ⟨xs_aload_n X dX1_isAheadOf_164 rfl, ?_⟩
  refine List.forall_mem_cons.mpr ⟨xs_getf (C := RX1) (T := TX1) (N := 14) (ci := 2) (kf := 0) X (fun w h => List.mem_cons_of_mem _ (List.mem_append_right _ h)) rfl (by decide) (List.mem_of_getElem? (i := 11) rfl) (fun _ h => h) dX1_isAheadOf_165, ?_⟩
  refine List.forall_mem_cons.mpr ⟨xs_aload_n X dX1_isAheadOf_168 rfl, ?_⟩
  refine List.forall_mem_cons.mpr ⟨xs_getf (C := RX1) (T := TX1) (N := 14) (ci := 2) (kf := 0) X (fun w h => List.mem_cons_of_mem _ (List.mem_append_right _ h)) rfl (by decide) (List.mem_of_getElem? (i := 11) rfl) (fun _ h => h) dX1_isAheadOf_169, ?_⟩
  refine List.forall_mem_cons.mpr ⟨xs_icmpge (tg := 179) X dX1_isAheadOf_172 rfl, ?_⟩
  refine List.forall_mem_cons.mpr ⟨xs_iconst X dX1_isAheadOf_175 rfl, ?_⟩
  refine List.forall_mem_cons.mpr ⟨xs_goto (tg := 180) X dX1_isAheadOf_176 rfl, ?_⟩
  refine List.forall_mem_cons.mpr ⟨xs_iconst X dX1_isAheadOf_179 rfl, ?_⟩
  refine List.forall_mem_cons.mpr ⟨xs_iret X hr hlocks dX1_isAheadOf_180, ?_⟩
  exact fun _ h => nomatch h
set_option maxRecDepth 100000 in
set_option maxHeartbeats 4000000 in
theorem mpX3_aheadInOrder (l : Launch) (D : va_G) (Y : xw_Y) : xw_MP l D vwCl (xw_ty Y) Y.1 yX3_aheadInOrder wsX3_aheadInOrder ({ frames := 3, cells := 0, slots := 0, locals := 64 } : Room) (ptX3_aheadInOrder Y) 0 0 := by
  refine xw_met (cc := cX3_aheadInOrder) (nL := 4) (ret := (some .int)) (by decide +kernel) rfl ?_
  intro p e s m args below meth c w0 post X hr hlocks hname
  unfold tbX3_aheadInOrder
  refine List.forall_mem_cons.mpr ⟨xs_iconst X dX3_aheadInOrder_0 rfl, ?_⟩
  refine List.forall_mem_cons.mpr ⟨xs_istore_n X dX3_aheadInOrder_1 rfl (Nat.le_of_ble_eq_true rfl), ?_⟩
  refine List.forall_mem_cons.mpr ⟨xs_iconst X dX3_aheadInOrder_2 rfl, ?_⟩
  refine List.forall_mem_cons.mpr ⟨xs_istore_n X dX3_aheadInOrder_3 rfl (Nat.le_of_ble_eq_true rfl), ?_⟩
  refine List.forall_mem_cons.mpr ⟨xs_iload_n X dX3_aheadInOrder_4 rfl, ?_⟩
  refine List.forall_mem_cons.mpr ⟨xs_aload_n X dX3_aheadInOrder_5 rfl, ?_⟩
  refine List.forall_mem_cons.mpr ⟨xs_getf (C := RX3) (T := TX3) (N := 10) (ci := 4) (kf := 0) X (fun w h => List.mem_cons_of_mem _ (List.mem_append_left _ (List.mem_append_left _ (List.mem_append_right _ h)))) rfl (by decide) (List.mem_of_getElem? (i := 1) rfl) (fun _ h => h) dX3_aheadInOrder_6, ?_⟩
  refine List.forall_mem_cons.mpr ⟨xs_callV (ci := 0) X (mpJx4a65c_size_8abf5 l D Y) (cwV 0 X.1.2.2.2.2 gX3_aheadInOrder_Jx4a65c_size_8abf5 rfl rfl rfl (by decide +kernel) ⟨Nat.le_of_ble_eq_true rfl, Nat.le_of_ble_eq_true rfl⟩) rfl rfl rfl rfl dX3_aheadInOrder_9, ?_⟩
  refine List.forall_mem_cons.mpr ⟨xs_icmpge (tg := 42) X dX3_aheadInOrder_12 rfl, ?_⟩
  refine List.forall_mem_cons.mpr ⟨xs_aload_n X dX3_aheadInOrder_15 rfl, ?_⟩
  refine List.forall_mem_cons.mpr ⟨xs_getf (C := RX3) (T := TX3) (N := 10) (ci := 4) (kf := 0) X (fun w h => List.mem_cons_of_mem _ (List.mem_append_left _ (List.mem_append_left _ (List.mem_append_right _ h)))) rfl (by decide) (List.mem_of_getElem? (i := 1) rfl) (fun _ h => h) dX3_aheadInOrder_16, ?_⟩
  refine List.forall_mem_cons.mpr ⟨xs_iload_n X dX3_aheadInOrder_19 rfl, ?_⟩
  refine List.forall_mem_cons.mpr ⟨xs_callV (ci := 0) X (mpJx4a65c_get_915e3 l D Y) (cwV 1 X.1.2.2.2.2 gX3_aheadInOrder_Jx4a65c_get_915e3 rfl rfl rfl (by decide +kernel) ⟨Nat.le_of_ble_eq_true rfl, Nat.le_of_ble_eq_true rfl⟩) rfl rfl rfl rfl dX3_aheadInOrder_20, ?_⟩
  refine List.forall_mem_cons.mpr ⟨xs_cast (C := RX1) (T := TX1) (N := 14) (ci := 2) X rfl (List.mem_of_getElem? (i := 2) rfl) dX3_aheadInOrder_23, ?_⟩
  refine List.forall_mem_cons.mpr ⟨xs_aload_n X dX3_aheadInOrder_26 rfl, ?_⟩
  refine List.forall_mem_cons.mpr ⟨xs_callV (ci := 2) X (mpX1_isAheadOf l D Y) (cwV 1 X.1.2.2.2.2 gX3_aheadInOrder_X1_isAheadOf rfl rfl rfl (by decide +kernel) ⟨Nat.le_of_ble_eq_true rfl, Nat.le_of_ble_eq_true rfl⟩) rfl rfl rfl rfl dX3_aheadInOrder_27, ?_⟩
  refine List.forall_mem_cons.mpr ⟨xs_ifeq (tg := 36) X dX3_aheadInOrder_30 rfl, ?_⟩
  refine List.forall_mem_cons.mpr ⟨xs_iinc X dX3_aheadInOrder_33 rfl (Nat.le_of_ble_eq_true rfl), ?_⟩
  refine List.forall_mem_cons.mpr ⟨xs_iinc X dX3_aheadInOrder_36 rfl (Nat.le_of_ble_eq_true rfl), ?_⟩
  refine List.forall_mem_cons.mpr ⟨xs_goto (tg := 4) X dX3_aheadInOrder_39 rfl, ?_⟩
  refine List.forall_mem_cons.mpr ⟨xs_iload_n X dX3_aheadInOrder_42 rfl, ?_⟩
  refine List.forall_mem_cons.mpr ⟨xs_iret X hr hlocks dX3_aheadInOrder_43, ?_⟩
  exact fun _ h => nomatch h
set_option maxRecDepth 100000 in
set_option maxHeartbeats 4000000 in
theorem mpX3_fencerInOrder (l : Launch) (D : va_G) (Y : xw_Y) : xw_MP l D vwCl (xw_ty Y) Y.1 yX3_fencerInOrder wsX3_fencerInOrder ({ frames := 4, cells := 0, slots := 0, locals := 87 } : Room) (ptX3_fencerInOrder Y) 0 0 := by
  refine xw_met (cc := cX3_fencerInOrder) (nL := 4) (ret := (some (.object "Pommel$Fencer"))) (by decide +kernel) rfl ?_
  intro p e s m args below meth c w0 post X hr hlocks hname
  unfold tbX3_fencerInOrder
  refine List.forall_mem_cons.mpr ⟨xs_iconst X dX3_fencerInOrder_0 rfl, ?_⟩
  refine List.forall_mem_cons.mpr ⟨xs_istore_n X dX3_fencerInOrder_1 rfl (Nat.le_of_ble_eq_true rfl), ?_⟩
  refine List.forall_mem_cons.mpr ⟨xs_iload_n X dX3_fencerInOrder_2 rfl, ?_⟩
  refine List.forall_mem_cons.mpr ⟨xs_aload_n X dX3_fencerInOrder_3 rfl, ?_⟩
  refine List.forall_mem_cons.mpr ⟨xs_getf (C := RX3) (T := TX3) (N := 10) (ci := 4) (kf := 0) X (fun w h => List.mem_cons_of_mem _ (List.mem_append_left _ (List.mem_append_left _ (List.mem_append_right _ h)))) rfl (by decide) (List.mem_of_getElem? (i := 1) rfl) (fun _ h => h) dX3_fencerInOrder_4, ?_⟩
  refine List.forall_mem_cons.mpr ⟨xs_callV (ci := 0) X (mpJx4a65c_size_8abf5 l D Y) (cwV 0 X.1.2.2.2.2 gX3_fencerInOrder_Jx4a65c_size_8abf5 rfl rfl rfl (by decide +kernel) ⟨Nat.le_of_ble_eq_true rfl, Nat.le_of_ble_eq_true rfl⟩) rfl rfl rfl rfl dX3_fencerInOrder_7, ?_⟩
  refine List.forall_mem_cons.mpr ⟨xs_icmpge (tg := 42) X dX3_fencerInOrder_10 rfl, ?_⟩
  refine List.forall_mem_cons.mpr ⟨xs_aload_n X dX3_fencerInOrder_13 rfl, ?_⟩
  refine List.forall_mem_cons.mpr ⟨xs_getf (C := RX3) (T := TX3) (N := 10) (ci := 4) (kf := 0) X (fun w h => List.mem_cons_of_mem _ (List.mem_append_left _ (List.mem_append_left _ (List.mem_append_right _ h)))) rfl (by decide) (List.mem_of_getElem? (i := 1) rfl) (fun _ h => h) dX3_fencerInOrder_14, ?_⟩
  refine List.forall_mem_cons.mpr ⟨xs_iload_n X dX3_fencerInOrder_17 rfl, ?_⟩
  refine List.forall_mem_cons.mpr ⟨xs_callV (ci := 0) X (mpJx4a65c_get_915e3 l D Y) (cwV 1 X.1.2.2.2.2 gX3_fencerInOrder_Jx4a65c_get_915e3 rfl rfl rfl (by decide +kernel) ⟨Nat.le_of_ble_eq_true rfl, Nat.le_of_ble_eq_true rfl⟩) rfl rfl rfl rfl dX3_fencerInOrder_18, ?_⟩
  refine List.forall_mem_cons.mpr ⟨xs_cast (C := RX1) (T := TX1) (N := 14) (ci := 2) X rfl (List.mem_of_getElem? (i := 2) rfl) dX3_fencerInOrder_21, ?_⟩
  refine List.forall_mem_cons.mpr ⟨xs_astore_n X dX3_fencerInOrder_24 rfl (Nat.le_of_ble_eq_true rfl), ?_⟩
  refine List.forall_mem_cons.mpr ⟨xs_aload_n X dX3_fencerInOrder_25 rfl, ?_⟩
  refine List.forall_mem_cons.mpr ⟨xs_aload_n X dX3_fencerInOrder_26 rfl, ?_⟩
  refine List.forall_mem_cons.mpr ⟨xs_callV (ci := 4) X (mpX3_aheadInOrder l D Y) (cwV 1 X.1.2.2.2.2 gX3_fencerInOrder_X3_aheadInOrder rfl rfl rfl (by decide +kernel) ⟨Nat.le_of_ble_eq_true rfl, Nat.le_of_ble_eq_true rfl⟩) rfl rfl rfl rfl dX3_fencerInOrder_27, ?_⟩
  refine List.forall_mem_cons.mpr ⟨xs_iload_n X dX3_fencerInOrder_30 rfl, ?_⟩
  refine List.forall_mem_cons.mpr ⟨xs_icmpne (tg := 36) X dX3_fencerInOrder_31 rfl, ?_⟩
  refine List.forall_mem_cons.mpr ⟨xs_aload_n X dX3_fencerInOrder_34 rfl, ?_⟩
  refine List.forall_mem_cons.mpr ⟨xs_aret X hr (Or.inl ⟨_, rfl⟩) hlocks dX3_fencerInOrder_35, ?_⟩
  refine List.forall_mem_cons.mpr ⟨xs_iinc X dX3_fencerInOrder_36 rfl (Nat.le_of_ble_eq_true rfl), ?_⟩
  refine List.forall_mem_cons.mpr ⟨xs_goto (tg := 2) X dX3_fencerInOrder_39 rfl, ?_⟩
  refine List.forall_mem_cons.mpr ⟨xs_null X dX3_fencerInOrder_42, ?_⟩
  refine List.forall_mem_cons.mpr ⟨xs_aret X hr (Or.inl ⟨_, rfl⟩) hlocks dX3_fencerInOrder_43, ?_⟩
  exact fun _ h => nomatch h
set_option maxRecDepth 100000 in
set_option maxHeartbeats 4000000 in
theorem mpX3_hasClub (l : Launch) (D : va_G) (Y : xw_Y) : xw_MP l D vwCl (xw_ty Y) Y.1 yX3_hasClub wsX3_hasClub ({ frames := 3, cells := 0, slots := 0, locals := 64 } : Room) (ptX3_hasClub Y) 0 0 := by
  refine xw_met (cc := cX3_hasClub) (nL := 5) (ret := (some .boolean)) (by decide +kernel) rfl ?_
  intro p e s m args below meth c w0 post X hr hlocks hname
  unfold tbX3_hasClub
  refine List.forall_mem_cons.mpr ⟨xs_iconst X dX3_hasClub_0 rfl, ?_⟩
  refine List.forall_mem_cons.mpr ⟨xs_istore_n X dX3_hasClub_1 rfl (Nat.le_of_ble_eq_true rfl), ?_⟩
  refine List.forall_mem_cons.mpr ⟨xs_iload_n X dX3_hasClub_2 rfl, ?_⟩
  refine List.forall_mem_cons.mpr ⟨xs_aload_n X dX3_hasClub_3 rfl, ?_⟩
  refine List.forall_mem_cons.mpr ⟨xs_getf (C := RX3) (T := TX3) (N := 10) (ci := 4) (kf := 0) X (fun w h => List.mem_cons_of_mem _ (List.mem_append_left _ (List.mem_append_left _ (List.mem_append_right _ h)))) rfl (by decide) (List.mem_of_getElem? (i := 1) rfl) (fun _ h => h) dX3_hasClub_4, ?_⟩
  refine List.forall_mem_cons.mpr ⟨xs_callV (ci := 0) X (mpJx4a65c_size_8abf5 l D Y) (cwV 0 X.1.2.2.2.2 gX3_hasClub_Jx4a65c_size_8abf5 rfl rfl rfl (by decide +kernel) ⟨Nat.le_of_ble_eq_true rfl, Nat.le_of_ble_eq_true rfl⟩) rfl rfl rfl rfl dX3_hasClub_7, ?_⟩
  refine List.forall_mem_cons.mpr ⟨xs_icmpge (tg := 52) X dX3_hasClub_10 rfl, ?_⟩
  refine List.forall_mem_cons.mpr ⟨xs_aload_n X dX3_hasClub_13 rfl, ?_⟩
  refine List.forall_mem_cons.mpr ⟨xs_getf (C := RX3) (T := TX3) (N := 10) (ci := 4) (kf := 0) X (fun w h => List.mem_cons_of_mem _ (List.mem_append_left _ (List.mem_append_left _ (List.mem_append_right _ h)))) rfl (by decide) (List.mem_of_getElem? (i := 1) rfl) (fun _ h => h) dX3_hasClub_14, ?_⟩
  refine List.forall_mem_cons.mpr ⟨xs_iload_n X dX3_hasClub_17 rfl, ?_⟩
  refine List.forall_mem_cons.mpr ⟨xs_callV (ci := 0) X (mpJx4a65c_get_915e3 l D Y) (cwV 1 X.1.2.2.2.2 gX3_hasClub_Jx4a65c_get_915e3 rfl rfl rfl (by decide +kernel) ⟨Nat.le_of_ble_eq_true rfl, Nat.le_of_ble_eq_true rfl⟩) rfl rfl rfl rfl dX3_hasClub_18, ?_⟩
  refine List.forall_mem_cons.mpr ⟨xs_cast (C := RX1) (T := TX1) (N := 14) (ci := 2) X rfl (List.mem_of_getElem? (i := 2) rfl) dX3_hasClub_21, ?_⟩
  refine List.forall_mem_cons.mpr ⟨xs_astore X dX3_hasClub_24 (Nat.le_of_ble_eq_true rfl), ?_⟩
  refine List.forall_mem_cons.mpr ⟨xs_aload X dX3_hasClub_26, ?_⟩
  refine List.forall_mem_cons.mpr ⟨xs_getf (C := RX1) (T := TX1) (N := 14) (ci := 2) (kf := 3) X (fun w h => List.mem_cons_of_mem _ (List.mem_append_left _ (List.mem_append_right _ h))) rfl (by decide) (List.mem_of_getElem? (i := 3) rfl) (fun _ h => h) dX3_hasClub_28, ?_⟩
  refine List.forall_mem_cons.mpr ⟨xs_iload_n X dX3_hasClub_31 rfl, ?_⟩
  refine List.forall_mem_cons.mpr ⟨xs_icmpne (tg := 46) X dX3_hasClub_32 rfl, ?_⟩
  refine List.forall_mem_cons.mpr ⟨xs_aload X dX3_hasClub_35, ?_⟩
  refine List.forall_mem_cons.mpr ⟨xs_getf (C := RX1) (T := TX1) (N := 14) (ci := 2) (kf := 2) X (fun w h => List.mem_cons_of_mem _ (List.mem_append_left _ (List.mem_append_right _ h))) rfl (by decide) (List.mem_of_getElem? (i := 4) rfl) (fun _ h => h) dX3_hasClub_37, ?_⟩
  refine List.forall_mem_cons.mpr ⟨xs_iload_n X dX3_hasClub_40 rfl, ?_⟩
  refine List.forall_mem_cons.mpr ⟨xs_icmpne (tg := 46) X dX3_hasClub_41 rfl, ?_⟩
  refine List.forall_mem_cons.mpr ⟨xs_iconst X dX3_hasClub_44 rfl, ?_⟩
  refine List.forall_mem_cons.mpr ⟨xs_iret X hr hlocks dX3_hasClub_45, ?_⟩
  refine List.forall_mem_cons.mpr ⟨xs_iinc X dX3_hasClub_46 rfl (Nat.le_of_ble_eq_true rfl), ?_⟩
  refine List.forall_mem_cons.mpr ⟨xs_goto (tg := 2) X dX3_hasClub_49 rfl, ?_⟩
  refine List.forall_mem_cons.mpr ⟨xs_iconst X dX3_hasClub_52 rfl, ?_⟩
  refine List.forall_mem_cons.mpr ⟨xs_iret X hr hlocks dX3_hasClub_53, ?_⟩
  exact fun _ h => nomatch h
set_option maxRecDepth 100000 in
set_option maxHeartbeats 4000000 in
theorem mpX3_poolInRow (l : Launch) (D : va_G) (Y : xw_Y) : xw_MP l D vwCl (xw_ty Y) Y.1 yX3_poolInRow wsX3_poolInRow ({ frames := 4, cells := 0, slots := 0, locals := 88 } : Room) (ptX3_poolInRow Y) 0 0 := by
  refine xw_met (cc := cX3_poolInRow) (nL := 6) (ret := (some .int)) (by decide +kernel) rfl ?_
  intro p e s m args below meth c w0 post X hr hlocks hname
  unfold tbX3_poolInRow
  refine List.forall_mem_cons.mpr ⟨xs_iconst X dX3_poolInRow_0 rfl, ?_⟩
  refine List.forall_mem_cons.mpr ⟨xs_istore_n X dX3_poolInRow_1 rfl (Nat.le_of_ble_eq_true rfl), ?_⟩
  refine List.forall_mem_cons.mpr ⟨xs_iconst X dX3_poolInRow_2 rfl, ?_⟩
  refine List.forall_mem_cons.mpr ⟨xs_istore X dX3_poolInRow_3 (Nat.le_of_ble_eq_true rfl), ?_⟩
  refine List.forall_mem_cons.mpr ⟨xs_iload X dX3_poolInRow_5, ?_⟩
  refine List.forall_mem_cons.mpr ⟨xs_aload_n X dX3_poolInRow_7 rfl, ?_⟩
  refine List.forall_mem_cons.mpr ⟨xs_getf (C := RX3) (T := TX3) (N := 10) (ci := 4) (kf := 6) X (fun w h => List.mem_cons_of_mem _ (List.mem_append_left _ (List.mem_append_left _ (List.mem_append_right _ h)))) rfl (by decide) (List.mem_of_getElem? (i := 1) rfl) (fun _ h => h) dX3_poolInRow_8, ?_⟩
  refine List.forall_mem_cons.mpr ⟨xs_icmpge (tg := 77) X dX3_poolInRow_11 rfl, ?_⟩
  refine List.forall_mem_cons.mpr ⟨xs_iload_n X dX3_poolInRow_14 rfl, ?_⟩
  refine List.forall_mem_cons.mpr ⟨xs_iconst X dX3_poolInRow_15 rfl, ?_⟩
  refine List.forall_mem_cons.mpr ⟨xs_irem X dX3_poolInRow_16, ?_⟩
  refine List.forall_mem_cons.mpr ⟨xs_ifne (tg := 25) X dX3_poolInRow_17 rfl, ?_⟩
  refine List.forall_mem_cons.mpr ⟨xs_iload X dX3_poolInRow_20, ?_⟩
  refine List.forall_mem_cons.mpr ⟨xs_goto (tg := 34) X dX3_poolInRow_22 rfl, ?_⟩
  refine List.forall_mem_cons.mpr ⟨xs_aload_n X dX3_poolInRow_25 rfl, ?_⟩
  refine List.forall_mem_cons.mpr ⟨xs_getf (C := RX3) (T := TX3) (N := 10) (ci := 4) (kf := 6) X (fun w h => List.mem_cons_of_mem _ (List.mem_append_left _ (List.mem_append_left _ (List.mem_append_right _ h)))) rfl (by decide) (List.mem_of_getElem? (i := 1) rfl) (fun _ h => h) dX3_poolInRow_26, ?_⟩
  refine List.forall_mem_cons.mpr ⟨xs_iconst X dX3_poolInRow_29 rfl, ?_⟩
  refine List.forall_mem_cons.mpr ⟨xs_isub X dX3_poolInRow_30, ?_⟩
  refine List.forall_mem_cons.mpr ⟨xs_iload X dX3_poolInRow_31, ?_⟩
  refine List.forall_mem_cons.mpr ⟨xs_isub X dX3_poolInRow_33, ?_⟩
  refine List.forall_mem_cons.mpr ⟨xs_istore X dX3_poolInRow_34 (Nat.le_of_ble_eq_true rfl), ?_⟩
  refine List.forall_mem_cons.mpr ⟨xs_aload_n X dX3_poolInRow_36 rfl, ?_⟩
  refine List.forall_mem_cons.mpr ⟨xs_getf (C := RX3) (T := TX3) (N := 10) (ci := 4) (kf := 3) X (fun w h => List.mem_cons_of_mem _ (List.mem_append_left _ (List.mem_append_left _ (List.mem_append_right _ h)))) rfl (by decide) (List.mem_of_getElem? (i := 2) rfl) (fun _ h => h) dX3_poolInRow_37, ?_⟩
  refine List.forall_mem_cons.mpr ⟨xs_iload X dX3_poolInRow_40, ?_⟩
  refine List.forall_mem_cons.mpr ⟨xs_iald (t0 := 0) X rfl dX3_poolInRow_42, ?_⟩
  refine List.forall_mem_cons.mpr ⟨xs_iload_n X dX3_poolInRow_43 rfl, ?_⟩
  refine List.forall_mem_cons.mpr ⟨xs_icmple (tg := 50) X dX3_poolInRow_44 rfl, ?_⟩
  refine List.forall_mem_cons.mpr ⟨xs_goto (tg := 71) X dX3_poolInRow_47 rfl, ?_⟩
  refine List.forall_mem_cons.mpr ⟨xs_aload_n X dX3_poolInRow_50 rfl, ?_⟩
  refine List.forall_mem_cons.mpr ⟨xs_iload X dX3_poolInRow_51, ?_⟩
  refine List.forall_mem_cons.mpr ⟨xs_iload_n X dX3_poolInRow_53 rfl, ?_⟩
  refine List.forall_mem_cons.mpr ⟨xs_callV (ci := 4) X (mpX3_hasClub l D Y) (cwV 2 X.1.2.2.2.2 gX3_poolInRow_X3_hasClub rfl rfl rfl (by decide +kernel) ⟨Nat.le_of_ble_eq_true rfl, Nat.le_of_ble_eq_true rfl⟩) rfl rfl rfl rfl dX3_poolInRow_54, ?_⟩
  refine List.forall_mem_cons.mpr ⟨xs_ifne (tg := 63) X dX3_poolInRow_57 rfl, ?_⟩
  refine List.forall_mem_cons.mpr ⟨xs_iload X dX3_poolInRow_60, ?_⟩
  refine List.forall_mem_cons.mpr ⟨xs_iret X hr hlocks dX3_poolInRow_62, ?_⟩
  refine List.forall_mem_cons.mpr ⟨xs_iload_n X dX3_poolInRow_63 rfl, ?_⟩
  refine List.forall_mem_cons.mpr ⟨xs_iconst X dX3_poolInRow_64 rfl, ?_⟩
  refine List.forall_mem_cons.mpr ⟨xs_icmpne (tg := 71) X dX3_poolInRow_65 rfl, ?_⟩
  refine List.forall_mem_cons.mpr ⟨xs_iload X dX3_poolInRow_68, ?_⟩
  refine List.forall_mem_cons.mpr ⟨xs_istore_n X dX3_poolInRow_70 rfl (Nat.le_of_ble_eq_true rfl), ?_⟩
  refine List.forall_mem_cons.mpr ⟨xs_iinc X dX3_poolInRow_71 rfl (Nat.le_of_ble_eq_true rfl), ?_⟩
  refine List.forall_mem_cons.mpr ⟨xs_goto (tg := 5) X dX3_poolInRow_74 rfl, ?_⟩
  refine List.forall_mem_cons.mpr ⟨xs_iload_n X dX3_poolInRow_77 rfl, ?_⟩
  refine List.forall_mem_cons.mpr ⟨xs_iret X hr hlocks dX3_poolInRow_78, ?_⟩
  exact fun _ h => nomatch h
set_option maxRecDepth 100000 in
set_option maxHeartbeats 4000000 in
theorem mpX3_putIntoPool (l : Launch) (D : va_G) (Y : xw_Y) : xw_MP l D vwCl (xw_ty Y) Y.1 yX3_putIntoPool wsX3_putIntoPool ({ frames := 5, cells := 0, slots := 0, locals := 113 } : Room) (ptX3_putIntoPool Y) 0 0 := by
  refine xw_met (cc := cX3_putIntoPool) (nL := 4) (ret := none) (by decide +kernel) rfl ?_
  intro p e s m args below meth c w0 post X hr hlocks hname
  unfold tbX3_putIntoPool
  refine List.forall_mem_cons.mpr ⟨xs_aload_n X dX3_putIntoPool_0 rfl, ?_⟩
  refine List.forall_mem_cons.mpr ⟨xs_ifnonnull (tg := 8) X dX3_putIntoPool_1 rfl, ?_⟩
  refine List.forall_mem_cons.mpr ⟨xs_iconst X dX3_putIntoPool_4 rfl, ?_⟩
  refine List.forall_mem_cons.mpr ⟨xs_goto (tg := 17) X dX3_putIntoPool_5 rfl, ?_⟩
  refine List.forall_mem_cons.mpr ⟨xs_aload_n X dX3_putIntoPool_8 rfl, ?_⟩
  refine List.forall_mem_cons.mpr ⟨xs_iload_n X dX3_putIntoPool_9 rfl, ?_⟩
  refine List.forall_mem_cons.mpr ⟨xs_aload_n X dX3_putIntoPool_10 rfl, ?_⟩
  refine List.forall_mem_cons.mpr ⟨xs_getf (C := RX1) (T := TX1) (N := 14) (ci := 2) (kf := 2) X (fun w h => List.mem_cons_of_mem _ (List.mem_append_left _ (List.mem_append_left _ (List.mem_append_right _ h)))) rfl (by decide) (List.mem_of_getElem? (i := 1) rfl) (fun _ h => h) dX3_putIntoPool_11, ?_⟩
  refine List.forall_mem_cons.mpr ⟨xs_callV (ci := 4) X (mpX3_poolInRow l D Y) (cwV 2 X.1.2.2.2.2 gX3_putIntoPool_X3_poolInRow rfl rfl rfl (by decide +kernel) ⟨Nat.le_of_ble_eq_true rfl, Nat.le_of_ble_eq_true rfl⟩) rfl rfl rfl rfl dX3_putIntoPool_14, ?_⟩
  refine List.forall_mem_cons.mpr ⟨xs_istore_n X dX3_putIntoPool_17 rfl (Nat.le_of_ble_eq_true rfl), ?_⟩
  refine List.forall_mem_cons.mpr ⟨xs_iload_n X dX3_putIntoPool_18 rfl, ?_⟩
  refine List.forall_mem_cons.mpr ⟨xs_iconst X dX3_putIntoPool_19 rfl, ?_⟩
  refine List.forall_mem_cons.mpr ⟨xs_aload_n X dX3_putIntoPool_20 rfl, ?_⟩
  refine List.forall_mem_cons.mpr ⟨xs_getf (C := RX3) (T := TX3) (N := 10) (ci := 4) (kf := 6) X (fun w h => List.mem_cons_of_mem _ (List.mem_append_left _ (List.mem_append_right _ h))) rfl (by decide) (List.mem_of_getElem? (i := 2) rfl) (fun _ h => h) dX3_putIntoPool_21, ?_⟩
  refine List.forall_mem_cons.mpr ⟨xs_iconst X dX3_putIntoPool_24 rfl, ?_⟩
  refine List.forall_mem_cons.mpr ⟨xs_isub X dX3_putIntoPool_25, ?_⟩
  refine List.forall_mem_cons.mpr ⟨xs_callS X (mpX3_isIn l D Y) (va_cwS 3 X.1.2.2.2.2 gX3_putIntoPool_X3_isIn rfl rfl rfl (by decide +kernel) ⟨Nat.le_of_ble_eq_true rfl, Nat.le_of_ble_eq_true rfl⟩) rfl rfl dX3_putIntoPool_26, ?_⟩
  refine List.forall_mem_cons.mpr ⟨xs_ifeq (tg := 57) X dX3_putIntoPool_29 rfl, ?_⟩
  refine List.forall_mem_cons.mpr ⟨xs_aload_n X dX3_putIntoPool_32 rfl, ?_⟩
  refine List.forall_mem_cons.mpr ⟨xs_iload_n X dX3_putIntoPool_33 rfl, ?_⟩
  refine List.forall_mem_cons.mpr ⟨xs_putf (C := RX1) (T := TX1) (N := 14) (ci := 2) (kf := 3) X (fun w h => List.mem_cons_of_mem _ (List.mem_append_left _ (List.mem_append_left _ (List.mem_append_right _ h)))) tyX1 tyX1_ok nmX1 rfl (by decide) (List.mem_of_getElem? (i := 3) rfl) (fun _ h => h) rfl rfl dX3_putIntoPool_34, ?_⟩
  refine List.forall_mem_cons.mpr ⟨xs_aload_n X dX3_putIntoPool_37 rfl, ?_⟩
  refine List.forall_mem_cons.mpr ⟨xs_aload_n X dX3_putIntoPool_38 rfl, ?_⟩
  refine List.forall_mem_cons.mpr ⟨xs_getf (C := RX3) (T := TX3) (N := 10) (ci := 4) (kf := 3) X (fun w h => List.mem_cons_of_mem _ (List.mem_append_left _ (List.mem_append_right _ h))) rfl (by decide) (List.mem_of_getElem? (i := 4) rfl) (fun _ h => h) dX3_putIntoPool_39, ?_⟩
  refine List.forall_mem_cons.mpr ⟨xs_iload_n X dX3_putIntoPool_42 rfl, ?_⟩
  refine List.forall_mem_cons.mpr ⟨xs_iald (t0 := 0) X rfl dX3_putIntoPool_43, ?_⟩
  refine List.forall_mem_cons.mpr ⟨xs_putf (C := RX1) (T := TX1) (N := 14) (ci := 2) (kf := 4) X (fun w h => List.mem_cons_of_mem _ (List.mem_append_left _ (List.mem_append_left _ (List.mem_append_right _ h)))) tyX1 tyX1_ok nmX1 rfl (by decide) (List.mem_of_getElem? (i := 5) rfl) (fun _ h => h) rfl rfl dX3_putIntoPool_44, ?_⟩
  refine List.forall_mem_cons.mpr ⟨xs_aload_n X dX3_putIntoPool_47 rfl, ?_⟩
  refine List.forall_mem_cons.mpr ⟨xs_getf (C := RX3) (T := TX3) (N := 10) (ci := 4) (kf := 3) X (fun w h => List.mem_cons_of_mem _ (List.mem_append_left _ (List.mem_append_right _ h))) rfl (by decide) (List.mem_of_getElem? (i := 4) rfl) (fun _ h => h) dX3_putIntoPool_48, ?_⟩
  refine List.forall_mem_cons.mpr ⟨xs_iload_n X dX3_putIntoPool_51 rfl, ?_⟩
  refine List.forall_mem_cons.mpr ⟨xs_dup2 X dX3_putIntoPool_52, ?_⟩
  refine List.forall_mem_cons.mpr ⟨xs_iald (t0 := 0) X rfl dX3_putIntoPool_53, ?_⟩
  refine List.forall_mem_cons.mpr ⟨xs_iconst X dX3_putIntoPool_54 rfl, ?_⟩
  refine List.forall_mem_cons.mpr ⟨xs_iadd X dX3_putIntoPool_55, ?_⟩
  refine List.forall_mem_cons.mpr ⟨xs_iast (t0 := 0) X rfl dX3_putIntoPool_56, ?_⟩
  refine List.forall_mem_cons.mpr ⟨xs_vret X hr hlocks dX3_putIntoPool_57, ?_⟩
  exact fun _ h => nomatch h
set_option maxRecDepth 100000 in
set_option maxHeartbeats 4000000 in
theorem mpX3_fencerOnSpot (l : Launch) (D : va_G) (Y : xw_Y) : xw_MP l D vwCl (xw_ty Y) Y.1 yX3_fencerOnSpot wsX3_fencerOnSpot ({ frames := 3, cells := 0, slots := 0, locals := 64 } : Room) (ptX3_fencerOnSpot Y) 0 0 := by
  refine xw_met (cc := cX3_fencerOnSpot) (nL := 5) (ret := (some (.object "Pommel$Fencer"))) (by decide +kernel) rfl ?_
  intro p e s m args below meth c w0 post X hr hlocks hname
  unfold tbX3_fencerOnSpot
  refine List.forall_mem_cons.mpr ⟨xs_iconst X dX3_fencerOnSpot_0 rfl, ?_⟩
  refine List.forall_mem_cons.mpr ⟨xs_istore_n X dX3_fencerOnSpot_1 rfl (Nat.le_of_ble_eq_true rfl), ?_⟩
  refine List.forall_mem_cons.mpr ⟨xs_iload_n X dX3_fencerOnSpot_2 rfl, ?_⟩
  refine List.forall_mem_cons.mpr ⟨xs_aload_n X dX3_fencerOnSpot_3 rfl, ?_⟩
  refine List.forall_mem_cons.mpr ⟨xs_getf (C := RX3) (T := TX3) (N := 10) (ci := 4) (kf := 0) X (fun w h => List.mem_cons_of_mem _ (List.mem_append_left _ (List.mem_append_left _ (List.mem_append_right _ h)))) rfl (by decide) (List.mem_of_getElem? (i := 1) rfl) (fun _ h => h) dX3_fencerOnSpot_4, ?_⟩
  refine List.forall_mem_cons.mpr ⟨xs_callV (ci := 0) X (mpJx4a65c_size_8abf5 l D Y) (cwV 0 X.1.2.2.2.2 gX3_fencerOnSpot_Jx4a65c_size_8abf5 rfl rfl rfl (by decide +kernel) ⟨Nat.le_of_ble_eq_true rfl, Nat.le_of_ble_eq_true rfl⟩) rfl rfl rfl rfl dX3_fencerOnSpot_7, ?_⟩
  refine List.forall_mem_cons.mpr ⟨xs_icmpge (tg := 53) X dX3_fencerOnSpot_10 rfl, ?_⟩
  refine List.forall_mem_cons.mpr ⟨xs_aload_n X dX3_fencerOnSpot_13 rfl, ?_⟩
  refine List.forall_mem_cons.mpr ⟨xs_getf (C := RX3) (T := TX3) (N := 10) (ci := 4) (kf := 0) X (fun w h => List.mem_cons_of_mem _ (List.mem_append_left _ (List.mem_append_left _ (List.mem_append_right _ h)))) rfl (by decide) (List.mem_of_getElem? (i := 1) rfl) (fun _ h => h) dX3_fencerOnSpot_14, ?_⟩
  refine List.forall_mem_cons.mpr ⟨xs_iload_n X dX3_fencerOnSpot_17 rfl, ?_⟩
  refine List.forall_mem_cons.mpr ⟨xs_callV (ci := 0) X (mpJx4a65c_get_915e3 l D Y) (cwV 1 X.1.2.2.2.2 gX3_fencerOnSpot_Jx4a65c_get_915e3 rfl rfl rfl (by decide +kernel) ⟨Nat.le_of_ble_eq_true rfl, Nat.le_of_ble_eq_true rfl⟩) rfl rfl rfl rfl dX3_fencerOnSpot_18, ?_⟩
  refine List.forall_mem_cons.mpr ⟨xs_cast (C := RX1) (T := TX1) (N := 14) (ci := 2) X rfl (List.mem_of_getElem? (i := 2) rfl) dX3_fencerOnSpot_21, ?_⟩
  refine List.forall_mem_cons.mpr ⟨xs_astore X dX3_fencerOnSpot_24 (Nat.le_of_ble_eq_true rfl), ?_⟩
  refine List.forall_mem_cons.mpr ⟨xs_aload X dX3_fencerOnSpot_26, ?_⟩
  refine List.forall_mem_cons.mpr ⟨xs_getf (C := RX1) (T := TX1) (N := 14) (ci := 2) (kf := 3) X (fun w h => List.mem_cons_of_mem _ (List.mem_append_left _ (List.mem_append_right _ h))) rfl (by decide) (List.mem_of_getElem? (i := 3) rfl) (fun _ h => h) dX3_fencerOnSpot_28, ?_⟩
  refine List.forall_mem_cons.mpr ⟨xs_iload_n X dX3_fencerOnSpot_31 rfl, ?_⟩
  refine List.forall_mem_cons.mpr ⟨xs_icmpne (tg := 47) X dX3_fencerOnSpot_32 rfl, ?_⟩
  refine List.forall_mem_cons.mpr ⟨xs_aload X dX3_fencerOnSpot_35, ?_⟩
  refine List.forall_mem_cons.mpr ⟨xs_getf (C := RX1) (T := TX1) (N := 14) (ci := 2) (kf := 4) X (fun w h => List.mem_cons_of_mem _ (List.mem_append_left _ (List.mem_append_right _ h))) rfl (by decide) (List.mem_of_getElem? (i := 4) rfl) (fun _ h => h) dX3_fencerOnSpot_37, ?_⟩
  refine List.forall_mem_cons.mpr ⟨xs_iload_n X dX3_fencerOnSpot_40 rfl, ?_⟩
  refine List.forall_mem_cons.mpr ⟨xs_icmpne (tg := 47) X dX3_fencerOnSpot_41 rfl, ?_⟩
  refine List.forall_mem_cons.mpr ⟨xs_aload X dX3_fencerOnSpot_44, ?_⟩
  refine List.forall_mem_cons.mpr ⟨xs_aret X hr (Or.inl ⟨_, rfl⟩) hlocks dX3_fencerOnSpot_46, ?_⟩
  refine List.forall_mem_cons.mpr ⟨xs_iinc X dX3_fencerOnSpot_47 rfl (Nat.le_of_ble_eq_true rfl), ?_⟩
  refine List.forall_mem_cons.mpr ⟨xs_goto (tg := 2) X dX3_fencerOnSpot_50 rfl, ?_⟩
  refine List.forall_mem_cons.mpr ⟨xs_null X dX3_fencerOnSpot_53, ?_⟩
  refine List.forall_mem_cons.mpr ⟨xs_aret X hr (Or.inl ⟨_, rfl⟩) hlocks dX3_fencerOnSpot_54, ?_⟩
  exact fun _ h => nomatch h
set_option maxRecDepth 100000 in
set_option maxHeartbeats 4000000 in
theorem mpX2_init (l : Launch) (D : va_G) (Y : xw_Y) : xw_MP l D vwCl (xw_ty Y) Y.1 yX2_init wsX2_init ({ frames := 1, cells := 0, slots := 0, locals := 20 } : Room) (ptX2_init Y) 0 0 := by
  refine xw_met (cc := cX2_init) (nL := 1) (ret := none) (by decide +kernel) rfl ?_
  intro p e s m args below meth c w0 post X hr hlocks hname
  unfold tbX2_init
  refine List.forall_mem_cons.mpr ⟨xs_aload_n X dX2_init_0 rfl, ?_⟩
  refine List.forall_mem_cons.mpr ⟨xs_obj X (List.mem_of_getElem? (i := 1) rfl) (List.mem_of_getElem? (i := 2) rfl) (List.mem_of_getElem? (i := 3) rfl) (Nat.le_of_ble_eq_true rfl) (Nat.le_of_ble_eq_true rfl) dX2_init_1, ?_⟩
  refine List.forall_mem_cons.mpr ⟨xs_vret X hr hlocks dX2_init_4, ?_⟩
  exact fun _ h => nomatch h
set_option maxRecDepth 100000 in
set_option maxHeartbeats 4000000 in
theorem mpX0_init (l : Launch) (D : va_G) (Y : xw_Y) : xw_MP l D vwCl (xw_ty Y) Y.1 yX0_init wsX0_init ({ frames := 2, cells := 2, slots := 6, locals := 40 } : Room) (ptX0_init Y) 2 6 := by
  refine xw_met (cc := cX0_init) (nL := 5) (ret := none) (by decide +kernel) rfl ?_
  intro p e s m args below meth c w0 post X hr hlocks hname
  unfold tbX0_init
  refine List.forall_mem_cons.mpr ⟨xs_aload_n X dX0_init_0 rfl, ?_⟩
  refine List.forall_mem_cons.mpr ⟨xs_obj X (List.mem_of_getElem? (i := 1) rfl) (List.mem_of_getElem? (i := 2) rfl) (List.mem_of_getElem? (i := 3) rfl) (Nat.le_of_ble_eq_true rfl) (Nat.le_of_ble_eq_true rfl) dX0_init_1, ?_⟩
  refine List.forall_mem_cons.mpr ⟨xs_aload_n X dX0_init_4 rfl, ?_⟩
  refine List.forall_mem_cons.mpr ⟨xs_new (C := RX2) (T := TX2) (N := 3) (ci := 3) X (fun w h => List.mem_cons_of_mem _ (List.mem_append_left _ (List.mem_append_right _ h))) tyX2 tyX2_ok rfl (List.mem_of_getElem? (i := 4) rfl) (List.mem_of_getElem? (i := 5) rfl) (List.mem_of_getElem? (i := 6) rfl) (fun j hj => by
      match j, hj with
      | 0, _ => rfl
      | 1, _ => rfl
      | 2, _ => rfl
      | n + 3, h => exact absurd h (by omega)) rfl rfl dX0_init_5, ?_⟩
  refine List.forall_mem_cons.mpr ⟨xs_dup X dX0_init_8, ?_⟩
  refine List.forall_mem_cons.mpr ⟨xs_callIN X (mpX2_init l D Y) ⟨va_cnB 0 X.1.2.2.2.2 gX0_init_X2_init_n11 rfl rfl rfl X.2.2.2.2.1.2.2 (X.1.2.2.2.2 _ (List.mem_of_getElem? (i := 6) rfl)) (by decide +kernel) ⟨Nat.le_of_ble_eq_true rfl, Nat.le_of_ble_eq_true rfl⟩, rfl, X.1.2.2.2.2 _ (List.mem_of_getElem? (i := 14) rfl)⟩ rfl rfl dX0_init_9, ?_⟩
  refine List.forall_mem_cons.mpr ⟨xs_putF (C := RX0) (T := TX0) (N := 9) (ci := 1) (kf := 2) X (fun w h => List.mem_cons_of_mem _ (List.mem_append_right _ h)) tyX0 tyX0_ok nmX0 rfl (by decide) (List.mem_of_getElem? (i := 7) rfl) (fun _ h => h) rfl hname rfl rfl dX0_init_12, ?_⟩
  refine List.forall_mem_cons.mpr ⟨xs_aload_n X dX0_init_15 rfl, ?_⟩
  refine List.forall_mem_cons.mpr ⟨xs_new (C := RX2) (T := TX2) (N := 3) (ci := 3) X (fun w h => List.mem_cons_of_mem _ (List.mem_append_left _ (List.mem_append_right _ h))) tyX2 tyX2_ok rfl (List.mem_of_getElem? (i := 4) rfl) (List.mem_of_getElem? (i := 5) rfl) (List.mem_of_getElem? (i := 6) rfl) (fun j hj => by
      match j, hj with
      | 0, _ => rfl
      | 1, _ => rfl
      | 2, _ => rfl
      | n + 3, h => exact absurd h (by omega)) rfl rfl dX0_init_16, ?_⟩
  refine List.forall_mem_cons.mpr ⟨xs_dup X dX0_init_19, ?_⟩
  refine List.forall_mem_cons.mpr ⟨xs_callIN X (mpX2_init l D Y) ⟨va_cnB 0 X.1.2.2.2.2 gX0_init_X2_init_n11 rfl rfl rfl X.2.2.2.2.1.2.2 (X.1.2.2.2.2 _ (List.mem_of_getElem? (i := 6) rfl)) (by decide +kernel) ⟨Nat.le_of_ble_eq_true rfl, Nat.le_of_ble_eq_true rfl⟩, rfl, X.1.2.2.2.2 _ (List.mem_of_getElem? (i := 14) rfl)⟩ rfl rfl dX0_init_20, ?_⟩
  refine List.forall_mem_cons.mpr ⟨xs_putF (C := RX0) (T := TX0) (N := 9) (ci := 1) (kf := 3) X (fun w h => List.mem_cons_of_mem _ (List.mem_append_right _ h)) tyX0 tyX0_ok nmX0 rfl (by decide) (List.mem_of_getElem? (i := 8) rfl) (fun _ h => h) rfl hname rfl rfl dX0_init_23, ?_⟩
  refine List.forall_mem_cons.mpr ⟨xs_aload_n X dX0_init_26 rfl, ?_⟩
  refine List.forall_mem_cons.mpr ⟨xs_iconst X dX0_init_27 rfl, ?_⟩
  refine List.forall_mem_cons.mpr ⟨xs_putf (C := RX0) (T := TX0) (N := 9) (ci := 1) (kf := 4) X (fun w h => List.mem_cons_of_mem _ (List.mem_append_right _ h)) tyX0 tyX0_ok nmX0 rfl (by decide) (List.mem_of_getElem? (i := 9) rfl) (fun _ h => h) rfl rfl dX0_init_28, ?_⟩
  refine List.forall_mem_cons.mpr ⟨xs_aload_n X dX0_init_31 rfl, ?_⟩
  refine List.forall_mem_cons.mpr ⟨xs_iconst X dX0_init_32 rfl, ?_⟩
  refine List.forall_mem_cons.mpr ⟨xs_putf (C := RX0) (T := TX0) (N := 9) (ci := 1) (kf := 6) X (fun w h => List.mem_cons_of_mem _ (List.mem_append_right _ h)) tyX0 tyX0_ok nmX0 rfl (by decide) (List.mem_of_getElem? (i := 10) rfl) (fun _ h => h) rfl rfl dX0_init_33, ?_⟩
  refine List.forall_mem_cons.mpr ⟨xs_aload_n X dX0_init_36 rfl, ?_⟩
  refine List.forall_mem_cons.mpr ⟨xs_iload_n X dX0_init_37 rfl, ?_⟩
  refine List.forall_mem_cons.mpr ⟨xs_putF (C := RX0) (T := TX0) (N := 9) (ci := 1) (kf := 0) X (fun w h => List.mem_cons_of_mem _ (List.mem_append_right _ h)) tyX0 tyX0_ok nmX0 rfl (by decide) (List.mem_of_getElem? (i := 11) rfl) (fun _ h => h) rfl hname rfl rfl dX0_init_38, ?_⟩
  refine List.forall_mem_cons.mpr ⟨xs_aload_n X dX0_init_41 rfl, ?_⟩
  refine List.forall_mem_cons.mpr ⟨xs_iload_n X dX0_init_42 rfl, ?_⟩
  refine List.forall_mem_cons.mpr ⟨xs_putF (C := RX0) (T := TX0) (N := 9) (ci := 1) (kf := 1) X (fun w h => List.mem_cons_of_mem _ (List.mem_append_right _ h)) tyX0 tyX0_ok nmX0 rfl (by decide) (List.mem_of_getElem? (i := 12) rfl) (fun _ h => h) rfl hname rfl rfl dX0_init_43, ?_⟩
  refine List.forall_mem_cons.mpr ⟨xs_aload_n X dX0_init_46 rfl, ?_⟩
  refine List.forall_mem_cons.mpr ⟨xs_getf (C := RX0) (T := TX0) (N := 9) (ci := 1) (kf := 2) X (fun w h => List.mem_cons_of_mem _ (List.mem_append_right _ h)) rfl (by decide) (List.mem_of_getElem? (i := 7) rfl) (fun _ h => h) dX0_init_47, ?_⟩
  refine List.forall_mem_cons.mpr ⟨xs_aload_n X dX0_init_50 rfl, ?_⟩
  refine List.forall_mem_cons.mpr ⟨xs_putf (C := RX2) (T := TX2) (N := 3) (ci := 3) (kf := 0) X (fun w h => List.mem_cons_of_mem _ (List.mem_append_left _ (List.mem_append_right _ h))) tyX2 tyX2_ok nmX2 rfl (by decide) (List.mem_of_getElem? (i := 13) rfl) (fun _ h => h) rfl rfl dX0_init_51, ?_⟩
  refine List.forall_mem_cons.mpr ⟨xs_aload_n X dX0_init_54 rfl, ?_⟩
  refine List.forall_mem_cons.mpr ⟨xs_getf (C := RX0) (T := TX0) (N := 9) (ci := 1) (kf := 3) X (fun w h => List.mem_cons_of_mem _ (List.mem_append_right _ h)) rfl (by decide) (List.mem_of_getElem? (i := 8) rfl) (fun _ h => h) dX0_init_55, ?_⟩
  refine List.forall_mem_cons.mpr ⟨xs_aload X dX0_init_58, ?_⟩
  refine List.forall_mem_cons.mpr ⟨xs_putf (C := RX2) (T := TX2) (N := 3) (ci := 3) (kf := 0) X (fun w h => List.mem_cons_of_mem _ (List.mem_append_left _ (List.mem_append_right _ h))) tyX2 tyX2_ok nmX2 rfl (by decide) (List.mem_of_getElem? (i := 13) rfl) (fun _ h => h) rfl rfl dX0_init_60, ?_⟩
  refine List.forall_mem_cons.mpr ⟨xs_vret X hr hlocks dX0_init_63, ?_⟩
  exact fun _ h => nomatch h
set_option maxRecDepth 100000 in
set_option maxHeartbeats 4000000 in
theorem mpX3_addPoolBouts (l : Launch) (D : va_G) (Y : xw_Y) : xw_MP l D vwCl (xw_ty Y) Y.1 yX3_addPoolBouts wsX3_addPoolBouts ({ frames := 7, cells := 200, slots := 11000, locals := 157 } : Room) (ptX3_addPoolBouts Y) 200 11000 := by
  refine xw_met (cc := cX3_addPoolBouts) (nL := 7) (ret := none) (by decide +kernel) rfl ?_
  intro p e s m args below meth c w0 post X hr hlocks hname
  unfold tbX3_addPoolBouts
  refine List.forall_mem_cons.mpr ⟨xs_aload_n X dX3_addPoolBouts_0 rfl, ?_⟩
  refine List.forall_mem_cons.mpr ⟨xs_getf (C := RX3) (T := TX3) (N := 10) (ci := 4) (kf := 3) X (fun w h => List.mem_cons_of_mem _ (List.mem_append_left _ (List.mem_append_left _ (List.mem_append_left _ (List.mem_append_left _ (List.mem_append_right _ h)))))) rfl (by decide) (List.mem_of_getElem? (i := 1) rfl) (fun _ h => h) dX3_addPoolBouts_1, ?_⟩
  refine List.forall_mem_cons.mpr ⟨xs_iload_n X dX3_addPoolBouts_4 rfl, ?_⟩
  refine List.forall_mem_cons.mpr ⟨xs_iald (t0 := 0) X rfl dX3_addPoolBouts_5, ?_⟩
  refine List.forall_mem_cons.mpr ⟨xs_istore_n X dX3_addPoolBouts_6 rfl (Nat.le_of_ble_eq_true rfl), ?_⟩
  refine List.forall_mem_cons.mpr ⟨xs_iconst X dX3_addPoolBouts_7 rfl, ?_⟩
  refine List.forall_mem_cons.mpr ⟨xs_istore_n X dX3_addPoolBouts_8 rfl (Nat.le_of_ble_eq_true rfl), ?_⟩
  refine List.forall_mem_cons.mpr ⟨xs_iload_n X dX3_addPoolBouts_9 rfl, ?_⟩
  refine List.forall_mem_cons.mpr ⟨xs_iconst X dX3_addPoolBouts_10 rfl, ?_⟩
  refine List.forall_mem_cons.mpr ⟨xs_iload_n X dX3_addPoolBouts_11 rfl, ?_⟩
  refine List.forall_mem_cons.mpr ⟨xs_imul X dX3_addPoolBouts_12, ?_⟩
  refine List.forall_mem_cons.mpr ⟨xs_iconst X dX3_addPoolBouts_13 rfl, ?_⟩
  refine List.forall_mem_cons.mpr ⟨xs_isub X dX3_addPoolBouts_14, ?_⟩
  refine List.forall_mem_cons.mpr ⟨xs_icmpgt (tg := 99) X dX3_addPoolBouts_15 rfl, ?_⟩
  refine List.forall_mem_cons.mpr ⟨xs_iconst X dX3_addPoolBouts_18 rfl, ?_⟩
  refine List.forall_mem_cons.mpr ⟨xs_istore X dX3_addPoolBouts_19 (Nat.le_of_ble_eq_true rfl), ?_⟩
  refine List.forall_mem_cons.mpr ⟨xs_iload X dX3_addPoolBouts_21, ?_⟩
  refine List.forall_mem_cons.mpr ⟨xs_iload_n X dX3_addPoolBouts_23 rfl, ?_⟩
  refine List.forall_mem_cons.mpr ⟨xs_iload X dX3_addPoolBouts_24, ?_⟩
  refine List.forall_mem_cons.mpr ⟨xs_isub X dX3_addPoolBouts_26, ?_⟩
  refine List.forall_mem_cons.mpr ⟨xs_icmpge (tg := 93) X dX3_addPoolBouts_27 rfl, ?_⟩
  refine List.forall_mem_cons.mpr ⟨xs_aload_n X dX3_addPoolBouts_30 rfl, ?_⟩
  refine List.forall_mem_cons.mpr ⟨xs_iload_n X dX3_addPoolBouts_31 rfl, ?_⟩
  refine List.forall_mem_cons.mpr ⟨xs_iload X dX3_addPoolBouts_32, ?_⟩
  refine List.forall_mem_cons.mpr ⟨xs_callV (ci := 4) X (mpX3_fencerOnSpot l D Y) (cwV 2 X.1.2.2.2.2 gX3_addPoolBouts_X3_fencerOnSpot rfl rfl rfl (by decide +kernel) ⟨Nat.le_of_ble_eq_true rfl, Nat.le_of_ble_eq_true rfl⟩) rfl rfl rfl rfl dX3_addPoolBouts_34, ?_⟩
  refine List.forall_mem_cons.mpr ⟨xs_astore X dX3_addPoolBouts_37 (Nat.le_of_ble_eq_true rfl), ?_⟩
  refine List.forall_mem_cons.mpr ⟨xs_aload_n X dX3_addPoolBouts_39 rfl, ?_⟩
  refine List.forall_mem_cons.mpr ⟨xs_iload_n X dX3_addPoolBouts_40 rfl, ?_⟩
  refine List.forall_mem_cons.mpr ⟨xs_iload_n X dX3_addPoolBouts_41 rfl, ?_⟩
  refine List.forall_mem_cons.mpr ⟨xs_iload X dX3_addPoolBouts_42, ?_⟩
  refine List.forall_mem_cons.mpr ⟨xs_isub X dX3_addPoolBouts_44, ?_⟩
  refine List.forall_mem_cons.mpr ⟨xs_callV (ci := 4) X (mpX3_fencerOnSpot l D Y) (cwV 2 X.1.2.2.2.2 gX3_addPoolBouts_X3_fencerOnSpot rfl rfl rfl (by decide +kernel) ⟨Nat.le_of_ble_eq_true rfl, Nat.le_of_ble_eq_true rfl⟩) rfl rfl rfl rfl dX3_addPoolBouts_45, ?_⟩
  refine List.forall_mem_cons.mpr ⟨xs_astore X dX3_addPoolBouts_48 (Nat.le_of_ble_eq_true rfl), ?_⟩
  refine List.forall_mem_cons.mpr ⟨xs_aload X dX3_addPoolBouts_50, ?_⟩
  refine List.forall_mem_cons.mpr ⟨xs_ifnull (tg := 87) X dX3_addPoolBouts_52 rfl, ?_⟩
  refine List.forall_mem_cons.mpr ⟨xs_aload X dX3_addPoolBouts_55, ?_⟩
  refine List.forall_mem_cons.mpr ⟨xs_ifnull (tg := 87) X dX3_addPoolBouts_57 rfl, ?_⟩
  refine List.forall_mem_cons.mpr ⟨xs_aload_n X dX3_addPoolBouts_60 rfl, ?_⟩
  refine List.forall_mem_cons.mpr ⟨xs_getf (C := RX3) (T := TX3) (N := 10) (ci := 4) (kf := 1) X (fun w h => List.mem_cons_of_mem _ (List.mem_append_left _ (List.mem_append_left _ (List.mem_append_left _ (List.mem_append_left _ (List.mem_append_right _ h)))))) rfl (by decide) (List.mem_of_getElem? (i := 2) rfl) (fun _ h => h) dX3_addPoolBouts_61, ?_⟩
  refine List.forall_mem_cons.mpr ⟨xs_new (C := RX0) (T := TX0) (N := 9) (ci := 1) X (fun w h => List.mem_cons_of_mem _ (List.mem_append_left _ (List.mem_append_left _ (List.mem_append_left _ (List.mem_append_right _ h))))) tyX0 tyX0_ok rfl (List.mem_of_getElem? (i := 3) rfl) (List.mem_of_getElem? (i := 4) rfl) (List.mem_of_getElem? (i := 5) rfl) (fun j hj => by
      match j, hj with
      | 0, _ => rfl
      | 1, _ => rfl
      | 2, _ => rfl
      | 3, _ => rfl
      | 4, _ => rfl
      | 5, _ => rfl
      | 6, _ => rfl
      | 7, _ => rfl
      | 8, _ => rfl
      | n + 9, h => exact absurd h (by omega)) rfl rfl dX3_addPoolBouts_64, ?_⟩
  refine List.forall_mem_cons.mpr ⟨xs_dup X dX3_addPoolBouts_67, ?_⟩
  refine List.forall_mem_cons.mpr ⟨xs_aload_n X dX3_addPoolBouts_68 rfl, ?_⟩
  refine List.forall_mem_cons.mpr ⟨xs_getf (C := RX3) (T := TX3) (N := 10) (ci := 4) (kf := 1) X (fun w h => List.mem_cons_of_mem _ (List.mem_append_left _ (List.mem_append_left _ (List.mem_append_left _ (List.mem_append_left _ (List.mem_append_right _ h)))))) rfl (by decide) (List.mem_of_getElem? (i := 2) rfl) (fun _ h => h) dX3_addPoolBouts_69, ?_⟩
  refine List.forall_mem_cons.mpr ⟨xs_callV (ci := 0) X (mpJx4a65c_size_8abf5 l D Y) (cwV 0 X.1.2.2.2.2 gX3_addPoolBouts_Jx4a65c_size_8abf5 rfl rfl rfl (by decide +kernel) ⟨Nat.le_of_ble_eq_true rfl, Nat.le_of_ble_eq_true rfl⟩) rfl rfl rfl rfl dX3_addPoolBouts_72, ?_⟩
  refine List.forall_mem_cons.mpr ⟨xs_iconst X dX3_addPoolBouts_75 rfl, ?_⟩
  refine List.forall_mem_cons.mpr ⟨xs_aload X dX3_addPoolBouts_76, ?_⟩
  refine List.forall_mem_cons.mpr ⟨xs_aload X dX3_addPoolBouts_78, ?_⟩
  refine List.forall_mem_cons.mpr ⟨xs_callI X (mpX0_init l D Y) (cwI 4 X.1.2.2.2.2 gX3_addPoolBouts_X0_init rfl rfl rfl (X.1.2.2.2.2 _ (List.mem_of_getElem? (i := 5) rfl)) (X.1.2.2.2.2 _ (List.mem_of_getElem? (i := 38) rfl)) (X.1.2.2.2.2 _ (List.mem_of_getElem? (i := 39) rfl)) rfl (by decide +kernel) ⟨Nat.le_of_ble_eq_true rfl, Nat.le_of_ble_eq_true rfl⟩) rfl rfl dX3_addPoolBouts_80, ?_⟩
  refine List.forall_mem_cons.mpr ⟨xs_callV (ci := 0) X (mpJx4a65c_add_9ea2d l D Y) (cwV 1 X.1.2.2.2.2 gX3_addPoolBouts_Jx4a65c_add_9ea2d rfl rfl rfl (by decide +kernel) ⟨Nat.le_of_ble_eq_true rfl, Nat.le_of_ble_eq_true rfl⟩) rfl rfl rfl rfl dX3_addPoolBouts_83, ?_⟩
  refine List.forall_mem_cons.mpr ⟨xs_pop X dX3_addPoolBouts_86, ?_⟩
  refine List.forall_mem_cons.mpr ⟨xs_iinc X dX3_addPoolBouts_87 rfl (Nat.le_of_ble_eq_true rfl), ?_⟩
  refine List.forall_mem_cons.mpr ⟨xs_goto (tg := 21) X dX3_addPoolBouts_90 rfl, ?_⟩
  refine List.forall_mem_cons.mpr ⟨xs_iinc X dX3_addPoolBouts_93 rfl (Nat.le_of_ble_eq_true rfl), ?_⟩
  refine List.forall_mem_cons.mpr ⟨xs_goto (tg := 9) X dX3_addPoolBouts_96 rfl, ?_⟩
  refine List.forall_mem_cons.mpr ⟨xs_vret X hr hlocks dX3_addPoolBouts_99, ?_⟩
  exact fun _ h => nomatch h
