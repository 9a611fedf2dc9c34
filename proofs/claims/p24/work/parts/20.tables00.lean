def tbL_below (Y : xw_Y) : List (Nat × xw_T) := [(0, tr_ild 1 0),
  (1, tr_push 3 (.int (2147483647))),
  (3, tr_i2 4 (fun x y => x &&& y)),
  (4, tr_ild 5 1),
  (5, tr_i2z 6 (fun x y => x - x / y * y)),
  (6, tr_iret .int)]
def ptL_below (Y : xw_Y) : xw_PT := xw_pt (tbL_below Y) 2 0 0
theorem lkL_below_0 (Y : xw_Y) : xw_lk (tbL_below Y) 0 = some (tr_ild 1 0) := rfl
theorem lkL_below_1 (Y : xw_Y) : xw_lk (tbL_below Y) 1 = some (tr_push 3 (.int (2147483647))) := rfl
theorem lkL_below_3 (Y : xw_Y) : xw_lk (tbL_below Y) 3 = some (tr_i2 4 (fun x y => x &&& y)) := rfl
theorem lkL_below_4 (Y : xw_Y) : xw_lk (tbL_below Y) 4 = some (tr_ild 5 1) := rfl
theorem lkL_below_5 (Y : xw_Y) : xw_lk (tbL_below Y) 5 = some (tr_i2z 6 (fun x y => x - x / y * y)) := rfl
theorem lkL_below_6 (Y : xw_Y) : xw_lk (tbL_below Y) 6 = some (tr_iret .int) := rfl
set_option maxRecDepth 100000 in
set_option maxHeartbeats 4000000 in
theorem mpL_below (l : Launch) (D : va_G) (Y : xw_Y) : xw_MP l D vwCl (xw_ty Y) Y.1 yL_below wsL_below ({ frames := 0, cells := 0, slots := 0, locals := 0 } : Room) (ptL_below Y) 0 0 := by
  refine xw_met (cc := cL_below) (nL := 2) (ret := (some .int)) (by decide +kernel) rfl ?_
  intro p e s m args below meth c w0 post X hr hlocks hname
  unfold tbL_below
  refine List.forall_mem_cons.mpr ⟨xs_iload_n X dL_below_0 rfl, ?_⟩
  refine List.forall_mem_cons.mpr ⟨xs_ldc X (List.mem_of_getElem? (i := 1) rfl) dL_below_1, ?_⟩
  refine List.forall_mem_cons.mpr ⟨xs_iand X dL_below_3, ?_⟩
  refine List.forall_mem_cons.mpr ⟨xs_iload_n X dL_below_4 rfl, ?_⟩
  refine List.forall_mem_cons.mpr ⟨xs_irem X dL_below_5, ?_⟩
  refine List.forall_mem_cons.mpr ⟨xs_iret X hr hlocks dL_below_6, ?_⟩
  exact fun _ h => nomatch h
def tbL_cell (Y : xw_Y) : List (Nat × xw_T) := [(0, tr_ild 1 1),
  (1, tr_ald 2 0),
  (2, tr_xlen 3 Y.1),
  (3, tr_ifc 6 12 (fun x y => y ≤ x)),
  (6, tr_ald 7 0),
  (7, tr_ild 8 1),
  (8, tr_xald 9 Y.1),
  (9, tr_goto 18),
  (12, tr_push 14 (.int (790386105))),
  (14, tr_ild 15 1),
  (15, tr_push 16 (.int 3)),
  (16, tr_i2 17 (fun x y => x + y)),
  (17, tr_i2 18 (fun x y => x * y)),
  (18, tr_iret .int)]
def ptL_cell (Y : xw_Y) : xw_PT := xw_pt (tbL_cell Y) 2 0 0
theorem lkL_cell_0 (Y : xw_Y) : xw_lk (tbL_cell Y) 0 = some (tr_ild 1 1) := rfl
theorem lkL_cell_1 (Y : xw_Y) : xw_lk (tbL_cell Y) 1 = some (tr_ald 2 0) := rfl
theorem lkL_cell_2 (Y : xw_Y) : xw_lk (tbL_cell Y) 2 = some (tr_xlen 3 Y.1) := rfl
theorem lkL_cell_3 (Y : xw_Y) : xw_lk (tbL_cell Y) 3 = some (tr_ifc 6 12 (fun x y => y ≤ x)) := rfl
theorem lkL_cell_6 (Y : xw_Y) : xw_lk (tbL_cell Y) 6 = some (tr_ald 7 0) := rfl
theorem lkL_cell_7 (Y : xw_Y) : xw_lk (tbL_cell Y) 7 = some (tr_ild 8 1) := rfl
theorem lkL_cell_8 (Y : xw_Y) : xw_lk (tbL_cell Y) 8 = some (tr_xald 9 Y.1) := rfl
theorem lkL_cell_9 (Y : xw_Y) : xw_lk (tbL_cell Y) 9 = some (tr_goto 18) := rfl
theorem lkL_cell_12 (Y : xw_Y) : xw_lk (tbL_cell Y) 12 = some (tr_push 14 (.int (790386105))) := rfl
theorem lkL_cell_14 (Y : xw_Y) : xw_lk (tbL_cell Y) 14 = some (tr_ild 15 1) := rfl
theorem lkL_cell_15 (Y : xw_Y) : xw_lk (tbL_cell Y) 15 = some (tr_push 16 (.int 3)) := rfl
theorem lkL_cell_16 (Y : xw_Y) : xw_lk (tbL_cell Y) 16 = some (tr_i2 17 (fun x y => x + y)) := rfl
theorem lkL_cell_17 (Y : xw_Y) : xw_lk (tbL_cell Y) 17 = some (tr_i2 18 (fun x y => x * y)) := rfl
theorem lkL_cell_18 (Y : xw_Y) : xw_lk (tbL_cell Y) 18 = some (tr_iret .int) := rfl
set_option maxRecDepth 100000 in
set_option maxHeartbeats 4000000 in
theorem mpL_cell (l : Launch) (D : va_G) (Y : xw_Y) : xw_MP l D vwCl (xw_ty Y) Y.1 yL_cell wsL_cell ({ frames := 0, cells := 0, slots := 0, locals := 0 } : Room) (ptL_cell Y) 0 0 := by
  refine xw_met (cc := cL_cell) (nL := 2) (ret := (some .int)) (by decide +kernel) rfl ?_
  intro p e s m args below meth c w0 post X hr hlocks hname
  unfold tbL_cell
  refine List.forall_mem_cons.mpr ⟨xs_iload_n X dL_cell_0 rfl, ?_⟩
  refine List.forall_mem_cons.mpr ⟨xs_aload_n X dL_cell_1 rfl, ?_⟩
  refine List.forall_mem_cons.mpr ⟨xs_xlen X dL_cell_2, ?_⟩
  refine List.forall_mem_cons.mpr ⟨xs_icmpge (tg := 12) X dL_cell_3 rfl, ?_⟩
  refine List.forall_mem_cons.mpr ⟨xs_aload_n X dL_cell_6 rfl, ?_⟩
  refine List.forall_mem_cons.mpr ⟨xs_iload_n X dL_cell_7 rfl, ?_⟩
  refine List.forall_mem_cons.mpr ⟨xs_xald X dL_cell_8, ?_⟩
  refine List.forall_mem_cons.mpr ⟨xs_goto (tg := 18) X dL_cell_9 rfl, ?_⟩
  refine List.forall_mem_cons.mpr ⟨xs_ldc X (List.mem_of_getElem? (i := 1) rfl) dL_cell_12, ?_⟩
  refine List.forall_mem_cons.mpr ⟨xs_iload_n X dL_cell_14 rfl, ?_⟩
  refine List.forall_mem_cons.mpr ⟨xs_iconst X dL_cell_15 rfl, ?_⟩
  refine List.forall_mem_cons.mpr ⟨xs_iadd X dL_cell_16, ?_⟩
  refine List.forall_mem_cons.mpr ⟨xs_imul X dL_cell_17, ?_⟩
  refine List.forall_mem_cons.mpr ⟨xs_iret X hr hlocks dL_cell_18, ?_⟩
  exact fun _ h => nomatch h
def tbJxa1e45_init_da8c8 (Y : xw_Y) : List (Nat × xw_T) := [(0, tr_ald 1 0),
  (1, tr_obj 4),
  (4, tr_vret)]
def ptJxa1e45_init_da8c8 (Y : xw_Y) : xw_PT := xw_pt (tbJxa1e45_init_da8c8 Y) 1 0 0
theorem lkJxa1e45_init_da8c8_0 (Y : xw_Y) : xw_lk (tbJxa1e45_init_da8c8 Y) 0 = some (tr_ald 1 0) := rfl
theorem lkJxa1e45_init_da8c8_1 (Y : xw_Y) : xw_lk (tbJxa1e45_init_da8c8 Y) 1 = some (tr_obj 4) := rfl
theorem lkJxa1e45_init_da8c8_4 (Y : xw_Y) : xw_lk (tbJxa1e45_init_da8c8 Y) 4 = some (tr_vret) := rfl
set_option maxRecDepth 100000 in
set_option maxHeartbeats 4000000 in
theorem mpJxa1e45_init_da8c8 (l : Launch) (D : va_G) (Y : xw_Y) : xw_MP l D vwCl (xw_ty Y) Y.1 yJxa1e45_init_da8c8 wsJxa1e45_init_da8c8 ({ frames := 1, cells := 0, slots := 0, locals := 20 } : Room) (ptJxa1e45_init_da8c8 Y) 0 0 := by
  refine xw_met (cc := cJxa1e45_init_da8c8) (nL := 1) (ret := none) (by decide +kernel) rfl ?_
  intro p e s m args below meth c w0 post X hr hlocks hname
  unfold tbJxa1e45_init_da8c8
  refine List.forall_mem_cons.mpr ⟨xs_aload_n X dJxa1e45_init_da8c8_0 rfl, ?_⟩
  refine List.forall_mem_cons.mpr ⟨xs_obj X (List.mem_of_getElem? (i := 1) rfl) (List.mem_of_getElem? (i := 2) rfl) (List.mem_of_getElem? (i := 3) rfl) (Nat.le_of_ble_eq_true rfl) (Nat.le_of_ble_eq_true rfl) dJxa1e45_init_da8c8_1, ?_⟩
  refine List.forall_mem_cons.mpr ⟨xs_vret X hr hlocks dJxa1e45_init_da8c8_4, ?_⟩
  exact fun _ h => nomatch h
def tbJxc12de_init_da8c8 (Y : xw_Y) : List (Nat × xw_T) := [(0, tr_ald 1 0),
  (1, tr_callI 4 0 (ptJxa1e45_init_da8c8 Y) 0 0 0 0),
  (4, tr_ald 5 0),
  (5, tr_push 6 (.int 0)),
  (6, tr_putf 9 0 0 .int),
  (9, tr_vret)]
def ptJxc12de_init_da8c8 (Y : xw_Y) : xw_PT := xw_pt (tbJxc12de_init_da8c8 Y) 1 0 0
theorem lkJxc12de_init_da8c8_0 (Y : xw_Y) : xw_lk (tbJxc12de_init_da8c8 Y) 0 = some (tr_ald 1 0) := rfl
theorem lkJxc12de_init_da8c8_1 (Y : xw_Y) : xw_lk (tbJxc12de_init_da8c8 Y) 1 = some (tr_callI 4 0 (ptJxa1e45_init_da8c8 Y) 0 0 0 0) := rfl
theorem lkJxc12de_init_da8c8_4 (Y : xw_Y) : xw_lk (tbJxc12de_init_da8c8 Y) 4 = some (tr_ald 5 0) := rfl
theorem lkJxc12de_init_da8c8_5 (Y : xw_Y) : xw_lk (tbJxc12de_init_da8c8 Y) 5 = some (tr_push 6 (.int 0)) := rfl
theorem lkJxc12de_init_da8c8_6 (Y : xw_Y) : xw_lk (tbJxc12de_init_da8c8 Y) 6 = some (tr_putf 9 0 0 .int) := rfl
theorem lkJxc12de_init_da8c8_9 (Y : xw_Y) : xw_lk (tbJxc12de_init_da8c8 Y) 9 = some (tr_vret) := rfl
set_option maxRecDepth 100000 in
set_option maxHeartbeats 4000000 in
theorem mpJxc12de_init_da8c8 (l : Launch) (D : va_G) (Y : xw_Y) : xw_MP l D vwCl (xw_ty Y) Y.1 yJxc12de_init_da8c8 wsJxc12de_init_da8c8 ({ frames := 2, cells := 0, slots := 0, locals := 40 } : Room) (ptJxc12de_init_da8c8 Y) 0 0 := by
  refine xw_met (cc := cJxc12de_init_da8c8) (nL := 1) (ret := none) (by decide +kernel) rfl ?_
  intro p e s m args below meth c w0 post X hr hlocks hname
  unfold tbJxc12de_init_da8c8
  refine List.forall_mem_cons.mpr ⟨xs_aload_n X dJxc12de_init_da8c8_0 rfl, ?_⟩
  refine List.forall_mem_cons.mpr ⟨xs_callI X (mpJxa1e45_init_da8c8 l D Y) (cwI 0 X.1.2.2.2.2 gJxc12de_init_da8c8_Jxa1e45_init_da8c8 rfl rfl rfl (X.1.2.2.2.2 _ (List.mem_of_getElem? (i := 4) rfl)) (X.1.2.2.2.2 _ (List.mem_of_getElem? (i := 2) rfl)) (X.1.2.2.2.2 _ (List.mem_of_getElem? (i := 3) rfl)) rfl (by decide +kernel) ⟨Nat.le_of_ble_eq_true rfl, Nat.le_of_ble_eq_true rfl⟩) rfl rfl dJxc12de_init_da8c8_1, ?_⟩
  refine List.forall_mem_cons.mpr ⟨xs_aload_n X dJxc12de_init_da8c8_4 rfl, ?_⟩
  refine List.forall_mem_cons.mpr ⟨xs_iconst X dJxc12de_init_da8c8_5 rfl, ?_⟩
  refine List.forall_mem_cons.mpr ⟨xs_putf (C := RJx4a65c) (T := TJx4a65c) (N := 3) (ci := 0) (kf := 0) X (fun w h => List.mem_cons_of_mem _ (List.mem_append_right _ h)) tyJx4a65c tyJx4a65c_ok nmJx4a65c rfl (by decide) (List.mem_of_getElem? (i := 1) rfl) (fun _ h => h) rfl rfl dJxc12de_init_da8c8_6, ?_⟩
  refine List.forall_mem_cons.mpr ⟨xs_vret X hr hlocks dJxc12de_init_da8c8_9, ?_⟩
  exact fun _ h => nomatch h
def tbJx4a65c_init_da8c8 (Y : xw_Y) : List (Nat × xw_T) := [(0, tr_ald 1 0),
  (1, tr_callI 4 0 (ptJxc12de_init_da8c8 Y) 0 0 0 0),
  (4, tr_ald 5 0),
  (5, tr_gets 8 Y.1.1.1),
  (8, tr_putf 11 0 1 (.array (.object "java/lang/Object"))),
  (11, tr_vret)]
def ptJx4a65c_init_da8c8 (Y : xw_Y) : xw_PT := xw_pt (tbJx4a65c_init_da8c8 Y) 1 0 0
theorem lkJx4a65c_init_da8c8_0 (Y : xw_Y) : xw_lk (tbJx4a65c_init_da8c8 Y) 0 = some (tr_ald 1 0) := rfl
theorem lkJx4a65c_init_da8c8_1 (Y : xw_Y) : xw_lk (tbJx4a65c_init_da8c8 Y) 1 = some (tr_callI 4 0 (ptJxc12de_init_da8c8 Y) 0 0 0 0) := rfl
theorem lkJx4a65c_init_da8c8_4 (Y : xw_Y) : xw_lk (tbJx4a65c_init_da8c8 Y) 4 = some (tr_ald 5 0) := rfl
theorem lkJx4a65c_init_da8c8_5 (Y : xw_Y) : xw_lk (tbJx4a65c_init_da8c8 Y) 5 = some (tr_gets 8 Y.1.1.1) := rfl
theorem lkJx4a65c_init_da8c8_8 (Y : xw_Y) : xw_lk (tbJx4a65c_init_da8c8 Y) 8 = some (tr_putf 11 0 1 (.array (.object "java/lang/Object"))) := rfl
theorem lkJx4a65c_init_da8c8_11 (Y : xw_Y) : xw_lk (tbJx4a65c_init_da8c8 Y) 11 = some (tr_vret) := rfl
set_option maxRecDepth 100000 in
set_option maxHeartbeats 4000000 in
theorem mpJx4a65c_init_da8c8 (l : Launch) (D : va_G) (Y : xw_Y) : xw_MP l D vwCl (xw_ty Y) Y.1 yJx4a65c_init_da8c8 wsJx4a65c_init_da8c8 ({ frames := 3, cells := 0, slots := 0, locals := 60 } : Room) (ptJx4a65c_init_da8c8 Y) 0 0 := by
  refine xw_met (cc := cJx4a65c_init_da8c8) (nL := 1) (ret := none) (by decide +kernel) rfl ?_
  intro p e s m args below meth c w0 post X hr hlocks hname
  unfold tbJx4a65c_init_da8c8
  refine List.forall_mem_cons.mpr ⟨xs_aload_n X dJx4a65c_init_da8c8_0 rfl, ?_⟩
  refine List.forall_mem_cons.mpr ⟨xs_callI X (mpJxc12de_init_da8c8 l D Y) (cwI 0 X.1.2.2.2.2 gJx4a65c_init_da8c8_Jxc12de_init_da8c8 rfl rfl rfl (X.1.2.2.2.2 _ (List.mem_of_getElem? (i := 5) rfl)) (X.1.2.2.2.2 _ (List.mem_of_getElem? (i := 3) rfl)) (X.1.2.2.2.2 _ (List.mem_of_getElem? (i := 4) rfl)) rfl (by decide +kernel) ⟨Nat.le_of_ble_eq_true rfl, Nat.le_of_ble_eq_true rfl⟩) rfl rfl dJx4a65c_init_da8c8_1, ?_⟩
  refine List.forall_mem_cons.mpr ⟨xs_aload_n X dJx4a65c_init_da8c8_4 rfl, ?_⟩
  refine List.forall_mem_cons.mpr ⟨xs_gets X (List.mem_of_getElem? (i := 1) rfl) rfl dJx4a65c_init_da8c8_5, ?_⟩
  refine List.forall_mem_cons.mpr ⟨xs_putf (C := RJx4a65c) (T := TJx4a65c) (N := 3) (ci := 0) (kf := 1) X (fun w h => List.mem_cons_of_mem _ (List.mem_append_right _ h)) tyJx4a65c tyJx4a65c_ok nmJx4a65c rfl (by decide) (List.mem_of_getElem? (i := 2) rfl) (fun _ h => h) rfl rfl dJx4a65c_init_da8c8_8, ?_⟩
  refine List.forall_mem_cons.mpr ⟨xs_vret X hr hlocks dJx4a65c_init_da8c8_11, ?_⟩
  exact fun _ h => nomatch h
def tbX3_init (Y : xw_Y) : List (Nat × xw_T) := [(0, tr_ald 1 0),
  (1, tr_obj 4),
  (4, tr_ald 5 0),
  (5, tr_new 8 0 3 [.int 0, .null, .int 0] 6 45),
  (8, tr_dup 9),
  (9, tr_callI 12 0 (ptJx4a65c_init_da8c8 Y) 0 0 6 45),
  (12, tr_putf 15 4 0 (.object "java/util/ArrayList")),
  (15, tr_ald 16 0),
  (16, tr_new 19 0 3 [.int 0, .null, .int 0] 6 45),
  (19, tr_dup 20),
  (20, tr_callI 23 0 (ptJx4a65c_init_da8c8 Y) 0 0 6 45),
  (23, tr_putf 26 4 1 (.object "java/util/ArrayList")),
  (26, tr_ald 27 0),
  (27, tr_push 28 (.int 3)),
  (28, tr_newq 31 Y.2.2.2.1 6 45),
  (31, tr_putf 34 4 2 (.array (.object "Pommel$Bout"))),
  (34, tr_ald 35 0),
  (35, tr_push 36 (.int 4)),
  (36, tr_newi 38 Y.2.1 6 45),
  (38, tr_putf 41 4 3 (.array .int)),
  (41, tr_ald 42 0),
  (42, tr_push 44 (.int 16)),
  (44, tr_newq 47 Y.2.2.2.2 6 45),
  (47, tr_putf 50 4 4 (.array (.object "Pommel$Fencer"))),
  (50, tr_ald 51 0),
  (51, tr_push 53 (.int 16)),
  (53, tr_newi 55 Y.2.1 6 45),
  (55, tr_putf 58 4 5 (.array .int)),
  (58, tr_vret)]
def ptX3_init (Y : xw_Y) : xw_PT := xw_pt (tbX3_init Y) 1 6 45
theorem lkX3_init_0 (Y : xw_Y) : xw_lk (tbX3_init Y) 0 = some (tr_ald 1 0) := rfl
theorem lkX3_init_1 (Y : xw_Y) : xw_lk (tbX3_init Y) 1 = some (tr_obj 4) := rfl
theorem lkX3_init_4 (Y : xw_Y) : xw_lk (tbX3_init Y) 4 = some (tr_ald 5 0) := rfl
theorem lkX3_init_5 (Y : xw_Y) : xw_lk (tbX3_init Y) 5 = some (tr_new 8 0 3 [.int 0, .null, .int 0] 6 45) := rfl
theorem lkX3_init_8 (Y : xw_Y) : xw_lk (tbX3_init Y) 8 = some (tr_dup 9) := rfl
theorem lkX3_init_9 (Y : xw_Y) : xw_lk (tbX3_init Y) 9 = some (tr_callI 12 0 (ptJx4a65c_init_da8c8 Y) 0 0 6 45) := rfl
theorem lkX3_init_12 (Y : xw_Y) : xw_lk (tbX3_init Y) 12 = some (tr_putf 15 4 0 (.object "java/util/ArrayList")) := rfl
theorem lkX3_init_15 (Y : xw_Y) : xw_lk (tbX3_init Y) 15 = some (tr_ald 16 0) := rfl
theorem lkX3_init_16 (Y : xw_Y) : xw_lk (tbX3_init Y) 16 = some (tr_new 19 0 3 [.int 0, .null, .int 0] 6 45) := rfl
theorem lkX3_init_19 (Y : xw_Y) : xw_lk (tbX3_init Y) 19 = some (tr_dup 20) := rfl
theorem lkX3_init_20 (Y : xw_Y) : xw_lk (tbX3_init Y) 20 = some (tr_callI 23 0 (ptJx4a65c_init_da8c8 Y) 0 0 6 45) := rfl
theorem lkX3_init_23 (Y : xw_Y) : xw_lk (tbX3_init Y) 23 = some (tr_putf 26 4 1 (.object "java/util/ArrayList")) := rfl
theorem lkX3_init_26 (Y : xw_Y) : xw_lk (tbX3_init Y) 26 = some (tr_ald 27 0) := rfl
theorem lkX3_init_27 (Y : xw_Y) : xw_lk (tbX3_init Y) 27 = some (tr_push 28 (.int 3)) := rfl
theorem lkX3_init_28 (Y : xw_Y) : xw_lk (tbX3_init Y) 28 = some (tr_newq 31 Y.2.2.2.1 6 45) := rfl
theorem lkX3_init_31 (Y : xw_Y) : xw_lk (tbX3_init Y) 31 = some (tr_putf 34 4 2 (.array (.object "Pommel$Bout"))) := rfl
theorem lkX3_init_34 (Y : xw_Y) : xw_lk (tbX3_init Y) 34 = some (tr_ald 35 0) := rfl
theorem lkX3_init_35 (Y : xw_Y) : xw_lk (tbX3_init Y) 35 = some (tr_push 36 (.int 4)) := rfl
theorem lkX3_init_36 (Y : xw_Y) : xw_lk (tbX3_init Y) 36 = some (tr_newi 38 Y.2.1 6 45) := rfl
theorem lkX3_init_38 (Y : xw_Y) : xw_lk (tbX3_init Y) 38 = some (tr_putf 41 4 3 (.array .int)) := rfl
theorem lkX3_init_41 (Y : xw_Y) : xw_lk (tbX3_init Y) 41 = some (tr_ald 42 0) := rfl
theorem lkX3_init_42 (Y : xw_Y) : xw_lk (tbX3_init Y) 42 = some (tr_push 44 (.int 16)) := rfl
theorem lkX3_init_44 (Y : xw_Y) : xw_lk (tbX3_init Y) 44 = some (tr_newq 47 Y.2.2.2.2 6 45) := rfl
theorem lkX3_init_47 (Y : xw_Y) : xw_lk (tbX3_init Y) 47 = some (tr_putf 50 4 4 (.array (.object "Pommel$Fencer"))) := rfl
theorem lkX3_init_50 (Y : xw_Y) : xw_lk (tbX3_init Y) 50 = some (tr_ald 51 0) := rfl
theorem lkX3_init_51 (Y : xw_Y) : xw_lk (tbX3_init Y) 51 = some (tr_push 53 (.int 16)) := rfl
theorem lkX3_init_53 (Y : xw_Y) : xw_lk (tbX3_init Y) 53 = some (tr_newi 55 Y.2.1 6 45) := rfl
theorem lkX3_init_55 (Y : xw_Y) : xw_lk (tbX3_init Y) 55 = some (tr_putf 58 4 5 (.array .int)) := rfl
theorem lkX3_init_58 (Y : xw_Y) : xw_lk (tbX3_init Y) 58 = some (tr_vret) := rfl
set_option maxRecDepth 100000 in
set_option maxHeartbeats 4000000 in
theorem mpX3_init (l : Launch) (D : va_G) (Y : xw_Y) : xw_MP l D vwCl (xw_ty Y) Y.1 yX3_init wsX3_init ({ frames := 4, cells := 6, slots := 45, locals := 80 } : Room) (ptX3_init Y) 6 45 := by
  refine xw_met (cc := cX3_init) (nL := 1) (ret := none) (by decide +kernel) rfl ?_
  intro p e s m args below meth c w0 post X hr hlocks hname
  unfold tbX3_init
  refine List.forall_mem_cons.mpr ⟨xs_aload_n X dX3_init_0 rfl, ?_⟩
  refine List.forall_mem_cons.mpr ⟨xs_obj X (List.mem_of_getElem? (i := 1) rfl) (List.mem_of_getElem? (i := 2) rfl) (List.mem_of_getElem? (i := 3) rfl) (Nat.le_of_ble_eq_true rfl) (Nat.le_of_ble_eq_true rfl) dX3_init_1, ?_⟩
  refine List.forall_mem_cons.mpr ⟨xs_aload_n X dX3_init_4 rfl, ?_⟩
  refine List.forall_mem_cons.mpr ⟨xs_new (C := RJx4a65c) (T := TJx4a65c) (N := 3) (ci := 0) X (fun w h => List.mem_cons_of_mem _ (List.mem_append_left _ (List.mem_append_right _ h))) tyJx4a65c tyJx4a65c_ok rfl (List.mem_of_getElem? (i := 4) rfl) (List.mem_of_getElem? (i := 5) rfl) (List.mem_of_getElem? (i := 6) rfl) (fun j hj => by
      match j, hj with
      | 0, _ => rfl
      | 1, _ => rfl
      | 2, _ => rfl
      | n + 3, h => exact absurd h (by omega)) rfl rfl dX3_init_5, ?_⟩
  refine List.forall_mem_cons.mpr ⟨xs_dup X dX3_init_8, ?_⟩
  refine List.forall_mem_cons.mpr ⟨xs_callI X (mpJx4a65c_init_da8c8 l D Y) (cwI 0 X.1.2.2.2.2 gX3_init_Jx4a65c_init_da8c8 rfl rfl rfl (X.1.2.2.2.2 _ (List.mem_of_getElem? (i := 6) rfl)) (X.1.2.2.2.2 _ (List.mem_of_getElem? (i := 16) rfl)) (X.1.2.2.2.2 _ (List.mem_of_getElem? (i := 17) rfl)) rfl (by decide +kernel) ⟨Nat.le_of_ble_eq_true rfl, Nat.le_of_ble_eq_true rfl⟩) rfl rfl dX3_init_9, ?_⟩
  refine List.forall_mem_cons.mpr ⟨xs_putF (C := RX3) (T := TX3) (N := 10) (ci := 4) (kf := 0) X (fun w h => List.mem_cons_of_mem _ (List.mem_append_right _ h)) tyX3 tyX3_ok nmX3 rfl (by decide) (List.mem_of_getElem? (i := 7) rfl) (fun _ h => h) rfl hname rfl rfl dX3_init_12, ?_⟩
  refine List.forall_mem_cons.mpr ⟨xs_aload_n X dX3_init_15 rfl, ?_⟩
  refine List.forall_mem_cons.mpr ⟨xs_new (C := RJx4a65c) (T := TJx4a65c) (N := 3) (ci := 0) X (fun w h => List.mem_cons_of_mem _ (List.mem_append_left _ (List.mem_append_right _ h))) tyJx4a65c tyJx4a65c_ok rfl (List.mem_of_getElem? (i := 4) rfl) (List.mem_of_getElem? (i := 5) rfl) (List.mem_of_getElem? (i := 6) rfl) (fun j hj => by
      match j, hj with
      | 0, _ => rfl
      | 1, _ => rfl
      | 2, _ => rfl
      | n + 3, h => exact absurd h (by omega)) rfl rfl dX3_init_16, ?_⟩
  refine List.forall_mem_cons.mpr ⟨xs_dup X dX3_init_19, ?_⟩
  refine List.forall_mem_cons.mpr ⟨xs_callI X (mpJx4a65c_init_da8c8 l D Y) (cwI 0 X.1.2.2.2.2 gX3_init_Jx4a65c_init_da8c8 rfl rfl rfl (X.1.2.2.2.2 _ (List.mem_of_getElem? (i := 6) rfl)) (X.1.2.2.2.2 _ (List.mem_of_getElem? (i := 16) rfl)) (X.1.2.2.2.2 _ (List.mem_of_getElem? (i := 17) rfl)) rfl (by decide +kernel) ⟨Nat.le_of_ble_eq_true rfl, Nat.le_of_ble_eq_true rfl⟩) rfl rfl dX3_init_20, ?_⟩
  refine List.forall_mem_cons.mpr ⟨xs_putF (C := RX3) (T := TX3) (N := 10) (ci := 4) (kf := 1) X (fun w h => List.mem_cons_of_mem _ (List.mem_append_right _ h)) tyX3 tyX3_ok nmX3 rfl (by decide) (List.mem_of_getElem? (i := 8) rfl) (fun _ h => h) rfl hname rfl rfl dX3_init_23, ?_⟩
  refine List.forall_mem_cons.mpr ⟨xs_aload_n X dX3_init_26 rfl, ?_⟩
  refine List.forall_mem_cons.mpr ⟨xs_iconst X dX3_init_27 rfl, ?_⟩
  refine List.forall_mem_cons.mpr ⟨xs_newq (t0 := 2) (C := "Pommel$Bout") X rfl (List.mem_of_getElem? (i := 9) rfl) X.2.2.2.2.2.1 rfl rfl dX3_init_28, ?_⟩
  refine List.forall_mem_cons.mpr ⟨xs_putF (C := RX3) (T := TX3) (N := 10) (ci := 4) (kf := 2) X (fun w h => List.mem_cons_of_mem _ (List.mem_append_right _ h)) tyX3 tyX3_ok nmX3 rfl (by decide) (List.mem_of_getElem? (i := 10) rfl) (fun _ h => h) rfl hname rfl rfl dX3_init_31, ?_⟩
  refine List.forall_mem_cons.mpr ⟨xs_aload_n X dX3_init_34 rfl, ?_⟩
  refine List.forall_mem_cons.mpr ⟨xs_iconst X dX3_init_35 rfl, ?_⟩
  refine List.forall_mem_cons.mpr ⟨xs_newi (t0 := 0) X rfl (List.mem_of_getElem? (i := 11) rfl) rfl rfl dX3_init_36, ?_⟩
  refine List.forall_mem_cons.mpr ⟨xs_putF (C := RX3) (T := TX3) (N := 10) (ci := 4) (kf := 3) X (fun w h => List.mem_cons_of_mem _ (List.mem_append_right _ h)) tyX3 tyX3_ok nmX3 rfl (by decide) (List.mem_of_getElem? (i := 12) rfl) (fun _ h => h) rfl hname rfl rfl dX3_init_38, ?_⟩
  refine List.forall_mem_cons.mpr ⟨xs_aload_n X dX3_init_41 rfl, ?_⟩
  refine List.forall_mem_cons.mpr ⟨xs_bipush X dX3_init_42 rfl, ?_⟩
  refine List.forall_mem_cons.mpr ⟨xs_newq (t0 := 3) (C := "Pommel$Fencer") X rfl (List.mem_of_getElem? (i := 13) rfl) X.2.2.2.2.2.2.1 rfl rfl dX3_init_44, ?_⟩
  refine List.forall_mem_cons.mpr ⟨xs_putF (C := RX3) (T := TX3) (N := 10) (ci := 4) (kf := 4) X (fun w h => List.mem_cons_of_mem _ (List.mem_append_right _ h)) tyX3 tyX3_ok nmX3 rfl (by decide) (List.mem_of_getElem? (i := 14) rfl) (fun _ h => h) rfl hname rfl rfl dX3_init_47, ?_⟩
  refine List.forall_mem_cons.mpr ⟨xs_aload_n X dX3_init_50 rfl, ?_⟩
  refine List.forall_mem_cons.mpr ⟨xs_bipush X dX3_init_51 rfl, ?_⟩
  refine List.forall_mem_cons.mpr ⟨xs_newi (t0 := 0) X rfl (List.mem_of_getElem? (i := 11) rfl) rfl rfl dX3_init_53, ?_⟩
  refine List.forall_mem_cons.mpr ⟨xs_putF (C := RX3) (T := TX3) (N := 10) (ci := 4) (kf := 5) X (fun w h => List.mem_cons_of_mem _ (List.mem_append_right _ h)) tyX3 tyX3_ok nmX3 rfl (by decide) (List.mem_of_getElem? (i := 15) rfl) (fun _ h => h) rfl hname rfl rfl dX3_init_55, ?_⟩
  refine List.forall_mem_cons.mpr ⟨xs_vret X hr hlocks dX3_init_58, ?_⟩
  exact fun _ h => nomatch h
def tbX3_isIn (Y : xw_Y) : List (Nat × xw_T) := [(0, tr_ild 1 0),
  (1, tr_ild 2 1),
  (2, tr_ifc 5 14 (fun x y => x < y)),
  (5, tr_ild 6 0),
  (6, tr_ild 7 2),
  (7, tr_ifc 10 14 (fun x y => y < x)),
  (10, tr_push 11 (.int 1)),
  (11, tr_goto 15),
  (14, tr_push 15 (.int 0)),
  (15, tr_iret .boolean)]
def ptX3_isIn (Y : xw_Y) : xw_PT := xw_pt (tbX3_isIn Y) 3 0 0
theorem lkX3_isIn_0 (Y : xw_Y) : xw_lk (tbX3_isIn Y) 0 = some (tr_ild 1 0) := rfl
theorem lkX3_isIn_1 (Y : xw_Y) : xw_lk (tbX3_isIn Y) 1 = some (tr_ild 2 1) := rfl
theorem lkX3_isIn_2 (Y : xw_Y) : xw_lk (tbX3_isIn Y) 2 = some (tr_ifc 5 14 (fun x y => x < y)) := rfl
theorem lkX3_isIn_5 (Y : xw_Y) : xw_lk (tbX3_isIn Y) 5 = some (tr_ild 6 0) := rfl
theorem lkX3_isIn_6 (Y : xw_Y) : xw_lk (tbX3_isIn Y) 6 = some (tr_ild 7 2) := rfl
theorem lkX3_isIn_7 (Y : xw_Y) : xw_lk (tbX3_isIn Y) 7 = some (tr_ifc 10 14 (fun x y => y < x)) := rfl
theorem lkX3_isIn_10 (Y : xw_Y) : xw_lk (tbX3_isIn Y) 10 = some (tr_push 11 (.int 1)) := rfl
theorem lkX3_isIn_11 (Y : xw_Y) : xw_lk (tbX3_isIn Y) 11 = some (tr_goto 15) := rfl
theorem lkX3_isIn_14 (Y : xw_Y) : xw_lk (tbX3_isIn Y) 14 = some (tr_push 15 (.int 0)) := rfl
theorem lkX3_isIn_15 (Y : xw_Y) : xw_lk (tbX3_isIn Y) 15 = some (tr_iret .boolean) := rfl
set_option maxRecDepth 100000 in
set_option maxHeartbeats 4000000 in
theorem mpX3_isIn (l : Launch) (D : va_G) (Y : xw_Y) : xw_MP l D vwCl (xw_ty Y) Y.1 yX3_isIn wsX3_isIn ({ frames := 0, cells := 0, slots := 0, locals := 0 } : Room) (ptX3_isIn Y) 0 0 := by
  refine xw_met (cc := cX3_isIn) (nL := 3) (ret := (some .boolean)) (by decide +kernel) rfl ?_
  intro p e s m args below meth c w0 post X hr hlocks hname
  unfold tbX3_isIn
  refine List.forall_mem_cons.mpr ⟨xs_iload_n X dX3_isIn_0 rfl, ?_⟩
  refine List.forall_mem_cons.mpr ⟨xs_iload_n X dX3_isIn_1 rfl, ?_⟩
  refine List.forall_mem_cons.mpr ⟨xs_icmplt (tg := 14) X dX3_isIn_2 rfl, ?_⟩
  refine List.forall_mem_cons.mpr ⟨xs_iload_n X dX3_isIn_5 rfl, ?_⟩
  refine List.forall_mem_cons.mpr ⟨xs_iload_n X dX3_isIn_6 rfl, ?_⟩
  refine List.forall_mem_cons.mpr ⟨xs_icmpgt (tg := 14) X dX3_isIn_7 rfl, ?_⟩
  refine List.forall_mem_cons.mpr ⟨xs_iconst X dX3_isIn_10 rfl, ?_⟩
  refine List.forall_mem_cons.mpr ⟨xs_goto (tg := 15) X dX3_isIn_11 rfl, ?_⟩
  refine List.forall_mem_cons.mpr ⟨xs_iconst X dX3_isIn_14 rfl, ?_⟩
  refine List.forall_mem_cons.mpr ⟨xs_iret X hr hlocks dX3_isIn_15, ?_⟩
  exact fun _ h => nomatch h
def tbJx4a65c_size_8abf5 (Y : xw_Y) : List (Nat × xw_T) := [(0, tr_ald 1 0),
  (1, tr_getf 4 0 2),
  (4, tr_iret .int)]
def ptJx4a65c_size_8abf5 (Y : xw_Y) : xw_PT := xw_pt (tbJx4a65c_size_8abf5 Y) 1 0 0
theorem lkJx4a65c_size_8abf5_0 (Y : xw_Y) : xw_lk (tbJx4a65c_size_8abf5 Y) 0 = some (tr_ald 1 0) := rfl
theorem lkJx4a65c_size_8abf5_1 (Y : xw_Y) : xw_lk (tbJx4a65c_size_8abf5 Y) 1 = some (tr_getf 4 0 2) := rfl
theorem lkJx4a65c_size_8abf5_4 (Y : xw_Y) : xw_lk (tbJx4a65c_size_8abf5 Y) 4 = some (tr_iret .int) := rfl
set_option maxRecDepth 100000 in
set_option maxHeartbeats 4000000 in
theorem mpJx4a65c_size_8abf5 (l : Launch) (D : va_G) (Y : xw_Y) : xw_MP l D vwCl (xw_ty Y) Y.1 yJx4a65c_size_8abf5 wsJx4a65c_size_8abf5 ({ frames := 0, cells := 0, slots := 0, locals := 0 } : Room) (ptJx4a65c_size_8abf5 Y) 0 0 := by
  refine xw_met (cc := cJx4a65c_size_8abf5) (nL := 1) (ret := (some .int)) (by decide +kernel) rfl ?_
  intro p e s m args below meth c w0 post X hr hlocks hname
  unfold tbJx4a65c_size_8abf5
  refine List.forall_mem_cons.mpr ⟨xs_aload_n X dJx4a65c_size_8abf5_0 rfl, ?_⟩
  refine List.forall_mem_cons.mpr ⟨xs_getf (C := RJx4a65c) (T := TJx4a65c) (N := 3) (ci := 0) (kf := 2) X (fun w h => List.mem_cons_of_mem _ (List.mem_append_right _ h)) rfl (by decide) (List.mem_of_getElem? (i := 1) rfl) (fun _ h => h) dJx4a65c_size_8abf5_1, ?_⟩
  refine List.forall_mem_cons.mpr ⟨xs_iret X hr hlocks dJx4a65c_size_8abf5_4, ?_⟩
  exact fun _ h => nomatch h
def tbX1_init (Y : xw_Y) : List (Nat × xw_T) := [(0, tr_ald 1 0),
  (1, tr_obj 4),
  (4, tr_ald 5 0),
  (5, tr_push 6 (.int (-1))),
  (6, tr_putf 9 2 3 .int),
  (9, tr_ald 10 0),
  (10, tr_push 11 (.int (-1))),
  (11, tr_putf 14 2 4 .int),
  (14, tr_ald 15 0),
  (15, tr_push 16 (.int (-1))),
  (16, tr_putf 19 2 12 .int),
  (19, tr_ald 20 0),
  (20, tr_push 21 (.int (-1))),
  (21, tr_putf 24 2 13 .int),
  (24, tr_ald 25 0),
  (25, tr_ild 26 1),
  (26, tr_putf 29 2 0 .int),
  (29, tr_ald 30 0),
  (30, tr_ild 31 2),
  (31, tr_putf 34 2 1 .int),
  (34, tr_ald 35 0),
  (35, tr_ild 36 3),
  (36, tr_putf 39 2 2 .int),
  (39, tr_vret)]
def ptX1_init (Y : xw_Y) : xw_PT := xw_pt (tbX1_init Y) 4 0 0
theorem lkX1_init_0 (Y : xw_Y) : xw_lk (tbX1_init Y) 0 = some (tr_ald 1 0) := rfl
theorem lkX1_init_1 (Y : xw_Y) : xw_lk (tbX1_init Y) 1 = some (tr_obj 4) := rfl
theorem lkX1_init_4 (Y : xw_Y) : xw_lk (tbX1_init Y) 4 = some (tr_ald 5 0) := rfl
theorem lkX1_init_5 (Y : xw_Y) : xw_lk (tbX1_init Y) 5 = some (tr_push 6 (.int (-1))) := rfl
theorem lkX1_init_6 (Y : xw_Y) : xw_lk (tbX1_init Y) 6 = some (tr_putf 9 2 3 .int) := rfl
theorem lkX1_init_9 (Y : xw_Y) : xw_lk (tbX1_init Y) 9 = some (tr_ald 10 0) := rfl
theorem lkX1_init_10 (Y : xw_Y) : xw_lk (tbX1_init Y) 10 = some (tr_push 11 (.int (-1))) := rfl
theorem lkX1_init_11 (Y : xw_Y) : xw_lk (tbX1_init Y) 11 = some (tr_putf 14 2 4 .int) := rfl
theorem lkX1_init_14 (Y : xw_Y) : xw_lk (tbX1_init Y) 14 = some (tr_ald 15 0) := rfl
theorem lkX1_init_15 (Y : xw_Y) : xw_lk (tbX1_init Y) 15 = some (tr_push 16 (.int (-1))) := rfl
theorem lkX1_init_16 (Y : xw_Y) : xw_lk (tbX1_init Y) 16 = some (tr_putf 19 2 12 .int) := rfl
theorem lkX1_init_19 (Y : xw_Y) : xw_lk (tbX1_init Y) 19 = some (tr_ald 20 0) := rfl
theorem lkX1_init_20 (Y : xw_Y) : xw_lk (tbX1_init Y) 20 = some (tr_push 21 (.int (-1))) := rfl
theorem lkX1_init_21 (Y : xw_Y) : xw_lk (tbX1_init Y) 21 = some (tr_putf 24 2 13 .int) := rfl
theorem lkX1_init_24 (Y : xw_Y) : xw_lk (tbX1_init Y) 24 = some (tr_ald 25 0) := rfl
theorem lkX1_init_25 (Y : xw_Y) : xw_lk (tbX1_init Y) 25 = some (tr_ild 26 1) := rfl
theorem lkX1_init_26 (Y : xw_Y) : xw_lk (tbX1_init Y) 26 = some (tr_putf 29 2 0 .int) := rfl
theorem lkX1_init_29 (Y : xw_Y) : xw_lk (tbX1_init Y) 29 = some (tr_ald 30 0) := rfl
theorem lkX1_init_30 (Y : xw_Y) : xw_lk (tbX1_init Y) 30 = some (tr_ild 31 2) := rfl
theorem lkX1_init_31 (Y : xw_Y) : xw_lk (tbX1_init Y) 31 = some (tr_putf 34 2 1 .int) := rfl
theorem lkX1_init_34 (Y : xw_Y) : xw_lk (tbX1_init Y) 34 = some (tr_ald 35 0) := rfl
theorem lkX1_init_35 (Y : xw_Y) : xw_lk (tbX1_init Y) 35 = some (tr_ild 36 3) := rfl
theorem lkX1_init_36 (Y : xw_Y) : xw_lk (tbX1_init Y) 36 = some (tr_putf 39 2 2 .int) := rfl
theorem lkX1_init_39 (Y : xw_Y) : xw_lk (tbX1_init Y) 39 = some (tr_vret) := rfl
set_option maxRecDepth 100000 in
set_option maxHeartbeats 4000000 in
theorem mpX1_init (l : Launch) (D : va_G) (Y : xw_Y) : xw_MP l D vwCl (xw_ty Y) Y.1 yX1_init wsX1_init ({ frames := 1, cells := 0, slots := 0, locals := 20 } : Room) (ptX1_init Y) 0 0 := by
  refine xw_met (cc := cX1_init) (nL := 4) (ret := none) (by decide +kernel) rfl ?_
  intro p e s m args below meth c w0 post X hr hlocks hname
  unfold tbX1_init
  refine List.forall_mem_cons.mpr ⟨xs_aload_n X dX1_init_0 rfl, ?_⟩
  refine List.forall_mem_cons.mpr ⟨xs_obj X (List.mem_of_getElem? (i := 1) rfl) (List.mem_of_getElem? (i := 2) rfl) (List.mem_of_getElem? (i := 3) rfl) (Nat.le_of_ble_eq_true rfl) (Nat.le_of_ble_eq_true rfl) dX1_init_1, ?_⟩
  refine List.forall_mem_cons.mpr ⟨xs_aload_n X dX1_init_4 rfl, ?_⟩
  refine List.forall_mem_cons.mpr ⟨xs_iconst X dX1_init_5 rfl, ?_⟩
  refine List.forall_mem_cons.mpr ⟨xs_putf (C := RX1) (T := TX1) (N := 14) (ci := 2) (kf := 3) X (fun w h => List.mem_cons_of_mem _ (List.mem_append_right _ h)) tyX1 tyX1_ok nmX1 rfl (by decide) (List.mem_of_getElem? (i := 4) rfl) (fun _ h => h) rfl rfl dX1_init_6, ?_⟩
  refine List.forall_mem_cons.mpr ⟨xs_aload_n X dX1_init_9 rfl, ?_⟩
  refine List.forall_mem_cons.mpr ⟨xs_iconst X dX1_init_10 rfl, ?_⟩
  refine List.forall_mem_cons.mpr ⟨xs_putf (C := RX1) (T := TX1) (N := 14) (ci := 2) (kf := 4) X (fun w h => List.mem_cons_of_mem _ (List.mem_append_right _ h)) tyX1 tyX1_ok nmX1 rfl (by decide) (List.mem_of_getElem? (i := 5) rfl) (fun _ h => h) rfl rfl dX1_init_11, ?_⟩
  refine List.forall_mem_cons.mpr ⟨xs_aload_n X dX1_init_14 rfl, ?_⟩
  refine List.forall_mem_cons.mpr ⟨xs_iconst X dX1_init_15 rfl, ?_⟩
  refine List.forall_mem_cons.mpr ⟨xs_putf (C := RX1) (T := TX1) (N := 14) (ci := 2) (kf := 12) X (fun w h => List.mem_cons_of_mem _ (List.mem_append_right _ h)) tyX1 tyX1_ok nmX1 rfl (by decide) (List.mem_of_getElem? (i := 6) rfl) (fun _ h => h) rfl rfl dX1_init_16, ?_⟩
  refine List.forall_mem_cons.mpr ⟨xs_aload_n X dX1_init_19 rfl, ?_⟩
  refine List.forall_mem_cons.mpr ⟨xs_iconst X dX1_init_20 rfl, ?_⟩
  refine List.forall_mem_cons.mpr ⟨xs_putf (C := RX1) (T := TX1) (N := 14) (ci := 2) (kf := 13) X (fun w h => List.mem_cons_of_mem _ (List.mem_append_right _ h)) tyX1 tyX1_ok nmX1 rfl (by decide) (List.mem_of_getElem? (i := 7) rfl) (fun _ h => h) rfl rfl dX1_init_21, ?_⟩
  refine List.forall_mem_cons.mpr ⟨xs_aload_n X dX1_init_24 rfl, ?_⟩
  refine List.forall_mem_cons.mpr ⟨xs_iload_n X dX1_init_25 rfl, ?_⟩
  refine List.forall_mem_cons.mpr ⟨xs_putF (C := RX1) (T := TX1) (N := 14) (ci := 2) (kf := 0) X (fun w h => List.mem_cons_of_mem _ (List.mem_append_right _ h)) tyX1 tyX1_ok nmX1 rfl (by decide) (List.mem_of_getElem? (i := 8) rfl) (fun _ h => h) rfl hname rfl rfl dX1_init_26, ?_⟩
  refine List.forall_mem_cons.mpr ⟨xs_aload_n X dX1_init_29 rfl, ?_⟩
  refine List.forall_mem_cons.mpr ⟨xs_iload_n X dX1_init_30 rfl, ?_⟩
  refine List.forall_mem_cons.mpr ⟨xs_putF (C := RX1) (T := TX1) (N := 14) (ci := 2) (kf := 1) X (fun w h => List.mem_cons_of_mem _ (List.mem_append_right _ h)) tyX1 tyX1_ok nmX1 rfl (by decide) (List.mem_of_getElem? (i := 9) rfl) (fun _ h => h) rfl hname rfl rfl dX1_init_31, ?_⟩
  refine List.forall_mem_cons.mpr ⟨xs_aload_n X dX1_init_34 rfl, ?_⟩
  refine List.forall_mem_cons.mpr ⟨xs_iload_n X dX1_init_35 rfl, ?_⟩
  refine List.forall_mem_cons.mpr ⟨xs_putF (C := RX1) (T := TX1) (N := 14) (ci := 2) (kf := 2) X (fun w h => List.mem_cons_of_mem _ (List.mem_append_right _ h)) tyX1 tyX1_ok nmX1 rfl (by decide) (List.mem_of_getElem? (i := 10) rfl) (fun _ h => h) rfl hname rfl rfl dX1_init_36, ?_⟩
  refine List.forall_mem_cons.mpr ⟨xs_vret X hr hlocks dX1_init_39, ?_⟩
  exact fun _ h => nomatch h
def tbJ8_hugeLength_7cf53 (Y : xw_Y) : List (Nat × xw_T) := [(0, tr_ild 1 0),
  (1, tr_ild 2 1),
  (2, tr_i2 3 (fun x y => x + y)),
  (3, tr_ist 4 2),
  (4, tr_ild 5 2),
  (5, tr_ifz 8 49 (fun x => 0 ≤ x)),
  (49, tr_ild 50 2),
  (50, tr_push 52 (.int (2147483639))),
  (52, tr_ifc 55 58 (fun x y => y < x)),
  (55, tr_push 57 (.int (2147483639))),
  (57, tr_iret .int),
  (58, tr_ild 59 2),
  (59, tr_iret .int)]
def ptJ8_hugeLength_7cf53 (Y : xw_Y) : xw_PT := xw_pt (tbJ8_hugeLength_7cf53 Y) 3 0 0
theorem lkJ8_hugeLength_7cf53_0 (Y : xw_Y) : xw_lk (tbJ8_hugeLength_7cf53 Y) 0 = some (tr_ild 1 0) := rfl
theorem lkJ8_hugeLength_7cf53_1 (Y : xw_Y) : xw_lk (tbJ8_hugeLength_7cf53 Y) 1 = some (tr_ild 2 1) := rfl
theorem lkJ8_hugeLength_7cf53_2 (Y : xw_Y) : xw_lk (tbJ8_hugeLength_7cf53 Y) 2 = some (tr_i2 3 (fun x y => x + y)) := rfl
theorem lkJ8_hugeLength_7cf53_3 (Y : xw_Y) : xw_lk (tbJ8_hugeLength_7cf53 Y) 3 = some (tr_ist 4 2) := rfl
theorem lkJ8_hugeLength_7cf53_4 (Y : xw_Y) : xw_lk (tbJ8_hugeLength_7cf53 Y) 4 = some (tr_ild 5 2) := rfl
theorem lkJ8_hugeLength_7cf53_5 (Y : xw_Y) : xw_lk (tbJ8_hugeLength_7cf53 Y) 5 = some (tr_ifz 8 49 (fun x => 0 ≤ x)) := rfl
theorem lkJ8_hugeLength_7cf53_49 (Y : xw_Y) : xw_lk (tbJ8_hugeLength_7cf53 Y) 49 = some (tr_ild 50 2) := rfl
theorem lkJ8_hugeLength_7cf53_50 (Y : xw_Y) : xw_lk (tbJ8_hugeLength_7cf53 Y) 50 = some (tr_push 52 (.int (2147483639))) := rfl
theorem lkJ8_hugeLength_7cf53_52 (Y : xw_Y) : xw_lk (tbJ8_hugeLength_7cf53 Y) 52 = some (tr_ifc 55 58 (fun x y => y < x)) := rfl
theorem lkJ8_hugeLength_7cf53_55 (Y : xw_Y) : xw_lk (tbJ8_hugeLength_7cf53 Y) 55 = some (tr_push 57 (.int (2147483639))) := rfl
theorem lkJ8_hugeLength_7cf53_57 (Y : xw_Y) : xw_lk (tbJ8_hugeLength_7cf53 Y) 57 = some (tr_iret .int) := rfl
theorem lkJ8_hugeLength_7cf53_58 (Y : xw_Y) : xw_lk (tbJ8_hugeLength_7cf53 Y) 58 = some (tr_ild 59 2) := rfl
theorem lkJ8_hugeLength_7cf53_59 (Y : xw_Y) : xw_lk (tbJ8_hugeLength_7cf53 Y) 59 = some (tr_iret .int) := rfl
set_option maxRecDepth 100000 in
set_option maxHeartbeats 4000000 in
theorem mpJ8_hugeLength_7cf53 (l : Launch) (D : va_G) (Y : xw_Y) : xw_MP l D vwCl (xw_ty Y) Y.1 yJ8_hugeLength_7cf53 wsJ8_hugeLength_7cf53 ({ frames := 0, cells := 0, slots := 0, locals := 0 } : Room) (ptJ8_hugeLength_7cf53 Y) 0 0 := by
  refine xw_met (cc := cJ8_hugeLength_7cf53) (nL := 3) (ret := (some .int)) (by decide +kernel) rfl ?_
  intro p e s m args below meth c w0 post X hr hlocks hname
  unfold tbJ8_hugeLength_7cf53
  refine List.forall_mem_cons.mpr ⟨xs_iload_n X dJ8_hugeLength_7cf53_0 rfl, ?_⟩
  refine List.forall_mem_cons.mpr ⟨xs_iload_n X dJ8_hugeLength_7cf53_1 rfl, ?_⟩
  refine List.forall_mem_cons.mpr ⟨xs_iadd X dJ8_hugeLength_7cf53_2, ?_⟩
  refine List.forall_mem_cons.mpr ⟨xs_istore_n X dJ8_hugeLength_7cf53_3 rfl (Nat.le_of_ble_eq_true rfl), ?_⟩
  refine List.forall_mem_cons.mpr ⟨xs_iload_n X dJ8_hugeLength_7cf53_4 rfl, ?_⟩
  refine List.forall_mem_cons.mpr ⟨xs_ifge (tg := 49) X dJ8_hugeLength_7cf53_5 rfl, ?_⟩
  refine List.forall_mem_cons.mpr ⟨xs_iload_n X dJ8_hugeLength_7cf53_49 rfl, ?_⟩
  refine List.forall_mem_cons.mpr ⟨xs_ldc X (List.mem_of_getElem? (i := 1) rfl) dJ8_hugeLength_7cf53_50, ?_⟩
  refine List.forall_mem_cons.mpr ⟨xs_icmpgt (tg := 58) X dJ8_hugeLength_7cf53_52 rfl, ?_⟩
  refine List.forall_mem_cons.mpr ⟨xs_ldc X (List.mem_of_getElem? (i := 1) rfl) dJ8_hugeLength_7cf53_55, ?_⟩
  refine List.forall_mem_cons.mpr ⟨xs_iret X hr hlocks dJ8_hugeLength_7cf53_57, ?_⟩
  refine List.forall_mem_cons.mpr ⟨xs_iload_n X dJ8_hugeLength_7cf53_58 rfl, ?_⟩
  refine List.forall_mem_cons.mpr ⟨xs_iret X hr hlocks dJ8_hugeLength_7cf53_59, ?_⟩
  exact fun _ h => nomatch h
def tbJ8_newLength_cabcc (Y : xw_Y) : List (Nat × xw_T) := [(0, tr_ild 1 0),
  (1, tr_ild 2 1),
  (2, tr_ild 3 2),
  (3, tr_max 6 0 0),
  (6, tr_i2 7 (fun x y => x + y)),
  (7, tr_ist 8 3),
  (8, tr_push 9 (.int 0)),
  (9, tr_ild 10 3),
  (10, tr_ifc 13 21 (fun x y => y ≤ x)),
  (13, tr_ild 14 3),
  (14, tr_push 16 (.int (2147483639))),
  (16, tr_ifc 19 21 (fun x y => y < x)),
  (19, tr_ild 20 3),
  (20, tr_iret .int),
  (21, tr_ild 22 0),
  (22, tr_ild 23 1),
  (23, tr_callS 26 2 (ptJ8_hugeLength_7cf53 Y) 0 0 0 0),
  (26, tr_iret .int)]
def ptJ8_newLength_cabcc (Y : xw_Y) : xw_PT := xw_pt (tbJ8_newLength_cabcc Y) 4 0 0
theorem lkJ8_newLength_cabcc_0 (Y : xw_Y) : xw_lk (tbJ8_newLength_cabcc Y) 0 = some (tr_ild 1 0) := rfl
theorem lkJ8_newLength_cabcc_1 (Y : xw_Y) : xw_lk (tbJ8_newLength_cabcc Y) 1 = some (tr_ild 2 1) := rfl
theorem lkJ8_newLength_cabcc_2 (Y : xw_Y) : xw_lk (tbJ8_newLength_cabcc Y) 2 = some (tr_ild 3 2) := rfl
theorem lkJ8_newLength_cabcc_3 (Y : xw_Y) : xw_lk (tbJ8_newLength_cabcc Y) 3 = some (tr_max 6 0 0) := rfl
theorem lkJ8_newLength_cabcc_6 (Y : xw_Y) : xw_lk (tbJ8_newLength_cabcc Y) 6 = some (tr_i2 7 (fun x y => x + y)) := rfl
theorem lkJ8_newLength_cabcc_7 (Y : xw_Y) : xw_lk (tbJ8_newLength_cabcc Y) 7 = some (tr_ist 8 3) := rfl
theorem lkJ8_newLength_cabcc_8 (Y : xw_Y) : xw_lk (tbJ8_newLength_cabcc Y) 8 = some (tr_push 9 (.int 0)) := rfl
theorem lkJ8_newLength_cabcc_9 (Y : xw_Y) : xw_lk (tbJ8_newLength_cabcc Y) 9 = some (tr_ild 10 3) := rfl
theorem lkJ8_newLength_cabcc_10 (Y : xw_Y) : xw_lk (tbJ8_newLength_cabcc Y) 10 = some (tr_ifc 13 21 (fun x y => y ≤ x)) := rfl
theorem lkJ8_newLength_cabcc_13 (Y : xw_Y) : xw_lk (tbJ8_newLength_cabcc Y) 13 = some (tr_ild 14 3) := rfl
theorem lkJ8_newLength_cabcc_14 (Y : xw_Y) : xw_lk (tbJ8_newLength_cabcc Y) 14 = some (tr_push 16 (.int (2147483639))) := rfl
theorem lkJ8_newLength_cabcc_16 (Y : xw_Y) : xw_lk (tbJ8_newLength_cabcc Y) 16 = some (tr_ifc 19 21 (fun x y => y < x)) := rfl
theorem lkJ8_newLength_cabcc_19 (Y : xw_Y) : xw_lk (tbJ8_newLength_cabcc Y) 19 = some (tr_ild 20 3) := rfl
theorem lkJ8_newLength_cabcc_20 (Y : xw_Y) : xw_lk (tbJ8_newLength_cabcc Y) 20 = some (tr_iret .int) := rfl
theorem lkJ8_newLength_cabcc_21 (Y : xw_Y) : xw_lk (tbJ8_newLength_cabcc Y) 21 = some (tr_ild 22 0) := rfl
theorem lkJ8_newLength_cabcc_22 (Y : xw_Y) : xw_lk (tbJ8_newLength_cabcc Y) 22 = some (tr_ild 23 1) := rfl
theorem lkJ8_newLength_cabcc_23 (Y : xw_Y) : xw_lk (tbJ8_newLength_cabcc Y) 23 = some (tr_callS 26 2 (ptJ8_hugeLength_7cf53 Y) 0 0 0 0) := rfl
theorem lkJ8_newLength_cabcc_26 (Y : xw_Y) : xw_lk (tbJ8_newLength_cabcc Y) 26 = some (tr_iret .int) := rfl
set_option maxRecDepth 100000 in
set_option maxHeartbeats 4000000 in
theorem mpJ8_newLength_cabcc (l : Launch) (D : va_G) (Y : xw_Y) : xw_MP l D vwCl (xw_ty Y) Y.1 yJ8_newLength_cabcc wsJ8_newLength_cabcc ({ frames := 1, cells := 0, slots := 0, locals := 22 } : Room) (ptJ8_newLength_cabcc Y) 0 0 := by
  refine xw_met (cc := cJ8_newLength_cabcc) (nL := 4) (ret := (some .int)) (by decide +kernel) rfl ?_
  intro p e s m args below meth c w0 post X hr hlocks hname
  unfold tbJ8_newLength_cabcc
  refine List.forall_mem_cons.mpr ⟨xs_iload_n X dJ8_newLength_cabcc_0 rfl, ?_⟩
  refine List.forall_mem_cons.mpr ⟨xs_iload_n X dJ8_newLength_cabcc_1 rfl, ?_⟩
  refine List.forall_mem_cons.mpr ⟨xs_iload_n X dJ8_newLength_cabcc_2 rfl, ?_⟩
  refine List.forall_mem_cons.mpr ⟨xs_max X (List.mem_of_getElem? (i := 1) rfl) (List.mem_of_getElem? (i := 2) rfl) (List.mem_of_getElem? (i := 3) rfl) (List.mem_of_getElem? (i := 4) rfl) (Nat.le_of_ble_eq_true rfl) (Nat.le_of_ble_eq_true rfl) rfl rfl dJ8_newLength_cabcc_3, ?_⟩
  refine List.forall_mem_cons.mpr ⟨xs_iadd X dJ8_newLength_cabcc_6, ?_⟩
  refine List.forall_mem_cons.mpr ⟨xs_istore_n X dJ8_newLength_cabcc_7 rfl (Nat.le_of_ble_eq_true rfl), ?_⟩
  refine List.forall_mem_cons.mpr ⟨xs_iconst X dJ8_newLength_cabcc_8 rfl, ?_⟩
  refine List.forall_mem_cons.mpr ⟨xs_iload_n X dJ8_newLength_cabcc_9 rfl, ?_⟩
  refine List.forall_mem_cons.mpr ⟨xs_icmpge (tg := 21) X dJ8_newLength_cabcc_10 rfl, ?_⟩
  refine List.forall_mem_cons.mpr ⟨xs_iload_n X dJ8_newLength_cabcc_13 rfl, ?_⟩
  refine List.forall_mem_cons.mpr ⟨xs_ldc X (List.mem_of_getElem? (i := 5) rfl) dJ8_newLength_cabcc_14, ?_⟩
  refine List.forall_mem_cons.mpr ⟨xs_icmpgt (tg := 21) X dJ8_newLength_cabcc_16 rfl, ?_⟩
  refine List.forall_mem_cons.mpr ⟨xs_iload_n X dJ8_newLength_cabcc_19 rfl, ?_⟩
  refine List.forall_mem_cons.mpr ⟨xs_iret X hr hlocks dJ8_newLength_cabcc_20, ?_⟩
  refine List.forall_mem_cons.mpr ⟨xs_iload_n X dJ8_newLength_cabcc_21 rfl, ?_⟩
  refine List.forall_mem_cons.mpr ⟨xs_iload_n X dJ8_newLength_cabcc_22 rfl, ?_⟩
  refine List.forall_mem_cons.mpr ⟨xs_callS X (mpJ8_hugeLength_7cf53 l D Y) (va_cwS 2 X.1.2.2.2.2 gJ8_newLength_cabcc_J8_hugeLength_7cf53 rfl rfl rfl (by decide +kernel) ⟨Nat.le_of_ble_eq_true rfl, Nat.le_of_ble_eq_true rfl⟩) rfl rfl dJ8_newLength_cabcc_23, ?_⟩
  refine List.forall_mem_cons.mpr ⟨xs_iret X hr hlocks dJ8_newLength_cabcc_26, ?_⟩
  exact fun _ h => nomatch h
def tbJ7_copyOf_6403c (Y : xw_Y) : List (Nat × xw_T) := [(0, tr_ald 1 2),
  (1, tr_push 3 (.ref Y.1.1.2)),
  (3, tr_ifa 6 13),
  (6, tr_ild 7 1),
  (7, tr_newq 10 Y.2.2.1 1 200),
  (10, tr_goto 24),
  (13, tr_ald 14 2),
  (17, tr_ild 18 1),
  (24, tr_ast 25 3),
  (25, tr_ald 26 0),
  (26, tr_push 27 (.int 0)),
  (27, tr_ald 28 3),
  (28, tr_push 29 (.int 0)),
  (29, tr_ald 30 0),
  (30, tr_or (tr_alen 31 [Y.2.2.1]) (tr_zlen 31 Y.1.1.1)),
  (31, tr_ild 32 1),
  (32, tr_min 35 1 200),
  (35, tr_copy 38 Y.2.2.1 [1, 2]),
  (38, tr_ald 39 3),
  (39, tr_aret)]
def ptJ7_copyOf_6403c (Y : xw_Y) : xw_PT := xw_pt (tbJ7_copyOf_6403c Y) 4 1 200
theorem lkJ7_copyOf_6403c_0 (Y : xw_Y) : xw_lk (tbJ7_copyOf_6403c Y) 0 = some (tr_ald 1 2) := rfl
theorem lkJ7_copyOf_6403c_1 (Y : xw_Y) : xw_lk (tbJ7_copyOf_6403c Y) 1 = some (tr_push 3 (.ref Y.1.1.2)) := rfl
theorem lkJ7_copyOf_6403c_3 (Y : xw_Y) : xw_lk (tbJ7_copyOf_6403c Y) 3 = some (tr_ifa 6 13) := rfl
theorem lkJ7_copyOf_6403c_6 (Y : xw_Y) : xw_lk (tbJ7_copyOf_6403c Y) 6 = some (tr_ild 7 1) := rfl
theorem lkJ7_copyOf_6403c_7 (Y : xw_Y) : xw_lk (tbJ7_copyOf_6403c Y) 7 = some (tr_newq 10 Y.2.2.1 1 200) := rfl
theorem lkJ7_copyOf_6403c_10 (Y : xw_Y) : xw_lk (tbJ7_copyOf_6403c Y) 10 = some (tr_goto 24) := rfl
theorem lkJ7_copyOf_6403c_13 (Y : xw_Y) : xw_lk (tbJ7_copyOf_6403c Y) 13 = some (tr_ald 14 2) := rfl
theorem lkJ7_copyOf_6403c_17 (Y : xw_Y) : xw_lk (tbJ7_copyOf_6403c Y) 17 = some (tr_ild 18 1) := rfl
theorem lkJ7_copyOf_6403c_24 (Y : xw_Y) : xw_lk (tbJ7_copyOf_6403c Y) 24 = some (tr_ast 25 3) := rfl
theorem lkJ7_copyOf_6403c_25 (Y : xw_Y) : xw_lk (tbJ7_copyOf_6403c Y) 25 = some (tr_ald 26 0) := rfl
theorem lkJ7_copyOf_6403c_26 (Y : xw_Y) : xw_lk (tbJ7_copyOf_6403c Y) 26 = some (tr_push 27 (.int 0)) := rfl
theorem lkJ7_copyOf_6403c_27 (Y : xw_Y) : xw_lk (tbJ7_copyOf_6403c Y) 27 = some (tr_ald 28 3) := rfl
theorem lkJ7_copyOf_6403c_28 (Y : xw_Y) : xw_lk (tbJ7_copyOf_6403c Y) 28 = some (tr_push 29 (.int 0)) := rfl
theorem lkJ7_copyOf_6403c_29 (Y : xw_Y) : xw_lk (tbJ7_copyOf_6403c Y) 29 = some (tr_ald 30 0) := rfl
theorem lkJ7_copyOf_6403c_30 (Y : xw_Y) : xw_lk (tbJ7_copyOf_6403c Y) 30 = some (tr_or (tr_alen 31 [Y.2.2.1]) (tr_zlen 31 Y.1.1.1)) := rfl
theorem lkJ7_copyOf_6403c_31 (Y : xw_Y) : xw_lk (tbJ7_copyOf_6403c Y) 31 = some (tr_ild 32 1) := rfl
theorem lkJ7_copyOf_6403c_32 (Y : xw_Y) : xw_lk (tbJ7_copyOf_6403c Y) 32 = some (tr_min 35 1 200) := rfl
theorem lkJ7_copyOf_6403c_35 (Y : xw_Y) : xw_lk (tbJ7_copyOf_6403c Y) 35 = some (tr_copy 38 Y.2.2.1 [1, 2]) := rfl
theorem lkJ7_copyOf_6403c_38 (Y : xw_Y) : xw_lk (tbJ7_copyOf_6403c Y) 38 = some (tr_ald 39 3) := rfl
theorem lkJ7_copyOf_6403c_39 (Y : xw_Y) : xw_lk (tbJ7_copyOf_6403c Y) 39 = some (tr_aret) := rfl
set_option maxRecDepth 100000 in
set_option maxHeartbeats 4000000 in
theorem mpJ7_copyOf_6403c (l : Launch) (D : va_G) (Y : xw_Y) : xw_MP l D vwCl (xw_ty Y) Y.1 yJ7_copyOf_6403c wsJ7_copyOf_6403c ({ frames := 1, cells := 1, slots := 200, locals := 26 } : Room) (ptJ7_copyOf_6403c Y) 1 200 := by
  refine xw_met (cc := cJ7_copyOf_6403c) (nL := 4) (ret := (some (.array (.object "java/lang/Object")))) (by decide +kernel) rfl ?_
  intro p e s m args below meth c w0 post X hr hlocks hname
  unfold tbJ7_copyOf_6403c
  refine List.forall_mem_cons.mpr ⟨xs_aload_n X dJ7_copyOf_6403c_0 rfl, ?_⟩
  refine List.forall_mem_cons.mpr ⟨xs_ldcM X (List.mem_of_getElem? (i := 1) rfl) dJ7_copyOf_6403c_1, ?_⟩
  refine List.forall_mem_cons.mpr ⟨xs_acmpne (tg := 13) X dJ7_copyOf_6403c_3 rfl, ?_⟩
  refine List.forall_mem_cons.mpr ⟨xs_iload_n X dJ7_copyOf_6403c_6 rfl, ?_⟩
  refine List.forall_mem_cons.mpr ⟨xs_newq (t0 := 1) (C := "java/lang/Object") X rfl (List.mem_of_getElem? (i := 2) rfl) X.2.2.2.2.2.2.2.1 rfl rfl dJ7_copyOf_6403c_7, ?_⟩
  refine List.forall_mem_cons.mpr ⟨xs_goto (tg := 24) X dJ7_copyOf_6403c_10 rfl, ?_⟩
  refine List.forall_mem_cons.mpr ⟨xs_aload_n X dJ7_copyOf_6403c_13 rfl, ?_⟩
  refine List.forall_mem_cons.mpr ⟨xs_iload_n X dJ7_copyOf_6403c_17 rfl, ?_⟩
  refine List.forall_mem_cons.mpr ⟨xs_astore_n X dJ7_copyOf_6403c_24 rfl (Nat.le_of_ble_eq_true rfl), ?_⟩
  refine List.forall_mem_cons.mpr ⟨xs_aload_n X dJ7_copyOf_6403c_25 rfl, ?_⟩
  refine List.forall_mem_cons.mpr ⟨xs_iconst X dJ7_copyOf_6403c_26 rfl, ?_⟩
  refine List.forall_mem_cons.mpr ⟨xs_aload_n X dJ7_copyOf_6403c_27 rfl, ?_⟩
  refine List.forall_mem_cons.mpr ⟨xs_iconst X dJ7_copyOf_6403c_28 rfl, ?_⟩
  refine List.forall_mem_cons.mpr ⟨xs_aload_n X dJ7_copyOf_6403c_29 rfl, ?_⟩
  refine List.forall_mem_cons.mpr ⟨xs_or (xs_alen X (fun cA h => by
      rcases List.mem_cons.mp h with h | h
      · exact ⟨1, _, by rw [h]; rfl⟩
      · cases h) dJ7_copyOf_6403c_30) (xs_zlen X dJ7_copyOf_6403c_30), ?_⟩
  refine List.forall_mem_cons.mpr ⟨xs_iload_n X dJ7_copyOf_6403c_31 rfl, ?_⟩
  refine List.forall_mem_cons.mpr ⟨xs_min X (List.mem_of_getElem? (i := 3) rfl) (List.mem_of_getElem? (i := 4) rfl) (List.mem_of_getElem? (i := 5) rfl) (List.mem_of_getElem? (i := 6) rfl) (Nat.le_of_ble_eq_true rfl) (Nat.le_of_ble_eq_true rfl) rfl rfl dJ7_copyOf_6403c_32, ?_⟩
  refine List.forall_mem_cons.mpr ⟨xs_copy (t0 := 1) X rfl (fun ci h => by
      rcases List.mem_cons.mp h with h | h
      · exact ⟨_, by rw [h]; rfl, X.2.2.2.2.1.1⟩
      rcases List.mem_cons.mp h with h | h
      · exact ⟨_, by rw [h]; rfl, X.2.2.2.2.1.2.1⟩
      · cases h) (List.mem_of_getElem? (i := 7) rfl) (List.mem_of_getElem? (i := 8) rfl) (List.mem_of_getElem? (i := 9) rfl) (List.mem_of_getElem? (i := 10) rfl) (Nat.le_of_ble_eq_true rfl) (by decide +kernel) dJ7_copyOf_6403c_35, ?_⟩
  refine List.forall_mem_cons.mpr ⟨xs_aload_n X dJ7_copyOf_6403c_38 rfl, ?_⟩
  refine List.forall_mem_cons.mpr ⟨xs_aret X hr (Or.inr ⟨_, rfl⟩) hlocks dJ7_copyOf_6403c_39, ?_⟩
  exact fun _ h => nomatch h
def tbJ7_copyOf_1904c (Y : xw_Y) : List (Nat × xw_T) := [(0, tr_ald 1 0),
  (1, tr_ild 2 1),
  (2, tr_ald 3 0),
  (3, tr_getc 6 Y.2.2.1 Y.1.1.2),
  (6, tr_callS 9 3 (ptJ7_copyOf_6403c Y) 1 200 1 200),
  (9, tr_aret)]
def ptJ7_copyOf_1904c (Y : xw_Y) : xw_PT := xw_pt (tbJ7_copyOf_1904c Y) 2 1 200
theorem lkJ7_copyOf_1904c_0 (Y : xw_Y) : xw_lk (tbJ7_copyOf_1904c Y) 0 = some (tr_ald 1 0) := rfl
theorem lkJ7_copyOf_1904c_1 (Y : xw_Y) : xw_lk (tbJ7_copyOf_1904c Y) 1 = some (tr_ild 2 1) := rfl
theorem lkJ7_copyOf_1904c_2 (Y : xw_Y) : xw_lk (tbJ7_copyOf_1904c Y) 2 = some (tr_ald 3 0) := rfl
theorem lkJ7_copyOf_1904c_3 (Y : xw_Y) : xw_lk (tbJ7_copyOf_1904c Y) 3 = some (tr_getc 6 Y.2.2.1 Y.1.1.2) := rfl
theorem lkJ7_copyOf_1904c_6 (Y : xw_Y) : xw_lk (tbJ7_copyOf_1904c Y) 6 = some (tr_callS 9 3 (ptJ7_copyOf_6403c Y) 1 200 1 200) := rfl
theorem lkJ7_copyOf_1904c_9 (Y : xw_Y) : xw_lk (tbJ7_copyOf_1904c Y) 9 = some (tr_aret) := rfl
set_option maxRecDepth 100000 in
set_option maxHeartbeats 4000000 in
theorem mpJ7_copyOf_1904c (l : Launch) (D : va_G) (Y : xw_Y) : xw_MP l D vwCl (xw_ty Y) Y.1 yJ7_copyOf_1904c wsJ7_copyOf_1904c ({ frames := 2, cells := 1, slots := 200, locals := 49 } : Room) (ptJ7_copyOf_1904c Y) 1 200 := by
  refine xw_met (cc := cJ7_copyOf_1904c) (nL := 2) (ret := (some (.array (.object "java/lang/Object")))) (by decide +kernel) rfl ?_
  intro p e s m args below meth c w0 post X hr hlocks hname
  unfold tbJ7_copyOf_1904c
  refine List.forall_mem_cons.mpr ⟨xs_aload_n X dJ7_copyOf_1904c_0 rfl, ?_⟩
  refine List.forall_mem_cons.mpr ⟨xs_iload_n X dJ7_copyOf_1904c_1 rfl, ?_⟩
  refine List.forall_mem_cons.mpr ⟨xs_aload_n X dJ7_copyOf_1904c_2 rfl, ?_⟩
  refine List.forall_mem_cons.mpr ⟨xs_getc (t0 := 1) X rfl (List.mem_of_getElem? (i := 1) rfl) (List.mem_of_getElem? (i := 2) rfl) (List.mem_of_getElem? (i := 3) rfl) (List.mem_of_getElem? (i := 4) rfl) (Nat.le_of_ble_eq_true rfl) (Nat.le_of_ble_eq_true rfl) dJ7_copyOf_1904c_3, ?_⟩
  refine List.forall_mem_cons.mpr ⟨xs_callS X (mpJ7_copyOf_6403c l D Y) (va_cwS 3 X.1.2.2.2.2 gJ7_copyOf_1904c_J7_copyOf_6403c rfl rfl rfl (by decide +kernel) ⟨Nat.le_of_ble_eq_true rfl, Nat.le_of_ble_eq_true rfl⟩) rfl rfl dJ7_copyOf_1904c_6, ?_⟩
  refine List.forall_mem_cons.mpr ⟨xs_aret X hr (Or.inr ⟨_, rfl⟩) hlocks dJ7_copyOf_1904c_9, ?_⟩
  exact fun _ h => nomatch h
def tbJx4a65c_grow_92f84 (Y : xw_Y) : List (Nat × xw_T) := [(0, tr_ald 1 0),
  (1, tr_getf 4 0 1),
  (4, tr_or (tr_alen 5 [Y.2.2.1]) (tr_zlen 5 Y.1.1.1)),
  (5, tr_ist 6 2),
  (6, tr_ild 7 2),
  (7, tr_ifz 10 20 (fun x => 0 < x)),
  (10, tr_ald 11 0),
  (11, tr_getf 14 0 1),
  (14, tr_gets 17 Y.1.1.1),
  (17, tr_ifa 45 20),
  (20, tr_ild 21 2),
  (21, tr_ild 22 1),
  (22, tr_ild 23 2),
  (23, tr_i2 24 (fun x y => x - y)),
  (24, tr_ild 25 2),
  (25, tr_push 26 (.int 1)),
  (26, tr_i2 27 (fun x y => x >>> (y &&& 31))),
  (27, tr_callS 30 3 (ptJ8_newLength_cabcc Y) 0 0 1 200),
  (30, tr_ist 31 3),
  (31, tr_ald 32 0),
  (32, tr_ald 33 0),
  (33, tr_getf 36 0 1),
  (36, tr_ild 37 3),
  (37, tr_callS 40 2 (ptJ7_copyOf_1904c Y) 1 200 1 200),
  (40, tr_dupx1 41),
  (41, tr_putf 44 0 1 (.array (.object "java/lang/Object"))),
  (44, tr_aret),
  (45, tr_ald 46 0),
  (46, tr_push 48 (.int 10)),
  (48, tr_ild 49 1),
  (49, tr_max 52 1 200),
  (52, tr_newq 55 Y.2.2.1 1 200),
  (55, tr_dupx1 56),
  (56, tr_putf 59 0 1 (.array (.object "java/lang/Object"))),
  (59, tr_aret)]
def ptJx4a65c_grow_92f84 (Y : xw_Y) : xw_PT := xw_pt (tbJx4a65c_grow_92f84 Y) 4 1 200
theorem lkJx4a65c_grow_92f84_0 (Y : xw_Y) : xw_lk (tbJx4a65c_grow_92f84 Y) 0 = some (tr_ald 1 0) := rfl
theorem lkJx4a65c_grow_92f84_1 (Y : xw_Y) : xw_lk (tbJx4a65c_grow_92f84 Y) 1 = some (tr_getf 4 0 1) := rfl
theorem lkJx4a65c_grow_92f84_4 (Y : xw_Y) : xw_lk (tbJx4a65c_grow_92f84 Y) 4 = some (tr_or (tr_alen 5 [Y.2.2.1]) (tr_zlen 5 Y.1.1.1)) := rfl
theorem lkJx4a65c_grow_92f84_5 (Y : xw_Y) : xw_lk (tbJx4a65c_grow_92f84 Y) 5 = some (tr_ist 6 2) := rfl
theorem lkJx4a65c_grow_92f84_6 (Y : xw_Y) : xw_lk (tbJx4a65c_grow_92f84 Y) 6 = some (tr_ild 7 2) := rfl
theorem lkJx4a65c_grow_92f84_7 (Y : xw_Y) : xw_lk (tbJx4a65c_grow_92f84 Y) 7 = some (tr_ifz 10 20 (fun x => 0 < x)) := rfl
theorem lkJx4a65c_grow_92f84_10 (Y : xw_Y) : xw_lk (tbJx4a65c_grow_92f84 Y) 10 = some (tr_ald 11 0) := rfl
theorem lkJx4a65c_grow_92f84_11 (Y : xw_Y) : xw_lk (tbJx4a65c_grow_92f84 Y) 11 = some (tr_getf 14 0 1) := rfl
theorem lkJx4a65c_grow_92f84_14 (Y : xw_Y) : xw_lk (tbJx4a65c_grow_92f84 Y) 14 = some (tr_gets 17 Y.1.1.1) := rfl
theorem lkJx4a65c_grow_92f84_17 (Y : xw_Y) : xw_lk (tbJx4a65c_grow_92f84 Y) 17 = some (tr_ifa 45 20) := rfl
theorem lkJx4a65c_grow_92f84_20 (Y : xw_Y) : xw_lk (tbJx4a65c_grow_92f84 Y) 20 = some (tr_ild 21 2) := rfl
theorem lkJx4a65c_grow_92f84_21 (Y : xw_Y) : xw_lk (tbJx4a65c_grow_92f84 Y) 21 = some (tr_ild 22 1) := rfl
theorem lkJx4a65c_grow_92f84_22 (Y : xw_Y) : xw_lk (tbJx4a65c_grow_92f84 Y) 22 = some (tr_ild 23 2) := rfl
theorem lkJx4a65c_grow_92f84_23 (Y : xw_Y) : xw_lk (tbJx4a65c_grow_92f84 Y) 23 = some (tr_i2 24 (fun x y => x - y)) := rfl
theorem lkJx4a65c_grow_92f84_24 (Y : xw_Y) : xw_lk (tbJx4a65c_grow_92f84 Y) 24 = some (tr_ild 25 2) := rfl
theorem lkJx4a65c_grow_92f84_25 (Y : xw_Y) : xw_lk (tbJx4a65c_grow_92f84 Y) 25 = some (tr_push 26 (.int 1)) := rfl
theorem lkJx4a65c_grow_92f84_26 (Y : xw_Y) : xw_lk (tbJx4a65c_grow_92f84 Y) 26 = some (tr_i2 27 (fun x y => x >>> (y &&& 31))) := rfl
theorem lkJx4a65c_grow_92f84_27 (Y : xw_Y) : xw_lk (tbJx4a65c_grow_92f84 Y) 27 = some (tr_callS 30 3 (ptJ8_newLength_cabcc Y) 0 0 1 200) := rfl
theorem lkJx4a65c_grow_92f84_30 (Y : xw_Y) : xw_lk (tbJx4a65c_grow_92f84 Y) 30 = some (tr_ist 31 3) := rfl
theorem lkJx4a65c_grow_92f84_31 (Y : xw_Y) : xw_lk (tbJx4a65c_grow_92f84 Y) 31 = some (tr_ald 32 0) := rfl
theorem lkJx4a65c_grow_92f84_32 (Y : xw_Y) : xw_lk (tbJx4a65c_grow_92f84 Y) 32 = some (tr_ald 33 0) := rfl
theorem lkJx4a65c_grow_92f84_33 (Y : xw_Y) : xw_lk (tbJx4a65c_grow_92f84 Y) 33 = some (tr_getf 36 0 1) := rfl
theorem lkJx4a65c_grow_92f84_36 (Y : xw_Y) : xw_lk (tbJx4a65c_grow_92f84 Y) 36 = some (tr_ild 37 3) := rfl
theorem lkJx4a65c_grow_92f84_37 (Y : xw_Y) : xw_lk (tbJx4a65c_grow_92f84 Y) 37 = some (tr_callS 40 2 (ptJ7_copyOf_1904c Y) 1 200 1 200) := rfl
theorem lkJx4a65c_grow_92f84_40 (Y : xw_Y) : xw_lk (tbJx4a65c_grow_92f84 Y) 40 = some (tr_dupx1 41) := rfl
theorem lkJx4a65c_grow_92f84_41 (Y : xw_Y) : xw_lk (tbJx4a65c_grow_92f84 Y) 41 = some (tr_putf 44 0 1 (.array (.object "java/lang/Object"))) := rfl
theorem lkJx4a65c_grow_92f84_44 (Y : xw_Y) : xw_lk (tbJx4a65c_grow_92f84 Y) 44 = some (tr_aret) := rfl
theorem lkJx4a65c_grow_92f84_45 (Y : xw_Y) : xw_lk (tbJx4a65c_grow_92f84 Y) 45 = some (tr_ald 46 0) := rfl
theorem lkJx4a65c_grow_92f84_46 (Y : xw_Y) : xw_lk (tbJx4a65c_grow_92f84 Y) 46 = some (tr_push 48 (.int 10)) := rfl
theorem lkJx4a65c_grow_92f84_48 (Y : xw_Y) : xw_lk (tbJx4a65c_grow_92f84 Y) 48 = some (tr_ild 49 1) := rfl
theorem lkJx4a65c_grow_92f84_49 (Y : xw_Y) : xw_lk (tbJx4a65c_grow_92f84 Y) 49 = some (tr_max 52 1 200) := rfl
theorem lkJx4a65c_grow_92f84_52 (Y : xw_Y) : xw_lk (tbJx4a65c_grow_92f84 Y) 52 = some (tr_newq 55 Y.2.2.1 1 200) := rfl
theorem lkJx4a65c_grow_92f84_55 (Y : xw_Y) : xw_lk (tbJx4a65c_grow_92f84 Y) 55 = some (tr_dupx1 56) := rfl
theorem lkJx4a65c_grow_92f84_56 (Y : xw_Y) : xw_lk (tbJx4a65c_grow_92f84 Y) 56 = some (tr_putf 59 0 1 (.array (.object "java/lang/Object"))) := rfl
theorem lkJx4a65c_grow_92f84_59 (Y : xw_Y) : xw_lk (tbJx4a65c_grow_92f84 Y) 59 = some (tr_aret) := rfl
set_option maxRecDepth 100000 in
set_option maxHeartbeats 4000000 in
theorem mpJx4a65c_grow_92f84 (l : Launch) (D : va_G) (Y : xw_Y) : xw_MP l D vwCl (xw_ty Y) Y.1 yJx4a65c_grow_92f84 wsJx4a65c_grow_92f84 ({ frames := 3, cells := 1, slots := 200, locals := 70 } : Room) (ptJx4a65c_grow_92f84 Y) 1 200 := by
  refine xw_met (cc := cJx4a65c_grow_92f84) (nL := 4) (ret := (some (.array (.object "java/lang/Object")))) (by decide +kernel) rfl ?_
  intro p e s m args below meth c w0 post X hr hlocks hname
  unfold tbJx4a65c_grow_92f84
  refine List.forall_mem_cons.mpr ⟨xs_aload_n X dJx4a65c_grow_92f84_0 rfl, ?_⟩
  refine List.forall_mem_cons.mpr ⟨xs_getf (C := RJx4a65c) (T := TJx4a65c) (N := 3) (ci := 0) (kf := 1) X (fun w h => List.mem_cons_of_mem _ (List.mem_append_right _ h)) rfl (by decide) (List.mem_of_getElem? (i := 1) rfl) (fun _ h => h) dJx4a65c_grow_92f84_1, ?_⟩
  refine List.forall_mem_cons.mpr ⟨xs_or (xs_alen X (fun cA h => by
      rcases List.mem_cons.mp h with h | h
      · exact ⟨1, _, by rw [h]; rfl⟩
      · cases h) dJx4a65c_grow_92f84_4) (xs_zlen X dJx4a65c_grow_92f84_4), ?_⟩
  refine List.forall_mem_cons.mpr ⟨xs_istore_n X dJx4a65c_grow_92f84_5 rfl (Nat.le_of_ble_eq_true rfl), ?_⟩
  refine List.forall_mem_cons.mpr ⟨xs_iload_n X dJx4a65c_grow_92f84_6 rfl, ?_⟩
  refine List.forall_mem_cons.mpr ⟨xs_ifgt (tg := 20) X dJx4a65c_grow_92f84_7 rfl, ?_⟩
  refine List.forall_mem_cons.mpr ⟨xs_aload_n X dJx4a65c_grow_92f84_10 rfl, ?_⟩
  refine List.forall_mem_cons.mpr ⟨xs_getf (C := RJx4a65c) (T := TJx4a65c) (N := 3) (ci := 0) (kf := 1) X (fun w h => List.mem_cons_of_mem _ (List.mem_append_right _ h)) rfl (by decide) (List.mem_of_getElem? (i := 1) rfl) (fun _ h => h) dJx4a65c_grow_92f84_11, ?_⟩
  refine List.forall_mem_cons.mpr ⟨xs_gets X (List.mem_of_getElem? (i := 2) rfl) rfl dJx4a65c_grow_92f84_14, ?_⟩
  refine List.forall_mem_cons.mpr ⟨xs_acmpeq (tg := 45) X dJx4a65c_grow_92f84_17 rfl, ?_⟩
  refine List.forall_mem_cons.mpr ⟨xs_iload_n X dJx4a65c_grow_92f84_20 rfl, ?_⟩
  refine List.forall_mem_cons.mpr ⟨xs_iload_n X dJx4a65c_grow_92f84_21 rfl, ?_⟩
  refine List.forall_mem_cons.mpr ⟨xs_iload_n X dJx4a65c_grow_92f84_22 rfl, ?_⟩
  refine List.forall_mem_cons.mpr ⟨xs_isub X dJx4a65c_grow_92f84_23, ?_⟩
  refine List.forall_mem_cons.mpr ⟨xs_iload_n X dJx4a65c_grow_92f84_24 rfl, ?_⟩
  refine List.forall_mem_cons.mpr ⟨xs_iconst X dJx4a65c_grow_92f84_25 rfl, ?_⟩
  refine List.forall_mem_cons.mpr ⟨xs_ishr X dJx4a65c_grow_92f84_26, ?_⟩
  refine List.forall_mem_cons.mpr ⟨xs_callS X (mpJ8_newLength_cabcc l D Y) (va_cwS 3 X.1.2.2.2.2 gJx4a65c_grow_92f84_J8_newLength_cabcc rfl rfl rfl (by decide +kernel) ⟨Nat.le_of_ble_eq_true rfl, Nat.le_of_ble_eq_true rfl⟩) rfl rfl dJx4a65c_grow_92f84_27, ?_⟩
  refine List.forall_mem_cons.mpr ⟨xs_istore_n X dJx4a65c_grow_92f84_30 rfl (Nat.le_of_ble_eq_true rfl), ?_⟩
  refine List.forall_mem_cons.mpr ⟨xs_aload_n X dJx4a65c_grow_92f84_31 rfl, ?_⟩
  refine List.forall_mem_cons.mpr ⟨xs_aload_n X dJx4a65c_grow_92f84_32 rfl, ?_⟩
  refine List.forall_mem_cons.mpr ⟨xs_getf (C := RJx4a65c) (T := TJx4a65c) (N := 3) (ci := 0) (kf := 1) X (fun w h => List.mem_cons_of_mem _ (List.mem_append_right _ h)) rfl (by decide) (List.mem_of_getElem? (i := 1) rfl) (fun _ h => h) dJx4a65c_grow_92f84_33, ?_⟩
  refine List.forall_mem_cons.mpr ⟨xs_iload_n X dJx4a65c_grow_92f84_36 rfl, ?_⟩
  refine List.forall_mem_cons.mpr ⟨xs_callS X (mpJ7_copyOf_1904c l D Y) (va_cwS 2 X.1.2.2.2.2 gJx4a65c_grow_92f84_J7_copyOf_1904c rfl rfl rfl (by decide +kernel) ⟨Nat.le_of_ble_eq_true rfl, Nat.le_of_ble_eq_true rfl⟩) rfl rfl dJx4a65c_grow_92f84_37, ?_⟩
  refine List.forall_mem_cons.mpr ⟨xs_dupx1 X dJx4a65c_grow_92f84_40, ?_⟩
  refine List.forall_mem_cons.mpr ⟨xs_putf (C := RJx4a65c) (T := TJx4a65c) (N := 3) (ci := 0) (kf := 1) X (fun w h => List.mem_cons_of_mem _ (List.mem_append_right _ h)) tyJx4a65c tyJx4a65c_ok nmJx4a65c rfl (by decide) (List.mem_of_getElem? (i := 1) rfl) (fun _ h => h) rfl rfl dJx4a65c_grow_92f84_41, ?_⟩
  refine List.forall_mem_cons.mpr ⟨xs_aret X hr (Or.inr ⟨_, rfl⟩) hlocks dJx4a65c_grow_92f84_44, ?_⟩
  refine List.forall_mem_cons.mpr ⟨xs_aload_n X dJx4a65c_grow_92f84_45 rfl, ?_⟩
  refine List.forall_mem_cons.mpr ⟨xs_bipush X dJx4a65c_grow_92f84_46 rfl, ?_⟩
  refine List.forall_mem_cons.mpr ⟨xs_iload_n X dJx4a65c_grow_92f84_48 rfl, ?_⟩
  refine List.forall_mem_cons.mpr ⟨xs_max X (List.mem_of_getElem? (i := 3) rfl) (List.mem_of_getElem? (i := 4) rfl) (List.mem_of_getElem? (i := 5) rfl) (List.mem_of_getElem? (i := 6) rfl) (Nat.le_of_ble_eq_true rfl) (Nat.le_of_ble_eq_true rfl) rfl rfl dJx4a65c_grow_92f84_49, ?_⟩
  refine List.forall_mem_cons.mpr ⟨xs_newq (t0 := 1) (C := "java/lang/Object") X rfl (List.mem_of_getElem? (i := 7) rfl) X.2.2.2.2.2.2.2.1 rfl rfl dJx4a65c_grow_92f84_52, ?_⟩
  refine List.forall_mem_cons.mpr ⟨xs_dupx1 X dJx4a65c_grow_92f84_55, ?_⟩
  refine List.forall_mem_cons.mpr ⟨xs_putf (C := RJx4a65c) (T := TJx4a65c) (N := 3) (ci := 0) (kf := 1) X (fun w h => List.mem_cons_of_mem _ (List.mem_append_right _ h)) tyJx4a65c tyJx4a65c_ok nmJx4a65c rfl (by decide) (List.mem_of_getElem? (i := 1) rfl) (fun _ h => h) rfl rfl dJx4a65c_grow_92f84_56, ?_⟩
  refine List.forall_mem_cons.mpr ⟨xs_aret X hr (Or.inr ⟨_, rfl⟩) hlocks dJx4a65c_grow_92f84_59, ?_⟩
  exact fun _ h => nomatch h
