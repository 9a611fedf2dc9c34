def tbL_below (Y : xw_Y) : List (Nat × xw_T) := [(0, tr_ild 1 0),
  (1, tr_push 3 (.int (2147483647))),
  (3, tr_i2 4 (fun x y => x &&& y)),
  (4, tr_ild 5 1),
  (5, tr_i2z 6 (fun x y => x - x / y * y)),
  (6, tr_iret .int)]
def ptL_below (Y : xw_Y) : xw_PT := xw_pt (tbL_below Y) 2 0 0
theorem lkL_below_0 (Y : xw_Y) : xw_lk (tbL_below Y) 0 = some (tr_ild 1 0) := rfl
theorem lkL_below_1 (Y : xw_Y) : xw_lk (tbL_below Y) 1 = some (tr_push 3 (.int (2147483647))) := rfl
theorem lkL_below_3 (Y : xw_Y) : xw_lk (tbL_below Y) 3 = some (tr_i2 4 (fun x y => x &&& y)) := rfl
theorem lkL_below_4 (Y : xw_Y) : xw_lk (tbL_below Y) 4 = some (tr_ild 5 1) := rfl
theorem lkL_below_5 (Y : xw_Y) : xw_lk (tbL_below Y) 5 = some (tr_i2z 6 (fun x y => x - x / y * y)) := rfl
theorem lkL_below_6 (Y : xw_Y) : xw_lk (tbL_below Y) 6 = some (tr_iret .int) := rfl
def tbL_cell (Y : xw_Y) : List (Nat × xw_T) := [(0, tr_ild 1 1),
  (1, tr_ald 2 0),
  (2, tr_xlen 3 Y.1),
  (3, tr_ifc 6 12 (fun x y => y ≤ x)),
  (6, tr_ald 7 0),
  (7, tr_ild 8 1),
  (8, tr_xald 9 Y.1),
  (9, tr_goto 18),
  (12, tr_push 14 (.int (790386105))),
  (14, tr_ild 15 1),
  (15, tr_push 16 (.int 3)),
  (16, tr_i2 17 (fun x y => x + y)),
  (17, tr_i2 18 (fun x y => x * y)),
  (18, tr_iret .int)]
def ptL_cell (Y : xw_Y) : xw_PT := xw_pt (tbL_cell Y) 2 0 0
theorem lkL_cell_0 (Y : xw_Y) : xw_lk (tbL_cell Y) 0 = some (tr_ild 1 1) := rfl
theorem lkL_cell_1 (Y : xw_Y) : xw_lk (tbL_cell Y) 1 = some (tr_ald 2 0) := rfl
theorem lkL_cell_2 (Y : xw_Y) : xw_lk (tbL_cell Y) 2 = some (tr_xlen 3 Y.1) := rfl
theorem lkL_cell_3 (Y : xw_Y) : xw_lk (tbL_cell Y) 3 = some (tr_ifc 6 12 (fun x y => y ≤ x)) := rfl
theorem lkL_cell_6 (Y : xw_Y) : xw_lk (tbL_cell Y) 6 = some (tr_ald 7 0) := rfl
theorem lkL_cell_7 (Y : xw_Y) : xw_lk (tbL_cell Y) 7 = some (tr_ild 8 1) := rfl
theorem lkL_cell_8 (Y : xw_Y) : xw_lk (tbL_cell Y) 8 = some (tr_xald 9 Y.1) := rfl
theorem lkL_cell_9 (Y : xw_Y) : xw_lk (tbL_cell Y) 9 = some (tr_goto 18) := rfl
theorem lkL_cell_12 (Y : xw_Y) : xw_lk (tbL_cell Y) 12 = some (tr_push 14 (.int (790386105))) := rfl
theorem lkL_cell_14 (Y : xw_Y) : xw_lk (tbL_cell Y) 14 = some (tr_ild 15 1) := rfl
theorem lkL_cell_15 (Y : xw_Y) : xw_lk (tbL_cell Y) 15 = some (tr_push 16 (.int 3)) := rfl
theorem lkL_cell_16 (Y : xw_Y) : xw_lk (tbL_cell Y) 16 = some (tr_i2 17 (fun x y => x + y)) := rfl
theorem lkL_cell_17 (Y : xw_Y) : xw_lk (tbL_cell Y) 17 = some (tr_i2 18 (fun x y => x * y)) := rfl
theorem lkL_cell_18 (Y : xw_Y) : xw_lk (tbL_cell Y) 18 = some (tr_iret .int) := rfl
def tbJxa1e45_init_da8c8 (Y : xw_Y) : List (Nat × xw_T) := [(0, tr_ald 1 0),
  (1, tr_obj 4),
  (4, tr_vret)]
def ptJxa1e45_init_da8c8 (Y : xw_Y) : xw_PT := xw_pt (tbJxa1e45_init_da8c8 Y) 1 0 0
theorem lkJxa1e45_init_da8c8_0 (Y : xw_Y) : xw_lk (tbJxa1e45_init_da8c8 Y) 0 = some (tr_ald 1 0) := rfl
theorem lkJxa1e45_init_da8c8_1 (Y : xw_Y) : xw_lk (tbJxa1e45_init_da8c8 Y) 1 = some (tr_obj 4) := rfl
theorem lkJxa1e45_init_da8c8_4 (Y : xw_Y) : xw_lk (tbJxa1e45_init_da8c8 Y) 4 = some (tr_vret) := rfl
def tbJxc12de_init_da8c8 (Y : xw_Y) : List (Nat × xw_T) := [(0, tr_ald 1 0),
  (1, tr_callI 4 0 (ptJxa1e45_init_da8c8 Y) 0 0 0 0),
  (4, tr_ald 5 0),
  (5, tr_push 6 (.int 0)),
  (6, tr_putf 9 0 0 .int),
  (9, tr_vret)]
def ptJxc12de_init_da8c8 (Y : xw_Y) : xw_PT := xw_pt (tbJxc12de_init_da8c8 Y) 1 0 0
theorem lkJxc12de_init_da8c8_0 (Y : xw_Y) : xw_lk (tbJxc12de_init_da8c8 Y) 0 = some (tr_ald 1 0) := rfl
theorem lkJxc12de_init_da8c8_1 (Y : xw_Y) : xw_lk (tbJxc12de_init_da8c8 Y) 1 = some (tr_callI 4 0 (ptJxa1e45_init_da8c8 Y) 0 0 0 0) := rfl
theorem lkJxc12de_init_da8c8_4 (Y : xw_Y) : xw_lk (tbJxc12de_init_da8c8 Y) 4 = some (tr_ald 5 0) := rfl
theorem lkJxc12de_init_da8c8_5 (Y : xw_Y) : xw_lk (tbJxc12de_init_da8c8 Y) 5 = some (tr_push 6 (.int 0)) := rfl
theorem lkJxc12de_init_da8c8_6 (Y : xw_Y) : xw_lk (tbJxc12de_init_da8c8 Y) 6 = some (tr_putf 9 0 0 .int) := rfl
theorem lkJxc12de_init_da8c8_9 (Y : xw_Y) : xw_lk (tbJxc12de_init_da8c8 Y) 9 = some (tr_vret) := rfl
def tbJx4a65c_init_da8c8 (Y : xw_Y) : List (Nat × xw_T) := [(0, tr_ald 1 0),
  (1, tr_callI 4 0 (ptJxc12de_init_da8c8 Y) 0 0 0 0),
  (4, tr_ald 5 0),
  (5, tr_gets 8 Y.1.1.1),
  (8, tr_putf 11 0 1 (.array (.object "java/lang/Object"))),
  (11, tr_vret)]
def ptJx4a65c_init_da8c8 (Y : xw_Y) : xw_PT := xw_pt (tbJx4a65c_init_da8c8 Y) 1 0 0
theorem lkJx4a65c_init_da8c8_0 (Y : xw_Y) : xw_lk (tbJx4a65c_init_da8c8 Y) 0 = some (tr_ald 1 0) := rfl
theorem lkJx4a65c_init_da8c8_1 (Y : xw_Y) : xw_lk (tbJx4a65c_init_da8c8 Y) 1 = some (tr_callI 4 0 (ptJxc12de_init_da8c8 Y) 0 0 0 0) := rfl
theorem lkJx4a65c_init_da8c8_4 (Y : xw_Y) : xw_lk (tbJx4a65c_init_da8c8 Y) 4 = some (tr_ald 5 0) := rfl
theorem lkJx4a65c_init_da8c8_5 (Y : xw_Y) : xw_lk (tbJx4a65c_init_da8c8 Y) 5 = some (tr_gets 8 Y.1.1.1) := rfl
theorem lkJx4a65c_init_da8c8_8 (Y : xw_Y) : xw_lk (tbJx4a65c_init_da8c8 Y) 8 = some (tr_putf 11 0 1 (.array (.object "java/lang/Object"))) := rfl
theorem lkJx4a65c_init_da8c8_11 (Y : xw_Y) : xw_lk (tbJx4a65c_init_da8c8 Y) 11 = some (tr_vret) := rfl
def tbX3_init (Y : xw_Y) : List (Nat × xw_T) := [(0, tr_ald 1 0),
  (1, tr_obj 4),
  (4, tr_ald 5 0),
  (5, tr_new 8 0 3 [.int 0, .null, .int 0] 6 45),
  (8, tr_dup 9),
  (9, tr_callI 12 0 (ptJx4a65c_init_da8c8 Y) 0 0 6 45),
  (12, tr_putf 15 4 0 (.object "java/util/ArrayList")),
  (15, tr_ald 16 0),
  (16, tr_new 19 0 3 [.int 0, .null, .int 0] 6 45),
  (19, tr_dup 20),
  (20, tr_callI 23 0 (ptJx4a65c_init_da8c8 Y) 0 0 6 45),
  (23, tr_putf 26 4 1 (.object "java/util/ArrayList")),
  (26, tr_ald 27 0),
  (27, tr_push 28 (.int 3)),
  (28, tr_newq 31 Y.2.2.2.1 6 45),
  (31, tr_putf 34 4 2 (.array (.object "Pommel$Bout"))),
  (34, tr_ald 35 0),
  (35, tr_push 36 (.int 4)),
  (36, tr_newi 38 Y.2.1 6 45),
  (38, tr_putf 41 4 3 (.array .int)),
  (41, tr_ald 42 0),
  (42, tr_push 44 (.int 16)),
  (44, tr_newq 47 Y.2.2.2.2 6 45),
  (47, tr_putf 50 4 4 (.array (.object "Pommel$Fencer"))),
  (50, tr_ald 51 0),
  (51, tr_push 53 (.int 16)),
  (53, tr_newi 55 Y.2.1 6 45),
  (55, tr_putf 58 4 5 (.array .int)),
  (58, tr_vret)]
def ptX3_init (Y : xw_Y) : xw_PT := xw_pt (tbX3_init Y) 1 6 45
theorem lkX3_init_0 (Y : xw_Y) : xw_lk (tbX3_init Y) 0 = some (tr_ald 1 0) := rfl
theorem lkX3_init_1 (Y : xw_Y) : xw_lk (tbX3_init Y) 1 = some (tr_obj 4) := rfl
theorem lkX3_init_4 (Y : xw_Y) : xw_lk (tbX3_init Y) 4 = some (tr_ald 5 0) := rfl
theorem lkX3_init_5 (Y : xw_Y) : xw_lk (tbX3_init Y) 5 = some (tr_new 8 0 3 [.int 0, .null, .int 0] 6 45) := rfl
theorem lkX3_init_8 (Y : xw_Y) : xw_lk (tbX3_init Y) 8 = some (tr_dup 9) := rfl
theorem lkX3_init_9 (Y : xw_Y) : xw_lk (tbX3_init Y) 9 = some (tr_callI 12 0 (ptJx4a65c_init_da8c8 Y) 0 0 6 45) := rfl
theorem lkX3_init_12 (Y : xw_Y) : xw_lk (tbX3_init Y) 12 = some (tr_putf 15 4 0 (.object "java/util/ArrayList")) := rfl
theorem lkX3_init_15 (Y : xw_Y) : xw_lk (tbX3_init Y) 15 = some (tr_ald 16 0) := rfl
theorem lkX3_init_16 (Y : xw_Y) : xw_lk (tbX3_init Y) 16 = some (tr_new 19 0 3 [.int 0, .null, .int 0] 6 45) := rfl
theorem lkX3_init_19 (Y : xw_Y) : xw_lk (tbX3_init Y) 19 = some (tr_dup 20) := rfl
theorem lkX3_init_20 (Y : xw_Y) : xw_lk (tbX3_init Y) 20 = some (tr_callI 23 0 (ptJx4a65c_init_da8c8 Y) 0 0 6 45) := rfl
theorem lkX3_init_23 (Y : xw_Y) : xw_lk (tbX3_init Y) 23 = some (tr_putf 26 4 1 (.object "java/util/ArrayList")) := rfl
theorem lkX3_init_26 (Y : xw_Y) : xw_lk (tbX3_init Y) 26 = some (tr_ald 27 0) := rfl
theorem lkX3_init_27 (Y : xw_Y) : xw_lk (tbX3_init Y) 27 = some (tr_push 28 (.int 3)) := rfl
theorem lkX3_init_28 (Y : xw_Y) : xw_lk (tbX3_init Y) 28 = some (tr_newq 31 Y.2.2.2.1 6 45) := rfl
theorem lkX3_init_31 (Y : xw_Y) : xw_lk (tbX3_init Y) 31 = some (tr_putf 34 4 2 (.array (.object "Pommel$Bout"))) := rfl
theorem lkX3_init_34 (Y : xw_Y) : xw_lk (tbX3_init Y) 34 = some (tr_ald 35 0) := rfl
theorem lkX3_init_35 (Y : xw_Y) : xw_lk (tbX3_init Y) 35 = some (tr_push 36 (.int 4)) := rfl
theorem lkX3_init_36 (Y : xw_Y) : xw_lk (tbX3_init Y) 36 = some (tr_newi 38 Y.2.1 6 45) := rfl
theorem lkX3_init_38 (Y : xw_Y) : xw_lk (tbX3_init Y) 38 = some (tr_putf 41 4 3 (.array .int)) := rfl
theorem lkX3_init_41 (Y : xw_Y) : xw_lk (tbX3_init Y) 41 = some (tr_ald 42 0) := rfl
theorem lkX3_init_42 (Y : xw_Y) : xw_lk (tbX3_init Y) 42 = some (tr_push 44 (.int 16)) := rfl
theorem lkX3_init_44 (Y : xw_Y) : xw_lk (tbX3_init Y) 44 = some (tr_newq 47 Y.2.2.2.2 6 45) := rfl
theorem lkX3_init_47 (Y : xw_Y) : xw_lk (tbX3_init Y) 47 = some (tr_putf 50 4 4 (.array (.object "Pommel$Fencer"))) := rfl
theorem lkX3_init_50 (Y : xw_Y) : xw_lk (tbX3_init Y) 50 = some (tr_ald 51 0) := rfl
theorem lkX3_init_51 (Y : xw_Y) : xw_lk (tbX3_init Y) 51 = some (tr_push 53 (.int 16)) := rfl
theorem lkX3_init_53 (Y : xw_Y) : xw_lk (tbX3_init Y) 53 = some (tr_newi 55 Y.2.1 6 45) := rfl
theorem lkX3_init_55 (Y : xw_Y) : xw_lk (tbX3_init Y) 55 = some (tr_putf 58 4 5 (.array .int)) := rfl
theorem lkX3_init_58 (Y : xw_Y) : xw_lk (tbX3_init Y) 58 = some (tr_vret) := rfl
def tbX3_isIn (Y : xw_Y) : List (Nat × xw_T) := [(0, tr_ild 1 0),
  (1, tr_ild 2 1),
  (2, tr_ifc 5 14 (fun x y => x < y)),
  (5, tr_ild 6 0),
  (6, tr_ild 7 2),
  (7, tr_ifc 10 14 (fun x y => y < x)),
  (10, tr_push 11 (.int 1)),
  (11, tr_goto 15),
  (14, tr_push 15 (.int 0)),
  (15, tr_iret .boolean)]
def ptX3_isIn (Y : xw_Y) : xw_PT := xw_pt (tbX3_isIn Y) 3 0 0
theorem lkX3_isIn_0 (Y : xw_Y) : xw_lk (tbX3_isIn Y) 0 = some (tr_ild 1 0) := rfl
theorem lkX3_isIn_1 (Y : xw_Y) : xw_lk (tbX3_isIn Y) 1 = some (tr_ild 2 1) := rfl
theorem lkX3_isIn_2 (Y : xw_Y) : xw_lk (tbX3_isIn Y) 2 = some (tr_ifc 5 14 (fun x y => x < y)) := rfl
theorem lkX3_isIn_5 (Y : xw_Y) : xw_lk (tbX3_isIn Y) 5 = some (tr_ild 6 0) := rfl
theorem lkX3_isIn_6 (Y : xw_Y) : xw_lk (tbX3_isIn Y) 6 = some (tr_ild 7 2) := rfl
theorem lkX3_isIn_7 (Y : xw_Y) : xw_lk (tbX3_isIn Y) 7 = some (tr_ifc 10 14 (fun x y => y < x)) := rfl
theorem lkX3_isIn_10 (Y : xw_Y) : xw_lk (tbX3_isIn Y) 10 = some (tr_push 11 (.int 1)) := rfl
theorem lkX3_isIn_11 (Y : xw_Y) : xw_lk (tbX3_isIn Y) 11 = some (tr_goto 15) := rfl
theorem lkX3_isIn_14 (Y : xw_Y) : xw_lk (tbX3_isIn Y) 14 = some (tr_push 15 (.int 0)) := rfl
theorem lkX3_isIn_15 (Y : xw_Y) : xw_lk (tbX3_isIn Y) 15 = some (tr_iret .boolean) := rfl
def tbJx4a65c_size_8abf5 (Y : xw_Y) : List (Nat × xw_T) := [(0, tr_ald 1 0),
  (1, tr_getf 4 0 2),
  (4, tr_iret .int)]
def ptJx4a65c_size_8abf5 (Y : xw_Y) : xw_PT := xw_pt (tbJx4a65c_size_8abf5 Y) 1 0 0
theorem lkJx4a65c_size_8abf5_0 (Y : xw_Y) : xw_lk (tbJx4a65c_size_8abf5 Y) 0 = some (tr_ald 1 0) := rfl
theorem lkJx4a65c_size_8abf5_1 (Y : xw_Y) : xw_lk (tbJx4a65c_size_8abf5 Y) 1 = some (tr_getf 4 0 2) := rfl
theorem lkJx4a65c_size_8abf5_4 (Y : xw_Y) : xw_lk (tbJx4a65c_size_8abf5 Y) 4 = some (tr_iret .int) := rfl
def tbX1_init (Y : xw_Y) : List (Nat × xw_T) := [(0, tr_ald 1 0),
  (1, tr_obj 4),
  (4, tr_ald 5 0),
  (5, tr_push 6 (.int (-1))),
  (6, tr_putf 9 2 3 .int),
  (9, tr_ald 10 0),
  (10, tr_push 11 (.int (-1))),
  (11, tr_putf 14 2 4 .int),
  (14, tr_ald 15 0),
  (15, tr_push 16 (.int (-1))),
  (16, tr_putf 19 2 12 .int),
  (19, tr_ald 20 0),
  (20, tr_push 21 (.int (-1))),
  (21, tr_putf 24 2 13 .int),
  (24, tr_ald 25 0),
  (25, tr_ild 26 1),
  (26, tr_putf 29 2 0 .int),
  (29, tr_ald 30 0),
  (30, tr_ild 31 2),
  (31, tr_putf 34 2 1 .int),
  (34, tr_ald 35 0),
  (35, tr_ild 36 3),
  (36, tr_putf 39 2 2 .int),
  (39, tr_vret)]
def ptX1_init (Y : xw_Y) : xw_PT := xw_pt (tbX1_init Y) 4 0 0
theorem lkX1_init_0 (Y : xw_Y) : xw_lk (tbX1_init Y) 0 = some (tr_ald 1 0) := rfl
theorem lkX1_init_1 (Y : xw_Y) : xw_lk (tbX1_init Y) 1 = some (tr_obj 4) := rfl
theorem lkX1_init_4 (Y : xw_Y) : xw_lk (tbX1_init Y) 4 = some (tr_ald 5 0) := rfl
theorem lkX1_init_5 (Y : xw_Y) : xw_lk (tbX1_init Y) 5 = some (tr_push 6 (.int (-1))) := rfl
theorem lkX1_init_6 (Y : xw_Y) : xw_lk (tbX1_init Y) 6 = some (tr_putf 9 2 3 .int) := rfl
theorem lkX1_init_9 (Y : xw_Y) : xw_lk (tbX1_init Y) 9 = some (tr_ald 10 0) := rfl
theorem lkX1_init_10 (Y : xw_Y) : xw_lk (tbX1_init Y) 10 = some (tr_push 11 (.int (-1))) := rfl
theorem lkX1_init_11 (Y : xw_Y) : xw_lk (tbX1_init Y) 11 = some (tr_putf 14 2 4 .int) := rfl
theorem lkX1_init_14 (Y : xw_Y) : xw_lk (tbX1_init Y) 14 = some (tr_ald 15 0) := rfl
theorem lkX1_init_15 (Y : xw_Y) : xw_lk (tbX1_init Y) 15 = some (tr_push 16 (.int (-1))) := rfl
theorem lkX1_init_16 (Y : xw_Y) : xw_lk (tbX1_init Y) 16 = some (tr_putf 19 2 12 .int) := rfl
theorem lkX1_init_19 (Y : xw_Y) : xw_lk (tbX1_init Y) 19 = some (tr_ald 20 0) := rfl
theorem lkX1_init_20 (Y : xw_Y) : xw_lk (tbX1_init Y) 20 = some (tr_push 21 (.int (-1))) := rfl
theorem lkX1_init_21 (Y : xw_Y) : xw_lk (tbX1_init Y) 21 = some (tr_putf 24 2 13 .int) := rfl
theorem lkX1_init_24 (Y : xw_Y) : xw_lk (tbX1_init Y) 24 = some (tr_ald 25 0) := rfl
theorem lkX1_init_25 (Y : xw_Y) : xw_lk (tbX1_init Y) 25 = some (tr_ild 26 1) := rfl
theorem lkX1_init_26 (Y : xw_Y) : xw_lk (tbX1_init Y) 26 = some (tr_putf 29 2 0 .int) := rfl
theorem lkX1_init_29 (Y : xw_Y) : xw_lk (tbX1_init Y) 29 = some (tr_ald 30 0) := rfl
theorem lkX1_init_30 (Y : xw_Y) : xw_lk (tbX1_init Y) 30 = some (tr_ild 31 2) := rfl
theorem lkX1_init_31 (Y : xw_Y) : xw_lk (tbX1_init Y) 31 = some (tr_putf 34 2 1 .int) := rfl
theorem lkX1_init_34 (Y : xw_Y) : xw_lk (tbX1_init Y) 34 = some (tr_ald 35 0) := rfl
theorem lkX1_init_35 (Y : xw_Y) : xw_lk (tbX1_init Y) 35 = some (tr_ild 36 3) := rfl
theorem lkX1_init_36 (Y : xw_Y) : xw_lk (tbX1_init Y) 36 = some (tr_putf 39 2 2 .int) := rfl
theorem lkX1_init_39 (Y : xw_Y) : xw_lk (tbX1_init Y) 39 = some (tr_vret) := rfl
def tbJ8_hugeLength_7cf53 (Y : xw_Y) : List (Nat × xw_T) := [(0, tr_ild 1 0),
  (1, tr_ild 2 1),
  (2, tr_i2 3 (fun x y => x + y)),
  (3, tr_ist 4 2),
  (4, tr_ild 5 2),
  (5, tr_ifz 8 49 (fun x => 0 ≤ x)),
  (49, tr_ild 50 2),
  (50, tr_push 52 (.int (2147483639))),
  (52, tr_ifc 55 58 (fun x y => y < x)),
  (55, tr_push 57 (.int (2147483639))),
  (57, tr_iret .int),
  (58, tr_ild 59 2),
  (59, tr_iret .int)]
def ptJ8_hugeLength_7cf53 (Y : xw_Y) : xw_PT := xw_pt (tbJ8_hugeLength_7cf53 Y) 3 0 0
theorem lkJ8_hugeLength_7cf53_0 (Y : xw_Y) : xw_lk (tbJ8_hugeLength_7cf53 Y) 0 = some (tr_ild 1 0) := rfl
theorem lkJ8_hugeLength_7cf53_1 (Y : xw_Y) : xw_lk (tbJ8_hugeLength_7cf53 Y) 1 = some (tr_ild 2 1) := rfl
theorem lkJ8_hugeLength_7cf53_2 (Y : xw_Y) : xw_lk (tbJ8_hugeLength_7cf53 Y) 2 = some (tr_i2 3 (fun x y => x + y)) := rfl
theorem lkJ8_hugeLength_7cf53_3 (Y : xw_Y) : xw_lk (tbJ8_hugeLength_7cf53 Y) 3 = some (tr_ist 4 2) := rfl
theorem lkJ8_hugeLength_7cf53_4 (Y : xw_Y) : xw_lk (tbJ8_hugeLength_7cf53 Y) 4 = some (tr_ild 5 2) := rfl
theorem lkJ8_hugeLength_7cf53_5 (Y : xw_Y) : xw_lk (tbJ8_hugeLength_7cf53 Y) 5 = some (tr_ifz 8 49 (fun x => 0 ≤ x)) := rfl
theorem lkJ8_hugeLength_7cf53_49 (Y : xw_Y) : xw_lk (tbJ8_hugeLength_7cf53 Y) 49 = some (tr_ild 50 2) := rfl
theorem lkJ8_hugeLength_7cf53_50 (Y : xw_Y) : xw_lk (tbJ8_hugeLength_7cf53 Y) 50 = some (tr_push 52 (.int (2147483639))) := rfl
theorem lkJ8_hugeLength_7cf53_52 (Y : xw_Y) : xw_lk (tbJ8_hugeLength_7cf53 Y) 52 = some (tr_ifc 55 58 (fun x y => y < x)) := rfl
theorem lkJ8_hugeLength_7cf53_55 (Y : xw_Y) : xw_lk (tbJ8_hugeLength_7cf53 Y) 55 = some (tr_push 57 (.int (2147483639))) := rfl
theorem lkJ8_hugeLength_7cf53_57 (Y : xw_Y) : xw_lk (tbJ8_hugeLength_7cf53 Y) 57 = some (tr_iret .int) := rfl
theorem lkJ8_hugeLength_7cf53_58 (Y : xw_Y) : xw_lk (tbJ8_hugeLength_7cf53 Y) 58 = some (tr_ild 59 2) := rfl
theorem lkJ8_hugeLength_7cf53_59 (Y : xw_Y) : xw_lk (tbJ8_hugeLength_7cf53 Y) 59 = some (tr_iret .int) := rfl
def tbJ8_newLength_cabcc (Y : xw_Y) : List (Nat × xw_T) := [(0, tr_ild 1 0),
  (1, tr_ild 2 1),
  (2, tr_ild 3 2),
  (3, tr_max 6 0 0),
  (6, tr_i2 7 (fun x y => x + y)),
  (7, tr_ist 8 3),
  (8, tr_push 9 (.int 0)),
  (9, tr_ild 10 3),
  (10, tr_ifc 13 21 (fun x y => y ≤ x)),
  (13, tr_ild 14 3),
  (14, tr_push 16 (.int (2147483639))),
  (16, tr_ifc 19 21 (fun x y => y < x)),
  (19, tr_ild 20 3),
  (20, tr_iret .int),
  (21, tr_ild 22 0),
  (22, tr_ild 23 1),
  (23, tr_callS 26 2 (ptJ8_hugeLength_7cf53 Y) 0 0 0 0),
  (26, tr_iret .int)]
def ptJ8_newLength_cabcc (Y : xw_Y) : xw_PT := xw_pt (tbJ8_newLength_cabcc Y) 4 0 0
theorem lkJ8_newLength_cabcc_0 (Y : xw_Y) : xw_lk (tbJ8_newLength_cabcc Y) 0 = some (tr_ild 1 0) := rfl
theorem lkJ8_newLength_cabcc_1 (Y : xw_Y) : xw_lk (tbJ8_newLength_cabcc Y) 1 = some (tr_ild 2 1) := rfl
theorem lkJ8_newLength_cabcc_2 (Y : xw_Y) : xw_lk (tbJ8_newLength_cabcc Y) 2 = some (tr_ild 3 2) := rfl
theorem lkJ8_newLength_cabcc_3 (Y : xw_Y) : xw_lk (tbJ8_newLength_cabcc Y) 3 = some (tr_max 6 0 0) := rfl
theorem lkJ8_newLength_cabcc_6 (Y : xw_Y) : xw_lk (tbJ8_newLength_cabcc Y) 6 = some (tr_i2 7 (fun x y => x + y)) := rfl
theorem lkJ8_newLength_cabcc_7 (Y : xw_Y) : xw_lk (tbJ8_newLength_cabcc Y) 7 = some (tr_ist 8 3) := rfl
theorem lkJ8_newLength_cabcc_8 (Y : xw_Y) : xw_lk (tbJ8_newLength_cabcc Y) 8 = some (tr_push 9 (.int 0)) := rfl
theorem lkJ8_newLength_cabcc_9 (Y : xw_Y) : xw_lk (tbJ8_newLength_cabcc Y) 9 = some (tr_ild 10 3) := rfl
theorem lkJ8_newLength_cabcc_10 (Y : xw_Y) : xw_lk (tbJ8_newLength_cabcc Y) 10 = some (tr_ifc 13 21 (fun x y => y ≤ x)) := rfl
theorem lkJ8_newLength_cabcc_13 (Y : xw_Y) : xw_lk (tbJ8_newLength_cabcc Y) 13 = some (tr_ild 14 3) := rfl
theorem lkJ8_newLength_cabcc_14 (Y : xw_Y) : xw_lk (tbJ8_newLength_cabcc Y) 14 = some (tr_push 16 (.int (2147483639))) := rfl
theorem lkJ8_newLength_cabcc_16 (Y : xw_Y) : xw_lk (tbJ8_newLength_cabcc Y) 16 = some (tr_ifc 19 21 (fun x y => y < x)) := rfl
theorem lkJ8_newLength_cabcc_19 (Y : xw_Y) : xw_lk (tbJ8_newLength_cabcc Y) 19 = some (tr_ild 20 3) := rfl
theorem lkJ8_newLength_cabcc_20 (Y : xw_Y) : xw_lk (tbJ8_newLength_cabcc Y) 20 = some (tr_iret .int) := rfl
theorem lkJ8_newLength_cabcc_21 (Y : xw_Y) : xw_lk (tbJ8_newLength_cabcc Y) 21 = some (tr_ild 22 0) := rfl
theorem lkJ8_newLength_cabcc_22 (Y : xw_Y) : xw_lk (tbJ8_newLength_cabcc Y) 22 = some (tr_ild 23 1) := rfl
theorem lkJ8_newLength_cabcc_23 (Y : xw_Y) : xw_lk (tbJ8_newLength_cabcc Y) 23 = some (tr_callS 26 2 (ptJ8_hugeLength_7cf53 Y) 0 0 0 0) := rfl
theorem lkJ8_newLength_cabcc_26 (Y : xw_Y) : xw_lk (tbJ8_newLength_cabcc Y) 26 = some (tr_iret .int) := rfl
def tbJ7_copyOf_6403c (Y : xw_Y) : List (Nat × xw_T) := [(0, tr_ald 1 2),
  (1, tr_push 3 (.ref Y.1.1.2)),
  (3, tr_ifa 6 13),
  (6, tr_ild 7 1),
  (7, tr_newq 10 Y.2.2.1 1 200),
  (10, tr_goto 24),
  (13, tr_ald 14 2),
  (17, tr_ild 18 1),
  (24, tr_ast 25 3),
  (25, tr_ald 26 0),
  (26, tr_push 27 (.int 0)),
  (27, tr_ald 28 3),
  (28, tr_push 29 (.int 0)),
  (29, tr_ald 30 0),
  (30, tr_or (tr_alen 31 [Y.2.2.1]) (tr_zlen 31 Y.1.1.1)),
  (31, tr_ild 32 1),
  (32, tr_min 35 1 200),
  (35, tr_copy 38 Y.2.2.1 [1, 2]),
  (38, tr_ald 39 3),
  (39, tr_aret)]
def ptJ7_copyOf_6403c (Y : xw_Y) : xw_PT := xw_pt (tbJ7_copyOf_6403c Y) 4 1 200
theorem lkJ7_copyOf_6403c_0 (Y : xw_Y) : xw_lk (tbJ7_copyOf_6403c Y) 0 = some (tr_ald 1 2) := rfl
theorem lkJ7_copyOf_6403c_1 (Y : xw_Y) : xw_lk (tbJ7_copyOf_6403c Y) 1 = some (tr_push 3 (.ref Y.1.1.2)) := rfl
theorem lkJ7_copyOf_6403c_3 (Y : xw_Y) : xw_lk (tbJ7_copyOf_6403c Y) 3 = some (tr_ifa 6 13) := rfl
theorem lkJ7_copyOf_6403c_6 (Y : xw_Y) : xw_lk (tbJ7_copyOf_6403c Y) 6 = some (tr_ild 7 1) := rfl
theorem lkJ7_copyOf_6403c_7 (Y : xw_Y) : xw_lk (tbJ7_copyOf_6403c Y) 7 = some (tr_newq 10 Y.2.2.1 1 200) := rfl
theorem lkJ7_copyOf_6403c_10 (Y : xw_Y) : xw_lk (tbJ7_copyOf_6403c Y) 10 = some (tr_goto 24) := rfl
theorem lkJ7_copyOf_6403c_13 (Y : xw_Y) : xw_lk (tbJ7_copyOf_6403c Y) 13 = some (tr_ald 14 2) := rfl
theorem lkJ7_copyOf_6403c_17 (Y : xw_Y) : xw_lk (tbJ7_copyOf_6403c Y) 17 = some (tr_ild 18 1) := rfl
theorem lkJ7_copyOf_6403c_24 (Y : xw_Y) : xw_lk (tbJ7_copyOf_6403c Y) 24 = some (tr_ast 25 3) := rfl
theorem lkJ7_copyOf_6403c_25 (Y : xw_Y) : xw_lk (tbJ7_copyOf_6403c Y) 25 = some (tr_ald 26 0) := rfl
theorem lkJ7_copyOf_6403c_26 (Y : xw_Y) : xw_lk (tbJ7_copyOf_6403c Y) 26 = some (tr_push 27 (.int 0)) := rfl
theorem lkJ7_copyOf_6403c_27 (Y : xw_Y) : xw_lk (tbJ7_copyOf_6403c Y) 27 = some (tr_ald 28 3) := rfl
theorem lkJ7_copyOf_6403c_28 (Y : xw_Y) : xw_lk (tbJ7_copyOf_6403c Y) 28 = some (tr_push 29 (.int 0)) := rfl
theorem lkJ7_copyOf_6403c_29 (Y : xw_Y) : xw_lk (tbJ7_copyOf_6403c Y) 29 = some (tr_ald 30 0) := rfl
theorem lkJ7_copyOf_6403c_30 (Y : xw_Y) : xw_lk (tbJ7_copyOf_6403c Y) 30 = some (tr_or (tr_alen 31 [Y.2.2.1]) (tr_zlen 31 Y.1.1.1)) := rfl
theorem lkJ7_copyOf_6403c_31 (Y : xw_Y) : xw_lk (tbJ7_copyOf_6403c Y) 31 = some (tr_ild 32 1) := rfl
theorem lkJ7_copyOf_6403c_32 (Y : xw_Y) : xw_lk (tbJ7_copyOf_6403c Y) 32 = some (tr_min 35 1 200) := rfl
theorem lkJ7_copyOf_6403c_35 (Y : xw_Y) : xw_lk (tbJ7_copyOf_6403c Y) 35 = some (tr_copy 38 Y.2.2.1 [1, 2]) := rfl
theorem lkJ7_copyOf_6403c_38 (Y : xw_Y) : xw_lk (tbJ7_copyOf_6403c Y) 38 = some (tr_ald 39 3) := rfl
theorem lkJ7_copyOf_6403c_39 (Y : xw_Y) : xw_lk (tbJ7_copyOf_6403c Y) 39 = some (tr_aret) := rfl
def tbJ7_copyOf_1904c (Y : xw_Y) : List (Nat × xw_T) := [(0, tr_ald 1 0),
  (1, tr_ild 2 1),
  (2, tr_ald 3 0),
  (3, tr_getc 6 Y.2.2.1 Y.1.1.2),
  (6, tr_callS 9 3 (ptJ7_copyOf_6403c Y) 1 200 1 200),
  (9, tr_aret)]
def ptJ7_copyOf_1904c (Y : xw_Y) : xw_PT := xw_pt (tbJ7_copyOf_1904c Y) 2 1 200
theorem lkJ7_copyOf_1904c_0 (Y : xw_Y) : xw_lk (tbJ7_copyOf_1904c Y) 0 = some (tr_ald 1 0) := rfl
theorem lkJ7_copyOf_1904c_1 (Y : xw_Y) : xw_lk (tbJ7_copyOf_1904c Y) 1 = some (tr_ild 2 1) := rfl
theorem lkJ7_copyOf_1904c_2 (Y : xw_Y) : xw_lk (tbJ7_copyOf_1904c Y) 2 = some (tr_ald 3 0) := rfl
theorem lkJ7_copyOf_1904c_3 (Y : xw_Y) : xw_lk (tbJ7_copyOf_1904c Y) 3 = some (tr_getc 6 Y.2.2.1 Y.1.1.2) := rfl
theorem lkJ7_copyOf_1904c_6 (Y : xw_Y) : xw_lk (tbJ7_copyOf_1904c Y) 6 = some (tr_callS 9 3 (ptJ7_copyOf_6403c Y) 1 200 1 200) := rfl
theorem lkJ7_copyOf_1904c_9 (Y : xw_Y) : xw_lk (tbJ7_copyOf_1904c Y) 9 = some (tr_aret) := rfl
def tbJx4a65c_grow_92f84 (Y : xw_Y) : List (Nat × xw_T) := [(0, tr_ald 1 0),
  (1, tr_getf 4 0 1),
  (4, tr_or (tr_alen 5 [Y.2.2.1]) (tr_zlen 5 Y.1.1.1)),
  (5, tr_ist 6 2),
  (6, tr_ild 7 2),
  (7, tr_ifz 10 20 (fun x => 0 < x)),
  (10, tr_ald 11 0),
  (11, tr_getf 14 0 1),
  (14, tr_gets 17 Y.1.1.1),
  (17, tr_ifa 45 20),
  (20, tr_ild 21 2),
  (21, tr_ild 22 1),
  (22, tr_ild 23 2),
  (23, tr_i2 24 (fun x y => x - y)),
  (24, tr_ild 25 2),
  (25, tr_push 26 (.int 1)),
  (26, tr_i2 27 (fun x y => x >>> (y &&& 31))),
  (27, tr_callS 30 3 (ptJ8_newLength_cabcc Y) 0 0 1 200),
  (30, tr_ist 31 3),
  (31, tr_ald 32 0),
  (32, tr_ald 33 0),
  (33, tr_getf 36 0 1),
  (36, tr_ild 37 3),
  (37, tr_callS 40 2 (ptJ7_copyOf_1904c Y) 1 200 1 200),
  (40, tr_dupx1 41),
  (41, tr_putf 44 0 1 (.array (.object "java/lang/Object"))),
  (44, tr_aret),
  (45, tr_ald 46 0),
  (46, tr_push 48 (.int 10)),
  (48, tr_ild 49 1),
  (49, tr_max 52 1 200),
  (52, tr_newq 55 Y.2.2.1 1 200),
  (55, tr_dupx1 56),
  (56, tr_putf 59 0 1 (.array (.object "java/lang/Object"))),
  (59, tr_aret)]
def ptJx4a65c_grow_92f84 (Y : xw_Y) : xw_PT := xw_pt (tbJx4a65c_grow_92f84 Y) 4 1 200
theorem lkJx4a65c_grow_92f84_0 (Y : xw_Y) : xw_lk (tbJx4a65c_grow_92f84 Y) 0 = some (tr_ald 1 0) := rfl
theorem lkJx4a65c_grow_92f84_1 (Y : xw_Y) : xw_lk (tbJx4a65c_grow_92f84 Y) 1 = some (tr_getf 4 0 1) := rfl
theorem lkJx4a65c_grow_92f84_4 (Y : xw_Y) : xw_lk (tbJx4a65c_grow_92f84 Y) 4 = some (tr_or (tr_alen 5 [Y.2.2.1]) (tr_zlen 5 Y.1.1.1)) := rfl
theorem lkJx4a65c_grow_92f84_5 (Y : xw_Y) : xw_lk (tbJx4a65c_grow_92f84 Y) 5 = some (tr_ist 6 2) := rfl
theorem lkJx4a65c_grow_92f84_6 (Y : xw_Y) : xw_lk (tbJx4a65c_grow_92f84 Y) 6 = some (tr_ild 7 2) := rfl
theorem lkJx4a65c_grow_92f84_7 (Y : xw_Y) : xw_lk (tbJx4a65c_grow_92f84 Y) 7 = some (tr_ifz 10 20 (fun x => 0 < x)) := rfl
theorem lkJx4a65c_grow_92f84_10 (Y : xw_Y) : xw_lk (tbJx4a65c_grow_92f84 Y) 10 = some (tr_ald 11 0) := rfl
theorem lkJx4a65c_grow_92f84_11 (Y : xw_Y) : xw_lk (tbJx4a65c_grow_92f84 Y) 11 = some (tr_getf 14 0 1) := rfl
theorem lkJx4a65c_grow_92f84_14 (Y : xw_Y) : xw_lk (tbJx4a65c_grow_92f84 Y) 14 = some (tr_gets 17 Y.1.1.1) := rfl
theorem lkJx4a65c_grow_92f84_17 (Y : xw_Y) : xw_lk (tbJx4a65c_grow_92f84 Y) 17 = some (tr_ifa 45 20) := rfl
theorem lkJx4a65c_grow_92f84_20 (Y : xw_Y) : xw_lk (tbJx4a65c_grow_92f84 Y) 20 = some (tr_ild 21 2) := rfl
theorem lkJx4a65c_grow_92f84_21 (Y : xw_Y) : xw_lk (tbJx4a65c_grow_92f84 Y) 21 = some (tr_ild 22 1) := rfl
theorem lkJx4a65c_grow_92f84_22 (Y : xw_Y) : xw_lk (tbJx4a65c_grow_92f84 Y) 22 = some (tr_ild 23 2) := rfl
theorem lkJx4a65c_grow_92f84_23 (Y : xw_Y) : xw_lk (tbJx4a65c_grow_92f84 Y) 23 = some (tr_i2 24 (fun x y => x - y)) := rfl
theorem lkJx4a65c_grow_92f84_24 (Y : xw_Y) : xw_lk (tbJx4a65c_grow_92f84 Y) 24 = some (tr_ild 25 2) := rfl
theorem lkJx4a65c_grow_92f84_25 (Y : xw_Y) : xw_lk (tbJx4a65c_grow_92f84 Y) 25 = some (tr_push 26 (.int 1)) := rfl
theorem lkJx4a65c_grow_92f84_26 (Y : xw_Y) : xw_lk (tbJx4a65c_grow_92f84 Y) 26 = some (tr_i2 27 (fun x y => x >>> (y &&& 31))) := rfl
theorem lkJx4a65c_grow_92f84_27 (Y : xw_Y) : xw_lk (tbJx4a65c_grow_92f84 Y) 27 = some (tr_callS 30 3 (ptJ8_newLength_cabcc Y) 0 0 1 200) := rfl
theorem lkJx4a65c_grow_92f84_30 (Y : xw_Y) : xw_lk (tbJx4a65c_grow_92f84 Y) 30 = some (tr_ist 31 3) := rfl
theorem lkJx4a65c_grow_92f84_31 (Y : xw_Y) : xw_lk (tbJx4a65c_grow_92f84 Y) 31 = some (tr_ald 32 0) := rfl
theorem lkJx4a65c_grow_92f84_32 (Y : xw_Y) : xw_lk (tbJx4a65c_grow_92f84 Y) 32 = some (tr_ald 33 0) := rfl
theorem lkJx4a65c_grow_92f84_33 (Y : xw_Y) : xw_lk (tbJx4a65c_grow_92f84 Y) 33 = some (tr_getf 36 0 1) := rfl
theorem lkJx4a65c_grow_92f84_36 (Y : xw_Y) : xw_lk (tbJx4a65c_grow_92f84 Y) 36 = some (tr_ild 37 3) := rfl
theorem lkJx4a65c_grow_92f84_37 (Y : xw_Y) : xw_lk (tbJx4a65c_grow_92f84 Y) 37 = some (tr_callS 40 2 (ptJ7_copyOf_1904c Y) 1 200 1 200) := rfl
theorem lkJx4a65c_grow_92f84_40 (Y : xw_Y) : xw_lk (tbJx4a65c_grow_92f84 Y) 40 = some (tr_dupx1 41) := rfl
theorem lkJx4a65c_grow_92f84_41 (Y : xw_Y) : xw_lk (tbJx4a65c_grow_92f84 Y) 41 = some (tr_putf 44 0 1 (.array (.object "java/lang/Object"))) := rfl
theorem lkJx4a65c_grow_92f84_44 (Y : xw_Y) : xw_lk (tbJx4a65c_grow_92f84 Y) 44 = some (tr_aret) := rfl
theorem lkJx4a65c_grow_92f84_45 (Y : xw_Y) : xw_lk (tbJx4a65c_grow_92f84 Y) 45 = some (tr_ald 46 0) := rfl
theorem lkJx4a65c_grow_92f84_46 (Y : xw_Y) : xw_lk (tbJx4a65c_grow_92f84 Y) 46 = some (tr_push 48 (.int 10)) := rfl
theorem lkJx4a65c_grow_92f84_48 (Y : xw_Y) : xw_lk (tbJx4a65c_grow_92f84 Y) 48 = some (tr_ild 49 1) := rfl
theorem lkJx4a65c_grow_92f84_49 (Y : xw_Y) : xw_lk (tbJx4a65c_grow_92f84 Y) 49 = some (tr_max 52 1 200) := rfl
theorem lkJx4a65c_grow_92f84_52 (Y : xw_Y) : xw_lk (tbJx4a65c_grow_92f84 Y) 52 = some (tr_newq 55 Y.2.2.1 1 200) := rfl
theorem lkJx4a65c_grow_92f84_55 (Y : xw_Y) : xw_lk (tbJx4a65c_grow_92f84 Y) 55 = some (tr_dupx1 56) := rfl
theorem lkJx4a65c_grow_92f84_56 (Y : xw_Y) : xw_lk (tbJx4a65c_grow_92f84 Y) 56 = some (tr_putf 59 0 1 (.array (.object "java/lang/Object"))) := rfl
theorem lkJx4a65c_grow_92f84_59 (Y : xw_Y) : xw_lk (tbJx4a65c_grow_92f84 Y) 59 = some (tr_aret) := rfl
def tbJx4a65c_grow_d5877 (Y : xw_Y) : List (Nat × xw_T) := [(0, tr_ald 1 0),
  (1, tr_ald 2 0),
  (2, tr_getf 5 0 2),
  (5, tr_push 6 (.int 1)),
  (6, tr_i2 7 (fun x y => x + y)),
  (7, tr_callV 10 1 0 (ptJx4a65c_grow_92f84 Y) 1 200 1 200),
  (10, tr_aret)]
def ptJx4a65c_grow_d5877 (Y : xw_Y) : xw_PT := xw_pt (tbJx4a65c_grow_d5877 Y) 1 1 200
theorem lkJx4a65c_grow_d5877_0 (Y : xw_Y) : xw_lk (tbJx4a65c_grow_d5877 Y) 0 = some (tr_ald 1 0) := rfl
theorem lkJx4a65c_grow_d5877_1 (Y : xw_Y) : xw_lk (tbJx4a65c_grow_d5877 Y) 1 = some (tr_ald 2 0) := rfl
theorem lkJx4a65c_grow_d5877_2 (Y : xw_Y) : xw_lk (tbJx4a65c_grow_d5877 Y) 2 = some (tr_getf 5 0 2) := rfl
theorem lkJx4a65c_grow_d5877_5 (Y : xw_Y) : xw_lk (tbJx4a65c_grow_d5877 Y) 5 = some (tr_push 6 (.int 1)) := rfl
theorem lkJx4a65c_grow_d5877_6 (Y : xw_Y) : xw_lk (tbJx4a65c_grow_d5877 Y) 6 = some (tr_i2 7 (fun x y => x + y)) := rfl
theorem lkJx4a65c_grow_d5877_7 (Y : xw_Y) : xw_lk (tbJx4a65c_grow_d5877 Y) 7 = some (tr_callV 10 1 0 (ptJx4a65c_grow_92f84 Y) 1 200 1 200) := rfl
theorem lkJx4a65c_grow_d5877_10 (Y : xw_Y) : xw_lk (tbJx4a65c_grow_d5877 Y) 10 = some (tr_aret) := rfl
def tbJx4a65c_add_72be8 (Y : xw_Y) : List (Nat × xw_T) := [(0, tr_ild 1 3),
  (1, tr_ald 2 2),
  (2, tr_or (tr_alen 3 [Y.2.2.1]) (tr_zlen 3 Y.1.1.1)),
  (3, tr_ifc 6 11 (fun x y => ¬ x = y)),
  (6, tr_ald 7 0),
  (7, tr_callV 10 0 0 (ptJx4a65c_grow_d5877 Y) 1 200 1 200),
  (10, tr_ast 11 2),
  (11, tr_ald 12 2),
  (12, tr_ild 13 3),
  (13, tr_ald 14 1),
  (14, tr_aast 15 Y.2.2.1 [1, 2]),
  (15, tr_ald 16 0),
  (16, tr_ild 17 3),
  (17, tr_push 18 (.int 1)),
  (18, tr_i2 19 (fun x y => x + y)),
  (19, tr_putf 22 0 2 .int),
  (22, tr_vret)]
def ptJx4a65c_add_72be8 (Y : xw_Y) : xw_PT := xw_pt (tbJx4a65c_add_72be8 Y) 4 1 200
theorem lkJx4a65c_add_72be8_0 (Y : xw_Y) : xw_lk (tbJx4a65c_add_72be8 Y) 0 = some (tr_ild 1 3) := rfl
theorem lkJx4a65c_add_72be8_1 (Y : xw_Y) : xw_lk (tbJx4a65c_add_72be8 Y) 1 = some (tr_ald 2 2) := rfl
theorem lkJx4a65c_add_72be8_2 (Y : xw_Y) : xw_lk (tbJx4a65c_add_72be8 Y) 2 = some (tr_or (tr_alen 3 [Y.2.2.1]) (tr_zlen 3 Y.1.1.1)) := rfl
theorem lkJx4a65c_add_72be8_3 (Y : xw_Y) : xw_lk (tbJx4a65c_add_72be8 Y) 3 = some (tr_ifc 6 11 (fun x y => ¬ x = y)) := rfl
theorem lkJx4a65c_add_72be8_6 (Y : xw_Y) : xw_lk (tbJx4a65c_add_72be8 Y) 6 = some (tr_ald 7 0) := rfl
theorem lkJx4a65c_add_72be8_7 (Y : xw_Y) : xw_lk (tbJx4a65c_add_72be8 Y) 7 = some (tr_callV 10 0 0 (ptJx4a65c_grow_d5877 Y) 1 200 1 200) := rfl
theorem lkJx4a65c_add_72be8_10 (Y : xw_Y) : xw_lk (tbJx4a65c_add_72be8 Y) 10 = some (tr_ast 11 2) := rfl
theorem lkJx4a65c_add_72be8_11 (Y : xw_Y) : xw_lk (tbJx4a65c_add_72be8 Y) 11 = some (tr_ald 12 2) := rfl
theorem lkJx4a65c_add_72be8_12 (Y : xw_Y) : xw_lk (tbJx4a65c_add_72be8 Y) 12 = some (tr_ild 13 3) := rfl
theorem lkJx4a65c_add_72be8_13 (Y : xw_Y) : xw_lk (tbJx4a65c_add_72be8 Y) 13 = some (tr_ald 14 1) := rfl
theorem lkJx4a65c_add_72be8_14 (Y : xw_Y) : xw_lk (tbJx4a65c_add_72be8 Y) 14 = some (tr_aast 15 Y.2.2.1 [1, 2]) := rfl
theorem lkJx4a65c_add_72be8_15 (Y : xw_Y) : xw_lk (tbJx4a65c_add_72be8 Y) 15 = some (tr_ald 16 0) := rfl
theorem lkJx4a65c_add_72be8_16 (Y : xw_Y) : xw_lk (tbJx4a65c_add_72be8 Y) 16 = some (tr_ild 17 3) := rfl
theorem lkJx4a65c_add_72be8_17 (Y : xw_Y) : xw_lk (tbJx4a65c_add_72be8 Y) 17 = some (tr_push 18 (.int 1)) := rfl
theorem lkJx4a65c_add_72be8_18 (Y : xw_Y) : xw_lk (tbJx4a65c_add_72be8 Y) 18 = some (tr_i2 19 (fun x y => x + y)) := rfl
theorem lkJx4a65c_add_72be8_19 (Y : xw_Y) : xw_lk (tbJx4a65c_add_72be8 Y) 19 = some (tr_putf 22 0 2 .int) := rfl
theorem lkJx4a65c_add_72be8_22 (Y : xw_Y) : xw_lk (tbJx4a65c_add_72be8 Y) 22 = some (tr_vret) := rfl
def tbJx4a65c_add_9ea2d (Y : xw_Y) : List (Nat × xw_T) := [(0, tr_ald 1 0),
  (1, tr_dup 2),
  (2, tr_getf 5 0 0),
  (5, tr_push 6 (.int 1)),
  (6, tr_i2 7 (fun x y => x + y)),
  (7, tr_putf 10 0 0 .int),
  (10, tr_ald 11 0),
  (11, tr_ald 12 1),
  (12, tr_ald 13 0),
  (13, tr_getf 16 0 1),
  (16, tr_ald 17 0),
  (17, tr_getf 20 0 2),
  (20, tr_callV 23 3 0 (ptJx4a65c_add_72be8 Y) 1 200 1 200),
  (23, tr_push 24 (.int 1)),
  (24, tr_iret .boolean)]
def ptJx4a65c_add_9ea2d (Y : xw_Y) : xw_PT := xw_pt (tbJx4a65c_add_9ea2d Y) 2 1 200
theorem lkJx4a65c_add_9ea2d_0 (Y : xw_Y) : xw_lk (tbJx4a65c_add_9ea2d Y) 0 = some (tr_ald 1 0) := rfl
theorem lkJx4a65c_add_9ea2d_1 (Y : xw_Y) : xw_lk (tbJx4a65c_add_9ea2d Y) 1 = some (tr_dup 2) := rfl
theorem lkJx4a65c_add_9ea2d_2 (Y : xw_Y) : xw_lk (tbJx4a65c_add_9ea2d Y) 2 = some (tr_getf 5 0 0) := rfl
theorem lkJx4a65c_add_9ea2d_5 (Y : xw_Y) : xw_lk (tbJx4a65c_add_9ea2d Y) 5 = some (tr_push 6 (.int 1)) := rfl
theorem lkJx4a65c_add_9ea2d_6 (Y : xw_Y) : xw_lk (tbJx4a65c_add_9ea2d Y) 6 = some (tr_i2 7 (fun x y => x + y)) := rfl
theorem lkJx4a65c_add_9ea2d_7 (Y : xw_Y) : xw_lk (tbJx4a65c_add_9ea2d Y) 7 = some (tr_putf 10 0 0 .int) := rfl
theorem lkJx4a65c_add_9ea2d_10 (Y : xw_Y) : xw_lk (tbJx4a65c_add_9ea2d Y) 10 = some (tr_ald 11 0) := rfl
theorem lkJx4a65c_add_9ea2d_11 (Y : xw_Y) : xw_lk (tbJx4a65c_add_9ea2d Y) 11 = some (tr_ald 12 1) := rfl
theorem lkJx4a65c_add_9ea2d_12 (Y : xw_Y) : xw_lk (tbJx4a65c_add_9ea2d Y) 12 = some (tr_ald 13 0) := rfl
theorem lkJx4a65c_add_9ea2d_13 (Y : xw_Y) : xw_lk (tbJx4a65c_add_9ea2d Y) 13 = some (tr_getf 16 0 1) := rfl
theorem lkJx4a65c_add_9ea2d_16 (Y : xw_Y) : xw_lk (tbJx4a65c_add_9ea2d Y) 16 = some (tr_ald 17 0) := rfl
theorem lkJx4a65c_add_9ea2d_17 (Y : xw_Y) : xw_lk (tbJx4a65c_add_9ea2d Y) 17 = some (tr_getf 20 0 2) := rfl
theorem lkJx4a65c_add_9ea2d_20 (Y : xw_Y) : xw_lk (tbJx4a65c_add_9ea2d Y) 20 = some (tr_callV 23 3 0 (ptJx4a65c_add_72be8 Y) 1 200 1 200) := rfl
theorem lkJx4a65c_add_9ea2d_23 (Y : xw_Y) : xw_lk (tbJx4a65c_add_9ea2d Y) 23 = some (tr_push 24 (.int 1)) := rfl
theorem lkJx4a65c_add_9ea2d_24 (Y : xw_Y) : xw_lk (tbJx4a65c_add_9ea2d Y) 24 = some (tr_iret .boolean) := rfl
def tbX3_fencer (Y : xw_Y) : List (Nat × xw_T) := [(0, tr_ild 1 1),
  (1, tr_push 2 (.int 0)),
  (2, tr_push 4 (.int 99)),
  (4, tr_callS 7 3 (ptX3_isIn Y) 0 0 2 214),
  (7, tr_ifz 10 19 (fun x => x = 0)),
  (10, tr_ild 11 2),
  (11, tr_push 12 (.int 0)),
  (12, tr_push 13 (.int 5)),
  (13, tr_callS 16 3 (ptX3_isIn Y) 0 0 2 214),
  (16, tr_ifz 19 29 (fun x => ¬ x = 0)),
  (29, tr_ald 30 0),
  (30, tr_getf 33 4 0),
  (33, tr_callV 36 0 0 (ptJx4a65c_size_8abf5 Y) 0 0 2 214),
  (36, tr_push 38 (.int 16)),
  (38, tr_ifc 41 48 (fun x y => y ≤ x)),
  (41, tr_ald 42 0),
  (42, tr_getf 45 4 6),
  (45, tr_ifz 48 58 (fun x => x ≤ 0)),
  (58, tr_ald 59 0),
  (59, tr_getf 62 4 0),
  (62, tr_new 65 2 14 [.int 0, .int 0, .int 0, .int 0, .int 0, .int 0, .null, .int 0, .int 0, .int 0, .int 0, .int 0, .int 0, .int 0] 2 214),
  (65, tr_dup 66),
  (66, tr_ald 67 0),
  (67, tr_getf 70 4 0),
  (70, tr_callV 73 0 0 (ptJx4a65c_size_8abf5 Y) 0 0 2 214),
  (73, tr_ild 74 1),
  (74, tr_ild 75 2),
  (75, tr_callI 78 3 (ptX1_init Y) 0 0 2 214),
  (78, tr_callV 81 1 0 (ptJx4a65c_add_9ea2d Y) 1 200 2 214),
  (81, tr_pop 82),
  (82, tr_ald 83 0),
  (83, tr_getf 86 4 0),
  (86, tr_callV 89 0 0 (ptJx4a65c_size_8abf5 Y) 0 0 2 214),
  (89, tr_push 90 (.int 1)),
  (90, tr_i2 91 (fun x y => x - y)),
  (91, tr_iret .int)]
def ptX3_fencer (Y : xw_Y) : xw_PT := xw_pt (tbX3_fencer Y) 3 2 214
theorem lkX3_fencer_0 (Y : xw_Y) : xw_lk (tbX3_fencer Y) 0 = some (tr_ild 1 1) := rfl
theorem lkX3_fencer_1 (Y : xw_Y) : xw_lk (tbX3_fencer Y) 1 = some (tr_push 2 (.int 0)) := rfl
theorem lkX3_fencer_2 (Y : xw_Y) : xw_lk (tbX3_fencer Y) 2 = some (tr_push 4 (.int 99)) := rfl
theorem lkX3_fencer_4 (Y : xw_Y) : xw_lk (tbX3_fencer Y) 4 = some (tr_callS 7 3 (ptX3_isIn Y) 0 0 2 214) := rfl
theorem lkX3_fencer_7 (Y : xw_Y) : xw_lk (tbX3_fencer Y) 7 = some (tr_ifz 10 19 (fun x => x = 0)) := rfl
theorem lkX3_fencer_10 (Y : xw_Y) : xw_lk (tbX3_fencer Y) 10 = some (tr_ild 11 2) := rfl
theorem lkX3_fencer_11 (Y : xw_Y) : xw_lk (tbX3_fencer Y) 11 = some (tr_push 12 (.int 0)) := rfl
theorem lkX3_fencer_12 (Y : xw_Y) : xw_lk (tbX3_fencer Y) 12 = some (tr_push 13 (.int 5)) := rfl
theorem lkX3_fencer_13 (Y : xw_Y) : xw_lk (tbX3_fencer Y) 13 = some (tr_callS 16 3 (ptX3_isIn Y) 0 0 2 214) := rfl
theorem lkX3_fencer_16 (Y : xw_Y) : xw_lk (tbX3_fencer Y) 16 = some (tr_ifz 19 29 (fun x => ¬ x = 0)) := rfl
theorem lkX3_fencer_29 (Y : xw_Y) : xw_lk (tbX3_fencer Y) 29 = some (tr_ald 30 0) := rfl
theorem lkX3_fencer_30 (Y : xw_Y) : xw_lk (tbX3_fencer Y) 30 = some (tr_getf 33 4 0) := rfl
theorem lkX3_fencer_33 (Y : xw_Y) : xw_lk (tbX3_fencer Y) 33 = some (tr_callV 36 0 0 (ptJx4a65c_size_8abf5 Y) 0 0 2 214) := rfl
theorem lkX3_fencer_36 (Y : xw_Y) : xw_lk (tbX3_fencer Y) 36 = some (tr_push 38 (.int 16)) := rfl
theorem lkX3_fencer_38 (Y : xw_Y) : xw_lk (tbX3_fencer Y) 38 = some (tr_ifc 41 48 (fun x y => y ≤ x)) := rfl
theorem lkX3_fencer_41 (Y : xw_Y) : xw_lk (tbX3_fencer Y) 41 = some (tr_ald 42 0) := rfl
theorem lkX3_fencer_42 (Y : xw_Y) : xw_lk (tbX3_fencer Y) 42 = some (tr_getf 45 4 6) := rfl
theorem lkX3_fencer_45 (Y : xw_Y) : xw_lk (tbX3_fencer Y) 45 = some (tr_ifz 48 58 (fun x => x ≤ 0)) := rfl
theorem lkX3_fencer_58 (Y : xw_Y) : xw_lk (tbX3_fencer Y) 58 = some (tr_ald 59 0) := rfl
theorem lkX3_fencer_59 (Y : xw_Y) : xw_lk (tbX3_fencer Y) 59 = some (tr_getf 62 4 0) := rfl
theorem lkX3_fencer_62 (Y : xw_Y) : xw_lk (tbX3_fencer Y) 62 = some (tr_new 65 2 14 [.int 0, .int 0, .int 0, .int 0, .int 0, .int 0, .null, .int 0, .int 0, .int 0, .int 0, .int 0, .int 0, .int 0] 2 214) := rfl
theorem lkX3_fencer_65 (Y : xw_Y) : xw_lk (tbX3_fencer Y) 65 = some (tr_dup 66) := rfl
theorem lkX3_fencer_66 (Y : xw_Y) : xw_lk (tbX3_fencer Y) 66 = some (tr_ald 67 0) := rfl
theorem lkX3_fencer_67 (Y : xw_Y) : xw_lk (tbX3_fencer Y) 67 = some (tr_getf 70 4 0) := rfl
theorem lkX3_fencer_70 (Y : xw_Y) : xw_lk (tbX3_fencer Y) 70 = some (tr_callV 73 0 0 (ptJx4a65c_size_8abf5 Y) 0 0 2 214) := rfl
theorem lkX3_fencer_73 (Y : xw_Y) : xw_lk (tbX3_fencer Y) 73 = some (tr_ild 74 1) := rfl
theorem lkX3_fencer_74 (Y : xw_Y) : xw_lk (tbX3_fencer Y) 74 = some (tr_ild 75 2) := rfl
theorem lkX3_fencer_75 (Y : xw_Y) : xw_lk (tbX3_fencer Y) 75 = some (tr_callI 78 3 (ptX1_init Y) 0 0 2 214) := rfl
theorem lkX3_fencer_78 (Y : xw_Y) : xw_lk (tbX3_fencer Y) 78 = some (tr_callV 81 1 0 (ptJx4a65c_add_9ea2d Y) 1 200 2 214) := rfl
theorem lkX3_fencer_81 (Y : xw_Y) : xw_lk (tbX3_fencer Y) 81 = some (tr_pop 82) := rfl
theorem lkX3_fencer_82 (Y : xw_Y) : xw_lk (tbX3_fencer Y) 82 = some (tr_ald 83 0) := rfl
theorem lkX3_fencer_83 (Y : xw_Y) : xw_lk (tbX3_fencer Y) 83 = some (tr_getf 86 4 0) := rfl
theorem lkX3_fencer_86 (Y : xw_Y) : xw_lk (tbX3_fencer Y) 86 = some (tr_callV 89 0 0 (ptJx4a65c_size_8abf5 Y) 0 0 2 214) := rfl
theorem lkX3_fencer_89 (Y : xw_Y) : xw_lk (tbX3_fencer Y) 89 = some (tr_push 90 (.int 1)) := rfl
theorem lkX3_fencer_90 (Y : xw_Y) : xw_lk (tbX3_fencer Y) 90 = some (tr_i2 91 (fun x y => x - y)) := rfl
theorem lkX3_fencer_91 (Y : xw_Y) : xw_lk (tbX3_fencer Y) 91 = some (tr_iret .int) := rfl
def tbJ3_checkIndex_8e157 (Y : xw_Y) : List (Nat × xw_T) := [(0, tr_ild 1 0),
  (1, tr_ifz 4 9 (fun x => x < 0)),
  (4, tr_ild 5 0),
  (5, tr_ild 6 1),
  (6, tr_ifc 9 16 (fun x y => x < y)),
  (9, tr_ald 10 2),
  (10, tr_ild 11 0),
  (11, tr_ild 12 1),
  (16, tr_ild 17 0),
  (17, tr_iret .int)]
def ptJ3_checkIndex_8e157 (Y : xw_Y) : xw_PT := xw_pt (tbJ3_checkIndex_8e157 Y) 3 0 0
theorem lkJ3_checkIndex_8e157_0 (Y : xw_Y) : xw_lk (tbJ3_checkIndex_8e157 Y) 0 = some (tr_ild 1 0) := rfl
theorem lkJ3_checkIndex_8e157_1 (Y : xw_Y) : xw_lk (tbJ3_checkIndex_8e157 Y) 1 = some (tr_ifz 4 9 (fun x => x < 0)) := rfl
theorem lkJ3_checkIndex_8e157_4 (Y : xw_Y) : xw_lk (tbJ3_checkIndex_8e157 Y) 4 = some (tr_ild 5 0) := rfl
theorem lkJ3_checkIndex_8e157_5 (Y : xw_Y) : xw_lk (tbJ3_checkIndex_8e157 Y) 5 = some (tr_ild 6 1) := rfl
theorem lkJ3_checkIndex_8e157_6 (Y : xw_Y) : xw_lk (tbJ3_checkIndex_8e157 Y) 6 = some (tr_ifc 9 16 (fun x y => x < y)) := rfl
theorem lkJ3_checkIndex_8e157_9 (Y : xw_Y) : xw_lk (tbJ3_checkIndex_8e157 Y) 9 = some (tr_ald 10 2) := rfl
theorem lkJ3_checkIndex_8e157_10 (Y : xw_Y) : xw_lk (tbJ3_checkIndex_8e157 Y) 10 = some (tr_ild 11 0) := rfl
theorem lkJ3_checkIndex_8e157_11 (Y : xw_Y) : xw_lk (tbJ3_checkIndex_8e157 Y) 11 = some (tr_ild 12 1) := rfl
theorem lkJ3_checkIndex_8e157_16 (Y : xw_Y) : xw_lk (tbJ3_checkIndex_8e157 Y) 16 = some (tr_ild 17 0) := rfl
theorem lkJ3_checkIndex_8e157_17 (Y : xw_Y) : xw_lk (tbJ3_checkIndex_8e157 Y) 17 = some (tr_iret .int) := rfl
def tbJ15_checkIndex_7cf53 (Y : xw_Y) : List (Nat × xw_T) := [(0, tr_ild 1 0),
  (1, tr_ild 2 1),
  (2, tr_push 3 .null),
  (3, tr_callS 6 3 (ptJ3_checkIndex_8e157 Y) 0 0 0 0),
  (6, tr_iret .int)]
def ptJ15_checkIndex_7cf53 (Y : xw_Y) : xw_PT := xw_pt (tbJ15_checkIndex_7cf53 Y) 2 0 0
theorem lkJ15_checkIndex_7cf53_0 (Y : xw_Y) : xw_lk (tbJ15_checkIndex_7cf53 Y) 0 = some (tr_ild 1 0) := rfl
theorem lkJ15_checkIndex_7cf53_1 (Y : xw_Y) : xw_lk (tbJ15_checkIndex_7cf53 Y) 1 = some (tr_ild 2 1) := rfl
theorem lkJ15_checkIndex_7cf53_2 (Y : xw_Y) : xw_lk (tbJ15_checkIndex_7cf53 Y) 2 = some (tr_push 3 .null) := rfl
theorem lkJ15_checkIndex_7cf53_3 (Y : xw_Y) : xw_lk (tbJ15_checkIndex_7cf53 Y) 3 = some (tr_callS 6 3 (ptJ3_checkIndex_8e157 Y) 0 0 0 0) := rfl
theorem lkJ15_checkIndex_7cf53_6 (Y : xw_Y) : xw_lk (tbJ15_checkIndex_7cf53 Y) 6 = some (tr_iret .int) := rfl
def tbJx4a65c_elementData_915e3 (Y : xw_Y) : List (Nat × xw_T) := [(0, tr_ald 1 0),
  (1, tr_getf 4 0 1),
  (4, tr_ild 5 1),
  (5, tr_aald 6 Y.2.2.1),
  (6, tr_aret)]
def ptJx4a65c_elementData_915e3 (Y : xw_Y) : xw_PT := xw_pt (tbJx4a65c_elementData_915e3 Y) 2 0 0
theorem lkJx4a65c_elementData_915e3_0 (Y : xw_Y) : xw_lk (tbJx4a65c_elementData_915e3 Y) 0 = some (tr_ald 1 0) := rfl
theorem lkJx4a65c_elementData_915e3_1 (Y : xw_Y) : xw_lk (tbJx4a65c_elementData_915e3 Y) 1 = some (tr_getf 4 0 1) := rfl
theorem lkJx4a65c_elementData_915e3_4 (Y : xw_Y) : xw_lk (tbJx4a65c_elementData_915e3 Y) 4 = some (tr_ild 5 1) := rfl
theorem lkJx4a65c_elementData_915e3_5 (Y : xw_Y) : xw_lk (tbJx4a65c_elementData_915e3 Y) 5 = some (tr_aald 6 Y.2.2.1) := rfl
theorem lkJx4a65c_elementData_915e3_6 (Y : xw_Y) : xw_lk (tbJx4a65c_elementData_915e3 Y) 6 = some (tr_aret) := rfl
def tbJx4a65c_get_915e3 (Y : xw_Y) : List (Nat × xw_T) := [(0, tr_ild 1 1),
  (1, tr_ald 2 0),
  (2, tr_getf 5 0 2),
  (5, tr_callS 8 2 (ptJ15_checkIndex_7cf53 Y) 0 0 0 0),
  (8, tr_pop 9),
  (9, tr_ald 10 0),
  (10, tr_ild 11 1),
  (11, tr_callV 14 1 0 (ptJx4a65c_elementData_915e3 Y) 0 0 0 0),
  (14, tr_aret)]
def ptJx4a65c_get_915e3 (Y : xw_Y) : xw_PT := xw_pt (tbJx4a65c_get_915e3 Y) 2 0 0
theorem lkJx4a65c_get_915e3_0 (Y : xw_Y) : xw_lk (tbJx4a65c_get_915e3 Y) 0 = some (tr_ild 1 1) := rfl
theorem lkJx4a65c_get_915e3_1 (Y : xw_Y) : xw_lk (tbJx4a65c_get_915e3 Y) 1 = some (tr_ald 2 0) := rfl
theorem lkJx4a65c_get_915e3_2 (Y : xw_Y) : xw_lk (tbJx4a65c_get_915e3 Y) 2 = some (tr_getf 5 0 2) := rfl
theorem lkJx4a65c_get_915e3_5 (Y : xw_Y) : xw_lk (tbJx4a65c_get_915e3 Y) 5 = some (tr_callS 8 2 (ptJ15_checkIndex_7cf53 Y) 0 0 0 0) := rfl
theorem lkJx4a65c_get_915e3_8 (Y : xw_Y) : xw_lk (tbJx4a65c_get_915e3 Y) 8 = some (tr_pop 9) := rfl
theorem lkJx4a65c_get_915e3_9 (Y : xw_Y) : xw_lk (tbJx4a65c_get_915e3 Y) 9 = some (tr_ald 10 0) := rfl
theorem lkJx4a65c_get_915e3_10 (Y : xw_Y) : xw_lk (tbJx4a65c_get_915e3 Y) 10 = some (tr_ild 11 1) := rfl
theorem lkJx4a65c_get_915e3_11 (Y : xw_Y) : xw_lk (tbJx4a65c_get_915e3 Y) 11 = some (tr_callV 14 1 0 (ptJx4a65c_elementData_915e3 Y) 0 0 0 0) := rfl
theorem lkJx4a65c_get_915e3_14 (Y : xw_Y) : xw_lk (tbJx4a65c_get_915e3 Y) 14 = some (tr_aret) := rfl
def tbX1_isAheadOf (Y : xw_Y) : List (Nat × xw_T) := [(0, tr_ald 1 0),
  (1, tr_getf 4 2 5),
  (4, tr_ald 5 1),
  (5, tr_getf 8 2 5),
  (8, tr_ifc 11 16 (fun x y => x = y)),
  (11, tr_ald 12 1),
  (12, tr_getf 15 2 5),
  (15, tr_iret .boolean),
  (16, tr_ald 17 0),
  (17, tr_getf 20 2 9),
  (20, tr_ald 21 1),
  (21, tr_getf 24 2 8),
  (24, tr_push 25 (.int 1)),
  (25, tr_max 28 0 0),
  (28, tr_i2 29 (fun x y => x * y)),
  (29, tr_ist 30 2),
  (30, tr_ald 31 1),
  (31, tr_getf 34 2 9),
  (34, tr_ald 35 0),
  (35, tr_getf 38 2 8),
  (38, tr_push 39 (.int 1)),
  (39, tr_max 42 0 0),
  (42, tr_i2 43 (fun x y => x * y)),
  (43, tr_ist 44 3),
  (44, tr_ild 45 2),
  (45, tr_ild 46 3),
  (46, tr_ifc 49 60 (fun x y => x = y)),
  (49, tr_ild 50 2),
  (50, tr_ild 51 3),
  (51, tr_ifc 54 58 (fun x y => x ≤ y)),
  (54, tr_push 55 (.int 1)),
  (55, tr_goto 59),
  (58, tr_push 59 (.int 0)),
  (59, tr_iret .boolean),
  (60, tr_ald 61 0),
  (61, tr_getf 64 2 10),
  (64, tr_ald 65 0),
  (65, tr_getf 68 2 11),
  (68, tr_i2 69 (fun x y => x - y)),
  (69, tr_ald 70 1),
  (70, tr_getf 73 2 10),
  (73, tr_ald 74 1),
  (74, tr_getf 77 2 11),
  (77, tr_i2 78 (fun x y => x - y)),
  (78, tr_ifc 81 108 (fun x y => x = y)),
  (81, tr_ald 82 0),
  (82, tr_getf 85 2 10),
  (85, tr_ald 86 0),
  (86, tr_getf 89 2 11),
  (89, tr_i2 90 (fun x y => x - y)),
  (90, tr_ald 91 1),
  (91, tr_getf 94 2 10),
  (94, tr_ald 95 1),
  (95, tr_getf 98 2 11),
  (98, tr_i2 99 (fun x y => x - y)),
  (99, tr_ifc 102 106 (fun x y => x ≤ y)),
  (102, tr_push 103 (.int 1)),
  (103, tr_goto 107),
  (106, tr_push 107 (.int 0)),
  (107, tr_iret .boolean),
  (108, tr_ald 109 0),
  (109, tr_getf 112 2 10),
  (112, tr_ald 113 1),
  (113, tr_getf 116 2 10),
  (116, tr_ifc 119 136 (fun x y => x = y)),
  (119, tr_ald 120 0),
  (120, tr_getf 123 2 10),
  (123, tr_ald 124 1),
  (124, tr_getf 127 2 10),
  (127, tr_ifc 130 134 (fun x y => x ≤ y)),
  (130, tr_push 131 (.int 1)),
  (131, tr_goto 135),
  (134, tr_push 135 (.int 0)),
  (135, tr_iret .boolean),
  (136, tr_ald 137 0),
  (137, tr_getf 140 2 1),
  (140, tr_ald 141 1),
  (141, tr_getf 144 2 1),
  (144, tr_ifc 147 164 (fun x y => x = y)),
  (147, tr_ald 148 0),
  (148, tr_getf 151 2 1),
  (151, tr_ald 152 1),
  (152, tr_getf 155 2 1),
  (155, tr_ifc 158 162 (fun x y => y ≤ x)),
  (158, tr_push 159 (.int 1)),
  (159, tr_goto 163),
  (162, tr_push 163 (.int 0)),
  (163, tr_iret .boolean),
  (164, tr_ald 165 0),
  (165, tr_getf 168 2 0),
  (168, tr_ald 169 1),
  (169, tr_getf 172 2 0),
  (172, tr_ifc 175 179 (fun x y => y ≤ x)),
  (175, tr_push 176 (.int 1)),
  (176, tr_goto 180),
  (179, tr_push 180 (.int 0)),
  (180, tr_iret .boolean)]
def ptX1_isAheadOf (Y : xw_Y) : xw_PT := xw_pt (tbX1_isAheadOf Y) 4 0 0
theorem lkX1_isAheadOf_0 (Y : xw_Y) : xw_lk (tbX1_isAheadOf Y) 0 = some (tr_ald 1 0) := rfl
theorem lkX1_isAheadOf_1 (Y : xw_Y) : xw_lk (tbX1_isAheadOf Y) 1 = some (tr_getf 4 2 5) := rfl
theorem lkX1_isAheadOf_4 (Y : xw_Y) : xw_lk (tbX1_isAheadOf Y) 4 = some (tr_ald 5 1) := rfl
theorem lkX1_isAheadOf_5 (Y : xw_Y) : xw_lk (tbX1_isAheadOf Y) 5 = some (tr_getf 8 2 5) := rfl
theorem lkX1_isAheadOf_8 (Y : xw_Y) : xw_lk (tbX1_isAheadOf Y) 8 = some (tr_ifc 11 16 (fun x y => x = y)) := rfl
theorem lkX1_isAheadOf_11 (Y : xw_Y) : xw_lk (tbX1_isAheadOf Y) 11 = some (tr_ald 12 1) := rfl
theorem lkX1_isAheadOf_12 (Y : xw_Y) : xw_lk (tbX1_isAheadOf Y) 12 = some (tr_getf 15 2 5) := rfl
theorem lkX1_isAheadOf_15 (Y : xw_Y) : xw_lk (tbX1_isAheadOf Y) 15 = some (tr_iret .boolean) := rfl
theorem lkX1_isAheadOf_16 (Y : xw_Y) : xw_lk (tbX1_isAheadOf Y) 16 = some (tr_ald 17 0) := rfl
theorem lkX1_isAheadOf_17 (Y : xw_Y) : xw_lk (tbX1_isAheadOf Y) 17 = some (tr_getf 20 2 9) := rfl
theorem lkX1_isAheadOf_20 (Y : xw_Y) : xw_lk (tbX1_isAheadOf Y) 20 = some (tr_ald 21 1) := rfl
theorem lkX1_isAheadOf_21 (Y : xw_Y) : xw_lk (tbX1_isAheadOf Y) 21 = some (tr_getf 24 2 8) := rfl
theorem lkX1_isAheadOf_24 (Y : xw_Y) : xw_lk (tbX1_isAheadOf Y) 24 = some (tr_push 25 (.int 1)) := rfl
theorem lkX1_isAheadOf_25 (Y : xw_Y) : xw_lk (tbX1_isAheadOf Y) 25 = some (tr_max 28 0 0) := rfl
theorem lkX1_isAheadOf_28 (Y : xw_Y) : xw_lk (tbX1_isAheadOf Y) 28 = some (tr_i2 29 (fun x y => x * y)) := rfl
theorem lkX1_isAheadOf_29 (Y : xw_Y) : xw_lk (tbX1_isAheadOf Y) 29 = some (tr_ist 30 2) := rfl
theorem lkX1_isAheadOf_30 (Y : xw_Y) : xw_lk (tbX1_isAheadOf Y) 30 = some (tr_ald 31 1) := rfl
theorem lkX1_isAheadOf_31 (Y : xw_Y) : xw_lk (tbX1_isAheadOf Y) 31 = some (tr_getf 34 2 9) := rfl
theorem lkX1_isAheadOf_34 (Y : xw_Y) : xw_lk (tbX1_isAheadOf Y) 34 = some (tr_ald 35 0) := rfl
theorem lkX1_isAheadOf_35 (Y : xw_Y) : xw_lk (tbX1_isAheadOf Y) 35 = some (tr_getf 38 2 8) := rfl
theorem lkX1_isAheadOf_38 (Y : xw_Y) : xw_lk (tbX1_isAheadOf Y) 38 = some (tr_push 39 (.int 1)) := rfl
theorem lkX1_isAheadOf_39 (Y : xw_Y) : xw_lk (tbX1_isAheadOf Y) 39 = some (tr_max 42 0 0) := rfl
theorem lkX1_isAheadOf_42 (Y : xw_Y) : xw_lk (tbX1_isAheadOf Y) 42 = some (tr_i2 43 (fun x y => x * y)) := rfl
theorem lkX1_isAheadOf_43 (Y : xw_Y) : xw_lk (tbX1_isAheadOf Y) 43 = some (tr_ist 44 3) := rfl
theorem lkX1_isAheadOf_44 (Y : xw_Y) : xw_lk (tbX1_isAheadOf Y) 44 = some (tr_ild 45 2) := rfl
theorem lkX1_isAheadOf_45 (Y : xw_Y) : xw_lk (tbX1_isAheadOf Y) 45 = some (tr_ild 46 3) := rfl
theorem lkX1_isAheadOf_46 (Y : xw_Y) : xw_lk (tbX1_isAheadOf Y) 46 = some (tr_ifc 49 60 (fun x y => x = y)) := rfl
theorem lkX1_isAheadOf_49 (Y : xw_Y) : xw_lk (tbX1_isAheadOf Y) 49 = some (tr_ild 50 2) := rfl
theorem lkX1_isAheadOf_50 (Y : xw_Y) : xw_lk (tbX1_isAheadOf Y) 50 = some (tr_ild 51 3) := rfl
theorem lkX1_isAheadOf_51 (Y : xw_Y) : xw_lk (tbX1_isAheadOf Y) 51 = some (tr_ifc 54 58 (fun x y => x ≤ y)) := rfl
theorem lkX1_isAheadOf_54 (Y : xw_Y) : xw_lk (tbX1_isAheadOf Y) 54 = some (tr_push 55 (.int 1)) := rfl
theorem lkX1_isAheadOf_55 (Y : xw_Y) : xw_lk (tbX1_isAheadOf Y) 55 = some (tr_goto 59) := rfl
theorem lkX1_isAheadOf_58 (Y : xw_Y) : xw_lk (tbX1_isAheadOf Y) 58 = some (tr_push 59 (.int 0)) := rfl
theorem lkX1_isAheadOf_59 (Y : xw_Y) : xw_lk (tbX1_isAheadOf Y) 59 = some (tr_iret .boolean) := rfl
theorem lkX1_isAheadOf_60 (Y : xw_Y) : xw_lk (tbX1_isAheadOf Y) 60 = some (tr_ald 61 0) := rfl
theorem lkX1_isAheadOf_61 (Y : xw_Y) : xw_lk (tbX1_isAheadOf Y) 61 = some (tr_getf 64 2 10) := rfl
theorem lkX1_isAheadOf_64 (Y : xw_Y) : xw_lk (tbX1_isAheadOf Y) 64 = some (tr_ald 65 0) := rfl
theorem lkX1_isAheadOf_65 (Y : xw_Y) : xw_lk (tbX1_isAheadOf Y) 65 = some (tr_getf 68 2 11) := rfl
theorem lkX1_isAheadOf_68 (Y : xw_Y) : xw_lk (tbX1_isAheadOf Y) 68 = some (tr_i2 69 (fun x y => x - y)) := rfl
theorem lkX1_isAheadOf_69 (Y : xw_Y) : xw_lk (tbX1_isAheadOf Y) 69 = some (tr_ald 70 1) := rfl
theorem lkX1_isAheadOf_70 (Y : xw_Y) : xw_lk (tbX1_isAheadOf Y) 70 = some (tr_getf 73 2 10) := rfl
theorem lkX1_isAheadOf_73 (Y : xw_Y) : xw_lk (tbX1_isAheadOf Y) 73 = some (tr_ald 74 1) := rfl
theorem lkX1_isAheadOf_74 (Y : xw_Y) : xw_lk (tbX1_isAheadOf Y) 74 = some (tr_getf 77 2 11) := rfl
theorem lkX1_isAheadOf_77 (Y : xw_Y) : xw_lk (tbX1_isAheadOf Y) 77 = some (tr_i2 78 (fun x y => x - y)) := rfl
theorem lkX1_isAheadOf_78 (Y : xw_Y) : xw_lk (tbX1_isAheadOf Y) 78 = some (tr_ifc 81 108 (fun x y => x = y)) := rfl
theorem lkX1_isAheadOf_81 (Y : xw_Y) : xw_lk (tbX1_isAheadOf Y) 81 = some (tr_ald 82 0) := rfl
theorem lkX1_isAheadOf_82 (Y : xw_Y) : xw_lk (tbX1_isAheadOf Y) 82 = some (tr_getf 85 2 10) := rfl
theorem lkX1_isAheadOf_85 (Y : xw_Y) : xw_lk (tbX1_isAheadOf Y) 85 = some (tr_ald 86 0) := rfl
theorem lkX1_isAheadOf_86 (Y : xw_Y) : xw_lk (tbX1_isAheadOf Y) 86 = some (tr_getf 89 2 11) := rfl
theorem lkX1_isAheadOf_89 (Y : xw_Y) : xw_lk (tbX1_isAheadOf Y) 89 = some (tr_i2 90 (fun x y => x - y)) := rfl
theorem lkX1_isAheadOf_90 (Y : xw_Y) : xw_lk (tbX1_isAheadOf Y) 90 = some (tr_ald 91 1) := rfl
theorem lkX1_isAheadOf_91 (Y : xw_Y) : xw_lk (tbX1_isAheadOf Y) 91 = some (tr_getf 94 2 10) := rfl
theorem lkX1_isAheadOf_94 (Y : xw_Y) : xw_lk (tbX1_isAheadOf Y) 94 = some (tr_ald 95 1) := rfl
theorem lkX1_isAheadOf_95 (Y : xw_Y) : xw_lk (tbX1_isAheadOf Y) 95 = some (tr_getf 98 2 11) := rfl
theorem lkX1_isAheadOf_98 (Y : xw_Y) : xw_lk (tbX1_isAheadOf Y) 98 = some (tr_i2 99 (fun x y => x - y)) := rfl
theorem lkX1_isAheadOf_99 (Y : xw_Y) : xw_lk (tbX1_isAheadOf Y) 99 = some (tr_ifc 102 106 (fun x y => x ≤ y)) := rfl
theorem lkX1_isAheadOf_102 (Y : xw_Y) : xw_lk (tbX1_isAheadOf Y) 102 = some (tr_push 103 (.int 1)) := rfl
theorem lkX1_isAheadOf_103 (Y : xw_Y) : xw_lk (tbX1_isAheadOf Y) 103 = some (tr_goto 107) := rfl
theorem lkX1_isAheadOf_106 (Y : xw_Y) : xw_lk (tbX1_isAheadOf Y) 106 = some (tr_push 107 (.int 0)) := rfl
theorem lkX1_isAheadOf_107 (Y : xw_Y) : xw_lk (tbX1_isAheadOf Y) 107 = some (tr_iret .boolean) := rfl
theorem lkX1_isAheadOf_108 (Y : xw_Y) : xw_lk (tbX1_isAheadOf Y) 108 = some (tr_ald 109 0) := rfl
theorem lkX1_isAheadOf_109 (Y : xw_Y) : xw_lk (tbX1_isAheadOf Y) 109 = some (tr_getf 112 2 10) := rfl
theorem lkX1_isAheadOf_112 (Y : xw_Y) : xw_lk (tbX1_isAheadOf Y) 112 = some (tr_ald 113 1) := rfl
theorem lkX1_isAheadOf_113 (Y : xw_Y) : xw_lk (tbX1_isAheadOf Y) 113 = some (tr_getf 116 2 10) := rfl
theorem lkX1_isAheadOf_116 (Y : xw_Y) : xw_lk (tbX1_isAheadOf Y) 116 = some (tr_ifc 119 136 (fun x y => x = y)) := rfl
theorem lkX1_isAheadOf_119 (Y : xw_Y) : xw_lk (tbX1_isAheadOf Y) 119 = some (tr_ald 120 0) := rfl
theorem lkX1_isAheadOf_120 (Y : xw_Y) : xw_lk (tbX1_isAheadOf Y) 120 = some (tr_getf 123 2 10) := rfl
theorem lkX1_isAheadOf_123 (Y : xw_Y) : xw_lk (tbX1_isAheadOf Y) 123 = some (tr_ald 124 1) := rfl
theorem lkX1_isAheadOf_124 (Y : xw_Y) : xw_lk (tbX1_isAheadOf Y) 124 = some (tr_getf 127 2 10) := rfl
theorem lkX1_isAheadOf_127 (Y : xw_Y) : xw_lk (tbX1_isAheadOf Y) 127 = some (tr_ifc 130 134 (fun x y => x ≤ y)) := rfl
theorem lkX1_isAheadOf_130 (Y : xw_Y) : xw_lk (tbX1_isAheadOf Y) 130 = some (tr_push 131 (.int 1)) := rfl
theorem lkX1_isAheadOf_131 (Y : xw_Y) : xw_lk (tbX1_isAheadOf Y) 131 = some (tr_goto 135) := rfl
theorem lkX1_isAheadOf_134 (Y : xw_Y) : xw_lk (tbX1_isAheadOf Y) 134 = some (tr_push 135 (.int 0)) := rfl
theorem lkX1_isAheadOf_135 (Y : xw_Y) : xw_lk (tbX1_isAheadOf Y) 135 = some (tr_iret .boolean) := rfl
theorem lkX1_isAheadOf_136 (Y : xw_Y) : xw_lk (tbX1_isAheadOf Y) 136 = some (tr_ald 137 0) := rfl
theorem lkX1_isAheadOf_137 (Y : xw_Y) : xw_lk (tbX1_isAheadOf Y) 137 = some (tr_getf 140 2 1) := rfl
theorem lkX1_isAheadOf_140 (Y : xw_Y) : xw_lk (tbX1_isAheadOf Y) 140 = some (tr_ald 141 1) := rfl
theorem lkX1_isAheadOf_141 (Y : xw_Y) : xw_lk (tbX1_isAheadOf Y) 141 = some (tr_getf 144 2 1) := rfl
theorem lkX1_isAheadOf_144 (Y : xw_Y) : xw_lk (tbX1_isAheadOf Y) 144 = some (tr_ifc 147 164 (fun x y => x = y)) := rfl
theorem lkX1_isAheadOf_147 (Y : xw_Y) : xw_lk (tbX1_isAheadOf Y) 147 = some (tr_ald 148 0) := rfl
theorem lkX1_isAheadOf_148 (Y : xw_Y) : xw_lk (tbX1_isAheadOf Y) 148 = some (tr_getf 151 2 1) := rfl
set_option maxRecDepth 20000 in
theorem lkX1_isAheadOf_151 (Y : xw_Y) : xw_lk (tbX1_isAheadOf Y) 151 = some (tr_ald 152 1) := rfl
set_option maxRecDepth 20000 in
theorem lkX1_isAheadOf_152 (Y : xw_Y) : xw_lk (tbX1_isAheadOf Y) 152 = some (tr_getf 155 2 1) := rfl
set_option maxRecDepth 20000 in
theorem lkX1_isAheadOf_155 (Y : xw_Y) : xw_lk (tbX1_isAheadOf Y) 155 = some (tr_ifc 158 162 (fun x y => y ≤ x)) := rfl
set_option maxRecDepth 20000 in
theorem lkX1_isAheadOf_158 (Y : xw_Y) : xw_lk (tbX1_isAheadOf Y) 158 = some (tr_push 159 (.int 1)) := rfl
set_option maxRecDepth 20000 in
theorem lkX1_isAheadOf_159 (Y : xw_Y) : xw_lk (tbX1_isAheadOf Y) 159 = some (tr_goto 163) := rfl
set_option maxRecDepth 20000 in
theorem lkX1_isAheadOf_162 (Y : xw_Y) : xw_lk (tbX1_isAheadOf Y) 162 = some (tr_push 163 (.int 0)) := rfl
set_option maxRecDepth 20000 in
theorem lkX1_isAheadOf_163 (Y : xw_Y) : xw_lk (tbX1_isAheadOf Y) 163 = some (tr_iret .boolean) := rfl
set_option maxRecDepth 20000 in
theorem lkX1_isAheadOf_164 (Y : xw_Y) : xw_lk (tbX1_isAheadOf Y) 164 = some (tr_ald 165 0) := rfl
set_option maxRecDepth 20000 in
theorem lkX1_isAheadOf_165 (Y : xw_Y) : xw_lk (tbX1_isAheadOf Y) 165 = some (tr_getf 168 2 0) := rfl
set_option maxRecDepth 20000 in
theorem lkX1_isAheadOf_168 (Y : xw_Y) : xw_lk (tbX1_isAheadOf Y) 168 = some (tr_ald 169 1) := rfl
set_option maxRecDepth 20000 in
theorem lkX1_isAheadOf_169 (Y : xw_Y) : xw_lk (tbX1_isAheadOf Y) 169 = some (tr_getf 172 2 0) := rfl
set_option maxRecDepth 20000 in
theorem lkX1_isAheadOf_172 (Y : xw_Y) : xw_lk (tbX1_isAheadOf Y) 172 = some (tr_ifc 175 179 (fun x y => y ≤ x)) := rfl
set_option maxRecDepth 20000 in
theorem lkX1_isAheadOf_175 (Y : xw_Y) : xw_lk (tbX1_isAheadOf Y) 175 = some (tr_push 176 (.int 1)) := rfl
set_option maxRecDepth 20000 in
theorem lkX1_isAheadOf_176 (Y : xw_Y) : xw_lk (tbX1_isAheadOf Y) 176 = some (tr_goto 180) := rfl
set_option maxRecDepth 20000 in
theorem lkX1_isAheadOf_179 (Y : xw_Y) : xw_lk (tbX1_isAheadOf Y) 179 = some (tr_push 180 (.int 0)) := rfl
set_option maxRecDepth 20000 in
theorem lkX1_isAheadOf_180 (Y : xw_Y) : xw_lk (tbX1_isAheadOf Y) 180 = some (tr_iret .boolean) := rfl
def tbX3_aheadInOrder (Y : xw_Y) : List (Nat × xw_T) := [(0, tr_push 1 (.int 0)),
  (1, tr_ist 2 2),
  (2, tr_push 3 (.int 0)),
  (3, tr_ist 4 3),
  (4, tr_ild 5 3),
  (5, tr_ald 6 0),
  (6, tr_getf 9 4 0),
  (9, tr_callV 12 0 0 (ptJx4a65c_size_8abf5 Y) 0 0 0 0),
  (12, tr_ifc 15 42 (fun x y => y ≤ x)),
  (15, tr_ald 16 0),
  (16, tr_getf 19 4 0),
  (19, tr_ild 20 3),
  (20, tr_callV 23 1 0 (ptJx4a65c_get_915e3 Y) 0 0 0 0),
  (23, tr_cast 26 2),
  (26, tr_ald 27 1),
  (27, tr_callV 30 1 2 (ptX1_isAheadOf Y) 0 0 0 0),
  (30, tr_ifz 33 36 (fun x => x = 0)),
  (33, tr_inc 36 2 1),
  (36, tr_inc 39 3 1),
  (39, tr_goto 4),
  (42, tr_ild 43 2),
  (43, tr_iret .int)]
def ptX3_aheadInOrder (Y : xw_Y) : xw_PT := xw_pt (tbX3_aheadInOrder Y) 4 0 0
theorem lkX3_aheadInOrder_0 (Y : xw_Y) : xw_lk (tbX3_aheadInOrder Y) 0 = some (tr_push 1 (.int 0)) := rfl
theorem lkX3_aheadInOrder_1 (Y : xw_Y) : xw_lk (tbX3_aheadInOrder Y) 1 = some (tr_ist 2 2) := rfl
theorem lkX3_aheadInOrder_2 (Y : xw_Y) : xw_lk (tbX3_aheadInOrder Y) 2 = some (tr_push 3 (.int 0)) := rfl
theorem lkX3_aheadInOrder_3 (Y : xw_Y) : xw_lk (tbX3_aheadInOrder Y) 3 = some (tr_ist 4 3) := rfl
theorem lkX3_aheadInOrder_4 (Y : xw_Y) : xw_lk (tbX3_aheadInOrder Y) 4 = some (tr_ild 5 3) := rfl
theorem lkX3_aheadInOrder_5 (Y : xw_Y) : xw_lk (tbX3_aheadInOrder Y) 5 = some (tr_ald 6 0) := rfl
theorem lkX3_aheadInOrder_6 (Y : xw_Y) : xw_lk (tbX3_aheadInOrder Y) 6 = some (tr_getf 9 4 0) := rfl
theorem lkX3_aheadInOrder_9 (Y : xw_Y) : xw_lk (tbX3_aheadInOrder Y) 9 = some (tr_callV 12 0 0 (ptJx4a65c_size_8abf5 Y) 0 0 0 0) := rfl
theorem lkX3_aheadInOrder_12 (Y : xw_Y) : xw_lk (tbX3_aheadInOrder Y) 12 = some (tr_ifc 15 42 (fun x y => y ≤ x)) := rfl
theorem lkX3_aheadInOrder_15 (Y : xw_Y) : xw_lk (tbX3_aheadInOrder Y) 15 = some (tr_ald 16 0) := rfl
theorem lkX3_aheadInOrder_16 (Y : xw_Y) : xw_lk (tbX3_aheadInOrder Y) 16 = some (tr_getf 19 4 0) := rfl
theorem lkX3_aheadInOrder_19 (Y : xw_Y) : xw_lk (tbX3_aheadInOrder Y) 19 = some (tr_ild 20 3) := rfl
theorem lkX3_aheadInOrder_20 (Y : xw_Y) : xw_lk (tbX3_aheadInOrder Y) 20 = some (tr_callV 23 1 0 (ptJx4a65c_get_915e3 Y) 0 0 0 0) := rfl
theorem lkX3_aheadInOrder_23 (Y : xw_Y) : xw_lk (tbX3_aheadInOrder Y) 23 = some (tr_cast 26 2) := rfl
theorem lkX3_aheadInOrder_26 (Y : xw_Y) : xw_lk (tbX3_aheadInOrder Y) 26 = some (tr_ald 27 1) := rfl
theorem lkX3_aheadInOrder_27 (Y : xw_Y) : xw_lk (tbX3_aheadInOrder Y) 27 = some (tr_callV 30 1 2 (ptX1_isAheadOf Y) 0 0 0 0) := rfl
theorem lkX3_aheadInOrder_30 (Y : xw_Y) : xw_lk (tbX3_aheadInOrder Y) 30 = some (tr_ifz 33 36 (fun x => x = 0)) := rfl
theorem lkX3_aheadInOrder_33 (Y : xw_Y) : xw_lk (tbX3_aheadInOrder Y) 33 = some (tr_inc 36 2 1) := rfl
theorem lkX3_aheadInOrder_36 (Y : xw_Y) : xw_lk (tbX3_aheadInOrder Y) 36 = some (tr_inc 39 3 1) := rfl
theorem lkX3_aheadInOrder_39 (Y : xw_Y) : xw_lk (tbX3_aheadInOrder Y) 39 = some (tr_goto 4) := rfl
theorem lkX3_aheadInOrder_42 (Y : xw_Y) : xw_lk (tbX3_aheadInOrder Y) 42 = some (tr_ild 43 2) := rfl
theorem lkX3_aheadInOrder_43 (Y : xw_Y) : xw_lk (tbX3_aheadInOrder Y) 43 = some (tr_iret .int) := rfl
def tbX3_fencerInOrder (Y : xw_Y) : List (Nat × xw_T) := [(0, tr_push 1 (.int 0)),
  (1, tr_ist 2 2),
  (2, tr_ild 3 2),
  (3, tr_ald 4 0),
  (4, tr_getf 7 4 0),
  (7, tr_callV 10 0 0 (ptJx4a65c_size_8abf5 Y) 0 0 0 0),
  (10, tr_ifc 13 42 (fun x y => y ≤ x)),
  (13, tr_ald 14 0),
  (14, tr_getf 17 4 0),
  (17, tr_ild 18 2),
  (18, tr_callV 21 1 0 (ptJx4a65c_get_915e3 Y) 0 0 0 0),
  (21, tr_cast 24 2),
  (24, tr_ast 25 3),
  (25, tr_ald 26 0),
  (26, tr_ald 27 3),
  (27, tr_callV 30 1 4 (ptX3_aheadInOrder Y) 0 0 0 0),
  (30, tr_ild 31 1),
  (31, tr_ifc 34 36 (fun x y => ¬ x = y)),
  (34, tr_ald 35 3),
  (35, tr_aret),
  (36, tr_inc 39 2 1),
  (39, tr_goto 2),
  (42, tr_push 43 .null),
  (43, tr_aret)]
def ptX3_fencerInOrder (Y : xw_Y) : xw_PT := xw_pt (tbX3_fencerInOrder Y) 4 0 0
theorem lkX3_fencerInOrder_0 (Y : xw_Y) : xw_lk (tbX3_fencerInOrder Y) 0 = some (tr_push 1 (.int 0)) := rfl
theorem lkX3_fencerInOrder_1 (Y : xw_Y) : xw_lk (tbX3_fencerInOrder Y) 1 = some (tr_ist 2 2) := rfl
theorem lkX3_fencerInOrder_2 (Y : xw_Y) : xw_lk (tbX3_fencerInOrder Y) 2 = some (tr_ild 3 2) := rfl
theorem lkX3_fencerInOrder_3 (Y : xw_Y) : xw_lk (tbX3_fencerInOrder Y) 3 = some (tr_ald 4 0) := rfl
theorem lkX3_fencerInOrder_4 (Y : xw_Y) : xw_lk (tbX3_fencerInOrder Y) 4 = some (tr_getf 7 4 0) := rfl
theorem lkX3_fencerInOrder_7 (Y : xw_Y) : xw_lk (tbX3_fencerInOrder Y) 7 = some (tr_callV 10 0 0 (ptJx4a65c_size_8abf5 Y) 0 0 0 0) := rfl
theorem lkX3_fencerInOrder_10 (Y : xw_Y) : xw_lk (tbX3_fencerInOrder Y) 10 = some (tr_ifc 13 42 (fun x y => y ≤ x)) := rfl
theorem lkX3_fencerInOrder_13 (Y : xw_Y) : xw_lk (tbX3_fencerInOrder Y) 13 = some (tr_ald 14 0) := rfl
theorem lkX3_fencerInOrder_14 (Y : xw_Y) : xw_lk (tbX3_fencerInOrder Y) 14 = some (tr_getf 17 4 0) := rfl
theorem lkX3_fencerInOrder_17 (Y : xw_Y) : xw_lk (tbX3_fencerInOrder Y) 17 = some (tr_ild 18 2) := rfl
theorem lkX3_fencerInOrder_18 (Y : xw_Y) : xw_lk (tbX3_fencerInOrder Y) 18 = some (tr_callV 21 1 0 (ptJx4a65c_get_915e3 Y) 0 0 0 0) := rfl
theorem lkX3_fencerInOrder_21 (Y : xw_Y) : xw_lk (tbX3_fencerInOrder Y) 21 = some (tr_cast 24 2) := rfl
theorem lkX3_fencerInOrder_24 (Y : xw_Y) : xw_lk (tbX3_fencerInOrder Y) 24 = some (tr_ast 25 3) := rfl
theorem lkX3_fencerInOrder_25 (Y : xw_Y) : xw_lk (tbX3_fencerInOrder Y) 25 = some (tr_ald 26 0) := rfl
theorem lkX3_fencerInOrder_26 (Y : xw_Y) : xw_lk (tbX3_fencerInOrder Y) 26 = some (tr_ald 27 3) := rfl
theorem lkX3_fencerInOrder_27 (Y : xw_Y) : xw_lk (tbX3_fencerInOrder Y) 27 = some (tr_callV 30 1 4 (ptX3_aheadInOrder Y) 0 0 0 0) := rfl
theorem lkX3_fencerInOrder_30 (Y : xw_Y) : xw_lk (tbX3_fencerInOrder Y) 30 = some (tr_ild 31 1) := rfl
theorem lkX3_fencerInOrder_31 (Y : xw_Y) : xw_lk (tbX3_fencerInOrder Y) 31 = some (tr_ifc 34 36 (fun x y => ¬ x = y)) := rfl
theorem lkX3_fencerInOrder_34 (Y : xw_Y) : xw_lk (tbX3_fencerInOrder Y) 34 = some (tr_ald 35 3) := rfl
theorem lkX3_fencerInOrder_35 (Y : xw_Y) : xw_lk (tbX3_fencerInOrder Y) 35 = some (tr_aret) := rfl
theorem lkX3_fencerInOrder_36 (Y : xw_Y) : xw_lk (tbX3_fencerInOrder Y) 36 = some (tr_inc 39 2 1) := rfl
theorem lkX3_fencerInOrder_39 (Y : xw_Y) : xw_lk (tbX3_fencerInOrder Y) 39 = some (tr_goto 2) := rfl
theorem lkX3_fencerInOrder_42 (Y : xw_Y) : xw_lk (tbX3_fencerInOrder Y) 42 = some (tr_push 43 .null) := rfl
theorem lkX3_fencerInOrder_43 (Y : xw_Y) : xw_lk (tbX3_fencerInOrder Y) 43 = some (tr_aret) := rfl
def tbX3_hasClub (Y : xw_Y) : List (Nat × xw_T) := [(0, tr_push 1 (.int 0)),
  (1, tr_ist 2 3),
  (2, tr_ild 3 3),
  (3, tr_ald 4 0),
  (4, tr_getf 7 4 0),
  (7, tr_callV 10 0 0 (ptJx4a65c_size_8abf5 Y) 0 0 0 0),
  (10, tr_ifc 13 52 (fun x y => y ≤ x)),
  (13, tr_ald 14 0),
  (14, tr_getf 17 4 0),
  (17, tr_ild 18 3),
  (18, tr_callV 21 1 0 (ptJx4a65c_get_915e3 Y) 0 0 0 0),
  (21, tr_cast 24 2),
  (24, tr_ast 26 4),
  (26, tr_ald 28 4),
  (28, tr_getf 31 2 3),
  (31, tr_ild 32 1),
  (32, tr_ifc 35 46 (fun x y => ¬ x = y)),
  (35, tr_ald 37 4),
  (37, tr_getf 40 2 2),
  (40, tr_ild 41 2),
  (41, tr_ifc 44 46 (fun x y => ¬ x = y)),
  (44, tr_push 45 (.int 1)),
  (45, tr_iret .boolean),
  (46, tr_inc 49 3 1),
  (49, tr_goto 2),
  (52, tr_push 53 (.int 0)),
  (53, tr_iret .boolean)]
def ptX3_hasClub (Y : xw_Y) : xw_PT := xw_pt (tbX3_hasClub Y) 5 0 0
theorem lkX3_hasClub_0 (Y : xw_Y) : xw_lk (tbX3_hasClub Y) 0 = some (tr_push 1 (.int 0)) := rfl
theorem lkX3_hasClub_1 (Y : xw_Y) : xw_lk (tbX3_hasClub Y) 1 = some (tr_ist 2 3) := rfl
theorem lkX3_hasClub_2 (Y : xw_Y) : xw_lk (tbX3_hasClub Y) 2 = some (tr_ild 3 3) := rfl
theorem lkX3_hasClub_3 (Y : xw_Y) : xw_lk (tbX3_hasClub Y) 3 = some (tr_ald 4 0) := rfl
theorem lkX3_hasClub_4 (Y : xw_Y) : xw_lk (tbX3_hasClub Y) 4 = some (tr_getf 7 4 0) := rfl
theorem lkX3_hasClub_7 (Y : xw_Y) : xw_lk (tbX3_hasClub Y) 7 = some (tr_callV 10 0 0 (ptJx4a65c_size_8abf5 Y) 0 0 0 0) := rfl
theorem lkX3_hasClub_10 (Y : xw_Y) : xw_lk (tbX3_hasClub Y) 10 = some (tr_ifc 13 52 (fun x y => y ≤ x)) := rfl
theorem lkX3_hasClub_13 (Y : xw_Y) : xw_lk (tbX3_hasClub Y) 13 = some (tr_ald 14 0) := rfl
theorem lkX3_hasClub_14 (Y : xw_Y) : xw_lk (tbX3_hasClub Y) 14 = some (tr_getf 17 4 0) := rfl
theorem lkX3_hasClub_17 (Y : xw_Y) : xw_lk (tbX3_hasClub Y) 17 = some (tr_ild 18 3) := rfl
theorem lkX3_hasClub_18 (Y : xw_Y) : xw_lk (tbX3_hasClub Y) 18 = some (tr_callV 21 1 0 (ptJx4a65c_get_915e3 Y) 0 0 0 0) := rfl
theorem lkX3_hasClub_21 (Y : xw_Y) : xw_lk (tbX3_hasClub Y) 21 = some (tr_cast 24 2) := rfl
theorem lkX3_hasClub_24 (Y : xw_Y) : xw_lk (tbX3_hasClub Y) 24 = some (tr_ast 26 4) := rfl
theorem lkX3_hasClub_26 (Y : xw_Y) : xw_lk (tbX3_hasClub Y) 26 = some (tr_ald 28 4) := rfl
theorem lkX3_hasClub_28 (Y : xw_Y) : xw_lk (tbX3_hasClub Y) 28 = some (tr_getf 31 2 3) := rfl
theorem lkX3_hasClub_31 (Y : xw_Y) : xw_lk (tbX3_hasClub Y) 31 = some (tr_ild 32 1) := rfl
theorem lkX3_hasClub_32 (Y : xw_Y) : xw_lk (tbX3_hasClub Y) 32 = some (tr_ifc 35 46 (fun x y => ¬ x = y)) := rfl
theorem lkX3_hasClub_35 (Y : xw_Y) : xw_lk (tbX3_hasClub Y) 35 = some (tr_ald 37 4) := rfl
theorem lkX3_hasClub_37 (Y : xw_Y) : xw_lk (tbX3_hasClub Y) 37 = some (tr_getf 40 2 2) := rfl
theorem lkX3_hasClub_40 (Y : xw_Y) : xw_lk (tbX3_hasClub Y) 40 = some (tr_ild 41 2) := rfl
theorem lkX3_hasClub_41 (Y : xw_Y) : xw_lk (tbX3_hasClub Y) 41 = some (tr_ifc 44 46 (fun x y => ¬ x = y)) := rfl
theorem lkX3_hasClub_44 (Y : xw_Y) : xw_lk (tbX3_hasClub Y) 44 = some (tr_push 45 (.int 1)) := rfl
theorem lkX3_hasClub_45 (Y : xw_Y) : xw_lk (tbX3_hasClub Y) 45 = some (tr_iret .boolean) := rfl
theorem lkX3_hasClub_46 (Y : xw_Y) : xw_lk (tbX3_hasClub Y) 46 = some (tr_inc 49 3 1) := rfl
theorem lkX3_hasClub_49 (Y : xw_Y) : xw_lk (tbX3_hasClub Y) 49 = some (tr_goto 2) := rfl
theorem lkX3_hasClub_52 (Y : xw_Y) : xw_lk (tbX3_hasClub Y) 52 = some (tr_push 53 (.int 0)) := rfl
theorem lkX3_hasClub_53 (Y : xw_Y) : xw_lk (tbX3_hasClub Y) 53 = some (tr_iret .boolean) := rfl
def tbX3_poolInRow (Y : xw_Y) : List (Nat × xw_T) := [(0, tr_push 1 (.int (-1))),
  (1, tr_ist 2 3),
  (2, tr_push 3 (.int 0)),
  (3, tr_ist 5 4),
  (5, tr_ild 7 4),
  (7, tr_ald 8 0),
  (8, tr_getf 11 4 6),
  (11, tr_ifc 14 77 (fun x y => y ≤ x)),
  (14, tr_ild 15 1),
  (15, tr_push 16 (.int 2)),
  (16, tr_i2z 17 (fun x y => x - x / y * y)),
  (17, tr_ifz 20 25 (fun x => ¬ x = 0)),
  (20, tr_ild 22 4),
  (22, tr_goto 34),
  (25, tr_ald 26 0),
  (26, tr_getf 29 4 6),
  (29, tr_push 30 (.int 1)),
  (30, tr_i2 31 (fun x y => x - y)),
  (31, tr_ild 33 4),
  (33, tr_i2 34 (fun x y => x - y)),
  (34, tr_ist 36 5),
  (36, tr_ald 37 0),
  (37, tr_getf 40 4 3),
  (40, tr_ild 42 5),
  (42, tr_iald 43 Y.2.1),
  (43, tr_ild 44 1),
  (44, tr_ifc 47 50 (fun x y => x ≤ y)),
  (47, tr_goto 71),
  (50, tr_ald 51 0),
  (51, tr_ild 53 5),
  (53, tr_ild 54 2),
  (54, tr_callV 57 2 4 (ptX3_hasClub Y) 0 0 0 0),
  (57, tr_ifz 60 63 (fun x => ¬ x = 0)),
  (60, tr_ild 62 5),
  (62, tr_iret .int),
  (63, tr_ild 64 3),
  (64, tr_push 65 (.int (-1))),
  (65, tr_ifc 68 71 (fun x y => ¬ x = y)),
  (68, tr_ild 70 5),
  (70, tr_ist 71 3),
  (71, tr_inc 74 4 1),
  (74, tr_goto 5),
  (77, tr_ild 78 3),
  (78, tr_iret .int)]
def ptX3_poolInRow (Y : xw_Y) : xw_PT := xw_pt (tbX3_poolInRow Y) 6 0 0
theorem lkX3_poolInRow_0 (Y : xw_Y) : xw_lk (tbX3_poolInRow Y) 0 = some (tr_push 1 (.int (-1))) := rfl
theorem lkX3_poolInRow_1 (Y : xw_Y) : xw_lk (tbX3_poolInRow Y) 1 = some (tr_ist 2 3) := rfl
theorem lkX3_poolInRow_2 (Y : xw_Y) : xw_lk (tbX3_poolInRow Y) 2 = some (tr_push 3 (.int 0)) := rfl
theorem lkX3_poolInRow_3 (Y : xw_Y) : xw_lk (tbX3_poolInRow Y) 3 = some (tr_ist 5 4) := rfl
theorem lkX3_poolInRow_5 (Y : xw_Y) : xw_lk (tbX3_poolInRow Y) 5 = some (tr_ild 7 4) := rfl
theorem lkX3_poolInRow_7 (Y : xw_Y) : xw_lk (tbX3_poolInRow Y) 7 = some (tr_ald 8 0) := rfl
theorem lkX3_poolInRow_8 (Y : xw_Y) : xw_lk (tbX3_poolInRow Y) 8 = some (tr_getf 11 4 6) := rfl
theorem lkX3_poolInRow_11 (Y : xw_Y) : xw_lk (tbX3_poolInRow Y) 11 = some (tr_ifc 14 77 (fun x y => y ≤ x)) := rfl
theorem lkX3_poolInRow_14 (Y : xw_Y) : xw_lk (tbX3_poolInRow Y) 14 = some (tr_ild 15 1) := rfl
theorem lkX3_poolInRow_15 (Y : xw_Y) : xw_lk (tbX3_poolInRow Y) 15 = some (tr_push 16 (.int 2)) := rfl
theorem lkX3_poolInRow_16 (Y : xw_Y) : xw_lk (tbX3_poolInRow Y) 16 = some (tr_i2z 17 (fun x y => x - x / y * y)) := rfl
theorem lkX3_poolInRow_17 (Y : xw_Y) : xw_lk (tbX3_poolInRow Y) 17 = some (tr_ifz 20 25 (fun x => ¬ x = 0)) := rfl
theorem lkX3_poolInRow_20 (Y : xw_Y) : xw_lk (tbX3_poolInRow Y) 20 = some (tr_ild 22 4) := rfl
theorem lkX3_poolInRow_22 (Y : xw_Y) : xw_lk (tbX3_poolInRow Y) 22 = some (tr_goto 34) := rfl
theorem lkX3_poolInRow_25 (Y : xw_Y) : xw_lk (tbX3_poolInRow Y) 25 = some (tr_ald 26 0) := rfl
theorem lkX3_poolInRow_26 (Y : xw_Y) : xw_lk (tbX3_poolInRow Y) 26 = some (tr_getf 29 4 6) := rfl
theorem lkX3_poolInRow_29 (Y : xw_Y) : xw_lk (tbX3_poolInRow Y) 29 = some (tr_push 30 (.int 1)) := rfl
theorem lkX3_poolInRow_30 (Y : xw_Y) : xw_lk (tbX3_poolInRow Y) 30 = some (tr_i2 31 (fun x y => x - y)) := rfl
theorem lkX3_poolInRow_31 (Y : xw_Y) : xw_lk (tbX3_poolInRow Y) 31 = some (tr_ild 33 4) := rfl
theorem lkX3_poolInRow_33 (Y : xw_Y) : xw_lk (tbX3_poolInRow Y) 33 = some (tr_i2 34 (fun x y => x - y)) := rfl
theorem lkX3_poolInRow_34 (Y : xw_Y) : xw_lk (tbX3_poolInRow Y) 34 = some (tr_ist 36 5) := rfl
theorem lkX3_poolInRow_36 (Y : xw_Y) : xw_lk (tbX3_poolInRow Y) 36 = some (tr_ald 37 0) := rfl
theorem lkX3_poolInRow_37 (Y : xw_Y) : xw_lk (tbX3_poolInRow Y) 37 = some (tr_getf 40 4 3) := rfl
theorem lkX3_poolInRow_40 (Y : xw_Y) : xw_lk (tbX3_poolInRow Y) 40 = some (tr_ild 42 5) := rfl
theorem lkX3_poolInRow_42 (Y : xw_Y) : xw_lk (tbX3_poolInRow Y) 42 = some (tr_iald 43 Y.2.1) := rfl
theorem lkX3_poolInRow_43 (Y : xw_Y) : xw_lk (tbX3_poolInRow Y) 43 = some (tr_ild 44 1) := rfl
theorem lkX3_poolInRow_44 (Y : xw_Y) : xw_lk (tbX3_poolInRow Y) 44 = some (tr_ifc 47 50 (fun x y => x ≤ y)) := rfl
theorem lkX3_poolInRow_47 (Y : xw_Y) : xw_lk (tbX3_poolInRow Y) 47 = some (tr_goto 71) := rfl
theorem lkX3_poolInRow_50 (Y : xw_Y) : xw_lk (tbX3_poolInRow Y) 50 = some (tr_ald 51 0) := rfl
theorem lkX3_poolInRow_51 (Y : xw_Y) : xw_lk (tbX3_poolInRow Y) 51 = some (tr_ild 53 5) := rfl
theorem lkX3_poolInRow_53 (Y : xw_Y) : xw_lk (tbX3_poolInRow Y) 53 = some (tr_ild 54 2) := rfl
theorem lkX3_poolInRow_54 (Y : xw_Y) : xw_lk (tbX3_poolInRow Y) 54 = some (tr_callV 57 2 4 (ptX3_hasClub Y) 0 0 0 0) := rfl
theorem lkX3_poolInRow_57 (Y : xw_Y) : xw_lk (tbX3_poolInRow Y) 57 = some (tr_ifz 60 63 (fun x => ¬ x = 0)) := rfl
theorem lkX3_poolInRow_60 (Y : xw_Y) : xw_lk (tbX3_poolInRow Y) 60 = some (tr_ild 62 5) := rfl
theorem lkX3_poolInRow_62 (Y : xw_Y) : xw_lk (tbX3_poolInRow Y) 62 = some (tr_iret .int) := rfl
theorem lkX3_poolInRow_63 (Y : xw_Y) : xw_lk (tbX3_poolInRow Y) 63 = some (tr_ild 64 3) := rfl
theorem lkX3_poolInRow_64 (Y : xw_Y) : xw_lk (tbX3_poolInRow Y) 64 = some (tr_push 65 (.int (-1))) := rfl
theorem lkX3_poolInRow_65 (Y : xw_Y) : xw_lk (tbX3_poolInRow Y) 65 = some (tr_ifc 68 71 (fun x y => ¬ x = y)) := rfl
theorem lkX3_poolInRow_68 (Y : xw_Y) : xw_lk (tbX3_poolInRow Y) 68 = some (tr_ild 70 5) := rfl
theorem lkX3_poolInRow_70 (Y : xw_Y) : xw_lk (tbX3_poolInRow Y) 70 = some (tr_ist 71 3) := rfl
theorem lkX3_poolInRow_71 (Y : xw_Y) : xw_lk (tbX3_poolInRow Y) 71 = some (tr_inc 74 4 1) := rfl
theorem lkX3_poolInRow_74 (Y : xw_Y) : xw_lk (tbX3_poolInRow Y) 74 = some (tr_goto 5) := rfl
theorem lkX3_poolInRow_77 (Y : xw_Y) : xw_lk (tbX3_poolInRow Y) 77 = some (tr_ild 78 3) := rfl
theorem lkX3_poolInRow_78 (Y : xw_Y) : xw_lk (tbX3_poolInRow Y) 78 = some (tr_iret .int) := rfl
def tbX3_putIntoPool (Y : xw_Y) : List (Nat × xw_T) := [(0, tr_ald 1 1),
  (1, tr_ifn 4 8),
  (4, tr_push 5 (.int (-1))),
  (5, tr_goto 17),
  (8, tr_ald 9 0),
  (9, tr_ild 10 2),
  (10, tr_ald 11 1),
  (11, tr_getf 14 2 2),
  (14, tr_callV 17 2 4 (ptX3_poolInRow Y) 0 0 0 0),
  (17, tr_ist 18 3),
  (18, tr_ild 19 3),
  (19, tr_push 20 (.int 0)),
  (20, tr_ald 21 0),
  (21, tr_getf 24 4 6),
  (24, tr_push 25 (.int 1)),
  (25, tr_i2 26 (fun x y => x - y)),
  (26, tr_callS 29 3 (ptX3_isIn Y) 0 0 0 0),
  (29, tr_ifz 32 57 (fun x => x = 0)),
  (32, tr_ald 33 1),
  (33, tr_ild 34 3),
  (34, tr_putf 37 2 3 .int),
  (37, tr_ald 38 1),
  (38, tr_ald 39 0),
  (39, tr_getf 42 4 3),
  (42, tr_ild 43 3),
  (43, tr_iald 44 Y.2.1),
  (44, tr_putf 47 2 4 .int),
  (47, tr_ald 48 0),
  (48, tr_getf 51 4 3),
  (51, tr_ild 52 3),
  (52, tr_dup2 53),
  (53, tr_iald 54 Y.2.1),
  (54, tr_push 55 (.int 1)),
  (55, tr_i2 56 (fun x y => x + y)),
  (56, tr_iast 57 Y.2.1),
  (57, tr_vret)]
def ptX3_putIntoPool (Y : xw_Y) : xw_PT := xw_pt (tbX3_putIntoPool Y) 4 0 0
theorem lkX3_putIntoPool_0 (Y : xw_Y) : xw_lk (tbX3_putIntoPool Y) 0 = some (tr_ald 1 1) := rfl
theorem lkX3_putIntoPool_1 (Y : xw_Y) : xw_lk (tbX3_putIntoPool Y) 1 = some (tr_ifn 4 8) := rfl
theorem lkX3_putIntoPool_4 (Y : xw_Y) : xw_lk (tbX3_putIntoPool Y) 4 = some (tr_push 5 (.int (-1))) := rfl
theorem lkX3_putIntoPool_5 (Y : xw_Y) : xw_lk (tbX3_putIntoPool Y) 5 = some (tr_goto 17) := rfl
theorem lkX3_putIntoPool_8 (Y : xw_Y) : xw_lk (tbX3_putIntoPool Y) 8 = some (tr_ald 9 0) := rfl
theorem lkX3_putIntoPool_9 (Y : xw_Y) : xw_lk (tbX3_putIntoPool Y) 9 = some (tr_ild 10 2) := rfl
theorem lkX3_putIntoPool_10 (Y : xw_Y) : xw_lk (tbX3_putIntoPool Y) 10 = some (tr_ald 11 1) := rfl
theorem lkX3_putIntoPool_11 (Y : xw_Y) : xw_lk (tbX3_putIntoPool Y) 11 = some (tr_getf 14 2 2) := rfl
theorem lkX3_putIntoPool_14 (Y : xw_Y) : xw_lk (tbX3_putIntoPool Y) 14 = some (tr_callV 17 2 4 (ptX3_poolInRow Y) 0 0 0 0) := rfl
theorem lkX3_putIntoPool_17 (Y : xw_Y) : xw_lk (tbX3_putIntoPool Y) 17 = some (tr_ist 18 3) := rfl
theorem lkX3_putIntoPool_18 (Y : xw_Y) : xw_lk (tbX3_putIntoPool Y) 18 = some (tr_ild 19 3) := rfl
theorem lkX3_putIntoPool_19 (Y : xw_Y) : xw_lk (tbX3_putIntoPool Y) 19 = some (tr_push 20 (.int 0)) := rfl
theorem lkX3_putIntoPool_20 (Y : xw_Y) : xw_lk (tbX3_putIntoPool Y) 20 = some (tr_ald 21 0) := rfl
theorem lkX3_putIntoPool_21 (Y : xw_Y) : xw_lk (tbX3_putIntoPool Y) 21 = some (tr_getf 24 4 6) := rfl
theorem lkX3_putIntoPool_24 (Y : xw_Y) : xw_lk (tbX3_putIntoPool Y) 24 = some (tr_push 25 (.int 1)) := rfl
theorem lkX3_putIntoPool_25 (Y : xw_Y) : xw_lk (tbX3_putIntoPool Y) 25 = some (tr_i2 26 (fun x y => x - y)) := rfl
theorem lkX3_putIntoPool_26 (Y : xw_Y) : xw_lk (tbX3_putIntoPool Y) 26 = some (tr_callS 29 3 (ptX3_isIn Y) 0 0 0 0) := rfl
theorem lkX3_putIntoPool_29 (Y : xw_Y) : xw_lk (tbX3_putIntoPool Y) 29 = some (tr_ifz 32 57 (fun x => x = 0)) := rfl
theorem lkX3_putIntoPool_32 (Y : xw_Y) : xw_lk (tbX3_putIntoPool Y) 32 = some (tr_ald 33 1) := rfl
theorem lkX3_putIntoPool_33 (Y : xw_Y) : xw_lk (tbX3_putIntoPool Y) 33 = some (tr_ild 34 3) := rfl
theorem lkX3_putIntoPool_34 (Y : xw_Y) : xw_lk (tbX3_putIntoPool Y) 34 = some (tr_putf 37 2 3 .int) := rfl
theorem lkX3_putIntoPool_37 (Y : xw_Y) : xw_lk (tbX3_putIntoPool Y) 37 = some (tr_ald 38 1) := rfl
theorem lkX3_putIntoPool_38 (Y : xw_Y) : xw_lk (tbX3_putIntoPool Y) 38 = some (tr_ald 39 0) := rfl
theorem lkX3_putIntoPool_39 (Y : xw_Y) : xw_lk (tbX3_putIntoPool Y) 39 = some (tr_getf 42 4 3) := rfl
theorem lkX3_putIntoPool_42 (Y : xw_Y) : xw_lk (tbX3_putIntoPool Y) 42 = some (tr_ild 43 3) := rfl
theorem lkX3_putIntoPool_43 (Y : xw_Y) : xw_lk (tbX3_putIntoPool Y) 43 = some (tr_iald 44 Y.2.1) := rfl
theorem lkX3_putIntoPool_44 (Y : xw_Y) : xw_lk (tbX3_putIntoPool Y) 44 = some (tr_putf 47 2 4 .int) := rfl
theorem lkX3_putIntoPool_47 (Y : xw_Y) : xw_lk (tbX3_putIntoPool Y) 47 = some (tr_ald 48 0) := rfl
theorem lkX3_putIntoPool_48 (Y : xw_Y) : xw_lk (tbX3_putIntoPool Y) 48 = some (tr_getf 51 4 3) := rfl
theorem lkX3_putIntoPool_51 (Y : xw_Y) : xw_lk (tbX3_putIntoPool Y) 51 = some (tr_ild 52 3) := rfl
theorem lkX3_putIntoPool_52 (Y : xw_Y) : xw_lk (tbX3_putIntoPool Y) 52 = some (tr_dup2 53) := rfl
theorem lkX3_putIntoPool_53 (Y : xw_Y) : xw_lk (tbX3_putIntoPool Y) 53 = some (tr_iald 54 Y.2.1) := rfl
theorem lkX3_putIntoPool_54 (Y : xw_Y) : xw_lk (tbX3_putIntoPool Y) 54 = some (tr_push 55 (.int 1)) := rfl
theorem lkX3_putIntoPool_55 (Y : xw_Y) : xw_lk (tbX3_putIntoPool Y) 55 = some (tr_i2 56 (fun x y => x + y)) := rfl
theorem lkX3_putIntoPool_56 (Y : xw_Y) : xw_lk (tbX3_putIntoPool Y) 56 = some (tr_iast 57 Y.2.1) := rfl
theorem lkX3_putIntoPool_57 (Y : xw_Y) : xw_lk (tbX3_putIntoPool Y) 57 = some (tr_vret) := rfl
def tbX3_fencerOnSpot (Y : xw_Y) : List (Nat × xw_T) := [(0, tr_push 1 (.int 0)),
  (1, tr_ist 2 3),
  (2, tr_ild 3 3),
  (3, tr_ald 4 0),
  (4, tr_getf 7 4 0),
  (7, tr_callV 10 0 0 (ptJx4a65c_size_8abf5 Y) 0 0 0 0),
  (10, tr_ifc 13 53 (fun x y => y ≤ x)),
  (13, tr_ald 14 0),
  (14, tr_getf 17 4 0),
  (17, tr_ild 18 3),
  (18, tr_callV 21 1 0 (ptJx4a65c_get_915e3 Y) 0 0 0 0),
  (21, tr_cast 24 2),
  (24, tr_ast 26 4),
  (26, tr_ald 28 4),
  (28, tr_getf 31 2 3),
  (31, tr_ild 32 1),
  (32, tr_ifc 35 47 (fun x y => ¬ x = y)),
  (35, tr_ald 37 4),
  (37, tr_getf 40 2 4),
  (40, tr_ild 41 2),
  (41, tr_ifc 44 47 (fun x y => ¬ x = y)),
  (44, tr_ald 46 4),
  (46, tr_aret),
  (47, tr_inc 50 3 1),
  (50, tr_goto 2),
  (53, tr_push 54 .null),
  (54, tr_aret)]
def ptX3_fencerOnSpot (Y : xw_Y) : xw_PT := xw_pt (tbX3_fencerOnSpot Y) 5 0 0
theorem lkX3_fencerOnSpot_0 (Y : xw_Y) : xw_lk (tbX3_fencerOnSpot Y) 0 = some (tr_push 1 (.int 0)) := rfl
theorem lkX3_fencerOnSpot_1 (Y : xw_Y) : xw_lk (tbX3_fencerOnSpot Y) 1 = some (tr_ist 2 3) := rfl
theorem lkX3_fencerOnSpot_2 (Y : xw_Y) : xw_lk (tbX3_fencerOnSpot Y) 2 = some (tr_ild 3 3) := rfl
theorem lkX3_fencerOnSpot_3 (Y : xw_Y) : xw_lk (tbX3_fencerOnSpot Y) 3 = some (tr_ald 4 0) := rfl
theorem lkX3_fencerOnSpot_4 (Y : xw_Y) : xw_lk (tbX3_fencerOnSpot Y) 4 = some (tr_getf 7 4 0) := rfl
theorem lkX3_fencerOnSpot_7 (Y : xw_Y) : xw_lk (tbX3_fencerOnSpot Y) 7 = some (tr_callV 10 0 0 (ptJx4a65c_size_8abf5 Y) 0 0 0 0) := rfl
theorem lkX3_fencerOnSpot_10 (Y : xw_Y) : xw_lk (tbX3_fencerOnSpot Y) 10 = some (tr_ifc 13 53 (fun x y => y ≤ x)) := rfl
theorem lkX3_fencerOnSpot_13 (Y : xw_Y) : xw_lk (tbX3_fencerOnSpot Y) 13 = some (tr_ald 14 0) := rfl
theorem lkX3_fencerOnSpot_14 (Y : xw_Y) : xw_lk (tbX3_fencerOnSpot Y) 14 = some (tr_getf 17 4 0) := rfl
theorem lkX3_fencerOnSpot_17 (Y : xw_Y) : xw_lk (tbX3_fencerOnSpot Y) 17 = some (tr_ild 18 3) := rfl
theorem lkX3_fencerOnSpot_18 (Y : xw_Y) : xw_lk (tbX3_fencerOnSpot Y) 18 = some (tr_callV 21 1 0 (ptJx4a65c_get_915e3 Y) 0 0 0 0) := rfl
theorem lkX3_fencerOnSpot_21 (Y : xw_Y) : xw_lk (tbX3_fencerOnSpot Y) 21 = some (tr_cast 24 2) := rfl
theorem lkX3_fencerOnSpot_24 (Y : xw_Y) : xw_lk (tbX3_fencerOnSpot Y) 24 = some (tr_ast 26 4) := rfl
theorem lkX3_fencerOnSpot_26 (Y : xw_Y) : xw_lk (tbX3_fencerOnSpot Y) 26 = some (tr_ald 28 4) := rfl
theorem lkX3_fencerOnSpot_28 (Y : xw_Y) : xw_lk (tbX3_fencerOnSpot Y) 28 = some (tr_getf 31 2 3) := rfl
theorem lkX3_fencerOnSpot_31 (Y : xw_Y) : xw_lk (tbX3_fencerOnSpot Y) 31 = some (tr_ild 32 1) := rfl
theorem lkX3_fencerOnSpot_32 (Y : xw_Y) : xw_lk (tbX3_fencerOnSpot Y) 32 = some (tr_ifc 35 47 (fun x y => ¬ x = y)) := rfl
theorem lkX3_fencerOnSpot_35 (Y : xw_Y) : xw_lk (tbX3_fencerOnSpot Y) 35 = some (tr_ald 37 4) := rfl
theorem lkX3_fencerOnSpot_37 (Y : xw_Y) : xw_lk (tbX3_fencerOnSpot Y) 37 = some (tr_getf 40 2 4) := rfl
theorem lkX3_fencerOnSpot_40 (Y : xw_Y) : xw_lk (tbX3_fencerOnSpot Y) 40 = some (tr_ild 41 2) := rfl
theorem lkX3_fencerOnSpot_41 (Y : xw_Y) : xw_lk (tbX3_fencerOnSpot Y) 41 = some (tr_ifc 44 47 (fun x y => ¬ x = y)) := rfl
theorem lkX3_fencerOnSpot_44 (Y : xw_Y) : xw_lk (tbX3_fencerOnSpot Y) 44 = some (tr_ald 46 4) := rfl
theorem lkX3_fencerOnSpot_46 (Y : xw_Y) : xw_lk (tbX3_fencerOnSpot Y) 46 = some (tr_aret) := rfl
theorem lkX3_fencerOnSpot_47 (Y : xw_Y) : xw_lk (tbX3_fencerOnSpot Y) 47 = some (tr_inc 50 3 1) := rfl
theorem lkX3_fencerOnSpot_50 (Y : xw_Y) : xw_lk (tbX3_fencerOnSpot Y) 50 = some (tr_goto 2) := rfl
theorem lkX3_fencerOnSpot_53 (Y : xw_Y) : xw_lk (tbX3_fencerOnSpot Y) 53 = some (tr_push 54 .null) := rfl
theorem lkX3_fencerOnSpot_54 (Y : xw_Y) : xw_lk (tbX3_fencerOnSpot Y) 54 = some (tr_aret) := rfl
def tbX2_init (Y : xw_Y) : List (Nat × xw_T) := [(0, tr_ald 1 0),
  (1, tr_obj 4),
  (4, tr_vret)]
def ptX2_init (Y : xw_Y) : xw_PT := xw_pt (tbX2_init Y) 1 0 0
theorem lkX2_init_0 (Y : xw_Y) : xw_lk (tbX2_init Y) 0 = some (tr_ald 1 0) := rfl
theorem lkX2_init_1 (Y : xw_Y) : xw_lk (tbX2_init Y) 1 = some (tr_obj 4) := rfl
theorem lkX2_init_4 (Y : xw_Y) : xw_lk (tbX2_init Y) 4 = some (tr_vret) := rfl
def tbX0_init (Y : xw_Y) : List (Nat × xw_T) := [(0, tr_ald 1 0),
  (1, tr_obj 4),
  (4, tr_ald 5 0),
  (5, tr_new 8 3 3 [.null, .int 0, .int 0] 2 6),
  (8, tr_dup 9),
  (9, tr_callI 12 0 (ptX2_init Y) 0 0 2 6),
  (12, tr_putf 15 1 2 (.object "Pommel$Side")),
  (15, tr_ald 16 0),
  (16, tr_new 19 3 3 [.null, .int 0, .int 0] 2 6),
  (19, tr_dup 20),
  (20, tr_callI 23 0 (ptX2_init Y) 0 0 2 6),
  (23, tr_putf 26 1 3 (.object "Pommel$Side")),
  (26, tr_ald 27 0),
  (27, tr_push 28 (.int 0)),
  (28, tr_putf 31 1 4 .int),
  (31, tr_ald 32 0),
  (32, tr_push 33 (.int (-1))),
  (33, tr_putf 36 1 6 .int),
  (36, tr_ald 37 0),
  (37, tr_ild 38 1),
  (38, tr_putf 41 1 0 .int),
  (41, tr_ald 42 0),
  (42, tr_ild 43 2),
  (43, tr_putf 46 1 1 .int),
  (46, tr_ald 47 0),
  (47, tr_getf 50 1 2),
  (50, tr_ald 51 3),
  (51, tr_putf 54 3 0 (.object "Pommel$Fencer")),
  (54, tr_ald 55 0),
  (55, tr_getf 58 1 3),
  (58, tr_ald 60 4),
  (60, tr_putf 63 3 0 (.object "Pommel$Fencer")),
  (63, tr_vret)]
def ptX0_init (Y : xw_Y) : xw_PT := xw_pt (tbX0_init Y) 5 2 6
theorem lkX0_init_0 (Y : xw_Y) : xw_lk (tbX0_init Y) 0 = some (tr_ald 1 0) := rfl
theorem lkX0_init_1 (Y : xw_Y) : xw_lk (tbX0_init Y) 1 = some (tr_obj 4) := rfl
theorem lkX0_init_4 (Y : xw_Y) : xw_lk (tbX0_init Y) 4 = some (tr_ald 5 0) := rfl
theorem lkX0_init_5 (Y : xw_Y) : xw_lk (tbX0_init Y) 5 = some (tr_new 8 3 3 [.null, .int 0, .int 0] 2 6) := rfl
theorem lkX0_init_8 (Y : xw_Y) : xw_lk (tbX0_init Y) 8 = some (tr_dup 9) := rfl
theorem lkX0_init_9 (Y : xw_Y) : xw_lk (tbX0_init Y) 9 = some (tr_callI 12 0 (ptX2_init Y) 0 0 2 6) := rfl
theorem lkX0_init_12 (Y : xw_Y) : xw_lk (tbX0_init Y) 12 = some (tr_putf 15 1 2 (.object "Pommel$Side")) := rfl
theorem lkX0_init_15 (Y : xw_Y) : xw_lk (tbX0_init Y) 15 = some (tr_ald 16 0) := rfl
theorem lkX0_init_16 (Y : xw_Y) : xw_lk (tbX0_init Y) 16 = some (tr_new 19 3 3 [.null, .int 0, .int 0] 2 6) := rfl
theorem lkX0_init_19 (Y : xw_Y) : xw_lk (tbX0_init Y) 19 = some (tr_dup 20) := rfl
theorem lkX0_init_20 (Y : xw_Y) : xw_lk (tbX0_init Y) 20 = some (tr_callI 23 0 (ptX2_init Y) 0 0 2 6) := rfl
theorem lkX0_init_23 (Y : xw_Y) : xw_lk (tbX0_init Y) 23 = some (tr_putf 26 1 3 (.object "Pommel$Side")) := rfl
theorem lkX0_init_26 (Y : xw_Y) : xw_lk (tbX0_init Y) 26 = some (tr_ald 27 0) := rfl
theorem lkX0_init_27 (Y : xw_Y) : xw_lk (tbX0_init Y) 27 = some (tr_push 28 (.int 0)) := rfl
theorem lkX0_init_28 (Y : xw_Y) : xw_lk (tbX0_init Y) 28 = some (tr_putf 31 1 4 .int) := rfl
theorem lkX0_init_31 (Y : xw_Y) : xw_lk (tbX0_init Y) 31 = some (tr_ald 32 0) := rfl
theorem lkX0_init_32 (Y : xw_Y) : xw_lk (tbX0_init Y) 32 = some (tr_push 33 (.int (-1))) := rfl
theorem lkX0_init_33 (Y : xw_Y) : xw_lk (tbX0_init Y) 33 = some (tr_putf 36 1 6 .int) := rfl
theorem lkX0_init_36 (Y : xw_Y) : xw_lk (tbX0_init Y) 36 = some (tr_ald 37 0) := rfl
theorem lkX0_init_37 (Y : xw_Y) : xw_lk (tbX0_init Y) 37 = some (tr_ild 38 1) := rfl
theorem lkX0_init_38 (Y : xw_Y) : xw_lk (tbX0_init Y) 38 = some (tr_putf 41 1 0 .int) := rfl
theorem lkX0_init_41 (Y : xw_Y) : xw_lk (tbX0_init Y) 41 = some (tr_ald 42 0) := rfl
theorem lkX0_init_42 (Y : xw_Y) : xw_lk (tbX0_init Y) 42 = some (tr_ild 43 2) := rfl
theorem lkX0_init_43 (Y : xw_Y) : xw_lk (tbX0_init Y) 43 = some (tr_putf 46 1 1 .int) := rfl
theorem lkX0_init_46 (Y : xw_Y) : xw_lk (tbX0_init Y) 46 = some (tr_ald 47 0) := rfl
theorem lkX0_init_47 (Y : xw_Y) : xw_lk (tbX0_init Y) 47 = some (tr_getf 50 1 2) := rfl
theorem lkX0_init_50 (Y : xw_Y) : xw_lk (tbX0_init Y) 50 = some (tr_ald 51 3) := rfl
theorem lkX0_init_51 (Y : xw_Y) : xw_lk (tbX0_init Y) 51 = some (tr_putf 54 3 0 (.object "Pommel$Fencer")) := rfl
theorem lkX0_init_54 (Y : xw_Y) : xw_lk (tbX0_init Y) 54 = some (tr_ald 55 0) := rfl
theorem lkX0_init_55 (Y : xw_Y) : xw_lk (tbX0_init Y) 55 = some (tr_getf 58 1 3) := rfl
theorem lkX0_init_58 (Y : xw_Y) : xw_lk (tbX0_init Y) 58 = some (tr_ald 60 4) := rfl
theorem lkX0_init_60 (Y : xw_Y) : xw_lk (tbX0_init Y) 60 = some (tr_putf 63 3 0 (.object "Pommel$Fencer")) := rfl
theorem lkX0_init_63 (Y : xw_Y) : xw_lk (tbX0_init Y) 63 = some (tr_vret) := rfl
def tbX3_addPoolBouts (Y : xw_Y) : List (Nat × xw_T) := [(0, tr_ald 1 0),
  (1, tr_getf 4 4 3),
  (4, tr_ild 5 1),
  (5, tr_iald 6 Y.2.1),
  (6, tr_ist 7 2),
  (7, tr_push 8 (.int 1)),
  (8, tr_ist 9 3),
  (9, tr_ild 10 3),
  (10, tr_push 11 (.int 2)),
  (11, tr_ild 12 2),
  (12, tr_i2 13 (fun x y => x * y)),
  (13, tr_push 14 (.int 3)),
  (14, tr_i2 15 (fun x y => x - y)),
  (15, tr_ifc 18 99 (fun x y => y < x)),
  (18, tr_push 19 (.int 0)),
  (19, tr_ist 21 4),
  (21, tr_ild 23 4),
  (23, tr_ild 24 3),
  (24, tr_ild 26 4),
  (26, tr_i2 27 (fun x y => x - y)),
  (27, tr_ifc 30 93 (fun x y => y ≤ x)),
  (30, tr_ald 31 0),
  (31, tr_ild 32 1),
  (32, tr_ild 34 4),
  (34, tr_callV 37 2 4 (ptX3_fencerOnSpot Y) 0 0 200 11000),
  (37, tr_ast 39 5),
  (39, tr_ald 40 0),
  (40, tr_ild 41 1),
  (41, tr_ild 42 3),
  (42, tr_ild 44 4),
  (44, tr_i2 45 (fun x y => x - y)),
  (45, tr_callV 48 2 4 (ptX3_fencerOnSpot Y) 0 0 200 11000),
  (48, tr_ast 50 6),
  (50, tr_ald 52 5),
  (52, tr_ifn 87 55),
  (55, tr_ald 57 6),
  (57, tr_ifn 87 60),
  (60, tr_ald 61 0),
  (61, tr_getf 64 4 1),
  (64, tr_new 67 1 9 [.int 0, .int 0, .null, .null, .int 0, .null, .int 0, .int 0, .int 0] 200 11000),
  (67, tr_dup 68),
  (68, tr_ald 69 0),
  (69, tr_getf 72 4 1),
  (72, tr_callV 75 0 0 (ptJx4a65c_size_8abf5 Y) 0 0 200 11000),
  (75, tr_push 76 (.int (-1))),
  (76, tr_ald 78 5),
  (78, tr_ald 80 6),
  (80, tr_callI 83 4 (ptX0_init Y) 2 6 200 11000),
  (83, tr_callV 86 1 0 (ptJx4a65c_add_9ea2d Y) 1 200 200 11000),
  (86, tr_pop 87),
  (87, tr_inc 90 4 1),
  (90, tr_goto 21),
  (93, tr_inc 96 3 1),
  (96, tr_goto 9),
  (99, tr_vret)]
def ptX3_addPoolBouts (Y : xw_Y) : xw_PT := xw_pt (tbX3_addPoolBouts Y) 7 200 11000
theorem lkX3_addPoolBouts_0 (Y : xw_Y) : xw_lk (tbX3_addPoolBouts Y) 0 = some (tr_ald 1 0) := rfl
theorem lkX3_addPoolBouts_1 (Y : xw_Y) : xw_lk (tbX3_addPoolBouts Y) 1 = some (tr_getf 4 4 3) := rfl
theorem lkX3_addPoolBouts_4 (Y : xw_Y) : xw_lk (tbX3_addPoolBouts Y) 4 = some (tr_ild 5 1) := rfl
theorem lkX3_addPoolBouts_5 (Y : xw_Y) : xw_lk (tbX3_addPoolBouts Y) 5 = some (tr_iald 6 Y.2.1) := rfl
theorem lkX3_addPoolBouts_6 (Y : xw_Y) : xw_lk (tbX3_addPoolBouts Y) 6 = some (tr_ist 7 2) := rfl
theorem lkX3_addPoolBouts_7 (Y : xw_Y) : xw_lk (tbX3_addPoolBouts Y) 7 = some (tr_push 8 (.int 1)) := rfl
theorem lkX3_addPoolBouts_8 (Y : xw_Y) : xw_lk (tbX3_addPoolBouts Y) 8 = some (tr_ist 9 3) := rfl
theorem lkX3_addPoolBouts_9 (Y : xw_Y) : xw_lk (tbX3_addPoolBouts Y) 9 = some (tr_ild 10 3) := rfl
theorem lkX3_addPoolBouts_10 (Y : xw_Y) : xw_lk (tbX3_addPoolBouts Y) 10 = some (tr_push 11 (.int 2)) := rfl
theorem lkX3_addPoolBouts_11 (Y : xw_Y) : xw_lk (tbX3_addPoolBouts Y) 11 = some (tr_ild 12 2) := rfl
theorem lkX3_addPoolBouts_12 (Y : xw_Y) : xw_lk (tbX3_addPoolBouts Y) 12 = some (tr_i2 13 (fun x y => x * y)) := rfl
theorem lkX3_addPoolBouts_13 (Y : xw_Y) : xw_lk (tbX3_addPoolBouts Y) 13 = some (tr_push 14 (.int 3)) := rfl
theorem lkX3_addPoolBouts_14 (Y : xw_Y) : xw_lk (tbX3_addPoolBouts Y) 14 = some (tr_i2 15 (fun x y => x - y)) := rfl
theorem lkX3_addPoolBouts_15 (Y : xw_Y) : xw_lk (tbX3_addPoolBouts Y) 15 = some (tr_ifc 18 99 (fun x y => y < x)) := rfl
theorem lkX3_addPoolBouts_18 (Y : xw_Y) : xw_lk (tbX3_addPoolBouts Y) 18 = some (tr_push 19 (.int 0)) := rfl
theorem lkX3_addPoolBouts_19 (Y : xw_Y) : xw_lk (tbX3_addPoolBouts Y) 19 = some (tr_ist 21 4) := rfl
theorem lkX3_addPoolBouts_21 (Y : xw_Y) : xw_lk (tbX3_addPoolBouts Y) 21 = some (tr_ild 23 4) := rfl
theorem lkX3_addPoolBouts_23 (Y : xw_Y) : xw_lk (tbX3_addPoolBouts Y) 23 = some (tr_ild 24 3) := rfl
theorem lkX3_addPoolBouts_24 (Y : xw_Y) : xw_lk (tbX3_addPoolBouts Y) 24 = some (tr_ild 26 4) := rfl
theorem lkX3_addPoolBouts_26 (Y : xw_Y) : xw_lk (tbX3_addPoolBouts Y) 26 = some (tr_i2 27 (fun x y => x - y)) := rfl
theorem lkX3_addPoolBouts_27 (Y : xw_Y) : xw_lk (tbX3_addPoolBouts Y) 27 = some (tr_ifc 30 93 (fun x y => y ≤ x)) := rfl
theorem lkX3_addPoolBouts_30 (Y : xw_Y) : xw_lk (tbX3_addPoolBouts Y) 30 = some (tr_ald 31 0) := rfl
theorem lkX3_addPoolBouts_31 (Y : xw_Y) : xw_lk (tbX3_addPoolBouts Y) 31 = some (tr_ild 32 1) := rfl
theorem lkX3_addPoolBouts_32 (Y : xw_Y) : xw_lk (tbX3_addPoolBouts Y) 32 = some (tr_ild 34 4) := rfl
theorem lkX3_addPoolBouts_34 (Y : xw_Y) : xw_lk (tbX3_addPoolBouts Y) 34 = some (tr_callV 37 2 4 (ptX3_fencerOnSpot Y) 0 0 200 11000) := rfl
theorem lkX3_addPoolBouts_37 (Y : xw_Y) : xw_lk (tbX3_addPoolBouts Y) 37 = some (tr_ast 39 5) := rfl
theorem lkX3_addPoolBouts_39 (Y : xw_Y) : xw_lk (tbX3_addPoolBouts Y) 39 = some (tr_ald 40 0) := rfl
theorem lkX3_addPoolBouts_40 (Y : xw_Y) : xw_lk (tbX3_addPoolBouts Y) 40 = some (tr_ild 41 1) := rfl
theorem lkX3_addPoolBouts_41 (Y : xw_Y) : xw_lk (tbX3_addPoolBouts Y) 41 = some (tr_ild 42 3) := rfl
theorem lkX3_addPoolBouts_42 (Y : xw_Y) : xw_lk (tbX3_addPoolBouts Y) 42 = some (tr_ild 44 4) := rfl
theorem lkX3_addPoolBouts_44 (Y : xw_Y) : xw_lk (tbX3_addPoolBouts Y) 44 = some (tr_i2 45 (fun x y => x - y)) := rfl
theorem lkX3_addPoolBouts_45 (Y : xw_Y) : xw_lk (tbX3_addPoolBouts Y) 45 = some (tr_callV 48 2 4 (ptX3_fencerOnSpot Y) 0 0 200 11000) := rfl
theorem lkX3_addPoolBouts_48 (Y : xw_Y) : xw_lk (tbX3_addPoolBouts Y) 48 = some (tr_ast 50 6) := rfl
theorem lkX3_addPoolBouts_50 (Y : xw_Y) : xw_lk (tbX3_addPoolBouts Y) 50 = some (tr_ald 52 5) := rfl
theorem lkX3_addPoolBouts_52 (Y : xw_Y) : xw_lk (tbX3_addPoolBouts Y) 52 = some (tr_ifn 87 55) := rfl
theorem lkX3_addPoolBouts_55 (Y : xw_Y) : xw_lk (tbX3_addPoolBouts Y) 55 = some (tr_ald 57 6) := rfl
theorem lkX3_addPoolBouts_57 (Y : xw_Y) : xw_lk (tbX3_addPoolBouts Y) 57 = some (tr_ifn 87 60) := rfl
theorem lkX3_addPoolBouts_60 (Y : xw_Y) : xw_lk (tbX3_addPoolBouts Y) 60 = some (tr_ald 61 0) := rfl
theorem lkX3_addPoolBouts_61 (Y : xw_Y) : xw_lk (tbX3_addPoolBouts Y) 61 = some (tr_getf 64 4 1) := rfl
theorem lkX3_addPoolBouts_64 (Y : xw_Y) : xw_lk (tbX3_addPoolBouts Y) 64 = some (tr_new 67 1 9 [.int 0, .int 0, .null, .null, .int 0, .null, .int 0, .int 0, .int 0] 200 11000) := rfl
theorem lkX3_addPoolBouts_67 (Y : xw_Y) : xw_lk (tbX3_addPoolBouts Y) 67 = some (tr_dup 68) := rfl
theorem lkX3_addPoolBouts_68 (Y : xw_Y) : xw_lk (tbX3_addPoolBouts Y) 68 = some (tr_ald 69 0) := rfl
theorem lkX3_addPoolBouts_69 (Y : xw_Y) : xw_lk (tbX3_addPoolBouts Y) 69 = some (tr_getf 72 4 1) := rfl
theorem lkX3_addPoolBouts_72 (Y : xw_Y) : xw_lk (tbX3_addPoolBouts Y) 72 = some (tr_callV 75 0 0 (ptJx4a65c_size_8abf5 Y) 0 0 200 11000) := rfl
theorem lkX3_addPoolBouts_75 (Y : xw_Y) : xw_lk (tbX3_addPoolBouts Y) 75 = some (tr_push 76 (.int (-1))) := rfl
theorem lkX3_addPoolBouts_76 (Y : xw_Y) : xw_lk (tbX3_addPoolBouts Y) 76 = some (tr_ald 78 5) := rfl
theorem lkX3_addPoolBouts_78 (Y : xw_Y) : xw_lk (tbX3_addPoolBouts Y) 78 = some (tr_ald 80 6) := rfl
theorem lkX3_addPoolBouts_80 (Y : xw_Y) : xw_lk (tbX3_addPoolBouts Y) 80 = some (tr_callI 83 4 (ptX0_init Y) 2 6 200 11000) := rfl
theorem lkX3_addPoolBouts_83 (Y : xw_Y) : xw_lk (tbX3_addPoolBouts Y) 83 = some (tr_callV 86 1 0 (ptJx4a65c_add_9ea2d Y) 1 200 200 11000) := rfl
theorem lkX3_addPoolBouts_86 (Y : xw_Y) : xw_lk (tbX3_addPoolBouts Y) 86 = some (tr_pop 87) := rfl
theorem lkX3_addPoolBouts_87 (Y : xw_Y) : xw_lk (tbX3_addPoolBouts Y) 87 = some (tr_inc 90 4 1) := rfl
theorem lkX3_addPoolBouts_90 (Y : xw_Y) : xw_lk (tbX3_addPoolBouts Y) 90 = some (tr_goto 21) := rfl
theorem lkX3_addPoolBouts_93 (Y : xw_Y) : xw_lk (tbX3_addPoolBouts Y) 93 = some (tr_inc 96 3 1) := rfl
theorem lkX3_addPoolBouts_96 (Y : xw_Y) : xw_lk (tbX3_addPoolBouts Y) 96 = some (tr_goto 9) := rfl
theorem lkX3_addPoolBouts_99 (Y : xw_Y) : xw_lk (tbX3_addPoolBouts Y) 99 = some (tr_vret) := rfl
def tbX3_form (Y : xw_Y) : List (Nat × xw_T) := [(0, tr_ild 1 1),
  (1, tr_push 2 (.int 1)),
  (2, tr_push 3 (.int 4)),
  (3, tr_callS 6 3 (ptX3_isIn Y) 0 0 400 22000),
  (6, tr_ifz 9 19 (fun x => ¬ x = 0)),
  (19, tr_ald 20 0),
  (20, tr_getf 23 4 6),
  (23, tr_ifz 26 39 (fun x => 0 < x)),
  (26, tr_ald 27 0),
  (27, tr_getf 30 4 0),
  (30, tr_callV 33 0 0 (ptJx4a65c_size_8abf5 Y) 0 0 400 22000),
  (33, tr_push 34 (.int 3)),
  (34, tr_ild 35 1),
  (35, tr_i2 36 (fun x y => x * y)),
  (36, tr_ifc 39 49 (fun x y => y ≤ x)),
  (49, tr_ald 50 0),
  (50, tr_ild 51 1),
  (51, tr_putf 54 4 6 .int),
  (54, tr_push 55 (.int 0)),
  (55, tr_ist 56 2),
  (56, tr_ild 57 2),
  (57, tr_ald 58 0),
  (58, tr_getf 61 4 0),
  (61, tr_callV 64 0 0 (ptJx4a65c_size_8abf5 Y) 0 0 400 22000),
  (64, tr_ifc 67 85 (fun x y => y ≤ x)),
  (67, tr_ald 68 0),
  (68, tr_ald 69 0),
  (69, tr_ild 70 2),
  (70, tr_callV 73 1 4 (ptX3_fencerInOrder Y) 0 0 400 22000),
  (73, tr_ild 74 2),
  (74, tr_ild 75 1),
  (75, tr_i2z 76 (fun x y => x / y)),
  (76, tr_callV 79 2 4 (ptX3_putIntoPool Y) 0 0 400 22000),
  (79, tr_inc 82 2 1),
  (82, tr_goto 56),
  (85, tr_push 86 (.int 0)),
  (86, tr_ist 87 2),
  (87, tr_ild 88 2),
  (88, tr_ild 89 1),
  (89, tr_ifc 92 103 (fun x y => y ≤ x)),
  (92, tr_ald 93 0),
  (93, tr_ild 94 2),
  (94, tr_callV 97 1 4 (ptX3_addPoolBouts Y) 200 11000 400 22000),
  (97, tr_inc 100 2 1),
  (100, tr_goto 87),
  (103, tr_ald 104 0),
  (104, tr_getf 107 4 1),
  (107, tr_callV 110 0 0 (ptJx4a65c_size_8abf5 Y) 0 0 400 22000),
  (110, tr_iret .int)]
def ptX3_form (Y : xw_Y) : xw_PT := xw_pt (tbX3_form Y) 3 400 22000
theorem lkX3_form_0 (Y : xw_Y) : xw_lk (tbX3_form Y) 0 = some (tr_ild 1 1) := rfl
theorem lkX3_form_1 (Y : xw_Y) : xw_lk (tbX3_form Y) 1 = some (tr_push 2 (.int 1)) := rfl
theorem lkX3_form_2 (Y : xw_Y) : xw_lk (tbX3_form Y) 2 = some (tr_push 3 (.int 4)) := rfl
theorem lkX3_form_3 (Y : xw_Y) : xw_lk (tbX3_form Y) 3 = some (tr_callS 6 3 (ptX3_isIn Y) 0 0 400 22000) := rfl
theorem lkX3_form_6 (Y : xw_Y) : xw_lk (tbX3_form Y) 6 = some (tr_ifz 9 19 (fun x => ¬ x = 0)) := rfl
theorem lkX3_form_19 (Y : xw_Y) : xw_lk (tbX3_form Y) 19 = some (tr_ald 20 0) := rfl
theorem lkX3_form_20 (Y : xw_Y) : xw_lk (tbX3_form Y) 20 = some (tr_getf 23 4 6) := rfl
theorem lkX3_form_23 (Y : xw_Y) : xw_lk (tbX3_form Y) 23 = some (tr_ifz 26 39 (fun x => 0 < x)) := rfl
theorem lkX3_form_26 (Y : xw_Y) : xw_lk (tbX3_form Y) 26 = some (tr_ald 27 0) := rfl
theorem lkX3_form_27 (Y : xw_Y) : xw_lk (tbX3_form Y) 27 = some (tr_getf 30 4 0) := rfl
theorem lkX3_form_30 (Y : xw_Y) : xw_lk (tbX3_form Y) 30 = some (tr_callV 33 0 0 (ptJx4a65c_size_8abf5 Y) 0 0 400 22000) := rfl
theorem lkX3_form_33 (Y : xw_Y) : xw_lk (tbX3_form Y) 33 = some (tr_push 34 (.int 3)) := rfl
theorem lkX3_form_34 (Y : xw_Y) : xw_lk (tbX3_form Y) 34 = some (tr_ild 35 1) := rfl
theorem lkX3_form_35 (Y : xw_Y) : xw_lk (tbX3_form Y) 35 = some (tr_i2 36 (fun x y => x * y)) := rfl
theorem lkX3_form_36 (Y : xw_Y) : xw_lk (tbX3_form Y) 36 = some (tr_ifc 39 49 (fun x y => y ≤ x)) := rfl
theorem lkX3_form_49 (Y : xw_Y) : xw_lk (tbX3_form Y) 49 = some (tr_ald 50 0) := rfl
theorem lkX3_form_50 (Y : xw_Y) : xw_lk (tbX3_form Y) 50 = some (tr_ild 51 1) := rfl
theorem lkX3_form_51 (Y : xw_Y) : xw_lk (tbX3_form Y) 51 = some (tr_putf 54 4 6 .int) := rfl
theorem lkX3_form_54 (Y : xw_Y) : xw_lk (tbX3_form Y) 54 = some (tr_push 55 (.int 0)) := rfl
theorem lkX3_form_55 (Y : xw_Y) : xw_lk (tbX3_form Y) 55 = some (tr_ist 56 2) := rfl
theorem lkX3_form_56 (Y : xw_Y) : xw_lk (tbX3_form Y) 56 = some (tr_ild 57 2) := rfl
theorem lkX3_form_57 (Y : xw_Y) : xw_lk (tbX3_form Y) 57 = some (tr_ald 58 0) := rfl
theorem lkX3_form_58 (Y : xw_Y) : xw_lk (tbX3_form Y) 58 = some (tr_getf 61 4 0) := rfl
theorem lkX3_form_61 (Y : xw_Y) : xw_lk (tbX3_form Y) 61 = some (tr_callV 64 0 0 (ptJx4a65c_size_8abf5 Y) 0 0 400 22000) := rfl
theorem lkX3_form_64 (Y : xw_Y) : xw_lk (tbX3_form Y) 64 = some (tr_ifc 67 85 (fun x y => y ≤ x)) := rfl
theorem lkX3_form_67 (Y : xw_Y) : xw_lk (tbX3_form Y) 67 = some (tr_ald 68 0) := rfl
theorem lkX3_form_68 (Y : xw_Y) : xw_lk (tbX3_form Y) 68 = some (tr_ald 69 0) := rfl
theorem lkX3_form_69 (Y : xw_Y) : xw_lk (tbX3_form Y) 69 = some (tr_ild 70 2) := rfl
theorem lkX3_form_70 (Y : xw_Y) : xw_lk (tbX3_form Y) 70 = some (tr_callV 73 1 4 (ptX3_fencerInOrder Y) 0 0 400 22000) := rfl
theorem lkX3_form_73 (Y : xw_Y) : xw_lk (tbX3_form Y) 73 = some (tr_ild 74 2) := rfl
theorem lkX3_form_74 (Y : xw_Y) : xw_lk (tbX3_form Y) 74 = some (tr_ild 75 1) := rfl
theorem lkX3_form_75 (Y : xw_Y) : xw_lk (tbX3_form Y) 75 = some (tr_i2z 76 (fun x y => x / y)) := rfl
theorem lkX3_form_76 (Y : xw_Y) : xw_lk (tbX3_form Y) 76 = some (tr_callV 79 2 4 (ptX3_putIntoPool Y) 0 0 400 22000) := rfl
theorem lkX3_form_79 (Y : xw_Y) : xw_lk (tbX3_form Y) 79 = some (tr_inc 82 2 1) := rfl
theorem lkX3_form_82 (Y : xw_Y) : xw_lk (tbX3_form Y) 82 = some (tr_goto 56) := rfl
theorem lkX3_form_85 (Y : xw_Y) : xw_lk (tbX3_form Y) 85 = some (tr_push 86 (.int 0)) := rfl
theorem lkX3_form_86 (Y : xw_Y) : xw_lk (tbX3_form Y) 86 = some (tr_ist 87 2) := rfl
theorem lkX3_form_87 (Y : xw_Y) : xw_lk (tbX3_form Y) 87 = some (tr_ild 88 2) := rfl
theorem lkX3_form_88 (Y : xw_Y) : xw_lk (tbX3_form Y) 88 = some (tr_ild 89 1) := rfl
theorem lkX3_form_89 (Y : xw_Y) : xw_lk (tbX3_form Y) 89 = some (tr_ifc 92 103 (fun x y => y ≤ x)) := rfl
theorem lkX3_form_92 (Y : xw_Y) : xw_lk (tbX3_form Y) 92 = some (tr_ald 93 0) := rfl
theorem lkX3_form_93 (Y : xw_Y) : xw_lk (tbX3_form Y) 93 = some (tr_ild 94 2) := rfl
theorem lkX3_form_94 (Y : xw_Y) : xw_lk (tbX3_form Y) 94 = some (tr_callV 97 1 4 (ptX3_addPoolBouts Y) 200 11000 400 22000) := rfl
theorem lkX3_form_97 (Y : xw_Y) : xw_lk (tbX3_form Y) 97 = some (tr_inc 100 2 1) := rfl
theorem lkX3_form_100 (Y : xw_Y) : xw_lk (tbX3_form Y) 100 = some (tr_goto 87) := rfl
theorem lkX3_form_103 (Y : xw_Y) : xw_lk (tbX3_form Y) 103 = some (tr_ald 104 0) := rfl
theorem lkX3_form_104 (Y : xw_Y) : xw_lk (tbX3_form Y) 104 = some (tr_getf 107 4 1) := rfl
theorem lkX3_form_107 (Y : xw_Y) : xw_lk (tbX3_form Y) 107 = some (tr_callV 110 0 0 (ptJx4a65c_size_8abf5 Y) 0 0 400 22000) := rfl
theorem lkX3_form_110 (Y : xw_Y) : xw_lk (tbX3_form Y) 110 = some (tr_iret .int) := rfl
def tbX3_boutsIn (Y : xw_Y) : List (Nat × xw_T) := [(0, tr_push 1 (.int 0)),
  (1, tr_ist 2 2),
  (2, tr_push 3 (.int 0)),
  (3, tr_ist 4 3),
  (4, tr_ild 5 3),
  (5, tr_ald 6 0),
  (6, tr_getf 9 4 1),
  (9, tr_callV 12 0 0 (ptJx4a65c_size_8abf5 Y) 0 0 0 0),
  (12, tr_ifc 15 42 (fun x y => y ≤ x)),
  (15, tr_ald 16 0),
  (16, tr_getf 19 4 1),
  (19, tr_ild 20 3),
  (20, tr_callV 23 1 0 (ptJx4a65c_get_915e3 Y) 0 0 0 0),
  (23, tr_cast 26 1),
  (26, tr_getf 29 1 4),
  (29, tr_ild 30 1),
  (30, tr_ifc 33 36 (fun x y => ¬ x = y)),
  (33, tr_inc 36 2 1),
  (36, tr_inc 39 3 1),
  (39, tr_goto 4),
  (42, tr_ild 43 2),
  (43, tr_iret .int)]
def ptX3_boutsIn (Y : xw_Y) : xw_PT := xw_pt (tbX3_boutsIn Y) 4 0 0
theorem lkX3_boutsIn_0 (Y : xw_Y) : xw_lk (tbX3_boutsIn Y) 0 = some (tr_push 1 (.int 0)) := rfl
theorem lkX3_boutsIn_1 (Y : xw_Y) : xw_lk (tbX3_boutsIn Y) 1 = some (tr_ist 2 2) := rfl
theorem lkX3_boutsIn_2 (Y : xw_Y) : xw_lk (tbX3_boutsIn Y) 2 = some (tr_push 3 (.int 0)) := rfl
theorem lkX3_boutsIn_3 (Y : xw_Y) : xw_lk (tbX3_boutsIn Y) 3 = some (tr_ist 4 3) := rfl
theorem lkX3_boutsIn_4 (Y : xw_Y) : xw_lk (tbX3_boutsIn Y) 4 = some (tr_ild 5 3) := rfl
theorem lkX3_boutsIn_5 (Y : xw_Y) : xw_lk (tbX3_boutsIn Y) 5 = some (tr_ald 6 0) := rfl
theorem lkX3_boutsIn_6 (Y : xw_Y) : xw_lk (tbX3_boutsIn Y) 6 = some (tr_getf 9 4 1) := rfl
theorem lkX3_boutsIn_9 (Y : xw_Y) : xw_lk (tbX3_boutsIn Y) 9 = some (tr_callV 12 0 0 (ptJx4a65c_size_8abf5 Y) 0 0 0 0) := rfl
theorem lkX3_boutsIn_12 (Y : xw_Y) : xw_lk (tbX3_boutsIn Y) 12 = some (tr_ifc 15 42 (fun x y => y ≤ x)) := rfl
theorem lkX3_boutsIn_15 (Y : xw_Y) : xw_lk (tbX3_boutsIn Y) 15 = some (tr_ald 16 0) := rfl
theorem lkX3_boutsIn_16 (Y : xw_Y) : xw_lk (tbX3_boutsIn Y) 16 = some (tr_getf 19 4 1) := rfl
theorem lkX3_boutsIn_19 (Y : xw_Y) : xw_lk (tbX3_boutsIn Y) 19 = some (tr_ild 20 3) := rfl
theorem lkX3_boutsIn_20 (Y : xw_Y) : xw_lk (tbX3_boutsIn Y) 20 = some (tr_callV 23 1 0 (ptJx4a65c_get_915e3 Y) 0 0 0 0) := rfl
theorem lkX3_boutsIn_23 (Y : xw_Y) : xw_lk (tbX3_boutsIn Y) 23 = some (tr_cast 26 1) := rfl
theorem lkX3_boutsIn_26 (Y : xw_Y) : xw_lk (tbX3_boutsIn Y) 26 = some (tr_getf 29 1 4) := rfl
theorem lkX3_boutsIn_29 (Y : xw_Y) : xw_lk (tbX3_boutsIn Y) 29 = some (tr_ild 30 1) := rfl
theorem lkX3_boutsIn_30 (Y : xw_Y) : xw_lk (tbX3_boutsIn Y) 30 = some (tr_ifc 33 36 (fun x y => ¬ x = y)) := rfl
theorem lkX3_boutsIn_33 (Y : xw_Y) : xw_lk (tbX3_boutsIn Y) 33 = some (tr_inc 36 2 1) := rfl
theorem lkX3_boutsIn_36 (Y : xw_Y) : xw_lk (tbX3_boutsIn Y) 36 = some (tr_inc 39 3 1) := rfl
theorem lkX3_boutsIn_39 (Y : xw_Y) : xw_lk (tbX3_boutsIn Y) 39 = some (tr_goto 4) := rfl
theorem lkX3_boutsIn_42 (Y : xw_Y) : xw_lk (tbX3_boutsIn Y) 42 = some (tr_ild 43 2) := rfl
theorem lkX3_boutsIn_43 (Y : xw_Y) : xw_lk (tbX3_boutsIn Y) 43 = some (tr_iret .int) := rfl
def tbX3_fencersOut (Y : xw_Y) : List (Nat × xw_T) := [(0, tr_push 1 (.int 0)),
  (1, tr_ist 2 1),
  (2, tr_push 3 (.int 0)),
  (3, tr_ist 4 2),
  (4, tr_ild 5 2),
  (5, tr_ald 6 0),
  (6, tr_getf 9 4 0),
  (9, tr_callV 12 0 0 (ptJx4a65c_size_8abf5 Y) 0 0 0 0),
  (12, tr_ifc 15 41 (fun x y => y ≤ x)),
  (15, tr_ald 16 0),
  (16, tr_getf 19 4 0),
  (19, tr_ild 20 2),
  (20, tr_callV 23 1 0 (ptJx4a65c_get_915e3 Y) 0 0 0 0),
  (23, tr_cast 26 2),
  (26, tr_getf 29 2 5),
  (29, tr_ifz 32 35 (fun x => x = 0)),
  (32, tr_inc 35 1 1),
  (35, tr_inc 38 2 1),
  (38, tr_goto 4),
  (41, tr_ild 42 1),
  (42, tr_iret .int)]
def ptX3_fencersOut (Y : xw_Y) : xw_PT := xw_pt (tbX3_fencersOut Y) 3 0 0
theorem lkX3_fencersOut_0 (Y : xw_Y) : xw_lk (tbX3_fencersOut Y) 0 = some (tr_push 1 (.int 0)) := rfl
theorem lkX3_fencersOut_1 (Y : xw_Y) : xw_lk (tbX3_fencersOut Y) 1 = some (tr_ist 2 1) := rfl
theorem lkX3_fencersOut_2 (Y : xw_Y) : xw_lk (tbX3_fencersOut Y) 2 = some (tr_push 3 (.int 0)) := rfl
theorem lkX3_fencersOut_3 (Y : xw_Y) : xw_lk (tbX3_fencersOut Y) 3 = some (tr_ist 4 2) := rfl
theorem lkX3_fencersOut_4 (Y : xw_Y) : xw_lk (tbX3_fencersOut Y) 4 = some (tr_ild 5 2) := rfl
theorem lkX3_fencersOut_5 (Y : xw_Y) : xw_lk (tbX3_fencersOut Y) 5 = some (tr_ald 6 0) := rfl
theorem lkX3_fencersOut_6 (Y : xw_Y) : xw_lk (tbX3_fencersOut Y) 6 = some (tr_getf 9 4 0) := rfl
theorem lkX3_fencersOut_9 (Y : xw_Y) : xw_lk (tbX3_fencersOut Y) 9 = some (tr_callV 12 0 0 (ptJx4a65c_size_8abf5 Y) 0 0 0 0) := rfl
theorem lkX3_fencersOut_12 (Y : xw_Y) : xw_lk (tbX3_fencersOut Y) 12 = some (tr_ifc 15 41 (fun x y => y ≤ x)) := rfl
theorem lkX3_fencersOut_15 (Y : xw_Y) : xw_lk (tbX3_fencersOut Y) 15 = some (tr_ald 16 0) := rfl
theorem lkX3_fencersOut_16 (Y : xw_Y) : xw_lk (tbX3_fencersOut Y) 16 = some (tr_getf 19 4 0) := rfl
theorem lkX3_fencersOut_19 (Y : xw_Y) : xw_lk (tbX3_fencersOut Y) 19 = some (tr_ild 20 2) := rfl
theorem lkX3_fencersOut_20 (Y : xw_Y) : xw_lk (tbX3_fencersOut Y) 20 = some (tr_callV 23 1 0 (ptJx4a65c_get_915e3 Y) 0 0 0 0) := rfl
theorem lkX3_fencersOut_23 (Y : xw_Y) : xw_lk (tbX3_fencersOut Y) 23 = some (tr_cast 26 2) := rfl
theorem lkX3_fencersOut_26 (Y : xw_Y) : xw_lk (tbX3_fencersOut Y) 26 = some (tr_getf 29 2 5) := rfl
theorem lkX3_fencersOut_29 (Y : xw_Y) : xw_lk (tbX3_fencersOut Y) 29 = some (tr_ifz 32 35 (fun x => x = 0)) := rfl
theorem lkX3_fencersOut_32 (Y : xw_Y) : xw_lk (tbX3_fencersOut Y) 32 = some (tr_inc 35 1 1) := rfl
theorem lkX3_fencersOut_35 (Y : xw_Y) : xw_lk (tbX3_fencersOut Y) 35 = some (tr_inc 38 2 1) := rfl
theorem lkX3_fencersOut_38 (Y : xw_Y) : xw_lk (tbX3_fencersOut Y) 38 = some (tr_goto 4) := rfl
theorem lkX3_fencersOut_41 (Y : xw_Y) : xw_lk (tbX3_fencersOut Y) 41 = some (tr_ild 42 1) := rfl
theorem lkX3_fencersOut_42 (Y : xw_Y) : xw_lk (tbX3_fencersOut Y) 42 = some (tr_iret .int) := rfl
def tbX3_winnerOfTable (Y : xw_Y) : List (Nat × xw_T) := [(0, tr_ald 1 0),
  (1, tr_getf 4 4 1),
  (4, tr_callV 7 0 0 (ptJx4a65c_size_8abf5 Y) 0 0 0 0),
  (7, tr_push 8 (.int 1)),
  (8, tr_i2 9 (fun x y => x - y)),
  (9, tr_ist 10 1),
  (10, tr_ald 11 0),
  (11, tr_getf 14 4 8),
  (14, tr_ifz 17 21 (fun x => x = 0)),
  (17, tr_ild 18 1),
  (18, tr_ifz 21 25 (fun x => 0 ≤ x)),
  (21, tr_push 22 .null),
  (22, tr_goto 39),
  (25, tr_ald 26 0),
  (26, tr_getf 29 4 1),
  (29, tr_ild 30 1),
  (30, tr_callV 33 1 0 (ptJx4a65c_get_915e3 Y) 0 0 0 0),
  (33, tr_cast 36 1),
  (36, tr_getf 39 1 5),
  (39, tr_aret)]
def ptX3_winnerOfTable (Y : xw_Y) : xw_PT := xw_pt (tbX3_winnerOfTable Y) 2 0 0
theorem lkX3_winnerOfTable_0 (Y : xw_Y) : xw_lk (tbX3_winnerOfTable Y) 0 = some (tr_ald 1 0) := rfl
theorem lkX3_winnerOfTable_1 (Y : xw_Y) : xw_lk (tbX3_winnerOfTable Y) 1 = some (tr_getf 4 4 1) := rfl
theorem lkX3_winnerOfTable_4 (Y : xw_Y) : xw_lk (tbX3_winnerOfTable Y) 4 = some (tr_callV 7 0 0 (ptJx4a65c_size_8abf5 Y) 0 0 0 0) := rfl
theorem lkX3_winnerOfTable_7 (Y : xw_Y) : xw_lk (tbX3_winnerOfTable Y) 7 = some (tr_push 8 (.int 1)) := rfl
theorem lkX3_winnerOfTable_8 (Y : xw_Y) : xw_lk (tbX3_winnerOfTable Y) 8 = some (tr_i2 9 (fun x y => x - y)) := rfl
theorem lkX3_winnerOfTable_9 (Y : xw_Y) : xw_lk (tbX3_winnerOfTable Y) 9 = some (tr_ist 10 1) := rfl
theorem lkX3_winnerOfTable_10 (Y : xw_Y) : xw_lk (tbX3_winnerOfTable Y) 10 = some (tr_ald 11 0) := rfl
theorem lkX3_winnerOfTable_11 (Y : xw_Y) : xw_lk (tbX3_winnerOfTable Y) 11 = some (tr_getf 14 4 8) := rfl
theorem lkX3_winnerOfTable_14 (Y : xw_Y) : xw_lk (tbX3_winnerOfTable Y) 14 = some (tr_ifz 17 21 (fun x => x = 0)) := rfl
theorem lkX3_winnerOfTable_17 (Y : xw_Y) : xw_lk (tbX3_winnerOfTable Y) 17 = some (tr_ild 18 1) := rfl
theorem lkX3_winnerOfTable_18 (Y : xw_Y) : xw_lk (tbX3_winnerOfTable Y) 18 = some (tr_ifz 21 25 (fun x => 0 ≤ x)) := rfl
theorem lkX3_winnerOfTable_21 (Y : xw_Y) : xw_lk (tbX3_winnerOfTable Y) 21 = some (tr_push 22 .null) := rfl
theorem lkX3_winnerOfTable_22 (Y : xw_Y) : xw_lk (tbX3_winnerOfTable Y) 22 = some (tr_goto 39) := rfl
theorem lkX3_winnerOfTable_25 (Y : xw_Y) : xw_lk (tbX3_winnerOfTable Y) 25 = some (tr_ald 26 0) := rfl
theorem lkX3_winnerOfTable_26 (Y : xw_Y) : xw_lk (tbX3_winnerOfTable Y) 26 = some (tr_getf 29 4 1) := rfl
theorem lkX3_winnerOfTable_29 (Y : xw_Y) : xw_lk (tbX3_winnerOfTable Y) 29 = some (tr_ild 30 1) := rfl
theorem lkX3_winnerOfTable_30 (Y : xw_Y) : xw_lk (tbX3_winnerOfTable Y) 30 = some (tr_callV 33 1 0 (ptJx4a65c_get_915e3 Y) 0 0 0 0) := rfl
theorem lkX3_winnerOfTable_33 (Y : xw_Y) : xw_lk (tbX3_winnerOfTable Y) 33 = some (tr_cast 36 1) := rfl
theorem lkX3_winnerOfTable_36 (Y : xw_Y) : xw_lk (tbX3_winnerOfTable Y) 36 = some (tr_getf 39 1 5) := rfl
theorem lkX3_winnerOfTable_39 (Y : xw_Y) : xw_lk (tbX3_winnerOfTable Y) 39 = some (tr_aret) := rfl
def tbX3_numberOf (Y : xw_Y) : List (Nat × xw_T) := [(0, tr_ald 1 0),
  (1, tr_ifn 4 8),
  (4, tr_push 5 (.int (-1))),
  (5, tr_goto 12),
  (8, tr_ald 9 0),
  (9, tr_getf 12 2 0),
  (12, tr_iret .int)]
def ptX3_numberOf (Y : xw_Y) : xw_PT := xw_pt (tbX3_numberOf Y) 1 0 0
theorem lkX3_numberOf_0 (Y : xw_Y) : xw_lk (tbX3_numberOf Y) 0 = some (tr_ald 1 0) := rfl
theorem lkX3_numberOf_1 (Y : xw_Y) : xw_lk (tbX3_numberOf Y) 1 = some (tr_ifn 4 8) := rfl
theorem lkX3_numberOf_4 (Y : xw_Y) : xw_lk (tbX3_numberOf Y) 4 = some (tr_push 5 (.int (-1))) := rfl
theorem lkX3_numberOf_5 (Y : xw_Y) : xw_lk (tbX3_numberOf Y) 5 = some (tr_goto 12) := rfl
theorem lkX3_numberOf_8 (Y : xw_Y) : xw_lk (tbX3_numberOf Y) 8 = some (tr_ald 9 0) := rfl
theorem lkX3_numberOf_9 (Y : xw_Y) : xw_lk (tbX3_numberOf Y) 9 = some (tr_getf 12 2 0) := rfl
theorem lkX3_numberOf_12 (Y : xw_Y) : xw_lk (tbX3_numberOf Y) 12 = some (tr_iret .int) := rfl
def tbX3_many (Y : xw_Y) : List (Nat × xw_T) := [(0, tr_ild 1 1),
  (1, tr_sw 0 10 [60, 68, 73, 81, 87, 93, 99, 105, 110, 115, 120] 128),
  (60, tr_ald 61 0),
  (61, tr_getf 64 4 0),
  (64, tr_callV 67 0 0 (ptJx4a65c_size_8abf5 Y) 0 0 0 0),
  (67, tr_iret .int),
  (68, tr_ald 69 0),
  (69, tr_getf 72 4 6),
  (72, tr_iret .int),
  (73, tr_ald 74 0),
  (74, tr_getf 77 4 1),
  (77, tr_callV 80 0 0 (ptJx4a65c_size_8abf5 Y) 0 0 0 0),
  (80, tr_iret .int),
  (81, tr_ald 82 0),
  (82, tr_push 83 (.int 0)),
  (83, tr_callV 86 1 4 (ptX3_boutsIn Y) 0 0 0 0),
  (86, tr_iret .int),
  (87, tr_ald 88 0),
  (88, tr_push 89 (.int 1)),
  (89, tr_callV 92 1 4 (ptX3_boutsIn Y) 0 0 0 0),
  (92, tr_iret .int),
  (93, tr_ald 94 0),
  (94, tr_push 95 (.int 2)),
  (95, tr_callV 98 1 4 (ptX3_boutsIn Y) 0 0 0 0),
  (98, tr_iret .int),
  (99, tr_ald 100 0),
  (100, tr_push 101 (.int 3)),
  (101, tr_callV 104 1 4 (ptX3_boutsIn Y) 0 0 0 0),
  (104, tr_iret .int),
  (105, tr_ald 106 0),
  (106, tr_getf 109 4 7),
  (109, tr_iret .int),
  (110, tr_ald 111 0),
  (111, tr_callV 114 0 4 (ptX3_fencersOut Y) 0 0 0 0),
  (114, tr_iret .int),
  (115, tr_ald 116 0),
  (116, tr_getf 119 4 8),
  (119, tr_iret .int),
  (120, tr_ald 121 0),
  (121, tr_callV 124 0 4 (ptX3_winnerOfTable Y) 0 0 0 0),
  (124, tr_callS 127 1 (ptX3_numberOf Y) 0 0 0 0),
  (127, tr_iret .int)]
def ptX3_many (Y : xw_Y) : xw_PT := xw_pt (tbX3_many Y) 2 0 0
theorem lkX3_many_0 (Y : xw_Y) : xw_lk (tbX3_many Y) 0 = some (tr_ild 1 1) := rfl
theorem lkX3_many_1 (Y : xw_Y) : xw_lk (tbX3_many Y) 1 = some (tr_sw 0 10 [60, 68, 73, 81, 87, 93, 99, 105, 110, 115, 120] 128) := rfl
theorem lkX3_many_60 (Y : xw_Y) : xw_lk (tbX3_many Y) 60 = some (tr_ald 61 0) := rfl
theorem lkX3_many_61 (Y : xw_Y) : xw_lk (tbX3_many Y) 61 = some (tr_getf 64 4 0) := rfl
theorem lkX3_many_64 (Y : xw_Y) : xw_lk (tbX3_many Y) 64 = some (tr_callV 67 0 0 (ptJx4a65c_size_8abf5 Y) 0 0 0 0) := rfl
theorem lkX3_many_67 (Y : xw_Y) : xw_lk (tbX3_many Y) 67 = some (tr_iret .int) := rfl
theorem lkX3_many_68 (Y : xw_Y) : xw_lk (tbX3_many Y) 68 = some (tr_ald 69 0) := rfl
theorem lkX3_many_69 (Y : xw_Y) : xw_lk (tbX3_many Y) 69 = some (tr_getf 72 4 6) := rfl
theorem lkX3_many_72 (Y : xw_Y) : xw_lk (tbX3_many Y) 72 = some (tr_iret .int) := rfl
theorem lkX3_many_73 (Y : xw_Y) : xw_lk (tbX3_many Y) 73 = some (tr_ald 74 0) := rfl
theorem lkX3_many_74 (Y : xw_Y) : xw_lk (tbX3_many Y) 74 = some (tr_getf 77 4 1) := rfl
theorem lkX3_many_77 (Y : xw_Y) : xw_lk (tbX3_many Y) 77 = some (tr_callV 80 0 0 (ptJx4a65c_size_8abf5 Y) 0 0 0 0) := rfl
theorem lkX3_many_80 (Y : xw_Y) : xw_lk (tbX3_many Y) 80 = some (tr_iret .int) := rfl
theorem lkX3_many_81 (Y : xw_Y) : xw_lk (tbX3_many Y) 81 = some (tr_ald 82 0) := rfl
theorem lkX3_many_82 (Y : xw_Y) : xw_lk (tbX3_many Y) 82 = some (tr_push 83 (.int 0)) := rfl
theorem lkX3_many_83 (Y : xw_Y) : xw_lk (tbX3_many Y) 83 = some (tr_callV 86 1 4 (ptX3_boutsIn Y) 0 0 0 0) := rfl
theorem lkX3_many_86 (Y : xw_Y) : xw_lk (tbX3_many Y) 86 = some (tr_iret .int) := rfl
theorem lkX3_many_87 (Y : xw_Y) : xw_lk (tbX3_many Y) 87 = some (tr_ald 88 0) := rfl
theorem lkX3_many_88 (Y : xw_Y) : xw_lk (tbX3_many Y) 88 = some (tr_push 89 (.int 1)) := rfl
theorem lkX3_many_89 (Y : xw_Y) : xw_lk (tbX3_many Y) 89 = some (tr_callV 92 1 4 (ptX3_boutsIn Y) 0 0 0 0) := rfl
theorem lkX3_many_92 (Y : xw_Y) : xw_lk (tbX3_many Y) 92 = some (tr_iret .int) := rfl
theorem lkX3_many_93 (Y : xw_Y) : xw_lk (tbX3_many Y) 93 = some (tr_ald 94 0) := rfl
theorem lkX3_many_94 (Y : xw_Y) : xw_lk (tbX3_many Y) 94 = some (tr_push 95 (.int 2)) := rfl
theorem lkX3_many_95 (Y : xw_Y) : xw_lk (tbX3_many Y) 95 = some (tr_callV 98 1 4 (ptX3_boutsIn Y) 0 0 0 0) := rfl
theorem lkX3_many_98 (Y : xw_Y) : xw_lk (tbX3_many Y) 98 = some (tr_iret .int) := rfl
theorem lkX3_many_99 (Y : xw_Y) : xw_lk (tbX3_many Y) 99 = some (tr_ald 100 0) := rfl
theorem lkX3_many_100 (Y : xw_Y) : xw_lk (tbX3_many Y) 100 = some (tr_push 101 (.int 3)) := rfl
theorem lkX3_many_101 (Y : xw_Y) : xw_lk (tbX3_many Y) 101 = some (tr_callV 104 1 4 (ptX3_boutsIn Y) 0 0 0 0) := rfl
theorem lkX3_many_104 (Y : xw_Y) : xw_lk (tbX3_many Y) 104 = some (tr_iret .int) := rfl
theorem lkX3_many_105 (Y : xw_Y) : xw_lk (tbX3_many Y) 105 = some (tr_ald 106 0) := rfl
theorem lkX3_many_106 (Y : xw_Y) : xw_lk (tbX3_many Y) 106 = some (tr_getf 109 4 7) := rfl
theorem lkX3_many_109 (Y : xw_Y) : xw_lk (tbX3_many Y) 109 = some (tr_iret .int) := rfl
theorem lkX3_many_110 (Y : xw_Y) : xw_lk (tbX3_many Y) 110 = some (tr_ald 111 0) := rfl
theorem lkX3_many_111 (Y : xw_Y) : xw_lk (tbX3_many Y) 111 = some (tr_callV 114 0 4 (ptX3_fencersOut Y) 0 0 0 0) := rfl
theorem lkX3_many_114 (Y : xw_Y) : xw_lk (tbX3_many Y) 114 = some (tr_iret .int) := rfl
theorem lkX3_many_115 (Y : xw_Y) : xw_lk (tbX3_many Y) 115 = some (tr_ald 116 0) := rfl
theorem lkX3_many_116 (Y : xw_Y) : xw_lk (tbX3_many Y) 116 = some (tr_getf 119 4 8) := rfl
theorem lkX3_many_119 (Y : xw_Y) : xw_lk (tbX3_many Y) 119 = some (tr_iret .int) := rfl
theorem lkX3_many_120 (Y : xw_Y) : xw_lk (tbX3_many Y) 120 = some (tr_ald 121 0) := rfl
theorem lkX3_many_121 (Y : xw_Y) : xw_lk (tbX3_many Y) 121 = some (tr_callV 124 0 4 (ptX3_winnerOfTable Y) 0 0 0 0) := rfl
theorem lkX3_many_124 (Y : xw_Y) : xw_lk (tbX3_many Y) 124 = some (tr_callS 127 1 (ptX3_numberOf Y) 0 0 0 0) := rfl
theorem lkX3_many_127 (Y : xw_Y) : xw_lk (tbX3_many Y) 127 = some (tr_iret .int) := rfl
def tbX3_boutAt (Y : xw_Y) : List (Nat × xw_T) := [(0, tr_ild 1 1),
  (1, tr_push 2 (.int 0)),
  (2, tr_ald 3 0),
  (3, tr_getf 6 4 1),
  (6, tr_callV 9 0 0 (ptJx4a65c_size_8abf5 Y) 0 0 0 0),
  (9, tr_push 10 (.int 1)),
  (10, tr_i2 11 (fun x y => x - y)),
  (11, tr_callS 14 3 (ptX3_isIn Y) 0 0 0 0),
  (14, tr_ifz 17 28 (fun x => ¬ x = 0)),
  (28, tr_ald 29 0),
  (29, tr_getf 32 4 1),
  (32, tr_ild 33 1),
  (33, tr_callV 36 1 0 (ptJx4a65c_get_915e3 Y) 0 0 0 0),
  (36, tr_cast 39 1),
  (39, tr_aret)]
def ptX3_boutAt (Y : xw_Y) : xw_PT := xw_pt (tbX3_boutAt Y) 2 0 0
theorem lkX3_boutAt_0 (Y : xw_Y) : xw_lk (tbX3_boutAt Y) 0 = some (tr_ild 1 1) := rfl
theorem lkX3_boutAt_1 (Y : xw_Y) : xw_lk (tbX3_boutAt Y) 1 = some (tr_push 2 (.int 0)) := rfl
theorem lkX3_boutAt_2 (Y : xw_Y) : xw_lk (tbX3_boutAt Y) 2 = some (tr_ald 3 0) := rfl
theorem lkX3_boutAt_3 (Y : xw_Y) : xw_lk (tbX3_boutAt Y) 3 = some (tr_getf 6 4 1) := rfl
theorem lkX3_boutAt_6 (Y : xw_Y) : xw_lk (tbX3_boutAt Y) 6 = some (tr_callV 9 0 0 (ptJx4a65c_size_8abf5 Y) 0 0 0 0) := rfl
theorem lkX3_boutAt_9 (Y : xw_Y) : xw_lk (tbX3_boutAt Y) 9 = some (tr_push 10 (.int 1)) := rfl
theorem lkX3_boutAt_10 (Y : xw_Y) : xw_lk (tbX3_boutAt Y) 10 = some (tr_i2 11 (fun x y => x - y)) := rfl
theorem lkX3_boutAt_11 (Y : xw_Y) : xw_lk (tbX3_boutAt Y) 11 = some (tr_callS 14 3 (ptX3_isIn Y) 0 0 0 0) := rfl
theorem lkX3_boutAt_14 (Y : xw_Y) : xw_lk (tbX3_boutAt Y) 14 = some (tr_ifz 17 28 (fun x => ¬ x = 0)) := rfl
theorem lkX3_boutAt_28 (Y : xw_Y) : xw_lk (tbX3_boutAt Y) 28 = some (tr_ald 29 0) := rfl
theorem lkX3_boutAt_29 (Y : xw_Y) : xw_lk (tbX3_boutAt Y) 29 = some (tr_getf 32 4 1) := rfl
theorem lkX3_boutAt_32 (Y : xw_Y) : xw_lk (tbX3_boutAt Y) 32 = some (tr_ild 33 1) := rfl
theorem lkX3_boutAt_33 (Y : xw_Y) : xw_lk (tbX3_boutAt Y) 33 = some (tr_callV 36 1 0 (ptJx4a65c_get_915e3 Y) 0 0 0 0) := rfl
theorem lkX3_boutAt_36 (Y : xw_Y) : xw_lk (tbX3_boutAt Y) 36 = some (tr_cast 39 1) := rfl
theorem lkX3_boutAt_39 (Y : xw_Y) : xw_lk (tbX3_boutAt Y) 39 = some (tr_aret) := rfl
def tbX0_isOfTable (Y : xw_Y) : List (Nat × xw_T) := [(0, tr_ald 1 0),
  (1, tr_getf 4 1 1),
  (4, tr_push 5 (.int (-1))),
  (5, tr_ifc 8 12 (fun x y => x = y)),
  (8, tr_push 9 (.int 1)),
  (9, tr_goto 13),
  (12, tr_push 13 (.int 0)),
  (13, tr_iret .boolean)]
def ptX0_isOfTable (Y : xw_Y) : xw_PT := xw_pt (tbX0_isOfTable Y) 1 0 0
theorem lkX0_isOfTable_0 (Y : xw_Y) : xw_lk (tbX0_isOfTable Y) 0 = some (tr_ald 1 0) := rfl
theorem lkX0_isOfTable_1 (Y : xw_Y) : xw_lk (tbX0_isOfTable Y) 1 = some (tr_getf 4 1 1) := rfl
theorem lkX0_isOfTable_4 (Y : xw_Y) : xw_lk (tbX0_isOfTable Y) 4 = some (tr_push 5 (.int (-1))) := rfl
theorem lkX0_isOfTable_5 (Y : xw_Y) : xw_lk (tbX0_isOfTable Y) 5 = some (tr_ifc 8 12 (fun x y => x = y)) := rfl
theorem lkX0_isOfTable_8 (Y : xw_Y) : xw_lk (tbX0_isOfTable Y) 8 = some (tr_push 9 (.int 1)) := rfl
theorem lkX0_isOfTable_9 (Y : xw_Y) : xw_lk (tbX0_isOfTable Y) 9 = some (tr_goto 13) := rfl
theorem lkX0_isOfTable_12 (Y : xw_Y) : xw_lk (tbX0_isOfTable Y) 12 = some (tr_push 13 (.int 0)) := rfl
theorem lkX0_isOfTable_13 (Y : xw_Y) : xw_lk (tbX0_isOfTable Y) 13 = some (tr_iret .boolean) := rfl
def tbX0_periods (Y : xw_Y) : List (Nat × xw_T) := [(0, tr_ald 1 0),
  (1, tr_callV 4 0 1 (ptX0_isOfTable Y) 0 0 0 0),
  (4, tr_ifz 7 11 (fun x => x = 0)),
  (7, tr_push 8 (.int 3)),
  (8, tr_goto 12),
  (11, tr_push 12 (.int 1)),
  (12, tr_iret .int)]
def ptX0_periods (Y : xw_Y) : xw_PT := xw_pt (tbX0_periods Y) 1 0 0
theorem lkX0_periods_0 (Y : xw_Y) : xw_lk (tbX0_periods Y) 0 = some (tr_ald 1 0) := rfl
theorem lkX0_periods_1 (Y : xw_Y) : xw_lk (tbX0_periods Y) 1 = some (tr_callV 4 0 1 (ptX0_isOfTable Y) 0 0 0 0) := rfl
theorem lkX0_periods_4 (Y : xw_Y) : xw_lk (tbX0_periods Y) 4 = some (tr_ifz 7 11 (fun x => x = 0)) := rfl
theorem lkX0_periods_7 (Y : xw_Y) : xw_lk (tbX0_periods Y) 7 = some (tr_push 8 (.int 3)) := rfl
theorem lkX0_periods_8 (Y : xw_Y) : xw_lk (tbX0_periods Y) 8 = some (tr_goto 12) := rfl
theorem lkX0_periods_11 (Y : xw_Y) : xw_lk (tbX0_periods Y) 11 = some (tr_push 12 (.int 1)) := rfl
theorem lkX0_periods_12 (Y : xw_Y) : xw_lk (tbX0_periods Y) 12 = some (tr_iret .int) := rfl
def tbX0_isInExtra (Y : xw_Y) : List (Nat × xw_T) := [(0, tr_ald 1 0),
  (1, tr_getf 4 1 7),
  (4, tr_ald 5 0),
  (5, tr_callV 8 0 1 (ptX0_periods Y) 0 0 0 0),
  (8, tr_ifc 11 15 (fun x y => x ≤ y)),
  (11, tr_push 12 (.int 1)),
  (12, tr_goto 16),
  (15, tr_push 16 (.int 0)),
  (16, tr_iret .boolean)]
def ptX0_isInExtra (Y : xw_Y) : xw_PT := xw_pt (tbX0_isInExtra Y) 1 0 0
theorem lkX0_isInExtra_0 (Y : xw_Y) : xw_lk (tbX0_isInExtra Y) 0 = some (tr_ald 1 0) := rfl
theorem lkX0_isInExtra_1 (Y : xw_Y) : xw_lk (tbX0_isInExtra Y) 1 = some (tr_getf 4 1 7) := rfl
theorem lkX0_isInExtra_4 (Y : xw_Y) : xw_lk (tbX0_isInExtra Y) 4 = some (tr_ald 5 0) := rfl
theorem lkX0_isInExtra_5 (Y : xw_Y) : xw_lk (tbX0_isInExtra Y) 5 = some (tr_callV 8 0 1 (ptX0_periods Y) 0 0 0 0) := rfl
theorem lkX0_isInExtra_8 (Y : xw_Y) : xw_lk (tbX0_isInExtra Y) 8 = some (tr_ifc 11 15 (fun x y => x ≤ y)) := rfl
theorem lkX0_isInExtra_11 (Y : xw_Y) : xw_lk (tbX0_isInExtra Y) 11 = some (tr_push 12 (.int 1)) := rfl
theorem lkX0_isInExtra_12 (Y : xw_Y) : xw_lk (tbX0_isInExtra Y) 12 = some (tr_goto 16) := rfl
theorem lkX0_isInExtra_15 (Y : xw_Y) : xw_lk (tbX0_isInExtra Y) 15 = some (tr_push 16 (.int 0)) := rfl
theorem lkX0_isInExtra_16 (Y : xw_Y) : xw_lk (tbX0_isInExtra Y) 16 = some (tr_iret .boolean) := rfl
def tbX0_withPriority (Y : xw_Y) : List (Nat × xw_T) := [(0, tr_ald 1 0),
  (1, tr_getf 4 1 0),
  (4, tr_ald 5 0),
  (5, tr_getf 8 1 2),
  (8, tr_getf 11 3 1),
  (11, tr_i2 12 (fun x y => x + y)),
  (12, tr_push 13 (.int 2)),
  (13, tr_i2z 14 (fun x y => x - x / y * y)),
  (14, tr_ifz 17 24 (fun x => ¬ x = 0)),
  (17, tr_ald 18 0),
  (18, tr_getf 21 1 2),
  (21, tr_goto 28),
  (24, tr_ald 25 0),
  (25, tr_getf 28 1 3),
  (28, tr_aret)]
def ptX0_withPriority (Y : xw_Y) : xw_PT := xw_pt (tbX0_withPriority Y) 1 0 0
theorem lkX0_withPriority_0 (Y : xw_Y) : xw_lk (tbX0_withPriority Y) 0 = some (tr_ald 1 0) := rfl
theorem lkX0_withPriority_1 (Y : xw_Y) : xw_lk (tbX0_withPriority Y) 1 = some (tr_getf 4 1 0) := rfl
theorem lkX0_withPriority_4 (Y : xw_Y) : xw_lk (tbX0_withPriority Y) 4 = some (tr_ald 5 0) := rfl
theorem lkX0_withPriority_5 (Y : xw_Y) : xw_lk (tbX0_withPriority Y) 5 = some (tr_getf 8 1 2) := rfl
theorem lkX0_withPriority_8 (Y : xw_Y) : xw_lk (tbX0_withPriority Y) 8 = some (tr_getf 11 3 1) := rfl
theorem lkX0_withPriority_11 (Y : xw_Y) : xw_lk (tbX0_withPriority Y) 11 = some (tr_i2 12 (fun x y => x + y)) := rfl
theorem lkX0_withPriority_12 (Y : xw_Y) : xw_lk (tbX0_withPriority Y) 12 = some (tr_push 13 (.int 2)) := rfl
theorem lkX0_withPriority_13 (Y : xw_Y) : xw_lk (tbX0_withPriority Y) 13 = some (tr_i2z 14 (fun x y => x - x / y * y)) := rfl
theorem lkX0_withPriority_14 (Y : xw_Y) : xw_lk (tbX0_withPriority Y) 14 = some (tr_ifz 17 24 (fun x => ¬ x = 0)) := rfl
theorem lkX0_withPriority_17 (Y : xw_Y) : xw_lk (tbX0_withPriority Y) 17 = some (tr_ald 18 0) := rfl
theorem lkX0_withPriority_18 (Y : xw_Y) : xw_lk (tbX0_withPriority Y) 18 = some (tr_getf 21 1 2) := rfl
theorem lkX0_withPriority_21 (Y : xw_Y) : xw_lk (tbX0_withPriority Y) 21 = some (tr_goto 28) := rfl
theorem lkX0_withPriority_24 (Y : xw_Y) : xw_lk (tbX0_withPriority Y) 24 = some (tr_ald 25 0) := rfl
theorem lkX0_withPriority_25 (Y : xw_Y) : xw_lk (tbX0_withPriority Y) 25 = some (tr_getf 28 1 3) := rfl
theorem lkX0_withPriority_28 (Y : xw_Y) : xw_lk (tbX0_withPriority Y) 28 = some (tr_aret) := rfl
def tbX3_ofBout (Y : xw_Y) : List (Nat × xw_T) := [(0, tr_ald 1 0),
  (1, tr_ild 2 1),
  (2, tr_callV 5 1 4 (ptX3_boutAt Y) 0 0 0 0),
  (5, tr_ast 6 3),
  (6, tr_ild 7 2),
  (7, tr_sw 0 11 [68, 73, 84, 95, 103, 111, 119, 124, 129, 134, 156, 164] 172),
  (68, tr_ald 69 3),
  (69, tr_getf 72 1 4),
  (72, tr_iret .int),
  (73, tr_ald 74 3),
  (74, tr_getf 77 1 2),
  (77, tr_getf 80 3 0),
  (80, tr_callS 83 1 (ptX3_numberOf Y) 0 0 0 0),
  (83, tr_iret .int),
  (84, tr_ald 85 3),
  (85, tr_getf 88 1 3),
  (88, tr_getf 91 3 0),
  (91, tr_callS 94 1 (ptX3_numberOf Y) 0 0 0 0),
  (94, tr_iret .int),
  (95, tr_ald 96 3),
  (96, tr_getf 99 1 2),
  (99, tr_getf 102 3 1),
  (102, tr_iret .int),
  (103, tr_ald 104 3),
  (104, tr_getf 107 1 3),
  (107, tr_getf 110 3 1),
  (110, tr_iret .int),
  (111, tr_ald 112 3),
  (112, tr_getf 115 1 5),
  (115, tr_callS 118 1 (ptX3_numberOf Y) 0 0 0 0),
  (118, tr_iret .int),
  (119, tr_ald 120 3),
  (120, tr_getf 123 1 6),
  (123, tr_iret .int),
  (124, tr_ald 125 3),
  (125, tr_getf 128 1 8),
  (128, tr_iret .int),
  (129, tr_ald 130 3),
  (130, tr_getf 133 1 7),
  (133, tr_iret .int),
  (134, tr_ald 135 3),
  (135, tr_callV 138 0 1 (ptX0_isInExtra Y) 0 0 0 0),
  (138, tr_ifz 141 154 (fun x => x = 0)),
  (141, tr_ald 142 3),
  (142, tr_callV 145 0 1 (ptX0_withPriority Y) 0 0 0 0),
  (145, tr_getf 148 3 0),
  (148, tr_callS 151 1 (ptX3_numberOf Y) 0 0 0 0),
  (151, tr_goto 155),
  (154, tr_push 155 (.int (-1))),
  (155, tr_iret .int),
  (156, tr_ald 157 3),
  (157, tr_getf 160 1 2),
  (160, tr_getf 163 3 2),
  (163, tr_iret .int),
  (164, tr_ald 165 3),
  (165, tr_getf 168 1 3),
  (168, tr_getf 171 3 2),
  (171, tr_iret .int)]
def ptX3_ofBout (Y : xw_Y) : xw_PT := xw_pt (tbX3_ofBout Y) 4 0 0
theorem lkX3_ofBout_0 (Y : xw_Y) : xw_lk (tbX3_ofBout Y) 0 = some (tr_ald 1 0) := rfl
theorem lkX3_ofBout_1 (Y : xw_Y) : xw_lk (tbX3_ofBout Y) 1 = some (tr_ild 2 1) := rfl
theorem lkX3_ofBout_2 (Y : xw_Y) : xw_lk (tbX3_ofBout Y) 2 = some (tr_callV 5 1 4 (ptX3_boutAt Y) 0 0 0 0) := rfl
theorem lkX3_ofBout_5 (Y : xw_Y) : xw_lk (tbX3_ofBout Y) 5 = some (tr_ast 6 3) := rfl
theorem lkX3_ofBout_6 (Y : xw_Y) : xw_lk (tbX3_ofBout Y) 6 = some (tr_ild 7 2) := rfl
theorem lkX3_ofBout_7 (Y : xw_Y) : xw_lk (tbX3_ofBout Y) 7 = some (tr_sw 0 11 [68, 73, 84, 95, 103, 111, 119, 124, 129, 134, 156, 164] 172) := rfl
theorem lkX3_ofBout_68 (Y : xw_Y) : xw_lk (tbX3_ofBout Y) 68 = some (tr_ald 69 3) := rfl
theorem lkX3_ofBout_69 (Y : xw_Y) : xw_lk (tbX3_ofBout Y) 69 = some (tr_getf 72 1 4) := rfl
theorem lkX3_ofBout_72 (Y : xw_Y) : xw_lk (tbX3_ofBout Y) 72 = some (tr_iret .int) := rfl
theorem lkX3_ofBout_73 (Y : xw_Y) : xw_lk (tbX3_ofBout Y) 73 = some (tr_ald 74 3) := rfl
theorem lkX3_ofBout_74 (Y : xw_Y) : xw_lk (tbX3_ofBout Y) 74 = some (tr_getf 77 1 2) := rfl
theorem lkX3_ofBout_77 (Y : xw_Y) : xw_lk (tbX3_ofBout Y) 77 = some (tr_getf 80 3 0) := rfl
theorem lkX3_ofBout_80 (Y : xw_Y) : xw_lk (tbX3_ofBout Y) 80 = some (tr_callS 83 1 (ptX3_numberOf Y) 0 0 0 0) := rfl
theorem lkX3_ofBout_83 (Y : xw_Y) : xw_lk (tbX3_ofBout Y) 83 = some (tr_iret .int) := rfl
theorem lkX3_ofBout_84 (Y : xw_Y) : xw_lk (tbX3_ofBout Y) 84 = some (tr_ald 85 3) := rfl
theorem lkX3_ofBout_85 (Y : xw_Y) : xw_lk (tbX3_ofBout Y) 85 = some (tr_getf 88 1 3) := rfl
theorem lkX3_ofBout_88 (Y : xw_Y) : xw_lk (tbX3_ofBout Y) 88 = some (tr_getf 91 3 0) := rfl
theorem lkX3_ofBout_91 (Y : xw_Y) : xw_lk (tbX3_ofBout Y) 91 = some (tr_callS 94 1 (ptX3_numberOf Y) 0 0 0 0) := rfl
theorem lkX3_ofBout_94 (Y : xw_Y) : xw_lk (tbX3_ofBout Y) 94 = some (tr_iret .int) := rfl
theorem lkX3_ofBout_95 (Y : xw_Y) : xw_lk (tbX3_ofBout Y) 95 = some (tr_ald 96 3) := rfl
theorem lkX3_ofBout_96 (Y : xw_Y) : xw_lk (tbX3_ofBout Y) 96 = some (tr_getf 99 1 2) := rfl
theorem lkX3_ofBout_99 (Y : xw_Y) : xw_lk (tbX3_ofBout Y) 99 = some (tr_getf 102 3 1) := rfl
theorem lkX3_ofBout_102 (Y : xw_Y) : xw_lk (tbX3_ofBout Y) 102 = some (tr_iret .int) := rfl
theorem lkX3_ofBout_103 (Y : xw_Y) : xw_lk (tbX3_ofBout Y) 103 = some (tr_ald 104 3) := rfl
theorem lkX3_ofBout_104 (Y : xw_Y) : xw_lk (tbX3_ofBout Y) 104 = some (tr_getf 107 1 3) := rfl
theorem lkX3_ofBout_107 (Y : xw_Y) : xw_lk (tbX3_ofBout Y) 107 = some (tr_getf 110 3 1) := rfl
theorem lkX3_ofBout_110 (Y : xw_Y) : xw_lk (tbX3_ofBout Y) 110 = some (tr_iret .int) := rfl
theorem lkX3_ofBout_111 (Y : xw_Y) : xw_lk (tbX3_ofBout Y) 111 = some (tr_ald 112 3) := rfl
theorem lkX3_ofBout_112 (Y : xw_Y) : xw_lk (tbX3_ofBout Y) 112 = some (tr_getf 115 1 5) := rfl
theorem lkX3_ofBout_115 (Y : xw_Y) : xw_lk (tbX3_ofBout Y) 115 = some (tr_callS 118 1 (ptX3_numberOf Y) 0 0 0 0) := rfl
theorem lkX3_ofBout_118 (Y : xw_Y) : xw_lk (tbX3_ofBout Y) 118 = some (tr_iret .int) := rfl
theorem lkX3_ofBout_119 (Y : xw_Y) : xw_lk (tbX3_ofBout Y) 119 = some (tr_ald 120 3) := rfl
theorem lkX3_ofBout_120 (Y : xw_Y) : xw_lk (tbX3_ofBout Y) 120 = some (tr_getf 123 1 6) := rfl
theorem lkX3_ofBout_123 (Y : xw_Y) : xw_lk (tbX3_ofBout Y) 123 = some (tr_iret .int) := rfl
theorem lkX3_ofBout_124 (Y : xw_Y) : xw_lk (tbX3_ofBout Y) 124 = some (tr_ald 125 3) := rfl
theorem lkX3_ofBout_125 (Y : xw_Y) : xw_lk (tbX3_ofBout Y) 125 = some (tr_getf 128 1 8) := rfl
theorem lkX3_ofBout_128 (Y : xw_Y) : xw_lk (tbX3_ofBout Y) 128 = some (tr_iret .int) := rfl
theorem lkX3_ofBout_129 (Y : xw_Y) : xw_lk (tbX3_ofBout Y) 129 = some (tr_ald 130 3) := rfl
theorem lkX3_ofBout_130 (Y : xw_Y) : xw_lk (tbX3_ofBout Y) 130 = some (tr_getf 133 1 7) := rfl
theorem lkX3_ofBout_133 (Y : xw_Y) : xw_lk (tbX3_ofBout Y) 133 = some (tr_iret .int) := rfl
theorem lkX3_ofBout_134 (Y : xw_Y) : xw_lk (tbX3_ofBout Y) 134 = some (tr_ald 135 3) := rfl
theorem lkX3_ofBout_135 (Y : xw_Y) : xw_lk (tbX3_ofBout Y) 135 = some (tr_callV 138 0 1 (ptX0_isInExtra Y) 0 0 0 0) := rfl
theorem lkX3_ofBout_138 (Y : xw_Y) : xw_lk (tbX3_ofBout Y) 138 = some (tr_ifz 141 154 (fun x => x = 0)) := rfl
theorem lkX3_ofBout_141 (Y : xw_Y) : xw_lk (tbX3_ofBout Y) 141 = some (tr_ald 142 3) := rfl
theorem lkX3_ofBout_142 (Y : xw_Y) : xw_lk (tbX3_ofBout Y) 142 = some (tr_callV 145 0 1 (ptX0_withPriority Y) 0 0 0 0) := rfl
theorem lkX3_ofBout_145 (Y : xw_Y) : xw_lk (tbX3_ofBout Y) 145 = some (tr_getf 148 3 0) := rfl
theorem lkX3_ofBout_148 (Y : xw_Y) : xw_lk (tbX3_ofBout Y) 148 = some (tr_callS 151 1 (ptX3_numberOf Y) 0 0 0 0) := rfl
theorem lkX3_ofBout_151 (Y : xw_Y) : xw_lk (tbX3_ofBout Y) 151 = some (tr_goto 155) := rfl
theorem lkX3_ofBout_154 (Y : xw_Y) : xw_lk (tbX3_ofBout Y) 154 = some (tr_push 155 (.int (-1))) := rfl
theorem lkX3_ofBout_155 (Y : xw_Y) : xw_lk (tbX3_ofBout Y) 155 = some (tr_iret .int) := rfl
theorem lkX3_ofBout_156 (Y : xw_Y) : xw_lk (tbX3_ofBout Y) 156 = some (tr_ald 157 3) := rfl
theorem lkX3_ofBout_157 (Y : xw_Y) : xw_lk (tbX3_ofBout Y) 157 = some (tr_getf 160 1 2) := rfl
theorem lkX3_ofBout_160 (Y : xw_Y) : xw_lk (tbX3_ofBout Y) 160 = some (tr_getf 163 3 2) := rfl
theorem lkX3_ofBout_163 (Y : xw_Y) : xw_lk (tbX3_ofBout Y) 163 = some (tr_iret .int) := rfl
theorem lkX3_ofBout_164 (Y : xw_Y) : xw_lk (tbX3_ofBout Y) 164 = some (tr_ald 165 3) := rfl
theorem lkX3_ofBout_165 (Y : xw_Y) : xw_lk (tbX3_ofBout Y) 165 = some (tr_getf 168 1 3) := rfl
theorem lkX3_ofBout_168 (Y : xw_Y) : xw_lk (tbX3_ofBout Y) 168 = some (tr_getf 171 3 2) := rfl
theorem lkX3_ofBout_171 (Y : xw_Y) : xw_lk (tbX3_ofBout Y) 171 = some (tr_iret .int) := rfl
def tbL_live (Y : xw_Y) : List (Nat × xw_T) := [(0, tr_push 1 (.int 0)),
  (1, tr_ist 2 2),
  (2, tr_ild 3 2),
  (3, tr_ald 4 0),
  (4, tr_push 5 (.int 2)),
  (5, tr_callV 8 1 4 (ptX3_many Y) 0 0 0 0),
  (8, tr_ifc 11 30 (fun x y => y ≤ x)),
  (11, tr_ald 12 0),
  (12, tr_ild 13 2),
  (13, tr_push 15 (.int 6)),
  (15, tr_callV 18 2 4 (ptX3_ofBout Y) 0 0 0 0),
  (18, tr_ild 19 1),
  (19, tr_ifc 22 24 (fun x y => ¬ x = y)),
  (22, tr_ild 23 2),
  (23, tr_iret .int),
  (24, tr_inc 27 2 1),
  (27, tr_goto 2),
  (30, tr_push 31 (.int (-1))),
  (31, tr_iret .int)]
def ptL_live (Y : xw_Y) : xw_PT := xw_pt (tbL_live Y) 3 0 0
theorem lkL_live_0 (Y : xw_Y) : xw_lk (tbL_live Y) 0 = some (tr_push 1 (.int 0)) := rfl
theorem lkL_live_1 (Y : xw_Y) : xw_lk (tbL_live Y) 1 = some (tr_ist 2 2) := rfl
theorem lkL_live_2 (Y : xw_Y) : xw_lk (tbL_live Y) 2 = some (tr_ild 3 2) := rfl
theorem lkL_live_3 (Y : xw_Y) : xw_lk (tbL_live Y) 3 = some (tr_ald 4 0) := rfl
theorem lkL_live_4 (Y : xw_Y) : xw_lk (tbL_live Y) 4 = some (tr_push 5 (.int 2)) := rfl
theorem lkL_live_5 (Y : xw_Y) : xw_lk (tbL_live Y) 5 = some (tr_callV 8 1 4 (ptX3_many Y) 0 0 0 0) := rfl
theorem lkL_live_8 (Y : xw_Y) : xw_lk (tbL_live Y) 8 = some (tr_ifc 11 30 (fun x y => y ≤ x)) := rfl
theorem lkL_live_11 (Y : xw_Y) : xw_lk (tbL_live Y) 11 = some (tr_ald 12 0) := rfl
theorem lkL_live_12 (Y : xw_Y) : xw_lk (tbL_live Y) 12 = some (tr_ild 13 2) := rfl
theorem lkL_live_13 (Y : xw_Y) : xw_lk (tbL_live Y) 13 = some (tr_push 15 (.int 6)) := rfl
theorem lkL_live_15 (Y : xw_Y) : xw_lk (tbL_live Y) 15 = some (tr_callV 18 2 4 (ptX3_ofBout Y) 0 0 0 0) := rfl
theorem lkL_live_18 (Y : xw_Y) : xw_lk (tbL_live Y) 18 = some (tr_ild 19 1) := rfl
theorem lkL_live_19 (Y : xw_Y) : xw_lk (tbL_live Y) 19 = some (tr_ifc 22 24 (fun x y => ¬ x = y)) := rfl
theorem lkL_live_22 (Y : xw_Y) : xw_lk (tbL_live Y) 22 = some (tr_ild 23 2) := rfl
theorem lkL_live_23 (Y : xw_Y) : xw_lk (tbL_live Y) 23 = some (tr_iret .int) := rfl
theorem lkL_live_24 (Y : xw_Y) : xw_lk (tbL_live Y) 24 = some (tr_inc 27 2 1) := rfl
theorem lkL_live_27 (Y : xw_Y) : xw_lk (tbL_live Y) 27 = some (tr_goto 2) := rfl
theorem lkL_live_30 (Y : xw_Y) : xw_lk (tbL_live Y) 30 = some (tr_push 31 (.int (-1))) := rfl
theorem lkL_live_31 (Y : xw_Y) : xw_lk (tbL_live Y) 31 = some (tr_iret .int) := rfl
def tbX3_fencerAt (Y : xw_Y) : List (Nat × xw_T) := [(0, tr_ild 1 1),
  (1, tr_push 2 (.int 0)),
  (2, tr_ald 3 0),
  (3, tr_getf 6 4 0),
  (6, tr_callV 9 0 0 (ptJx4a65c_size_8abf5 Y) 0 0 0 0),
  (9, tr_push 10 (.int 1)),
  (10, tr_i2 11 (fun x y => x - y)),
  (11, tr_callS 14 3 (ptX3_isIn Y) 0 0 0 0),
  (14, tr_ifz 17 28 (fun x => ¬ x = 0)),
  (28, tr_ald 29 0),
  (29, tr_getf 32 4 0),
  (32, tr_ild 33 1),
  (33, tr_callV 36 1 0 (ptJx4a65c_get_915e3 Y) 0 0 0 0),
  (36, tr_cast 39 2),
  (39, tr_aret)]
def ptX3_fencerAt (Y : xw_Y) : xw_PT := xw_pt (tbX3_fencerAt Y) 2 0 0
theorem lkX3_fencerAt_0 (Y : xw_Y) : xw_lk (tbX3_fencerAt Y) 0 = some (tr_ild 1 1) := rfl
theorem lkX3_fencerAt_1 (Y : xw_Y) : xw_lk (tbX3_fencerAt Y) 1 = some (tr_push 2 (.int 0)) := rfl
theorem lkX3_fencerAt_2 (Y : xw_Y) : xw_lk (tbX3_fencerAt Y) 2 = some (tr_ald 3 0) := rfl
theorem lkX3_fencerAt_3 (Y : xw_Y) : xw_lk (tbX3_fencerAt Y) 3 = some (tr_getf 6 4 0) := rfl
theorem lkX3_fencerAt_6 (Y : xw_Y) : xw_lk (tbX3_fencerAt Y) 6 = some (tr_callV 9 0 0 (ptJx4a65c_size_8abf5 Y) 0 0 0 0) := rfl
theorem lkX3_fencerAt_9 (Y : xw_Y) : xw_lk (tbX3_fencerAt Y) 9 = some (tr_push 10 (.int 1)) := rfl
theorem lkX3_fencerAt_10 (Y : xw_Y) : xw_lk (tbX3_fencerAt Y) 10 = some (tr_i2 11 (fun x y => x - y)) := rfl
theorem lkX3_fencerAt_11 (Y : xw_Y) : xw_lk (tbX3_fencerAt Y) 11 = some (tr_callS 14 3 (ptX3_isIn Y) 0 0 0 0) := rfl
theorem lkX3_fencerAt_14 (Y : xw_Y) : xw_lk (tbX3_fencerAt Y) 14 = some (tr_ifz 17 28 (fun x => ¬ x = 0)) := rfl
theorem lkX3_fencerAt_28 (Y : xw_Y) : xw_lk (tbX3_fencerAt Y) 28 = some (tr_ald 29 0) := rfl
theorem lkX3_fencerAt_29 (Y : xw_Y) : xw_lk (tbX3_fencerAt Y) 29 = some (tr_getf 32 4 0) := rfl
theorem lkX3_fencerAt_32 (Y : xw_Y) : xw_lk (tbX3_fencerAt Y) 32 = some (tr_ild 33 1) := rfl
theorem lkX3_fencerAt_33 (Y : xw_Y) : xw_lk (tbX3_fencerAt Y) 33 = some (tr_callV 36 1 0 (ptJx4a65c_get_915e3 Y) 0 0 0 0) := rfl
theorem lkX3_fencerAt_36 (Y : xw_Y) : xw_lk (tbX3_fencerAt Y) 36 = some (tr_cast 39 2) := rfl
theorem lkX3_fencerAt_39 (Y : xw_Y) : xw_lk (tbX3_fencerAt Y) 39 = some (tr_aret) := rfl
def tbX3_of (Y : xw_Y) : List (Nat × xw_T) := [(0, tr_ald 1 0),
  (1, tr_ild 2 1),
  (2, tr_callV 5 1 4 (ptX3_fencerAt Y) 0 0 0 0),
  (5, tr_ast 6 3),
  (6, tr_ild 7 2),
  (7, tr_sw 0 6 [48, 53, 58, 63, 68, 81, 100] 105),
  (48, tr_ald 49 3),
  (49, tr_getf 52 2 1),
  (52, tr_iret .int),
  (53, tr_ald 54 3),
  (54, tr_getf 57 2 2),
  (57, tr_iret .int),
  (58, tr_ald 59 3),
  (59, tr_getf 62 2 3),
  (62, tr_iret .int),
  (63, tr_ald 64 3),
  (64, tr_getf 67 2 4),
  (67, tr_iret .int),
  (68, tr_ald 69 3),
  (69, tr_getf 72 2 5),
  (72, tr_ifz 75 79 (fun x => x = 0)),
  (75, tr_push 76 (.int 1)),
  (76, tr_goto 80),
  (79, tr_push 80 (.int 0)),
  (80, tr_iret .int),
  (81, tr_ald 82 3),
  (82, tr_getf 85 2 6),
  (85, tr_ifn 88 92),
  (88, tr_push 89 (.int (-1))),
  (89, tr_goto 99),
  (92, tr_ald 93 3),
  (93, tr_getf 96 2 6),
  (96, tr_getf 99 1 0),
  (99, tr_iret .int),
  (100, tr_ald 101 3),
  (101, tr_getf 104 2 7),
  (104, tr_iret .int)]
def ptX3_of (Y : xw_Y) : xw_PT := xw_pt (tbX3_of Y) 4 0 0
theorem lkX3_of_0 (Y : xw_Y) : xw_lk (tbX3_of Y) 0 = some (tr_ald 1 0) := rfl
theorem lkX3_of_1 (Y : xw_Y) : xw_lk (tbX3_of Y) 1 = some (tr_ild 2 1) := rfl
theorem lkX3_of_2 (Y : xw_Y) : xw_lk (tbX3_of Y) 2 = some (tr_callV 5 1 4 (ptX3_fencerAt Y) 0 0 0 0) := rfl
theorem lkX3_of_5 (Y : xw_Y) : xw_lk (tbX3_of Y) 5 = some (tr_ast 6 3) := rfl
theorem lkX3_of_6 (Y : xw_Y) : xw_lk (tbX3_of Y) 6 = some (tr_ild 7 2) := rfl
theorem lkX3_of_7 (Y : xw_Y) : xw_lk (tbX3_of Y) 7 = some (tr_sw 0 6 [48, 53, 58, 63, 68, 81, 100] 105) := rfl
theorem lkX3_of_48 (Y : xw_Y) : xw_lk (tbX3_of Y) 48 = some (tr_ald 49 3) := rfl
theorem lkX3_of_49 (Y : xw_Y) : xw_lk (tbX3_of Y) 49 = some (tr_getf 52 2 1) := rfl
theorem lkX3_of_52 (Y : xw_Y) : xw_lk (tbX3_of Y) 52 = some (tr_iret .int) := rfl
theorem lkX3_of_53 (Y : xw_Y) : xw_lk (tbX3_of Y) 53 = some (tr_ald 54 3) := rfl
theorem lkX3_of_54 (Y : xw_Y) : xw_lk (tbX3_of Y) 54 = some (tr_getf 57 2 2) := rfl
theorem lkX3_of_57 (Y : xw_Y) : xw_lk (tbX3_of Y) 57 = some (tr_iret .int) := rfl
theorem lkX3_of_58 (Y : xw_Y) : xw_lk (tbX3_of Y) 58 = some (tr_ald 59 3) := rfl
theorem lkX3_of_59 (Y : xw_Y) : xw_lk (tbX3_of Y) 59 = some (tr_getf 62 2 3) := rfl
theorem lkX3_of_62 (Y : xw_Y) : xw_lk (tbX3_of Y) 62 = some (tr_iret .int) := rfl
theorem lkX3_of_63 (Y : xw_Y) : xw_lk (tbX3_of Y) 63 = some (tr_ald 64 3) := rfl
theorem lkX3_of_64 (Y : xw_Y) : xw_lk (tbX3_of Y) 64 = some (tr_getf 67 2 4) := rfl
theorem lkX3_of_67 (Y : xw_Y) : xw_lk (tbX3_of Y) 67 = some (tr_iret .int) := rfl
theorem lkX3_of_68 (Y : xw_Y) : xw_lk (tbX3_of Y) 68 = some (tr_ald 69 3) := rfl
theorem lkX3_of_69 (Y : xw_Y) : xw_lk (tbX3_of Y) 69 = some (tr_getf 72 2 5) := rfl
theorem lkX3_of_72 (Y : xw_Y) : xw_lk (tbX3_of Y) 72 = some (tr_ifz 75 79 (fun x => x = 0)) := rfl
theorem lkX3_of_75 (Y : xw_Y) : xw_lk (tbX3_of Y) 75 = some (tr_push 76 (.int 1)) := rfl
theorem lkX3_of_76 (Y : xw_Y) : xw_lk (tbX3_of Y) 76 = some (tr_goto 80) := rfl
theorem lkX3_of_79 (Y : xw_Y) : xw_lk (tbX3_of Y) 79 = some (tr_push 80 (.int 0)) := rfl
theorem lkX3_of_80 (Y : xw_Y) : xw_lk (tbX3_of Y) 80 = some (tr_iret .int) := rfl
theorem lkX3_of_81 (Y : xw_Y) : xw_lk (tbX3_of Y) 81 = some (tr_ald 82 3) := rfl
theorem lkX3_of_82 (Y : xw_Y) : xw_lk (tbX3_of Y) 82 = some (tr_getf 85 2 6) := rfl
theorem lkX3_of_85 (Y : xw_Y) : xw_lk (tbX3_of Y) 85 = some (tr_ifn 88 92) := rfl
theorem lkX3_of_88 (Y : xw_Y) : xw_lk (tbX3_of Y) 88 = some (tr_push 89 (.int (-1))) := rfl
theorem lkX3_of_89 (Y : xw_Y) : xw_lk (tbX3_of Y) 89 = some (tr_goto 99) := rfl
theorem lkX3_of_92 (Y : xw_Y) : xw_lk (tbX3_of Y) 92 = some (tr_ald 93 3) := rfl
theorem lkX3_of_93 (Y : xw_Y) : xw_lk (tbX3_of Y) 93 = some (tr_getf 96 2 6) := rfl
theorem lkX3_of_96 (Y : xw_Y) : xw_lk (tbX3_of Y) 96 = some (tr_getf 99 1 0) := rfl
theorem lkX3_of_99 (Y : xw_Y) : xw_lk (tbX3_of Y) 99 = some (tr_iret .int) := rfl
theorem lkX3_of_100 (Y : xw_Y) : xw_lk (tbX3_of Y) 100 = some (tr_ald 101 3) := rfl
theorem lkX3_of_101 (Y : xw_Y) : xw_lk (tbX3_of Y) 101 = some (tr_getf 104 2 7) := rfl
theorem lkX3_of_104 (Y : xw_Y) : xw_lk (tbX3_of Y) 104 = some (tr_iret .int) := rfl
def tbX3_order (Y : xw_Y) : List (Nat × xw_T) := [(0, tr_ald 1 0),
  (1, tr_ild 2 1),
  (2, tr_callV 5 1 4 (ptX3_fencerAt Y) 0 0 0 0),
  (5, tr_ast 6 3),
  (6, tr_ild 7 2),
  (7, tr_sw 0 4 [40, 45, 50, 55, 60] 66),
  (40, tr_ald 41 3),
  (41, tr_getf 44 2 8),
  (44, tr_iret .int),
  (45, tr_ald 46 3),
  (46, tr_getf 49 2 9),
  (49, tr_iret .int),
  (50, tr_ald 51 3),
  (51, tr_getf 54 2 10),
  (54, tr_iret .int),
  (55, tr_ald 56 3),
  (56, tr_getf 59 2 11),
  (59, tr_iret .int),
  (60, tr_ald 61 0),
  (61, tr_ald 62 3),
  (62, tr_callV 65 1 4 (ptX3_aheadInOrder Y) 0 0 0 0),
  (65, tr_iret .int)]
def ptX3_order (Y : xw_Y) : xw_PT := xw_pt (tbX3_order Y) 4 0 0
theorem lkX3_order_0 (Y : xw_Y) : xw_lk (tbX3_order Y) 0 = some (tr_ald 1 0) := rfl
theorem lkX3_order_1 (Y : xw_Y) : xw_lk (tbX3_order Y) 1 = some (tr_ild 2 1) := rfl
theorem lkX3_order_2 (Y : xw_Y) : xw_lk (tbX3_order Y) 2 = some (tr_callV 5 1 4 (ptX3_fencerAt Y) 0 0 0 0) := rfl
theorem lkX3_order_5 (Y : xw_Y) : xw_lk (tbX3_order Y) 5 = some (tr_ast 6 3) := rfl
theorem lkX3_order_6 (Y : xw_Y) : xw_lk (tbX3_order Y) 6 = some (tr_ild 7 2) := rfl
theorem lkX3_order_7 (Y : xw_Y) : xw_lk (tbX3_order Y) 7 = some (tr_sw 0 4 [40, 45, 50, 55, 60] 66) := rfl
theorem lkX3_order_40 (Y : xw_Y) : xw_lk (tbX3_order Y) 40 = some (tr_ald 41 3) := rfl
theorem lkX3_order_41 (Y : xw_Y) : xw_lk (tbX3_order Y) 41 = some (tr_getf 44 2 8) := rfl
theorem lkX3_order_44 (Y : xw_Y) : xw_lk (tbX3_order Y) 44 = some (tr_iret .int) := rfl
theorem lkX3_order_45 (Y : xw_Y) : xw_lk (tbX3_order Y) 45 = some (tr_ald 46 3) := rfl
theorem lkX3_order_46 (Y : xw_Y) : xw_lk (tbX3_order Y) 46 = some (tr_getf 49 2 9) := rfl
theorem lkX3_order_49 (Y : xw_Y) : xw_lk (tbX3_order Y) 49 = some (tr_iret .int) := rfl
theorem lkX3_order_50 (Y : xw_Y) : xw_lk (tbX3_order Y) 50 = some (tr_ald 51 3) := rfl
theorem lkX3_order_51 (Y : xw_Y) : xw_lk (tbX3_order Y) 51 = some (tr_getf 54 2 10) := rfl
theorem lkX3_order_54 (Y : xw_Y) : xw_lk (tbX3_order Y) 54 = some (tr_iret .int) := rfl
theorem lkX3_order_55 (Y : xw_Y) : xw_lk (tbX3_order Y) 55 = some (tr_ald 56 3) := rfl
theorem lkX3_order_56 (Y : xw_Y) : xw_lk (tbX3_order Y) 56 = some (tr_getf 59 2 11) := rfl
theorem lkX3_order_59 (Y : xw_Y) : xw_lk (tbX3_order Y) 59 = some (tr_iret .int) := rfl
theorem lkX3_order_60 (Y : xw_Y) : xw_lk (tbX3_order Y) 60 = some (tr_ald 61 0) := rfl
theorem lkX3_order_61 (Y : xw_Y) : xw_lk (tbX3_order Y) 61 = some (tr_ald 62 3) := rfl
theorem lkX3_order_62 (Y : xw_Y) : xw_lk (tbX3_order Y) 62 = some (tr_callV 65 1 4 (ptX3_aheadInOrder Y) 0 0 0 0) := rfl
theorem lkX3_order_65 (Y : xw_Y) : xw_lk (tbX3_order Y) 65 = some (tr_iret .int) := rfl
def tbX1_isPlacedAheadOf (Y : xw_Y) : List (Nat × xw_T) := [(0, tr_ald 1 0),
  (1, tr_getf 4 2 5),
  (4, tr_ifz 7 42 (fun x => ¬ x = 0)),
  (7, tr_ald 8 1),
  (8, tr_getf 11 2 5),
  (11, tr_ifz 14 42 (fun x => ¬ x = 0)),
  (14, tr_ald 15 0),
  (15, tr_getf 18 2 13),
  (18, tr_ald 19 1),
  (19, tr_getf 22 2 13),
  (22, tr_ifc 25 42 (fun x y => x = y)),
  (25, tr_ald 26 0),
  (26, tr_getf 29 2 13),
  (29, tr_ald 30 1),
  (30, tr_getf 33 2 13),
  (33, tr_ifc 36 40 (fun x y => x ≤ y)),
  (36, tr_push 37 (.int 1)),
  (37, tr_goto 41),
  (40, tr_push 41 (.int 0)),
  (41, tr_iret .boolean),
  (42, tr_ald 43 0),
  (43, tr_ald 44 1),
  (44, tr_callV 47 1 2 (ptX1_isAheadOf Y) 0 0 0 0),
  (47, tr_iret .boolean)]
def ptX1_isPlacedAheadOf (Y : xw_Y) : xw_PT := xw_pt (tbX1_isPlacedAheadOf Y) 2 0 0
theorem lkX1_isPlacedAheadOf_0 (Y : xw_Y) : xw_lk (tbX1_isPlacedAheadOf Y) 0 = some (tr_ald 1 0) := rfl
theorem lkX1_isPlacedAheadOf_1 (Y : xw_Y) : xw_lk (tbX1_isPlacedAheadOf Y) 1 = some (tr_getf 4 2 5) := rfl
theorem lkX1_isPlacedAheadOf_4 (Y : xw_Y) : xw_lk (tbX1_isPlacedAheadOf Y) 4 = some (tr_ifz 7 42 (fun x => ¬ x = 0)) := rfl
theorem lkX1_isPlacedAheadOf_7 (Y : xw_Y) : xw_lk (tbX1_isPlacedAheadOf Y) 7 = some (tr_ald 8 1) := rfl
theorem lkX1_isPlacedAheadOf_8 (Y : xw_Y) : xw_lk (tbX1_isPlacedAheadOf Y) 8 = some (tr_getf 11 2 5) := rfl
theorem lkX1_isPlacedAheadOf_11 (Y : xw_Y) : xw_lk (tbX1_isPlacedAheadOf Y) 11 = some (tr_ifz 14 42 (fun x => ¬ x = 0)) := rfl
theorem lkX1_isPlacedAheadOf_14 (Y : xw_Y) : xw_lk (tbX1_isPlacedAheadOf Y) 14 = some (tr_ald 15 0) := rfl
theorem lkX1_isPlacedAheadOf_15 (Y : xw_Y) : xw_lk (tbX1_isPlacedAheadOf Y) 15 = some (tr_getf 18 2 13) := rfl
theorem lkX1_isPlacedAheadOf_18 (Y : xw_Y) : xw_lk (tbX1_isPlacedAheadOf Y) 18 = some (tr_ald 19 1) := rfl
theorem lkX1_isPlacedAheadOf_19 (Y : xw_Y) : xw_lk (tbX1_isPlacedAheadOf Y) 19 = some (tr_getf 22 2 13) := rfl
theorem lkX1_isPlacedAheadOf_22 (Y : xw_Y) : xw_lk (tbX1_isPlacedAheadOf Y) 22 = some (tr_ifc 25 42 (fun x y => x = y)) := rfl
theorem lkX1_isPlacedAheadOf_25 (Y : xw_Y) : xw_lk (tbX1_isPlacedAheadOf Y) 25 = some (tr_ald 26 0) := rfl
theorem lkX1_isPlacedAheadOf_26 (Y : xw_Y) : xw_lk (tbX1_isPlacedAheadOf Y) 26 = some (tr_getf 29 2 13) := rfl
theorem lkX1_isPlacedAheadOf_29 (Y : xw_Y) : xw_lk (tbX1_isPlacedAheadOf Y) 29 = some (tr_ald 30 1) := rfl
theorem lkX1_isPlacedAheadOf_30 (Y : xw_Y) : xw_lk (tbX1_isPlacedAheadOf Y) 30 = some (tr_getf 33 2 13) := rfl
theorem lkX1_isPlacedAheadOf_33 (Y : xw_Y) : xw_lk (tbX1_isPlacedAheadOf Y) 33 = some (tr_ifc 36 40 (fun x y => x ≤ y)) := rfl
theorem lkX1_isPlacedAheadOf_36 (Y : xw_Y) : xw_lk (tbX1_isPlacedAheadOf Y) 36 = some (tr_push 37 (.int 1)) := rfl
theorem lkX1_isPlacedAheadOf_37 (Y : xw_Y) : xw_lk (tbX1_isPlacedAheadOf Y) 37 = some (tr_goto 41) := rfl
theorem lkX1_isPlacedAheadOf_40 (Y : xw_Y) : xw_lk (tbX1_isPlacedAheadOf Y) 40 = some (tr_push 41 (.int 0)) := rfl
theorem lkX1_isPlacedAheadOf_41 (Y : xw_Y) : xw_lk (tbX1_isPlacedAheadOf Y) 41 = some (tr_iret .boolean) := rfl
theorem lkX1_isPlacedAheadOf_42 (Y : xw_Y) : xw_lk (tbX1_isPlacedAheadOf Y) 42 = some (tr_ald 43 0) := rfl
theorem lkX1_isPlacedAheadOf_43 (Y : xw_Y) : xw_lk (tbX1_isPlacedAheadOf Y) 43 = some (tr_ald 44 1) := rfl
theorem lkX1_isPlacedAheadOf_44 (Y : xw_Y) : xw_lk (tbX1_isPlacedAheadOf Y) 44 = some (tr_callV 47 1 2 (ptX1_isAheadOf Y) 0 0 0 0) := rfl
theorem lkX1_isPlacedAheadOf_47 (Y : xw_Y) : xw_lk (tbX1_isPlacedAheadOf Y) 47 = some (tr_iret .boolean) := rfl
def tbX3_place (Y : xw_Y) : List (Nat × xw_T) := [(0, tr_ald 1 0),
  (1, tr_ild 2 1),
  (2, tr_callV 5 1 4 (ptX3_fencerAt Y) 0 0 0 0),
  (5, tr_ast 6 2),
  (6, tr_push 7 (.int 0)),
  (7, tr_ist 8 3),
  (8, tr_push 9 (.int 0)),
  (9, tr_ist 11 4),
  (11, tr_ild 13 4),
  (13, tr_ald 14 0),
  (14, tr_getf 17 4 0),
  (17, tr_callV 20 0 0 (ptJx4a65c_size_8abf5 Y) 0 0 0 0),
  (20, tr_ifc 23 51 (fun x y => y ≤ x)),
  (23, tr_ald 24 0),
  (24, tr_getf 27 4 0),
  (27, tr_ild 29 4),
  (29, tr_callV 32 1 0 (ptJx4a65c_get_915e3 Y) 0 0 0 0),
  (32, tr_cast 35 2),
  (35, tr_ald 36 2),
  (36, tr_callV 39 1 2 (ptX1_isPlacedAheadOf Y) 0 0 0 0),
  (39, tr_ifz 42 45 (fun x => x = 0)),
  (42, tr_inc 45 3 1),
  (45, tr_inc 48 4 1),
  (48, tr_goto 11),
  (51, tr_ild 52 3),
  (52, tr_iret .int)]
def ptX3_place (Y : xw_Y) : xw_PT := xw_pt (tbX3_place Y) 5 0 0
theorem lkX3_place_0 (Y : xw_Y) : xw_lk (tbX3_place Y) 0 = some (tr_ald 1 0) := rfl
theorem lkX3_place_1 (Y : xw_Y) : xw_lk (tbX3_place Y) 1 = some (tr_ild 2 1) := rfl
theorem lkX3_place_2 (Y : xw_Y) : xw_lk (tbX3_place Y) 2 = some (tr_callV 5 1 4 (ptX3_fencerAt Y) 0 0 0 0) := rfl
theorem lkX3_place_5 (Y : xw_Y) : xw_lk (tbX3_place Y) 5 = some (tr_ast 6 2) := rfl
theorem lkX3_place_6 (Y : xw_Y) : xw_lk (tbX3_place Y) 6 = some (tr_push 7 (.int 0)) := rfl
theorem lkX3_place_7 (Y : xw_Y) : xw_lk (tbX3_place Y) 7 = some (tr_ist 8 3) := rfl
theorem lkX3_place_8 (Y : xw_Y) : xw_lk (tbX3_place Y) 8 = some (tr_push 9 (.int 0)) := rfl
theorem lkX3_place_9 (Y : xw_Y) : xw_lk (tbX3_place Y) 9 = some (tr_ist 11 4) := rfl
theorem lkX3_place_11 (Y : xw_Y) : xw_lk (tbX3_place Y) 11 = some (tr_ild 13 4) := rfl
theorem lkX3_place_13 (Y : xw_Y) : xw_lk (tbX3_place Y) 13 = some (tr_ald 14 0) := rfl
theorem lkX3_place_14 (Y : xw_Y) : xw_lk (tbX3_place Y) 14 = some (tr_getf 17 4 0) := rfl
theorem lkX3_place_17 (Y : xw_Y) : xw_lk (tbX3_place Y) 17 = some (tr_callV 20 0 0 (ptJx4a65c_size_8abf5 Y) 0 0 0 0) := rfl
theorem lkX3_place_20 (Y : xw_Y) : xw_lk (tbX3_place Y) 20 = some (tr_ifc 23 51 (fun x y => y ≤ x)) := rfl
theorem lkX3_place_23 (Y : xw_Y) : xw_lk (tbX3_place Y) 23 = some (tr_ald 24 0) := rfl
theorem lkX3_place_24 (Y : xw_Y) : xw_lk (tbX3_place Y) 24 = some (tr_getf 27 4 0) := rfl
theorem lkX3_place_27 (Y : xw_Y) : xw_lk (tbX3_place Y) 27 = some (tr_ild 29 4) := rfl
theorem lkX3_place_29 (Y : xw_Y) : xw_lk (tbX3_place Y) 29 = some (tr_callV 32 1 0 (ptJx4a65c_get_915e3 Y) 0 0 0 0) := rfl
theorem lkX3_place_32 (Y : xw_Y) : xw_lk (tbX3_place Y) 32 = some (tr_cast 35 2) := rfl
theorem lkX3_place_35 (Y : xw_Y) : xw_lk (tbX3_place Y) 35 = some (tr_ald 36 2) := rfl
theorem lkX3_place_36 (Y : xw_Y) : xw_lk (tbX3_place Y) 36 = some (tr_callV 39 1 2 (ptX1_isPlacedAheadOf Y) 0 0 0 0) := rfl
theorem lkX3_place_39 (Y : xw_Y) : xw_lk (tbX3_place Y) 39 = some (tr_ifz 42 45 (fun x => x = 0)) := rfl
theorem lkX3_place_42 (Y : xw_Y) : xw_lk (tbX3_place Y) 42 = some (tr_inc 45 3 1) := rfl
theorem lkX3_place_45 (Y : xw_Y) : xw_lk (tbX3_place Y) 45 = some (tr_inc 48 4 1) := rfl
theorem lkX3_place_48 (Y : xw_Y) : xw_lk (tbX3_place Y) 48 = some (tr_goto 11) := rfl
theorem lkX3_place_51 (Y : xw_Y) : xw_lk (tbX3_place Y) 51 = some (tr_ild 52 3) := rfl
theorem lkX3_place_52 (Y : xw_Y) : xw_lk (tbX3_place Y) 52 = some (tr_iret .int) := rfl
def tbX3_voidWith (Y : xw_Y) : List (Nat × xw_T) := [(0, tr_ald 1 0),
  (1, tr_ild 2 1),
  (2, tr_callV 5 1 4 (ptX3_fencerAt Y) 0 0 0 0),
  (5, tr_getf 8 2 8),
  (8, tr_iret .int)]
def ptX3_voidWith (Y : xw_Y) : xw_PT := xw_pt (tbX3_voidWith Y) 2 0 0
theorem lkX3_voidWith_0 (Y : xw_Y) : xw_lk (tbX3_voidWith Y) 0 = some (tr_ald 1 0) := rfl
theorem lkX3_voidWith_1 (Y : xw_Y) : xw_lk (tbX3_voidWith Y) 1 = some (tr_ild 2 1) := rfl
theorem lkX3_voidWith_2 (Y : xw_Y) : xw_lk (tbX3_voidWith Y) 2 = some (tr_callV 5 1 4 (ptX3_fencerAt Y) 0 0 0 0) := rfl
theorem lkX3_voidWith_5 (Y : xw_Y) : xw_lk (tbX3_voidWith Y) 5 = some (tr_getf 8 2 8) := rfl
theorem lkX3_voidWith_8 (Y : xw_Y) : xw_lk (tbX3_voidWith Y) 8 = some (tr_iret .int) := rfl
def tbL_isFair (Y : xw_Y) : List (Nat × xw_T) := [(0, tr_ald 1 0),
  (1, tr_push 2 (.int 2)),
  (2, tr_callV 5 1 4 (ptX3_many Y) 0 0 1 8),
  (5, tr_ist 6 3),
  (6, tr_ild 7 1),
  (7, tr_newi 9 Y.2.1 1 8),
  (9, tr_ast 11 4),
  (11, tr_push 12 (.int 0)),
  (12, tr_ist 14 5),
  (14, tr_ild 16 5),
  (16, tr_ild 17 3),
  (17, tr_ifc 20 259 (fun x y => y ≤ x)),
  (20, tr_ald 21 0),
  (21, tr_ild 23 5),
  (23, tr_push 24 (.int 0)),
  (24, tr_callV 27 2 4 (ptX3_ofBout Y) 0 0 1 8),
  (27, tr_ist 29 6),
  (29, tr_ald 30 0),
  (30, tr_ild 32 5),
  (32, tr_push 33 (.int 5)),
  (33, tr_callV 36 2 4 (ptX3_ofBout Y) 0 0 1 8),
  (36, tr_ist 38 7),
  (38, tr_ild 40 6),
  (40, tr_push 41 (.int 1)),
  (41, tr_ifc 44 48 (fun x y => ¬ x = y)),
  (44, tr_push 45 (.int 1)),
  (45, tr_goto 49),
  (48, tr_push 49 (.int 0)),
  (49, tr_ald 50 0),
  (50, tr_ild 52 5),
  (52, tr_push 54 (.int 6)),
  (54, tr_callV 57 2 4 (ptX3_ofBout Y) 0 0 1 8),
  (57, tr_ifz 60 64 (fun x => x < 0)),
  (60, tr_push 61 (.int 1)),
  (61, tr_goto 65),
  (64, tr_push 65 (.int 0)),
  (65, tr_ifc 68 164 (fun x y => ¬ x = y)),
  (68, tr_ild 70 6),
  (70, tr_push 71 (.int 2)),
  (71, tr_ifc 74 78 (fun x y => ¬ x = y)),
  (74, tr_push 75 (.int 1)),
  (75, tr_goto 79),
  (78, tr_push 79 (.int 0)),
  (79, tr_ild 81 7),
  (81, tr_ifz 84 88 (fun x => x < 0)),
  (84, tr_push 85 (.int 1)),
  (85, tr_goto 89),
  (88, tr_push 89 (.int 0)),
  (89, tr_ifc 92 164 (fun x y => ¬ x = y)),
  (92, tr_ald 93 0),
  (93, tr_ild 95 5),
  (95, tr_push 96 (.int 3)),
  (96, tr_callV 99 2 4 (ptX3_ofBout Y) 0 0 1 8),
  (99, tr_ald 100 0),
  (100, tr_ild 102 5),
  (102, tr_push 103 (.int 4)),
  (103, tr_callV 106 2 4 (ptX3_ofBout Y) 0 0 1 8),
  (106, tr_max 109 1 8),
  (109, tr_ild 111 5),
  (111, tr_ild 112 2),
  (112, tr_ifc 115 119 (fun x y => y ≤ x)),
  (115, tr_push 116 (.int 5)),
  (116, tr_goto 121),
  (119, tr_push 121 (.int 15)),
  (121, tr_ifc 124 164 (fun x y => y < x)),
  (124, tr_ild 126 6),
  (126, tr_push 127 (.int 1)),
  (127, tr_ifc 130 150 (fun x y => x = y)),
  (130, tr_ald 131 0),
  (131, tr_ild 133 5),
  (133, tr_push 135 (.int 7)),
  (135, tr_callV 138 2 4 (ptX3_ofBout Y) 0 0 1 8),
  (138, tr_ald 139 0),
  (139, tr_ild 141 5),
  (141, tr_push 143 (.int 8)),
  (143, tr_callV 146 2 4 (ptX3_ofBout Y) 0 0 1 8),
  (146, tr_i2 147 (fun x y => x + y)),
  (147, tr_ifz 150 164 (fun x => ¬ x = 0)),
  (150, tr_ald 151 0),
  (151, tr_ild 153 5),
  (153, tr_push 155 (.int 7)),
  (155, tr_callV 158 2 4 (ptX3_ofBout Y) 0 0 1 8),
  (158, tr_push 161 (.int 180)),
  (161, tr_ifc 164 166 (fun x y => x ≤ y)),
  (164, tr_push 165 (.int 0)),
  (165, tr_iret .boolean),
  (166, tr_ild 168 7),
  (168, tr_ifz 171 197 (fun x => x < 0)),
  (171, tr_ild 173 7),
  (173, tr_ald 174 0),
  (174, tr_ild 176 5),
  (176, tr_push 177 (.int 1)),
  (177, tr_callV 180 2 4 (ptX3_ofBout Y) 0 0 1 8),
  (180, tr_ifc 183 197 (fun x y => x = y)),
  (183, tr_ild 185 7),
  (185, tr_ald 186 0),
  (186, tr_ild 188 5),
  (188, tr_push 189 (.int 2)),
  (189, tr_callV 192 2 4 (ptX3_ofBout Y) 0 0 1 8),
  (192, tr_ifc 195 197 (fun x y => x = y)),
  (195, tr_push 196 (.int 0)),
  (196, tr_iret .boolean),
  (197, tr_push 198 (.int 1)),
  (198, tr_ist 200 8),
  (200, tr_ild 202 6),
  (202, tr_push 203 (.int 1)),
  (203, tr_ifc 206 253 (fun x y => ¬ x = y)),
  (206, tr_ild 208 8),
  (208, tr_push 209 (.int 3)),
  (209, tr_ifc 212 253 (fun x y => y ≤ x)),
  (212, tr_ald 214 4),
  (214, tr_ald 215 0),
  (215, tr_ild 217 5),
  (217, tr_ild 219 8),
  (219, tr_callV 222 2 4 (ptX3_ofBout Y) 0 0 1 8),
  (222, tr_dup2 223),
  (223, tr_iald 224 Y.2.1),
  (224, tr_push 225 (.int 1)),
  (225, tr_i2 226 (fun x y => x + y)),
  (226, tr_iast 227 Y.2.1),
  (227, tr_ald 228 0),
  (228, tr_ald 229 0),
  (229, tr_ild 231 5),
  (231, tr_ild 233 8),
  (233, tr_callV 236 2 4 (ptX3_ofBout Y) 0 0 1 8),
  (236, tr_push 237 (.int 5)),
  (237, tr_callV 240 2 4 (ptX3_of Y) 0 0 1 8),
  (240, tr_ild 242 5),
  (242, tr_ifc 245 247 (fun x y => x = y)),
  (245, tr_push 246 (.int 0)),
  (246, tr_iret .boolean),
  (247, tr_inc 250 8 1),
  (250, tr_goto 200),
  (253, tr_inc 256 5 1),
  (256, tr_goto 14),
  (259, tr_ild 260 2),
  (260, tr_ist 262 5),
  (262, tr_ald 263 0),
  (263, tr_push 265 (.int 9)),
  (265, tr_callV 268 1 4 (ptX3_many Y) 0 0 1 8),
  (268, tr_push 269 (.int 2)),
  (269, tr_i2z 270 (fun x y => x / y)),
  (270, tr_ist 272 6),
  (272, tr_ild 274 6),
  (274, tr_push 275 (.int 1)),
  (275, tr_ifc 278 345 (fun x y => x ≤ y)),
  (278, tr_push 279 (.int 0)),
  (279, tr_ist 281 7),
  (281, tr_ild 283 7),
  (283, tr_ild 285 6),
  (285, tr_ifc 288 329 (fun x y => y ≤ x)),
  (288, tr_ald 289 0),
  (289, tr_ild 291 5),
  (291, tr_ild 293 6),
  (293, tr_i2 294 (fun x y => x + y)),
  (294, tr_ild 296 7),
  (296, tr_push 297 (.int 2)),
  (297, tr_i2z 298 (fun x y => x / y)),
  (298, tr_i2 299 (fun x y => x + y)),
  (299, tr_push 300 (.int 1)),
  (300, tr_ild 302 7),
  (302, tr_push 303 (.int 2)),
  (303, tr_i2z 304 (fun x y => x - x / y * y)),
  (304, tr_i2 305 (fun x y => x + y)),
  (305, tr_callV 308 2 4 (ptX3_ofBout Y) 0 0 1 8),
  (308, tr_ald 309 0),
  (309, tr_ild 311 5),
  (311, tr_ild 313 7),
  (313, tr_i2 314 (fun x y => x + y)),
  (314, tr_push 315 (.int 5)),
  (315, tr_callV 318 2 4 (ptX3_ofBout Y) 0 0 1 8),
  (318, tr_ifc 321 323 (fun x y => x = y)),
  (321, tr_push 322 (.int 0)),
  (322, tr_iret .boolean),
  (323, tr_inc 326 7 1),
  (326, tr_goto 281),
  (329, tr_ild 331 5),
  (331, tr_ild 333 6),
  (333, tr_i2 334 (fun x y => x + y)),
  (334, tr_ist 336 5),
  (336, tr_ild 338 6),
  (338, tr_push 339 (.int 2)),
  (339, tr_i2z 340 (fun x y => x / y)),
  (340, tr_ist 342 6),
  (342, tr_goto 272),
  (345, tr_push 346 (.int 0)),
  (346, tr_ist 348 6),
  (348, tr_push 349 (.int 0)),
  (349, tr_ist 351 7),
  (351, tr_push 352 (.int 0)),
  (352, tr_ist 354 8),
  (354, tr_ild 356 8),
  (356, tr_ild 357 1),
  (357, tr_ifc 360 536 (fun x y => y ≤ x)),
  (360, tr_ald 362 4),
  (362, tr_ild 364 8),
  (364, tr_iald 365 Y.2.1),
  (365, tr_push 366 (.int 1)),
  (366, tr_ifc 369 400 (fun x y => y < x)),
  (369, tr_ald 371 4),
  (371, tr_ild 373 8),
  (373, tr_iald 374 Y.2.1),
  (374, tr_ifz 377 381 (fun x => ¬ x = 0)),
  (377, tr_push 378 (.int 1)),
  (378, tr_goto 382),
  (381, tr_push 382 (.int 0)),
  (382, tr_ald 383 0),
  (383, tr_ild 385 8),
  (385, tr_push 386 (.int 5)),
  (386, tr_callV 389 2 4 (ptX3_of Y) 0 0 1 8),
  (389, tr_ifz 392 396 (fun x => 0 ≤ x)),
  (392, tr_push 393 (.int 1)),
  (393, tr_goto 397),
  (396, tr_push 397 (.int 0)),
  (397, tr_ifc 400 402 (fun x y => x = y)),
  (400, tr_push 401 (.int 0)),
  (401, tr_iret .boolean),
  (402, tr_ild 404 6),
  (404, tr_push 405 (.int 1)),
  (405, tr_ald 406 0),
  (406, tr_ild 408 8),
  (408, tr_push 409 (.int 4)),
  (409, tr_callV 412 2 4 (ptX3_order Y) 0 0 1 8),
  (412, tr_i2 413 (fun x y => x <<< (y &&& 31))),
  (413, tr_i2 414 (fun x y => x ||| y)),
  (414, tr_ist 416 6),
  (416, tr_ild 418 7),
  (418, tr_push 419 (.int 1)),
  (419, tr_ald 420 0),
  (420, tr_ild 422 8),
  (422, tr_callV 425 1 4 (ptX3_place Y) 0 0 1 8),
  (425, tr_i2 426 (fun x y => x <<< (y &&& 31))),
  (426, tr_i2 427 (fun x y => x ||| y)),
  (427, tr_ist 429 7),
  (429, tr_ald 430 0),
  (430, tr_ild 432 8),
  (432, tr_push 433 (.int 1)),
  (433, tr_callV 436 2 4 (ptX3_order Y) 0 0 1 8),
  (436, tr_ald 437 0),
  (437, tr_ild 439 8),
  (439, tr_push 440 (.int 0)),
  (440, tr_callV 443 2 4 (ptX3_order Y) 0 0 1 8),
  (443, tr_ifc 446 462 (fun x y => y < x)),
  (446, tr_ald 447 0),
  (447, tr_ild 449 8),
  (449, tr_callV 452 1 4 (ptX3_voidWith Y) 0 0 1 8),
  (452, tr_ald 453 0),
  (453, tr_ild 455 8),
  (455, tr_push 456 (.int 0)),
  (456, tr_callV 459 2 4 (ptX3_order Y) 0 0 1 8),
  (459, tr_ifc 462 464 (fun x y => x = y)),
  (462, tr_push 463 (.int 0)),
  (463, tr_iret .boolean),
  (464, tr_push 465 (.int 0)),
  (465, tr_ist 467 9),
  (467, tr_ild 469 9),
  (469, tr_ild 470 1),
  (470, tr_ifc 473 530 (fun x y => y ≤ x)),
  (473, tr_ald 474 0),
  (474, tr_ild 476 8),
  (476, tr_push 477 (.int 4)),
  (477, tr_callV 480 2 4 (ptX3_of Y) 0 0 1 8),
  (480, tr_ald 481 0),
  (481, tr_ild 483 9),
  (483, tr_push 484 (.int 4)),
  (484, tr_callV 487 2 4 (ptX3_of Y) 0 0 1 8),
  (487, tr_ifc 490 524 (fun x y => y ≤ x)),
  (490, tr_ald 491 0),
  (491, tr_ild 493 8),
  (493, tr_push 494 (.int 4)),
  (494, tr_callV 497 2 4 (ptX3_order Y) 0 0 1 8),
  (497, tr_ald 498 0),
  (498, tr_ild 500 9),
  (500, tr_push 501 (.int 4)),
  (501, tr_callV 504 2 4 (ptX3_order Y) 0 0 1 8),
  (504, tr_ifc 507 522 (fun x y => y < x)),
  (507, tr_ald 508 0),
  (508, tr_ild 510 8),
  (510, tr_callV 513 1 4 (ptX3_place Y) 0 0 1 8),
  (513, tr_ald 514 0),
  (514, tr_ild 516 9),
  (516, tr_callV 519 1 4 (ptX3_place Y) 0 0 1 8),
  (519, tr_ifc 522 524 (fun x y => x ≤ y)),
  (522, tr_push 523 (.int 0)),
  (523, tr_iret .boolean),
  (524, tr_inc 527 9 1),
  (527, tr_goto 467),
  (530, tr_inc 533 8 1),
  (533, tr_goto 354),
  (536, tr_ild 538 6),
  (538, tr_push 539 (.int 1)),
  (539, tr_ild 540 1),
  (540, tr_i2 541 (fun x y => x <<< (y &&& 31))),
  (541, tr_push 542 (.int 1)),
  (542, tr_i2 543 (fun x y => x - y)),
  (543, tr_ifc 546 585 (fun x y => ¬ x = y)),
  (546, tr_ild 548 7),
  (548, tr_ild 550 6),
  (550, tr_ifc 553 585 (fun x y => ¬ x = y)),
  (553, tr_ald 554 0),
  (554, tr_push 555 (.int 3)),
  (555, tr_callV 558 1 4 (ptX3_many Y) 0 0 1 8),
  (558, tr_ald 559 0),
  (559, tr_push 560 (.int 4)),
  (560, tr_callV 563 1 4 (ptX3_many Y) 0 0 1 8),
  (563, tr_i2 564 (fun x y => x + y)),
  (564, tr_ald 565 0),
  (565, tr_push 566 (.int 5)),
  (566, tr_callV 569 1 4 (ptX3_many Y) 0 0 1 8),
  (569, tr_i2 570 (fun x y => x + y)),
  (570, tr_ald 571 0),
  (571, tr_push 573 (.int 6)),
  (573, tr_callV 576 1 4 (ptX3_many Y) 0 0 1 8),
  (576, tr_i2 577 (fun x y => x + y)),
  (577, tr_ild 578 3),
  (578, tr_ifc 581 585 (fun x y => ¬ x = y)),
  (581, tr_push 582 (.int 1)),
  (582, tr_goto 586),
  (585, tr_push 586 (.int 0)),
  (586, tr_iret .boolean)]
def ptL_isFair (Y : xw_Y) : xw_PT := xw_pt (tbL_isFair Y) 10 1 8
theorem lkL_isFair_0 (Y : xw_Y) : xw_lk (tbL_isFair Y) 0 = some (tr_ald 1 0) := rfl
theorem lkL_isFair_1 (Y : xw_Y) : xw_lk (tbL_isFair Y) 1 = some (tr_push 2 (.int 2)) := rfl
theorem lkL_isFair_2 (Y : xw_Y) : xw_lk (tbL_isFair Y) 2 = some (tr_callV 5 1 4 (ptX3_many Y) 0 0 1 8) := rfl
theorem lkL_isFair_5 (Y : xw_Y) : xw_lk (tbL_isFair Y) 5 = some (tr_ist 6 3) := rfl
theorem lkL_isFair_6 (Y : xw_Y) : xw_lk (tbL_isFair Y) 6 = some (tr_ild 7 1) := rfl
theorem lkL_isFair_7 (Y : xw_Y) : xw_lk (tbL_isFair Y) 7 = some (tr_newi 9 Y.2.1 1 8) := rfl
theorem lkL_isFair_9 (Y : xw_Y) : xw_lk (tbL_isFair Y) 9 = some (tr_ast 11 4) := rfl
theorem lkL_isFair_11 (Y : xw_Y) : xw_lk (tbL_isFair Y) 11 = some (tr_push 12 (.int 0)) := rfl
theorem lkL_isFair_12 (Y : xw_Y) : xw_lk (tbL_isFair Y) 12 = some (tr_ist 14 5) := rfl
theorem lkL_isFair_14 (Y : xw_Y) : xw_lk (tbL_isFair Y) 14 = some (tr_ild 16 5) := rfl
theorem lkL_isFair_16 (Y : xw_Y) : xw_lk (tbL_isFair Y) 16 = some (tr_ild 17 3) := rfl
theorem lkL_isFair_17 (Y : xw_Y) : xw_lk (tbL_isFair Y) 17 = some (tr_ifc 20 259 (fun x y => y ≤ x)) := rfl
theorem lkL_isFair_20 (Y : xw_Y) : xw_lk (tbL_isFair Y) 20 = some (tr_ald 21 0) := rfl
theorem lkL_isFair_21 (Y : xw_Y) : xw_lk (tbL_isFair Y) 21 = some (tr_ild 23 5) := rfl
theorem lkL_isFair_23 (Y : xw_Y) : xw_lk (tbL_isFair Y) 23 = some (tr_push 24 (.int 0)) := rfl
theorem lkL_isFair_24 (Y : xw_Y) : xw_lk (tbL_isFair Y) 24 = some (tr_callV 27 2 4 (ptX3_ofBout Y) 0 0 1 8) := rfl
theorem lkL_isFair_27 (Y : xw_Y) : xw_lk (tbL_isFair Y) 27 = some (tr_ist 29 6) := rfl
theorem lkL_isFair_29 (Y : xw_Y) : xw_lk (tbL_isFair Y) 29 = some (tr_ald 30 0) := rfl
theorem lkL_isFair_30 (Y : xw_Y) : xw_lk (tbL_isFair Y) 30 = some (tr_ild 32 5) := rfl
theorem lkL_isFair_32 (Y : xw_Y) : xw_lk (tbL_isFair Y) 32 = some (tr_push 33 (.int 5)) := rfl
theorem lkL_isFair_33 (Y : xw_Y) : xw_lk (tbL_isFair Y) 33 = some (tr_callV 36 2 4 (ptX3_ofBout Y) 0 0 1 8) := rfl
theorem lkL_isFair_36 (Y : xw_Y) : xw_lk (tbL_isFair Y) 36 = some (tr_ist 38 7) := rfl
theorem lkL_isFair_38 (Y : xw_Y) : xw_lk (tbL_isFair Y) 38 = some (tr_ild 40 6) := rfl
theorem lkL_isFair_40 (Y : xw_Y) : xw_lk (tbL_isFair Y) 40 = some (tr_push 41 (.int 1)) := rfl
theorem lkL_isFair_41 (Y : xw_Y) : xw_lk (tbL_isFair Y) 41 = some (tr_ifc 44 48 (fun x y => ¬ x = y)) := rfl
theorem lkL_isFair_44 (Y : xw_Y) : xw_lk (tbL_isFair Y) 44 = some (tr_push 45 (.int 1)) := rfl
theorem lkL_isFair_45 (Y : xw_Y) : xw_lk (tbL_isFair Y) 45 = some (tr_goto 49) := rfl
theorem lkL_isFair_48 (Y : xw_Y) : xw_lk (tbL_isFair Y) 48 = some (tr_push 49 (.int 0)) := rfl
theorem lkL_isFair_49 (Y : xw_Y) : xw_lk (tbL_isFair Y) 49 = some (tr_ald 50 0) := rfl
theorem lkL_isFair_50 (Y : xw_Y) : xw_lk (tbL_isFair Y) 50 = some (tr_ild 52 5) := rfl
theorem lkL_isFair_52 (Y : xw_Y) : xw_lk (tbL_isFair Y) 52 = some (tr_push 54 (.int 6)) := rfl
theorem lkL_isFair_54 (Y : xw_Y) : xw_lk (tbL_isFair Y) 54 = some (tr_callV 57 2 4 (ptX3_ofBout Y) 0 0 1 8) := rfl
theorem lkL_isFair_57 (Y : xw_Y) : xw_lk (tbL_isFair Y) 57 = some (tr_ifz 60 64 (fun x => x < 0)) := rfl
theorem lkL_isFair_60 (Y : xw_Y) : xw_lk (tbL_isFair Y) 60 = some (tr_push 61 (.int 1)) := rfl
theorem lkL_isFair_61 (Y : xw_Y) : xw_lk (tbL_isFair Y) 61 = some (tr_goto 65) := rfl
theorem lkL_isFair_64 (Y : xw_Y) : xw_lk (tbL_isFair Y) 64 = some (tr_push 65 (.int 0)) := rfl
theorem lkL_isFair_65 (Y : xw_Y) : xw_lk (tbL_isFair Y) 65 = some (tr_ifc 68 164 (fun x y => ¬ x = y)) := rfl
theorem lkL_isFair_68 (Y : xw_Y) : xw_lk (tbL_isFair Y) 68 = some (tr_ild 70 6) := rfl
theorem lkL_isFair_70 (Y : xw_Y) : xw_lk (tbL_isFair Y) 70 = some (tr_push 71 (.int 2)) := rfl
theorem lkL_isFair_71 (Y : xw_Y) : xw_lk (tbL_isFair Y) 71 = some (tr_ifc 74 78 (fun x y => ¬ x = y)) := rfl
theorem lkL_isFair_74 (Y : xw_Y) : xw_lk (tbL_isFair Y) 74 = some (tr_push 75 (.int 1)) := rfl
theorem lkL_isFair_75 (Y : xw_Y) : xw_lk (tbL_isFair Y) 75 = some (tr_goto 79) := rfl
theorem lkL_isFair_78 (Y : xw_Y) : xw_lk (tbL_isFair Y) 78 = some (tr_push 79 (.int 0)) := rfl
theorem lkL_isFair_79 (Y : xw_Y) : xw_lk (tbL_isFair Y) 79 = some (tr_ild 81 7) := rfl
theorem lkL_isFair_81 (Y : xw_Y) : xw_lk (tbL_isFair Y) 81 = some (tr_ifz 84 88 (fun x => x < 0)) := rfl
theorem lkL_isFair_84 (Y : xw_Y) : xw_lk (tbL_isFair Y) 84 = some (tr_push 85 (.int 1)) := rfl
theorem lkL_isFair_85 (Y : xw_Y) : xw_lk (tbL_isFair Y) 85 = some (tr_goto 89) := rfl
theorem lkL_isFair_88 (Y : xw_Y) : xw_lk (tbL_isFair Y) 88 = some (tr_push 89 (.int 0)) := rfl
theorem lkL_isFair_89 (Y : xw_Y) : xw_lk (tbL_isFair Y) 89 = some (tr_ifc 92 164 (fun x y => ¬ x = y)) := rfl
theorem lkL_isFair_92 (Y : xw_Y) : xw_lk (tbL_isFair Y) 92 = some (tr_ald 93 0) := rfl
theorem lkL_isFair_93 (Y : xw_Y) : xw_lk (tbL_isFair Y) 93 = some (tr_ild 95 5) := rfl
theorem lkL_isFair_95 (Y : xw_Y) : xw_lk (tbL_isFair Y) 95 = some (tr_push 96 (.int 3)) := rfl
theorem lkL_isFair_96 (Y : xw_Y) : xw_lk (tbL_isFair Y) 96 = some (tr_callV 99 2 4 (ptX3_ofBout Y) 0 0 1 8) := rfl
theorem lkL_isFair_99 (Y : xw_Y) : xw_lk (tbL_isFair Y) 99 = some (tr_ald 100 0) := rfl
theorem lkL_isFair_100 (Y : xw_Y) : xw_lk (tbL_isFair Y) 100 = some (tr_ild 102 5) := rfl
theorem lkL_isFair_102 (Y : xw_Y) : xw_lk (tbL_isFair Y) 102 = some (tr_push 103 (.int 4)) := rfl
theorem lkL_isFair_103 (Y : xw_Y) : xw_lk (tbL_isFair Y) 103 = some (tr_callV 106 2 4 (ptX3_ofBout Y) 0 0 1 8) := rfl
theorem lkL_isFair_106 (Y : xw_Y) : xw_lk (tbL_isFair Y) 106 = some (tr_max 109 1 8) := rfl
theorem lkL_isFair_109 (Y : xw_Y) : xw_lk (tbL_isFair Y) 109 = some (tr_ild 111 5) := rfl
theorem lkL_isFair_111 (Y : xw_Y) : xw_lk (tbL_isFair Y) 111 = some (tr_ild 112 2) := rfl
theorem lkL_isFair_112 (Y : xw_Y) : xw_lk (tbL_isFair Y) 112 = some (tr_ifc 115 119 (fun x y => y ≤ x)) := rfl
theorem lkL_isFair_115 (Y : xw_Y) : xw_lk (tbL_isFair Y) 115 = some (tr_push 116 (.int 5)) := rfl
theorem lkL_isFair_116 (Y : xw_Y) : xw_lk (tbL_isFair Y) 116 = some (tr_goto 121) := rfl
theorem lkL_isFair_119 (Y : xw_Y) : xw_lk (tbL_isFair Y) 119 = some (tr_push 121 (.int 15)) := rfl
theorem lkL_isFair_121 (Y : xw_Y) : xw_lk (tbL_isFair Y) 121 = some (tr_ifc 124 164 (fun x y => y < x)) := rfl
theorem lkL_isFair_124 (Y : xw_Y) : xw_lk (tbL_isFair Y) 124 = some (tr_ild 126 6) := rfl
theorem lkL_isFair_126 (Y : xw_Y) : xw_lk (tbL_isFair Y) 126 = some (tr_push 127 (.int 1)) := rfl
theorem lkL_isFair_127 (Y : xw_Y) : xw_lk (tbL_isFair Y) 127 = some (tr_ifc 130 150 (fun x y => x = y)) := rfl
theorem lkL_isFair_130 (Y : xw_Y) : xw_lk (tbL_isFair Y) 130 = some (tr_ald 131 0) := rfl
theorem lkL_isFair_131 (Y : xw_Y) : xw_lk (tbL_isFair Y) 131 = some (tr_ild 133 5) := rfl
theorem lkL_isFair_133 (Y : xw_Y) : xw_lk (tbL_isFair Y) 133 = some (tr_push 135 (.int 7)) := rfl
theorem lkL_isFair_135 (Y : xw_Y) : xw_lk (tbL_isFair Y) 135 = some (tr_callV 138 2 4 (ptX3_ofBout Y) 0 0 1 8) := rfl
theorem lkL_isFair_138 (Y : xw_Y) : xw_lk (tbL_isFair Y) 138 = some (tr_ald 139 0) := rfl
theorem lkL_isFair_139 (Y : xw_Y) : xw_lk (tbL_isFair Y) 139 = some (tr_ild 141 5) := rfl
theorem lkL_isFair_141 (Y : xw_Y) : xw_lk (tbL_isFair Y) 141 = some (tr_push 143 (.int 8)) := rfl
theorem lkL_isFair_143 (Y : xw_Y) : xw_lk (tbL_isFair Y) 143 = some (tr_callV 146 2 4 (ptX3_ofBout Y) 0 0 1 8) := rfl
theorem lkL_isFair_146 (Y : xw_Y) : xw_lk (tbL_isFair Y) 146 = some (tr_i2 147 (fun x y => x + y)) := rfl
theorem lkL_isFair_147 (Y : xw_Y) : xw_lk (tbL_isFair Y) 147 = some (tr_ifz 150 164 (fun x => ¬ x = 0)) := rfl
theorem lkL_isFair_150 (Y : xw_Y) : xw_lk (tbL_isFair Y) 150 = some (tr_ald 151 0) := rfl
theorem lkL_isFair_151 (Y : xw_Y) : xw_lk (tbL_isFair Y) 151 = some (tr_ild 153 5) := rfl
theorem lkL_isFair_153 (Y : xw_Y) : xw_lk (tbL_isFair Y) 153 = some (tr_push 155 (.int 7)) := rfl
set_option maxRecDepth 20000 in
theorem lkL_isFair_155 (Y : xw_Y) : xw_lk (tbL_isFair Y) 155 = some (tr_callV 158 2 4 (ptX3_ofBout Y) 0 0 1 8) := rfl
set_option maxRecDepth 20000 in
theorem lkL_isFair_158 (Y : xw_Y) : xw_lk (tbL_isFair Y) 158 = some (tr_push 161 (.int 180)) := rfl
set_option maxRecDepth 20000 in
theorem lkL_isFair_161 (Y : xw_Y) : xw_lk (tbL_isFair Y) 161 = some (tr_ifc 164 166 (fun x y => x ≤ y)) := rfl
set_option maxRecDepth 20000 in
theorem lkL_isFair_164 (Y : xw_Y) : xw_lk (tbL_isFair Y) 164 = some (tr_push 165 (.int 0)) := rfl
set_option maxRecDepth 20000 in
theorem lkL_isFair_165 (Y : xw_Y) : xw_lk (tbL_isFair Y) 165 = some (tr_iret .boolean) := rfl
set_option maxRecDepth 20000 in
theorem lkL_isFair_166 (Y : xw_Y) : xw_lk (tbL_isFair Y) 166 = some (tr_ild 168 7) := rfl
set_option maxRecDepth 20000 in
theorem lkL_isFair_168 (Y : xw_Y) : xw_lk (tbL_isFair Y) 168 = some (tr_ifz 171 197 (fun x => x < 0)) := rfl
set_option maxRecDepth 20000 in
theorem lkL_isFair_171 (Y : xw_Y) : xw_lk (tbL_isFair Y) 171 = some (tr_ild 173 7) := rfl
set_option maxRecDepth 20000 in
theorem lkL_isFair_173 (Y : xw_Y) : xw_lk (tbL_isFair Y) 173 = some (tr_ald 174 0) := rfl
set_option maxRecDepth 20000 in
theorem lkL_isFair_174 (Y : xw_Y) : xw_lk (tbL_isFair Y) 174 = some (tr_ild 176 5) := rfl
set_option maxRecDepth 20000 in
theorem lkL_isFair_176 (Y : xw_Y) : xw_lk (tbL_isFair Y) 176 = some (tr_push 177 (.int 1)) := rfl
set_option maxRecDepth 20000 in
theorem lkL_isFair_177 (Y : xw_Y) : xw_lk (tbL_isFair Y) 177 = some (tr_callV 180 2 4 (ptX3_ofBout Y) 0 0 1 8) := rfl
set_option maxRecDepth 20000 in
theorem lkL_isFair_180 (Y : xw_Y) : xw_lk (tbL_isFair Y) 180 = some (tr_ifc 183 197 (fun x y => x = y)) := rfl
set_option maxRecDepth 20000 in
theorem lkL_isFair_183 (Y : xw_Y) : xw_lk (tbL_isFair Y) 183 = some (tr_ild 185 7) := rfl
set_option maxRecDepth 20000 in
theorem lkL_isFair_185 (Y : xw_Y) : xw_lk (tbL_isFair Y) 185 = some (tr_ald 186 0) := rfl
set_option maxRecDepth 20000 in
theorem lkL_isFair_186 (Y : xw_Y) : xw_lk (tbL_isFair Y) 186 = some (tr_ild 188 5) := rfl
set_option maxRecDepth 20000 in
theorem lkL_isFair_188 (Y : xw_Y) : xw_lk (tbL_isFair Y) 188 = some (tr_push 189 (.int 2)) := rfl
set_option maxRecDepth 20000 in
theorem lkL_isFair_189 (Y : xw_Y) : xw_lk (tbL_isFair Y) 189 = some (tr_callV 192 2 4 (ptX3_ofBout Y) 0 0 1 8) := rfl
set_option maxRecDepth 20000 in
theorem lkL_isFair_192 (Y : xw_Y) : xw_lk (tbL_isFair Y) 192 = some (tr_ifc 195 197 (fun x y => x = y)) := rfl
set_option maxRecDepth 20000 in
theorem lkL_isFair_195 (Y : xw_Y) : xw_lk (tbL_isFair Y) 195 = some (tr_push 196 (.int 0)) := rfl
set_option maxRecDepth 20000 in
theorem lkL_isFair_196 (Y : xw_Y) : xw_lk (tbL_isFair Y) 196 = some (tr_iret .boolean) := rfl
set_option maxRecDepth 20000 in
theorem lkL_isFair_197 (Y : xw_Y) : xw_lk (tbL_isFair Y) 197 = some (tr_push 198 (.int 1)) := rfl
set_option maxRecDepth 20000 in
theorem lkL_isFair_198 (Y : xw_Y) : xw_lk (tbL_isFair Y) 198 = some (tr_ist 200 8) := rfl
set_option maxRecDepth 20000 in
theorem lkL_isFair_200 (Y : xw_Y) : xw_lk (tbL_isFair Y) 200 = some (tr_ild 202 6) := rfl
set_option maxRecDepth 20000 in
theorem lkL_isFair_202 (Y : xw_Y) : xw_lk (tbL_isFair Y) 202 = some (tr_push 203 (.int 1)) := rfl
set_option maxRecDepth 20000 in
theorem lkL_isFair_203 (Y : xw_Y) : xw_lk (tbL_isFair Y) 203 = some (tr_ifc 206 253 (fun x y => ¬ x = y)) := rfl
set_option maxRecDepth 20000 in
theorem lkL_isFair_206 (Y : xw_Y) : xw_lk (tbL_isFair Y) 206 = some (tr_ild 208 8) := rfl
set_option maxRecDepth 20000 in
theorem lkL_isFair_208 (Y : xw_Y) : xw_lk (tbL_isFair Y) 208 = some (tr_push 209 (.int 3)) := rfl
set_option maxRecDepth 20000 in
theorem lkL_isFair_209 (Y : xw_Y) : xw_lk (tbL_isFair Y) 209 = some (tr_ifc 212 253 (fun x y => y ≤ x)) := rfl
set_option maxRecDepth 20000 in
theorem lkL_isFair_212 (Y : xw_Y) : xw_lk (tbL_isFair Y) 212 = some (tr_ald 214 4) := rfl
set_option maxRecDepth 20000 in
theorem lkL_isFair_214 (Y : xw_Y) : xw_lk (tbL_isFair Y) 214 = some (tr_ald 215 0) := rfl
set_option maxRecDepth 20000 in
theorem lkL_isFair_215 (Y : xw_Y) : xw_lk (tbL_isFair Y) 215 = some (tr_ild 217 5) := rfl
set_option maxRecDepth 20000 in
theorem lkL_isFair_217 (Y : xw_Y) : xw_lk (tbL_isFair Y) 217 = some (tr_ild 219 8) := rfl
set_option maxRecDepth 20000 in
theorem lkL_isFair_219 (Y : xw_Y) : xw_lk (tbL_isFair Y) 219 = some (tr_callV 222 2 4 (ptX3_ofBout Y) 0 0 1 8) := rfl
set_option maxRecDepth 20000 in
theorem lkL_isFair_222 (Y : xw_Y) : xw_lk (tbL_isFair Y) 222 = some (tr_dup2 223) := rfl
set_option maxRecDepth 20000 in
theorem lkL_isFair_223 (Y : xw_Y) : xw_lk (tbL_isFair Y) 223 = some (tr_iald 224 Y.2.1) := rfl
set_option maxRecDepth 20000 in
theorem lkL_isFair_224 (Y : xw_Y) : xw_lk (tbL_isFair Y) 224 = some (tr_push 225 (.int 1)) := rfl
set_option maxRecDepth 20000 in
theorem lkL_isFair_225 (Y : xw_Y) : xw_lk (tbL_isFair Y) 225 = some (tr_i2 226 (fun x y => x + y)) := rfl
set_option maxRecDepth 20000 in
theorem lkL_isFair_226 (Y : xw_Y) : xw_lk (tbL_isFair Y) 226 = some (tr_iast 227 Y.2.1) := rfl
set_option maxRecDepth 20000 in
theorem lkL_isFair_227 (Y : xw_Y) : xw_lk (tbL_isFair Y) 227 = some (tr_ald 228 0) := rfl
set_option maxRecDepth 20000 in
theorem lkL_isFair_228 (Y : xw_Y) : xw_lk (tbL_isFair Y) 228 = some (tr_ald 229 0) := rfl
set_option maxRecDepth 20000 in
theorem lkL_isFair_229 (Y : xw_Y) : xw_lk (tbL_isFair Y) 229 = some (tr_ild 231 5) := rfl
set_option maxRecDepth 20000 in
theorem lkL_isFair_231 (Y : xw_Y) : xw_lk (tbL_isFair Y) 231 = some (tr_ild 233 8) := rfl
set_option maxRecDepth 20000 in
theorem lkL_isFair_233 (Y : xw_Y) : xw_lk (tbL_isFair Y) 233 = some (tr_callV 236 2 4 (ptX3_ofBout Y) 0 0 1 8) := rfl
set_option maxRecDepth 20000 in
theorem lkL_isFair_236 (Y : xw_Y) : xw_lk (tbL_isFair Y) 236 = some (tr_push 237 (.int 5)) := rfl
set_option maxRecDepth 20000 in
theorem lkL_isFair_237 (Y : xw_Y) : xw_lk (tbL_isFair Y) 237 = some (tr_callV 240 2 4 (ptX3_of Y) 0 0 1 8) := rfl
set_option maxRecDepth 20000 in
theorem lkL_isFair_240 (Y : xw_Y) : xw_lk (tbL_isFair Y) 240 = some (tr_ild 242 5) := rfl
set_option maxRecDepth 20000 in
theorem lkL_isFair_242 (Y : xw_Y) : xw_lk (tbL_isFair Y) 242 = some (tr_ifc 245 247 (fun x y => x = y)) := rfl
set_option maxRecDepth 20000 in
theorem lkL_isFair_245 (Y : xw_Y) : xw_lk (tbL_isFair Y) 245 = some (tr_push 246 (.int 0)) := rfl
set_option maxRecDepth 20000 in
theorem lkL_isFair_246 (Y : xw_Y) : xw_lk (tbL_isFair Y) 246 = some (tr_iret .boolean) := rfl
set_option maxRecDepth 20000 in
theorem lkL_isFair_247 (Y : xw_Y) : xw_lk (tbL_isFair Y) 247 = some (tr_inc 250 8 1) := rfl
set_option maxRecDepth 20000 in
theorem lkL_isFair_250 (Y : xw_Y) : xw_lk (tbL_isFair Y) 250 = some (tr_goto 200) := rfl
set_option maxRecDepth 20000 in
theorem lkL_isFair_253 (Y : xw_Y) : xw_lk (tbL_isFair Y) 253 = some (tr_inc 256 5 1) := rfl
set_option maxRecDepth 20000 in
theorem lkL_isFair_256 (Y : xw_Y) : xw_lk (tbL_isFair Y) 256 = some (tr_goto 14) := rfl
set_option maxRecDepth 20000 in
theorem lkL_isFair_259 (Y : xw_Y) : xw_lk (tbL_isFair Y) 259 = some (tr_ild 260 2) := rfl
set_option maxRecDepth 20000 in
theorem lkL_isFair_260 (Y : xw_Y) : xw_lk (tbL_isFair Y) 260 = some (tr_ist 262 5) := rfl
set_option maxRecDepth 20000 in
theorem lkL_isFair_262 (Y : xw_Y) : xw_lk (tbL_isFair Y) 262 = some (tr_ald 263 0) := rfl
set_option maxRecDepth 20000 in
theorem lkL_isFair_263 (Y : xw_Y) : xw_lk (tbL_isFair Y) 263 = some (tr_push 265 (.int 9)) := rfl
set_option maxRecDepth 20000 in
theorem lkL_isFair_265 (Y : xw_Y) : xw_lk (tbL_isFair Y) 265 = some (tr_callV 268 1 4 (ptX3_many Y) 0 0 1 8) := rfl
set_option maxRecDepth 20000 in
theorem lkL_isFair_268 (Y : xw_Y) : xw_lk (tbL_isFair Y) 268 = some (tr_push 269 (.int 2)) := rfl
set_option maxRecDepth 20000 in
theorem lkL_isFair_269 (Y : xw_Y) : xw_lk (tbL_isFair Y) 269 = some (tr_i2z 270 (fun x y => x / y)) := rfl
set_option maxRecDepth 20000 in
theorem lkL_isFair_270 (Y : xw_Y) : xw_lk (tbL_isFair Y) 270 = some (tr_ist 272 6) := rfl
set_option maxRecDepth 20000 in
theorem lkL_isFair_272 (Y : xw_Y) : xw_lk (tbL_isFair Y) 272 = some (tr_ild 274 6) := rfl
set_option maxRecDepth 20000 in
theorem lkL_isFair_274 (Y : xw_Y) : xw_lk (tbL_isFair Y) 274 = some (tr_push 275 (.int 1)) := rfl
set_option maxRecDepth 20000 in
theorem lkL_isFair_275 (Y : xw_Y) : xw_lk (tbL_isFair Y) 275 = some (tr_ifc 278 345 (fun x y => x ≤ y)) := rfl
set_option maxRecDepth 20000 in
theorem lkL_isFair_278 (Y : xw_Y) : xw_lk (tbL_isFair Y) 278 = some (tr_push 279 (.int 0)) := rfl
set_option maxRecDepth 20000 in
theorem lkL_isFair_279 (Y : xw_Y) : xw_lk (tbL_isFair Y) 279 = some (tr_ist 281 7) := rfl
set_option maxRecDepth 20000 in
theorem lkL_isFair_281 (Y : xw_Y) : xw_lk (tbL_isFair Y) 281 = some (tr_ild 283 7) := rfl
set_option maxRecDepth 20000 in
theorem lkL_isFair_283 (Y : xw_Y) : xw_lk (tbL_isFair Y) 283 = some (tr_ild 285 6) := rfl
set_option maxRecDepth 20000 in
theorem lkL_isFair_285 (Y : xw_Y) : xw_lk (tbL_isFair Y) 285 = some (tr_ifc 288 329 (fun x y => y ≤ x)) := rfl
set_option maxRecDepth 20000 in
theorem lkL_isFair_288 (Y : xw_Y) : xw_lk (tbL_isFair Y) 288 = some (tr_ald 289 0) := rfl
set_option maxRecDepth 20000 in
theorem lkL_isFair_289 (Y : xw_Y) : xw_lk (tbL_isFair Y) 289 = some (tr_ild 291 5) := rfl
set_option maxRecDepth 20000 in
theorem lkL_isFair_291 (Y : xw_Y) : xw_lk (tbL_isFair Y) 291 = some (tr_ild 293 6) := rfl
set_option maxRecDepth 20000 in
theorem lkL_isFair_293 (Y : xw_Y) : xw_lk (tbL_isFair Y) 293 = some (tr_i2 294 (fun x y => x + y)) := rfl
set_option maxRecDepth 20000 in
theorem lkL_isFair_294 (Y : xw_Y) : xw_lk (tbL_isFair Y) 294 = some (tr_ild 296 7) := rfl
set_option maxRecDepth 20000 in
theorem lkL_isFair_296 (Y : xw_Y) : xw_lk (tbL_isFair Y) 296 = some (tr_push 297 (.int 2)) := rfl
set_option maxRecDepth 20000 in
theorem lkL_isFair_297 (Y : xw_Y) : xw_lk (tbL_isFair Y) 297 = some (tr_i2z 298 (fun x y => x / y)) := rfl
set_option maxRecDepth 20000 in
theorem lkL_isFair_298 (Y : xw_Y) : xw_lk (tbL_isFair Y) 298 = some (tr_i2 299 (fun x y => x + y)) := rfl
set_option maxRecDepth 20000 in
theorem lkL_isFair_299 (Y : xw_Y) : xw_lk (tbL_isFair Y) 299 = some (tr_push 300 (.int 1)) := rfl
set_option maxRecDepth 20000 in
theorem lkL_isFair_300 (Y : xw_Y) : xw_lk (tbL_isFair Y) 300 = some (tr_ild 302 7) := rfl
set_option maxRecDepth 20000 in
theorem lkL_isFair_302 (Y : xw_Y) : xw_lk (tbL_isFair Y) 302 = some (tr_push 303 (.int 2)) := rfl
set_option maxRecDepth 20000 in
theorem lkL_isFair_303 (Y : xw_Y) : xw_lk (tbL_isFair Y) 303 = some (tr_i2z 304 (fun x y => x - x / y * y)) := rfl
set_option maxRecDepth 20000 in
theorem lkL_isFair_304 (Y : xw_Y) : xw_lk (tbL_isFair Y) 304 = some (tr_i2 305 (fun x y => x + y)) := rfl
set_option maxRecDepth 20000 in
theorem lkL_isFair_305 (Y : xw_Y) : xw_lk (tbL_isFair Y) 305 = some (tr_callV 308 2 4 (ptX3_ofBout Y) 0 0 1 8) := rfl
set_option maxRecDepth 20000 in
theorem lkL_isFair_308 (Y : xw_Y) : xw_lk (tbL_isFair Y) 308 = some (tr_ald 309 0) := rfl
set_option maxRecDepth 20000 in
theorem lkL_isFair_309 (Y : xw_Y) : xw_lk (tbL_isFair Y) 309 = some (tr_ild 311 5) := rfl
set_option maxRecDepth 20000 in
theorem lkL_isFair_311 (Y : xw_Y) : xw_lk (tbL_isFair Y) 311 = some (tr_ild 313 7) := rfl
set_option maxRecDepth 20000 in
theorem lkL_isFair_313 (Y : xw_Y) : xw_lk (tbL_isFair Y) 313 = some (tr_i2 314 (fun x y => x + y)) := rfl
set_option maxRecDepth 20000 in
theorem lkL_isFair_314 (Y : xw_Y) : xw_lk (tbL_isFair Y) 314 = some (tr_push 315 (.int 5)) := rfl
set_option maxRecDepth 20000 in
theorem lkL_isFair_315 (Y : xw_Y) : xw_lk (tbL_isFair Y) 315 = some (tr_callV 318 2 4 (ptX3_ofBout Y) 0 0 1 8) := rfl
set_option maxRecDepth 20000 in
theorem lkL_isFair_318 (Y : xw_Y) : xw_lk (tbL_isFair Y) 318 = some (tr_ifc 321 323 (fun x y => x = y)) := rfl
set_option maxRecDepth 20000 in
theorem lkL_isFair_321 (Y : xw_Y) : xw_lk (tbL_isFair Y) 321 = some (tr_push 322 (.int 0)) := rfl
set_option maxRecDepth 20000 in
theorem lkL_isFair_322 (Y : xw_Y) : xw_lk (tbL_isFair Y) 322 = some (tr_iret .boolean) := rfl
set_option maxRecDepth 20000 in
theorem lkL_isFair_323 (Y : xw_Y) : xw_lk (tbL_isFair Y) 323 = some (tr_inc 326 7 1) := rfl
set_option maxRecDepth 20000 in
theorem lkL_isFair_326 (Y : xw_Y) : xw_lk (tbL_isFair Y) 326 = some (tr_goto 281) := rfl
set_option maxRecDepth 20000 in
theorem lkL_isFair_329 (Y : xw_Y) : xw_lk (tbL_isFair Y) 329 = some (tr_ild 331 5) := rfl
set_option maxRecDepth 20000 in
theorem lkL_isFair_331 (Y : xw_Y) : xw_lk (tbL_isFair Y) 331 = some (tr_ild 333 6) := rfl
set_option maxRecDepth 20000 in
theorem lkL_isFair_333 (Y : xw_Y) : xw_lk (tbL_isFair Y) 333 = some (tr_i2 334 (fun x y => x + y)) := rfl
set_option maxRecDepth 20000 in
theorem lkL_isFair_334 (Y : xw_Y) : xw_lk (tbL_isFair Y) 334 = some (tr_ist 336 5) := rfl
set_option maxRecDepth 20000 in
theorem lkL_isFair_336 (Y : xw_Y) : xw_lk (tbL_isFair Y) 336 = some (tr_ild 338 6) := rfl
set_option maxRecDepth 20000 in
theorem lkL_isFair_338 (Y : xw_Y) : xw_lk (tbL_isFair Y) 338 = some (tr_push 339 (.int 2)) := rfl
set_option maxRecDepth 20000 in
theorem lkL_isFair_339 (Y : xw_Y) : xw_lk (tbL_isFair Y) 339 = some (tr_i2z 340 (fun x y => x / y)) := rfl
set_option maxRecDepth 20000 in
theorem lkL_isFair_340 (Y : xw_Y) : xw_lk (tbL_isFair Y) 340 = some (tr_ist 342 6) := rfl
set_option maxRecDepth 20000 in
theorem lkL_isFair_342 (Y : xw_Y) : xw_lk (tbL_isFair Y) 342 = some (tr_goto 272) := rfl
set_option maxRecDepth 20000 in
theorem lkL_isFair_345 (Y : xw_Y) : xw_lk (tbL_isFair Y) 345 = some (tr_push 346 (.int 0)) := rfl
set_option maxRecDepth 20000 in
theorem lkL_isFair_346 (Y : xw_Y) : xw_lk (tbL_isFair Y) 346 = some (tr_ist 348 6) := rfl
set_option maxRecDepth 20000 in
theorem lkL_isFair_348 (Y : xw_Y) : xw_lk (tbL_isFair Y) 348 = some (tr_push 349 (.int 0)) := rfl
set_option maxRecDepth 20000 in
theorem lkL_isFair_349 (Y : xw_Y) : xw_lk (tbL_isFair Y) 349 = some (tr_ist 351 7) := rfl
set_option maxRecDepth 20000 in
theorem lkL_isFair_351 (Y : xw_Y) : xw_lk (tbL_isFair Y) 351 = some (tr_push 352 (.int 0)) := rfl
set_option maxRecDepth 20000 in
theorem lkL_isFair_352 (Y : xw_Y) : xw_lk (tbL_isFair Y) 352 = some (tr_ist 354 8) := rfl
set_option maxRecDepth 20000 in
theorem lkL_isFair_354 (Y : xw_Y) : xw_lk (tbL_isFair Y) 354 = some (tr_ild 356 8) := rfl
set_option maxRecDepth 20000 in
theorem lkL_isFair_356 (Y : xw_Y) : xw_lk (tbL_isFair Y) 356 = some (tr_ild 357 1) := rfl
set_option maxRecDepth 20000 in
theorem lkL_isFair_357 (Y : xw_Y) : xw_lk (tbL_isFair Y) 357 = some (tr_ifc 360 536 (fun x y => y ≤ x)) := rfl
set_option maxRecDepth 20000 in
theorem lkL_isFair_360 (Y : xw_Y) : xw_lk (tbL_isFair Y) 360 = some (tr_ald 362 4) := rfl
set_option maxRecDepth 20000 in
theorem lkL_isFair_362 (Y : xw_Y) : xw_lk (tbL_isFair Y) 362 = some (tr_ild 364 8) := rfl
set_option maxRecDepth 20000 in
theorem lkL_isFair_364 (Y : xw_Y) : xw_lk (tbL_isFair Y) 364 = some (tr_iald 365 Y.2.1) := rfl
set_option maxRecDepth 20000 in
theorem lkL_isFair_365 (Y : xw_Y) : xw_lk (tbL_isFair Y) 365 = some (tr_push 366 (.int 1)) := rfl
set_option maxRecDepth 20000 in
theorem lkL_isFair_366 (Y : xw_Y) : xw_lk (tbL_isFair Y) 366 = some (tr_ifc 369 400 (fun x y => y < x)) := rfl
set_option maxRecDepth 20000 in
theorem lkL_isFair_369 (Y : xw_Y) : xw_lk (tbL_isFair Y) 369 = some (tr_ald 371 4) := rfl
set_option maxRecDepth 20000 in
theorem lkL_isFair_371 (Y : xw_Y) : xw_lk (tbL_isFair Y) 371 = some (tr_ild 373 8) := rfl
set_option maxRecDepth 20000 in
theorem lkL_isFair_373 (Y : xw_Y) : xw_lk (tbL_isFair Y) 373 = some (tr_iald 374 Y.2.1) := rfl
set_option maxRecDepth 20000 in
theorem lkL_isFair_374 (Y : xw_Y) : xw_lk (tbL_isFair Y) 374 = some (tr_ifz 377 381 (fun x => ¬ x = 0)) := rfl
set_option maxRecDepth 20000 in
theorem lkL_isFair_377 (Y : xw_Y) : xw_lk (tbL_isFair Y) 377 = some (tr_push 378 (.int 1)) := rfl
set_option maxRecDepth 20000 in
theorem lkL_isFair_378 (Y : xw_Y) : xw_lk (tbL_isFair Y) 378 = some (tr_goto 382) := rfl
set_option maxRecDepth 20000 in
theorem lkL_isFair_381 (Y : xw_Y) : xw_lk (tbL_isFair Y) 381 = some (tr_push 382 (.int 0)) := rfl
set_option maxRecDepth 20000 in
theorem lkL_isFair_382 (Y : xw_Y) : xw_lk (tbL_isFair Y) 382 = some (tr_ald 383 0) := rfl
set_option maxRecDepth 20000 in
theorem lkL_isFair_383 (Y : xw_Y) : xw_lk (tbL_isFair Y) 383 = some (tr_ild 385 8) := rfl
set_option maxRecDepth 20000 in
theorem lkL_isFair_385 (Y : xw_Y) : xw_lk (tbL_isFair Y) 385 = some (tr_push 386 (.int 5)) := rfl
set_option maxRecDepth 20000 in
theorem lkL_isFair_386 (Y : xw_Y) : xw_lk (tbL_isFair Y) 386 = some (tr_callV 389 2 4 (ptX3_of Y) 0 0 1 8) := rfl
set_option maxRecDepth 20000 in
theorem lkL_isFair_389 (Y : xw_Y) : xw_lk (tbL_isFair Y) 389 = some (tr_ifz 392 396 (fun x => 0 ≤ x)) := rfl
set_option maxRecDepth 20000 in
theorem lkL_isFair_392 (Y : xw_Y) : xw_lk (tbL_isFair Y) 392 = some (tr_push 393 (.int 1)) := rfl
set_option maxRecDepth 20000 in
theorem lkL_isFair_393 (Y : xw_Y) : xw_lk (tbL_isFair Y) 393 = some (tr_goto 397) := rfl
set_option maxRecDepth 20000 in
theorem lkL_isFair_396 (Y : xw_Y) : xw_lk (tbL_isFair Y) 396 = some (tr_push 397 (.int 0)) := rfl
set_option maxRecDepth 20000 in
theorem lkL_isFair_397 (Y : xw_Y) : xw_lk (tbL_isFair Y) 397 = some (tr_ifc 400 402 (fun x y => x = y)) := rfl
set_option maxRecDepth 20000 in
theorem lkL_isFair_400 (Y : xw_Y) : xw_lk (tbL_isFair Y) 400 = some (tr_push 401 (.int 0)) := rfl
set_option maxRecDepth 20000 in
theorem lkL_isFair_401 (Y : xw_Y) : xw_lk (tbL_isFair Y) 401 = some (tr_iret .boolean) := rfl
set_option maxRecDepth 20000 in
theorem lkL_isFair_402 (Y : xw_Y) : xw_lk (tbL_isFair Y) 402 = some (tr_ild 404 6) := rfl
set_option maxRecDepth 20000 in
theorem lkL_isFair_404 (Y : xw_Y) : xw_lk (tbL_isFair Y) 404 = some (tr_push 405 (.int 1)) := rfl
set_option maxRecDepth 20000 in
theorem lkL_isFair_405 (Y : xw_Y) : xw_lk (tbL_isFair Y) 405 = some (tr_ald 406 0) := rfl
set_option maxRecDepth 20000 in
theorem lkL_isFair_406 (Y : xw_Y) : xw_lk (tbL_isFair Y) 406 = some (tr_ild 408 8) := rfl
set_option maxRecDepth 20000 in
theorem lkL_isFair_408 (Y : xw_Y) : xw_lk (tbL_isFair Y) 408 = some (tr_push 409 (.int 4)) := rfl
set_option maxRecDepth 20000 in
theorem lkL_isFair_409 (Y : xw_Y) : xw_lk (tbL_isFair Y) 409 = some (tr_callV 412 2 4 (ptX3_order Y) 0 0 1 8) := rfl
set_option maxRecDepth 20000 in
theorem lkL_isFair_412 (Y : xw_Y) : xw_lk (tbL_isFair Y) 412 = some (tr_i2 413 (fun x y => x <<< (y &&& 31))) := rfl
set_option maxRecDepth 20000 in
theorem lkL_isFair_413 (Y : xw_Y) : xw_lk (tbL_isFair Y) 413 = some (tr_i2 414 (fun x y => x ||| y)) := rfl
set_option maxRecDepth 20000 in
theorem lkL_isFair_414 (Y : xw_Y) : xw_lk (tbL_isFair Y) 414 = some (tr_ist 416 6) := rfl
set_option maxRecDepth 20000 in
theorem lkL_isFair_416 (Y : xw_Y) : xw_lk (tbL_isFair Y) 416 = some (tr_ild 418 7) := rfl
set_option maxRecDepth 20000 in
theorem lkL_isFair_418 (Y : xw_Y) : xw_lk (tbL_isFair Y) 418 = some (tr_push 419 (.int 1)) := rfl
set_option maxRecDepth 20000 in
theorem lkL_isFair_419 (Y : xw_Y) : xw_lk (tbL_isFair Y) 419 = some (tr_ald 420 0) := rfl
set_option maxRecDepth 20000 in
theorem lkL_isFair_420 (Y : xw_Y) : xw_lk (tbL_isFair Y) 420 = some (tr_ild 422 8) := rfl
set_option maxRecDepth 20000 in
theorem lkL_isFair_422 (Y : xw_Y) : xw_lk (tbL_isFair Y) 422 = some (tr_callV 425 1 4 (ptX3_place Y) 0 0 1 8) := rfl
set_option maxRecDepth 20000 in
theorem lkL_isFair_425 (Y : xw_Y) : xw_lk (tbL_isFair Y) 425 = some (tr_i2 426 (fun x y => x <<< (y &&& 31))) := rfl
set_option maxRecDepth 20000 in
theorem lkL_isFair_426 (Y : xw_Y) : xw_lk (tbL_isFair Y) 426 = some (tr_i2 427 (fun x y => x ||| y)) := rfl
set_option maxRecDepth 20000 in
theorem lkL_isFair_427 (Y : xw_Y) : xw_lk (tbL_isFair Y) 427 = some (tr_ist 429 7) := rfl
set_option maxRecDepth 20000 in
theorem lkL_isFair_429 (Y : xw_Y) : xw_lk (tbL_isFair Y) 429 = some (tr_ald 430 0) := rfl
set_option maxRecDepth 20000 in
theorem lkL_isFair_430 (Y : xw_Y) : xw_lk (tbL_isFair Y) 430 = some (tr_ild 432 8) := rfl
set_option maxRecDepth 20000 in
theorem lkL_isFair_432 (Y : xw_Y) : xw_lk (tbL_isFair Y) 432 = some (tr_push 433 (.int 1)) := rfl
set_option maxRecDepth 20000 in
theorem lkL_isFair_433 (Y : xw_Y) : xw_lk (tbL_isFair Y) 433 = some (tr_callV 436 2 4 (ptX3_order Y) 0 0 1 8) := rfl
set_option maxRecDepth 20000 in
theorem lkL_isFair_436 (Y : xw_Y) : xw_lk (tbL_isFair Y) 436 = some (tr_ald 437 0) := rfl
set_option maxRecDepth 20000 in
theorem lkL_isFair_437 (Y : xw_Y) : xw_lk (tbL_isFair Y) 437 = some (tr_ild 439 8) := rfl
set_option maxRecDepth 20000 in
theorem lkL_isFair_439 (Y : xw_Y) : xw_lk (tbL_isFair Y) 439 = some (tr_push 440 (.int 0)) := rfl
set_option maxRecDepth 20000 in
theorem lkL_isFair_440 (Y : xw_Y) : xw_lk (tbL_isFair Y) 440 = some (tr_callV 443 2 4 (ptX3_order Y) 0 0 1 8) := rfl
set_option maxRecDepth 20000 in
theorem lkL_isFair_443 (Y : xw_Y) : xw_lk (tbL_isFair Y) 443 = some (tr_ifc 446 462 (fun x y => y < x)) := rfl
set_option maxRecDepth 20000 in
theorem lkL_isFair_446 (Y : xw_Y) : xw_lk (tbL_isFair Y) 446 = some (tr_ald 447 0) := rfl
set_option maxRecDepth 20000 in
theorem lkL_isFair_447 (Y : xw_Y) : xw_lk (tbL_isFair Y) 447 = some (tr_ild 449 8) := rfl
set_option maxRecDepth 20000 in
theorem lkL_isFair_449 (Y : xw_Y) : xw_lk (tbL_isFair Y) 449 = some (tr_callV 452 1 4 (ptX3_voidWith Y) 0 0 1 8) := rfl
set_option maxRecDepth 20000 in
theorem lkL_isFair_452 (Y : xw_Y) : xw_lk (tbL_isFair Y) 452 = some (tr_ald 453 0) := rfl
set_option maxRecDepth 20000 in
theorem lkL_isFair_453 (Y : xw_Y) : xw_lk (tbL_isFair Y) 453 = some (tr_ild 455 8) := rfl
set_option maxRecDepth 20000 in
theorem lkL_isFair_455 (Y : xw_Y) : xw_lk (tbL_isFair Y) 455 = some (tr_push 456 (.int 0)) := rfl
set_option maxRecDepth 20000 in
theorem lkL_isFair_456 (Y : xw_Y) : xw_lk (tbL_isFair Y) 456 = some (tr_callV 459 2 4 (ptX3_order Y) 0 0 1 8) := rfl
set_option maxRecDepth 20000 in
theorem lkL_isFair_459 (Y : xw_Y) : xw_lk (tbL_isFair Y) 459 = some (tr_ifc 462 464 (fun x y => x = y)) := rfl
set_option maxRecDepth 20000 in
theorem lkL_isFair_462 (Y : xw_Y) : xw_lk (tbL_isFair Y) 462 = some (tr_push 463 (.int 0)) := rfl
set_option maxRecDepth 20000 in
theorem lkL_isFair_463 (Y : xw_Y) : xw_lk (tbL_isFair Y) 463 = some (tr_iret .boolean) := rfl
set_option maxRecDepth 20000 in
theorem lkL_isFair_464 (Y : xw_Y) : xw_lk (tbL_isFair Y) 464 = some (tr_push 465 (.int 0)) := rfl
set_option maxRecDepth 20000 in
theorem lkL_isFair_465 (Y : xw_Y) : xw_lk (tbL_isFair Y) 465 = some (tr_ist 467 9) := rfl
set_option maxRecDepth 20000 in
theorem lkL_isFair_467 (Y : xw_Y) : xw_lk (tbL_isFair Y) 467 = some (tr_ild 469 9) := rfl
set_option maxRecDepth 20000 in
theorem lkL_isFair_469 (Y : xw_Y) : xw_lk (tbL_isFair Y) 469 = some (tr_ild 470 1) := rfl
set_option maxRecDepth 20000 in
theorem lkL_isFair_470 (Y : xw_Y) : xw_lk (tbL_isFair Y) 470 = some (tr_ifc 473 530 (fun x y => y ≤ x)) := rfl
set_option maxRecDepth 20000 in
theorem lkL_isFair_473 (Y : xw_Y) : xw_lk (tbL_isFair Y) 473 = some (tr_ald 474 0) := rfl
set_option maxRecDepth 20000 in
theorem lkL_isFair_474 (Y : xw_Y) : xw_lk (tbL_isFair Y) 474 = some (tr_ild 476 8) := rfl
set_option maxRecDepth 20000 in
theorem lkL_isFair_476 (Y : xw_Y) : xw_lk (tbL_isFair Y) 476 = some (tr_push 477 (.int 4)) := rfl
set_option maxRecDepth 20000 in
theorem lkL_isFair_477 (Y : xw_Y) : xw_lk (tbL_isFair Y) 477 = some (tr_callV 480 2 4 (ptX3_of Y) 0 0 1 8) := rfl
set_option maxRecDepth 20000 in
theorem lkL_isFair_480 (Y : xw_Y) : xw_lk (tbL_isFair Y) 480 = some (tr_ald 481 0) := rfl
set_option maxRecDepth 20000 in
theorem lkL_isFair_481 (Y : xw_Y) : xw_lk (tbL_isFair Y) 481 = some (tr_ild 483 9) := rfl
set_option maxRecDepth 20000 in
theorem lkL_isFair_483 (Y : xw_Y) : xw_lk (tbL_isFair Y) 483 = some (tr_push 484 (.int 4)) := rfl
set_option maxRecDepth 20000 in
theorem lkL_isFair_484 (Y : xw_Y) : xw_lk (tbL_isFair Y) 484 = some (tr_callV 487 2 4 (ptX3_of Y) 0 0 1 8) := rfl
set_option maxRecDepth 20000 in
theorem lkL_isFair_487 (Y : xw_Y) : xw_lk (tbL_isFair Y) 487 = some (tr_ifc 490 524 (fun x y => y ≤ x)) := rfl
set_option maxRecDepth 20000 in
theorem lkL_isFair_490 (Y : xw_Y) : xw_lk (tbL_isFair Y) 490 = some (tr_ald 491 0) := rfl
set_option maxRecDepth 20000 in
theorem lkL_isFair_491 (Y : xw_Y) : xw_lk (tbL_isFair Y) 491 = some (tr_ild 493 8) := rfl
set_option maxRecDepth 20000 in
theorem lkL_isFair_493 (Y : xw_Y) : xw_lk (tbL_isFair Y) 493 = some (tr_push 494 (.int 4)) := rfl
set_option maxRecDepth 20000 in
theorem lkL_isFair_494 (Y : xw_Y) : xw_lk (tbL_isFair Y) 494 = some (tr_callV 497 2 4 (ptX3_order Y) 0 0 1 8) := rfl
set_option maxRecDepth 20000 in
theorem lkL_isFair_497 (Y : xw_Y) : xw_lk (tbL_isFair Y) 497 = some (tr_ald 498 0) := rfl
set_option maxRecDepth 20000 in
theorem lkL_isFair_498 (Y : xw_Y) : xw_lk (tbL_isFair Y) 498 = some (tr_ild 500 9) := rfl
set_option maxRecDepth 20000 in
theorem lkL_isFair_500 (Y : xw_Y) : xw_lk (tbL_isFair Y) 500 = some (tr_push 501 (.int 4)) := rfl
set_option maxRecDepth 20000 in
theorem lkL_isFair_501 (Y : xw_Y) : xw_lk (tbL_isFair Y) 501 = some (tr_callV 504 2 4 (ptX3_order Y) 0 0 1 8) := rfl
set_option maxRecDepth 20000 in
theorem lkL_isFair_504 (Y : xw_Y) : xw_lk (tbL_isFair Y) 504 = some (tr_ifc 507 522 (fun x y => y < x)) := rfl
set_option maxRecDepth 20000 in
theorem lkL_isFair_507 (Y : xw_Y) : xw_lk (tbL_isFair Y) 507 = some (tr_ald 508 0) := rfl
set_option maxRecDepth 20000 in
theorem lkL_isFair_508 (Y : xw_Y) : xw_lk (tbL_isFair Y) 508 = some (tr_ild 510 8) := rfl
set_option maxRecDepth 20000 in
theorem lkL_isFair_510 (Y : xw_Y) : xw_lk (tbL_isFair Y) 510 = some (tr_callV 513 1 4 (ptX3_place Y) 0 0 1 8) := rfl
set_option maxRecDepth 20000 in
theorem lkL_isFair_513 (Y : xw_Y) : xw_lk (tbL_isFair Y) 513 = some (tr_ald 514 0) := rfl
set_option maxRecDepth 20000 in
theorem lkL_isFair_514 (Y : xw_Y) : xw_lk (tbL_isFair Y) 514 = some (tr_ild 516 9) := rfl
set_option maxRecDepth 20000 in
theorem lkL_isFair_516 (Y : xw_Y) : xw_lk (tbL_isFair Y) 516 = some (tr_callV 519 1 4 (ptX3_place Y) 0 0 1 8) := rfl
set_option maxRecDepth 20000 in
theorem lkL_isFair_519 (Y : xw_Y) : xw_lk (tbL_isFair Y) 519 = some (tr_ifc 522 524 (fun x y => x ≤ y)) := rfl
set_option maxRecDepth 20000 in
theorem lkL_isFair_522 (Y : xw_Y) : xw_lk (tbL_isFair Y) 522 = some (tr_push 523 (.int 0)) := rfl
set_option maxRecDepth 20000 in
theorem lkL_isFair_523 (Y : xw_Y) : xw_lk (tbL_isFair Y) 523 = some (tr_iret .boolean) := rfl
set_option maxRecDepth 20000 in
theorem lkL_isFair_524 (Y : xw_Y) : xw_lk (tbL_isFair Y) 524 = some (tr_inc 527 9 1) := rfl
set_option maxRecDepth 20000 in
theorem lkL_isFair_527 (Y : xw_Y) : xw_lk (tbL_isFair Y) 527 = some (tr_goto 467) := rfl
set_option maxRecDepth 20000 in
theorem lkL_isFair_530 (Y : xw_Y) : xw_lk (tbL_isFair Y) 530 = some (tr_inc 533 8 1) := rfl
set_option maxRecDepth 20000 in
theorem lkL_isFair_533 (Y : xw_Y) : xw_lk (tbL_isFair Y) 533 = some (tr_goto 354) := rfl
set_option maxRecDepth 20000 in
theorem lkL_isFair_536 (Y : xw_Y) : xw_lk (tbL_isFair Y) 536 = some (tr_ild 538 6) := rfl
set_option maxRecDepth 20000 in
theorem lkL_isFair_538 (Y : xw_Y) : xw_lk (tbL_isFair Y) 538 = some (tr_push 539 (.int 1)) := rfl
set_option maxRecDepth 20000 in
theorem lkL_isFair_539 (Y : xw_Y) : xw_lk (tbL_isFair Y) 539 = some (tr_ild 540 1) := rfl
set_option maxRecDepth 20000 in
theorem lkL_isFair_540 (Y : xw_Y) : xw_lk (tbL_isFair Y) 540 = some (tr_i2 541 (fun x y => x <<< (y &&& 31))) := rfl
set_option maxRecDepth 20000 in
theorem lkL_isFair_541 (Y : xw_Y) : xw_lk (tbL_isFair Y) 541 = some (tr_push 542 (.int 1)) := rfl
set_option maxRecDepth 20000 in
theorem lkL_isFair_542 (Y : xw_Y) : xw_lk (tbL_isFair Y) 542 = some (tr_i2 543 (fun x y => x - y)) := rfl
set_option maxRecDepth 20000 in
theorem lkL_isFair_543 (Y : xw_Y) : xw_lk (tbL_isFair Y) 543 = some (tr_ifc 546 585 (fun x y => ¬ x = y)) := rfl
set_option maxRecDepth 20000 in
theorem lkL_isFair_546 (Y : xw_Y) : xw_lk (tbL_isFair Y) 546 = some (tr_ild 548 7) := rfl
set_option maxRecDepth 20000 in
theorem lkL_isFair_548 (Y : xw_Y) : xw_lk (tbL_isFair Y) 548 = some (tr_ild 550 6) := rfl
set_option maxRecDepth 20000 in
theorem lkL_isFair_550 (Y : xw_Y) : xw_lk (tbL_isFair Y) 550 = some (tr_ifc 553 585 (fun x y => ¬ x = y)) := rfl
set_option maxRecDepth 20000 in
theorem lkL_isFair_553 (Y : xw_Y) : xw_lk (tbL_isFair Y) 553 = some (tr_ald 554 0) := rfl
set_option maxRecDepth 20000 in
theorem lkL_isFair_554 (Y : xw_Y) : xw_lk (tbL_isFair Y) 554 = some (tr_push 555 (.int 3)) := rfl
set_option maxRecDepth 20000 in
theorem lkL_isFair_555 (Y : xw_Y) : xw_lk (tbL_isFair Y) 555 = some (tr_callV 558 1 4 (ptX3_many Y) 0 0 1 8) := rfl
set_option maxRecDepth 20000 in
theorem lkL_isFair_558 (Y : xw_Y) : xw_lk (tbL_isFair Y) 558 = some (tr_ald 559 0) := rfl
set_option maxRecDepth 20000 in
theorem lkL_isFair_559 (Y : xw_Y) : xw_lk (tbL_isFair Y) 559 = some (tr_push 560 (.int 4)) := rfl
set_option maxRecDepth 20000 in
theorem lkL_isFair_560 (Y : xw_Y) : xw_lk (tbL_isFair Y) 560 = some (tr_callV 563 1 4 (ptX3_many Y) 0 0 1 8) := rfl
set_option maxRecDepth 20000 in
theorem lkL_isFair_563 (Y : xw_Y) : xw_lk (tbL_isFair Y) 563 = some (tr_i2 564 (fun x y => x + y)) := rfl
set_option maxRecDepth 20000 in
theorem lkL_isFair_564 (Y : xw_Y) : xw_lk (tbL_isFair Y) 564 = some (tr_ald 565 0) := rfl
set_option maxRecDepth 20000 in
theorem lkL_isFair_565 (Y : xw_Y) : xw_lk (tbL_isFair Y) 565 = some (tr_push 566 (.int 5)) := rfl
set_option maxRecDepth 20000 in
theorem lkL_isFair_566 (Y : xw_Y) : xw_lk (tbL_isFair Y) 566 = some (tr_callV 569 1 4 (ptX3_many Y) 0 0 1 8) := rfl
set_option maxRecDepth 20000 in
theorem lkL_isFair_569 (Y : xw_Y) : xw_lk (tbL_isFair Y) 569 = some (tr_i2 570 (fun x y => x + y)) := rfl
set_option maxRecDepth 20000 in
theorem lkL_isFair_570 (Y : xw_Y) : xw_lk (tbL_isFair Y) 570 = some (tr_ald 571 0) := rfl
set_option maxRecDepth 20000 in
theorem lkL_isFair_571 (Y : xw_Y) : xw_lk (tbL_isFair Y) 571 = some (tr_push 573 (.int 6)) := rfl
set_option maxRecDepth 20000 in
theorem lkL_isFair_573 (Y : xw_Y) : xw_lk (tbL_isFair Y) 573 = some (tr_callV 576 1 4 (ptX3_many Y) 0 0 1 8) := rfl
set_option maxRecDepth 20000 in
theorem lkL_isFair_576 (Y : xw_Y) : xw_lk (tbL_isFair Y) 576 = some (tr_i2 577 (fun x y => x + y)) := rfl
set_option maxRecDepth 20000 in
theorem lkL_isFair_577 (Y : xw_Y) : xw_lk (tbL_isFair Y) 577 = some (tr_ild 578 3) := rfl
set_option maxRecDepth 20000 in
theorem lkL_isFair_578 (Y : xw_Y) : xw_lk (tbL_isFair Y) 578 = some (tr_ifc 581 585 (fun x y => ¬ x = y)) := rfl
set_option maxRecDepth 20000 in
theorem lkL_isFair_581 (Y : xw_Y) : xw_lk (tbL_isFair Y) 581 = some (tr_push 582 (.int 1)) := rfl
set_option maxRecDepth 20000 in
theorem lkL_isFair_582 (Y : xw_Y) : xw_lk (tbL_isFair Y) 582 = some (tr_goto 586) := rfl
set_option maxRecDepth 20000 in
theorem lkL_isFair_585 (Y : xw_Y) : xw_lk (tbL_isFair Y) 585 = some (tr_push 586 (.int 0)) := rfl
set_option maxRecDepth 20000 in
theorem lkL_isFair_586 (Y : xw_Y) : xw_lk (tbL_isFair Y) 586 = some (tr_iret .boolean) := rfl
def tbX3_seed (Y : xw_Y) : List (Nat × xw_T) := [(0, tr_push 1 (.int 0)),
  (1, tr_ist 2 2),
  (2, tr_ild 3 2),
  (3, tr_ild 4 1),
  (4, tr_ifc 7 30 (fun x y => y ≤ x)),
  (7, tr_ild 8 2),
  (8, tr_push 10 (.int 16)),
  (10, tr_ifc 13 30 (fun x y => y ≤ x)),
  (13, tr_ald 14 0),
  (14, tr_getf 17 4 4),
  (17, tr_ild 18 2),
  (18, tr_ald 19 0),
  (19, tr_ild 20 2),
  (20, tr_callV 23 1 4 (ptX3_fencerInOrder Y) 0 0 0 0),
  (23, tr_aast 24 Y.2.2.2.2 [2]),
  (24, tr_inc 27 2 1),
  (27, tr_goto 2),
  (30, tr_vret)]
def ptX3_seed (Y : xw_Y) : xw_PT := xw_pt (tbX3_seed Y) 3 0 0
theorem lkX3_seed_0 (Y : xw_Y) : xw_lk (tbX3_seed Y) 0 = some (tr_push 1 (.int 0)) := rfl
theorem lkX3_seed_1 (Y : xw_Y) : xw_lk (tbX3_seed Y) 1 = some (tr_ist 2 2) := rfl
theorem lkX3_seed_2 (Y : xw_Y) : xw_lk (tbX3_seed Y) 2 = some (tr_ild 3 2) := rfl
theorem lkX3_seed_3 (Y : xw_Y) : xw_lk (tbX3_seed Y) 3 = some (tr_ild 4 1) := rfl
theorem lkX3_seed_4 (Y : xw_Y) : xw_lk (tbX3_seed Y) 4 = some (tr_ifc 7 30 (fun x y => y ≤ x)) := rfl
theorem lkX3_seed_7 (Y : xw_Y) : xw_lk (tbX3_seed Y) 7 = some (tr_ild 8 2) := rfl
theorem lkX3_seed_8 (Y : xw_Y) : xw_lk (tbX3_seed Y) 8 = some (tr_push 10 (.int 16)) := rfl
theorem lkX3_seed_10 (Y : xw_Y) : xw_lk (tbX3_seed Y) 10 = some (tr_ifc 13 30 (fun x y => y ≤ x)) := rfl
theorem lkX3_seed_13 (Y : xw_Y) : xw_lk (tbX3_seed Y) 13 = some (tr_ald 14 0) := rfl
theorem lkX3_seed_14 (Y : xw_Y) : xw_lk (tbX3_seed Y) 14 = some (tr_getf 17 4 4) := rfl
theorem lkX3_seed_17 (Y : xw_Y) : xw_lk (tbX3_seed Y) 17 = some (tr_ild 18 2) := rfl
theorem lkX3_seed_18 (Y : xw_Y) : xw_lk (tbX3_seed Y) 18 = some (tr_ald 19 0) := rfl
theorem lkX3_seed_19 (Y : xw_Y) : xw_lk (tbX3_seed Y) 19 = some (tr_ild 20 2) := rfl
theorem lkX3_seed_20 (Y : xw_Y) : xw_lk (tbX3_seed Y) 20 = some (tr_callV 23 1 4 (ptX3_fencerInOrder Y) 0 0 0 0) := rfl
theorem lkX3_seed_23 (Y : xw_Y) : xw_lk (tbX3_seed Y) 23 = some (tr_aast 24 Y.2.2.2.2 [2]) := rfl
theorem lkX3_seed_24 (Y : xw_Y) : xw_lk (tbX3_seed Y) 24 = some (tr_inc 27 2 1) := rfl
theorem lkX3_seed_27 (Y : xw_Y) : xw_lk (tbX3_seed Y) 27 = some (tr_goto 2) := rfl
theorem lkX3_seed_30 (Y : xw_Y) : xw_lk (tbX3_seed Y) 30 = some (tr_vret) := rfl
def tbX3_setLines (Y : xw_Y) : List (Nat × xw_T) := [(0, tr_push 1 (.int 1)),
  (1, tr_ist 2 2),
  (2, tr_ald 3 0),
  (3, tr_getf 6 4 5),
  (6, tr_push 7 (.int 0)),
  (7, tr_push 8 (.int 0)),
  (8, tr_iast 9 Y.2.1),
  (9, tr_ild 10 2),
  (10, tr_ild 11 1),
  (11, tr_ifc 14 79 (fun x y => y ≤ x)),
  (14, tr_push 15 (.int 2)),
  (15, tr_ild 16 2),
  (16, tr_i2 17 (fun x y => x * y)),
  (17, tr_push 19 (.int 16)),
  (19, tr_ifc 22 79 (fun x y => y < x)),
  (22, tr_ild 23 2),
  (23, tr_push 24 (.int 1)),
  (24, tr_i2 25 (fun x y => x - y)),
  (25, tr_ist 26 3),
  (26, tr_ild 27 3),
  (27, tr_ifz 30 72 (fun x => x < 0)),
  (30, tr_ald 31 0),
  (31, tr_getf 34 4 5),
  (34, tr_ild 35 3),
  (35, tr_iald 36 Y.2.1),
  (36, tr_ist 38 4),
  (38, tr_ald 39 0),
  (39, tr_getf 42 4 5),
  (42, tr_push 43 (.int 2)),
  (43, tr_ild 44 3),
  (44, tr_i2 45 (fun x y => x * y)),
  (45, tr_ild 47 4),
  (47, tr_iast 48 Y.2.1),
  (48, tr_ald 49 0),
  (49, tr_getf 52 4 5),
  (52, tr_push 53 (.int 2)),
  (53, tr_ild 54 3),
  (54, tr_i2 55 (fun x y => x * y)),
  (55, tr_push 56 (.int 1)),
  (56, tr_i2 57 (fun x y => x + y)),
  (57, tr_push 58 (.int 2)),
  (58, tr_ild 59 2),
  (59, tr_i2 60 (fun x y => x * y)),
  (60, tr_push 61 (.int 1)),
  (61, tr_i2 62 (fun x y => x - y)),
  (62, tr_ild 64 4),
  (64, tr_i2 65 (fun x y => x - y)),
  (65, tr_iast 66 Y.2.1),
  (66, tr_inc 69 3 (-1)),
  (69, tr_goto 26),
  (72, tr_ild 73 2),
  (73, tr_push 74 (.int 2)),
  (74, tr_i2 75 (fun x y => x * y)),
  (75, tr_ist 76 2),
  (76, tr_goto 9),
  (79, tr_ald 80 0),
  (80, tr_ild 81 2),
  (81, tr_putf 84 4 8 .int),
  (84, tr_vret)]
def ptX3_setLines (Y : xw_Y) : xw_PT := xw_pt (tbX3_setLines Y) 5 0 0
theorem lkX3_setLines_0 (Y : xw_Y) : xw_lk (tbX3_setLines Y) 0 = some (tr_push 1 (.int 1)) := rfl
theorem lkX3_setLines_1 (Y : xw_Y) : xw_lk (tbX3_setLines Y) 1 = some (tr_ist 2 2) := rfl
theorem lkX3_setLines_2 (Y : xw_Y) : xw_lk (tbX3_setLines Y) 2 = some (tr_ald 3 0) := rfl
theorem lkX3_setLines_3 (Y : xw_Y) : xw_lk (tbX3_setLines Y) 3 = some (tr_getf 6 4 5) := rfl
theorem lkX3_setLines_6 (Y : xw_Y) : xw_lk (tbX3_setLines Y) 6 = some (tr_push 7 (.int 0)) := rfl
theorem lkX3_setLines_7 (Y : xw_Y) : xw_lk (tbX3_setLines Y) 7 = some (tr_push 8 (.int 0)) := rfl
theorem lkX3_setLines_8 (Y : xw_Y) : xw_lk (tbX3_setLines Y) 8 = some (tr_iast 9 Y.2.1) := rfl
theorem lkX3_setLines_9 (Y : xw_Y) : xw_lk (tbX3_setLines Y) 9 = some (tr_ild 10 2) := rfl
theorem lkX3_setLines_10 (Y : xw_Y) : xw_lk (tbX3_setLines Y) 10 = some (tr_ild 11 1) := rfl
theorem lkX3_setLines_11 (Y : xw_Y) : xw_lk (tbX3_setLines Y) 11 = some (tr_ifc 14 79 (fun x y => y ≤ x)) := rfl
theorem lkX3_setLines_14 (Y : xw_Y) : xw_lk (tbX3_setLines Y) 14 = some (tr_push 15 (.int 2)) := rfl
theorem lkX3_setLines_15 (Y : xw_Y) : xw_lk (tbX3_setLines Y) 15 = some (tr_ild 16 2) := rfl
theorem lkX3_setLines_16 (Y : xw_Y) : xw_lk (tbX3_setLines Y) 16 = some (tr_i2 17 (fun x y => x * y)) := rfl
theorem lkX3_setLines_17 (Y : xw_Y) : xw_lk (tbX3_setLines Y) 17 = some (tr_push 19 (.int 16)) := rfl
theorem lkX3_setLines_19 (Y : xw_Y) : xw_lk (tbX3_setLines Y) 19 = some (tr_ifc 22 79 (fun x y => y < x)) := rfl
theorem lkX3_setLines_22 (Y : xw_Y) : xw_lk (tbX3_setLines Y) 22 = some (tr_ild 23 2) := rfl
theorem lkX3_setLines_23 (Y : xw_Y) : xw_lk (tbX3_setLines Y) 23 = some (tr_push 24 (.int 1)) := rfl
theorem lkX3_setLines_24 (Y : xw_Y) : xw_lk (tbX3_setLines Y) 24 = some (tr_i2 25 (fun x y => x - y)) := rfl
theorem lkX3_setLines_25 (Y : xw_Y) : xw_lk (tbX3_setLines Y) 25 = some (tr_ist 26 3) := rfl
theorem lkX3_setLines_26 (Y : xw_Y) : xw_lk (tbX3_setLines Y) 26 = some (tr_ild 27 3) := rfl
theorem lkX3_setLines_27 (Y : xw_Y) : xw_lk (tbX3_setLines Y) 27 = some (tr_ifz 30 72 (fun x => x < 0)) := rfl
theorem lkX3_setLines_30 (Y : xw_Y) : xw_lk (tbX3_setLines Y) 30 = some (tr_ald 31 0) := rfl
theorem lkX3_setLines_31 (Y : xw_Y) : xw_lk (tbX3_setLines Y) 31 = some (tr_getf 34 4 5) := rfl
theorem lkX3_setLines_34 (Y : xw_Y) : xw_lk (tbX3_setLines Y) 34 = some (tr_ild 35 3) := rfl
theorem lkX3_setLines_35 (Y : xw_Y) : xw_lk (tbX3_setLines Y) 35 = some (tr_iald 36 Y.2.1) := rfl
theorem lkX3_setLines_36 (Y : xw_Y) : xw_lk (tbX3_setLines Y) 36 = some (tr_ist 38 4) := rfl
theorem lkX3_setLines_38 (Y : xw_Y) : xw_lk (tbX3_setLines Y) 38 = some (tr_ald 39 0) := rfl
theorem lkX3_setLines_39 (Y : xw_Y) : xw_lk (tbX3_setLines Y) 39 = some (tr_getf 42 4 5) := rfl
theorem lkX3_setLines_42 (Y : xw_Y) : xw_lk (tbX3_setLines Y) 42 = some (tr_push 43 (.int 2)) := rfl
theorem lkX3_setLines_43 (Y : xw_Y) : xw_lk (tbX3_setLines Y) 43 = some (tr_ild 44 3) := rfl
theorem lkX3_setLines_44 (Y : xw_Y) : xw_lk (tbX3_setLines Y) 44 = some (tr_i2 45 (fun x y => x * y)) := rfl
theorem lkX3_setLines_45 (Y : xw_Y) : xw_lk (tbX3_setLines Y) 45 = some (tr_ild 47 4) := rfl
theorem lkX3_setLines_47 (Y : xw_Y) : xw_lk (tbX3_setLines Y) 47 = some (tr_iast 48 Y.2.1) := rfl
theorem lkX3_setLines_48 (Y : xw_Y) : xw_lk (tbX3_setLines Y) 48 = some (tr_ald 49 0) := rfl
theorem lkX3_setLines_49 (Y : xw_Y) : xw_lk (tbX3_setLines Y) 49 = some (tr_getf 52 4 5) := rfl
theorem lkX3_setLines_52 (Y : xw_Y) : xw_lk (tbX3_setLines Y) 52 = some (tr_push 53 (.int 2)) := rfl
theorem lkX3_setLines_53 (Y : xw_Y) : xw_lk (tbX3_setLines Y) 53 = some (tr_ild 54 3) := rfl
theorem lkX3_setLines_54 (Y : xw_Y) : xw_lk (tbX3_setLines Y) 54 = some (tr_i2 55 (fun x y => x * y)) := rfl
theorem lkX3_setLines_55 (Y : xw_Y) : xw_lk (tbX3_setLines Y) 55 = some (tr_push 56 (.int 1)) := rfl
theorem lkX3_setLines_56 (Y : xw_Y) : xw_lk (tbX3_setLines Y) 56 = some (tr_i2 57 (fun x y => x + y)) := rfl
theorem lkX3_setLines_57 (Y : xw_Y) : xw_lk (tbX3_setLines Y) 57 = some (tr_push 58 (.int 2)) := rfl
theorem lkX3_setLines_58 (Y : xw_Y) : xw_lk (tbX3_setLines Y) 58 = some (tr_ild 59 2) := rfl
theorem lkX3_setLines_59 (Y : xw_Y) : xw_lk (tbX3_setLines Y) 59 = some (tr_i2 60 (fun x y => x * y)) := rfl
theorem lkX3_setLines_60 (Y : xw_Y) : xw_lk (tbX3_setLines Y) 60 = some (tr_push 61 (.int 1)) := rfl
theorem lkX3_setLines_61 (Y : xw_Y) : xw_lk (tbX3_setLines Y) 61 = some (tr_i2 62 (fun x y => x - y)) := rfl
theorem lkX3_setLines_62 (Y : xw_Y) : xw_lk (tbX3_setLines Y) 62 = some (tr_ild 64 4) := rfl
theorem lkX3_setLines_64 (Y : xw_Y) : xw_lk (tbX3_setLines Y) 64 = some (tr_i2 65 (fun x y => x - y)) := rfl
theorem lkX3_setLines_65 (Y : xw_Y) : xw_lk (tbX3_setLines Y) 65 = some (tr_iast 66 Y.2.1) := rfl
theorem lkX3_setLines_66 (Y : xw_Y) : xw_lk (tbX3_setLines Y) 66 = some (tr_inc 69 3 (-1)) := rfl
theorem lkX3_setLines_69 (Y : xw_Y) : xw_lk (tbX3_setLines Y) 69 = some (tr_goto 26) := rfl
theorem lkX3_setLines_72 (Y : xw_Y) : xw_lk (tbX3_setLines Y) 72 = some (tr_ild 73 2) := rfl
theorem lkX3_setLines_73 (Y : xw_Y) : xw_lk (tbX3_setLines Y) 73 = some (tr_push 74 (.int 2)) := rfl
theorem lkX3_setLines_74 (Y : xw_Y) : xw_lk (tbX3_setLines Y) 74 = some (tr_i2 75 (fun x y => x * y)) := rfl
theorem lkX3_setLines_75 (Y : xw_Y) : xw_lk (tbX3_setLines Y) 75 = some (tr_ist 76 2) := rfl
theorem lkX3_setLines_76 (Y : xw_Y) : xw_lk (tbX3_setLines Y) 76 = some (tr_goto 9) := rfl
theorem lkX3_setLines_79 (Y : xw_Y) : xw_lk (tbX3_setLines Y) 79 = some (tr_ald 80 0) := rfl
theorem lkX3_setLines_80 (Y : xw_Y) : xw_lk (tbX3_setLines Y) 80 = some (tr_ild 81 2) := rfl
theorem lkX3_setLines_81 (Y : xw_Y) : xw_lk (tbX3_setLines Y) 81 = some (tr_putf 84 4 8 .int) := rfl
theorem lkX3_setLines_84 (Y : xw_Y) : xw_lk (tbX3_setLines Y) 84 = some (tr_vret) := rfl
def tbX3_fencerOnLine (Y : xw_Y) : List (Nat × xw_T) := [(0, tr_ild 1 1),
  (1, tr_push 2 (.int 0)),
  (2, tr_ald 3 0),
  (3, tr_getf 6 4 8),
  (6, tr_push 7 (.int 1)),
  (7, tr_i2 8 (fun x y => x - y)),
  (8, tr_callS 11 3 (ptX3_isIn Y) 0 0 0 0),
  (11, tr_ifz 14 29 (fun x => x = 0)),
  (14, tr_ald 15 0),
  (15, tr_getf 18 4 5),
  (18, tr_ild 19 1),
  (19, tr_iald 20 Y.2.1),
  (20, tr_push 21 (.int 0)),
  (21, tr_push 23 (.int 15)),
  (23, tr_callS 26 3 (ptX3_isIn Y) 0 0 0 0),
  (26, tr_ifz 29 31 (fun x => ¬ x = 0)),
  (29, tr_push 30 .null),
  (30, tr_aret),
  (31, tr_ald 32 0),
  (32, tr_getf 35 4 4),
  (35, tr_ald 36 0),
  (36, tr_getf 39 4 5),
  (39, tr_ild 40 1),
  (40, tr_iald 41 Y.2.1),
  (41, tr_aald 42 Y.2.2.2.2),
  (42, tr_aret)]
def ptX3_fencerOnLine (Y : xw_Y) : xw_PT := xw_pt (tbX3_fencerOnLine Y) 2 0 0
theorem lkX3_fencerOnLine_0 (Y : xw_Y) : xw_lk (tbX3_fencerOnLine Y) 0 = some (tr_ild 1 1) := rfl
theorem lkX3_fencerOnLine_1 (Y : xw_Y) : xw_lk (tbX3_fencerOnLine Y) 1 = some (tr_push 2 (.int 0)) := rfl
theorem lkX3_fencerOnLine_2 (Y : xw_Y) : xw_lk (tbX3_fencerOnLine Y) 2 = some (tr_ald 3 0) := rfl
theorem lkX3_fencerOnLine_3 (Y : xw_Y) : xw_lk (tbX3_fencerOnLine Y) 3 = some (tr_getf 6 4 8) := rfl
theorem lkX3_fencerOnLine_6 (Y : xw_Y) : xw_lk (tbX3_fencerOnLine Y) 6 = some (tr_push 7 (.int 1)) := rfl
theorem lkX3_fencerOnLine_7 (Y : xw_Y) : xw_lk (tbX3_fencerOnLine Y) 7 = some (tr_i2 8 (fun x y => x - y)) := rfl
theorem lkX3_fencerOnLine_8 (Y : xw_Y) : xw_lk (tbX3_fencerOnLine Y) 8 = some (tr_callS 11 3 (ptX3_isIn Y) 0 0 0 0) := rfl
theorem lkX3_fencerOnLine_11 (Y : xw_Y) : xw_lk (tbX3_fencerOnLine Y) 11 = some (tr_ifz 14 29 (fun x => x = 0)) := rfl
theorem lkX3_fencerOnLine_14 (Y : xw_Y) : xw_lk (tbX3_fencerOnLine Y) 14 = some (tr_ald 15 0) := rfl
theorem lkX3_fencerOnLine_15 (Y : xw_Y) : xw_lk (tbX3_fencerOnLine Y) 15 = some (tr_getf 18 4 5) := rfl
theorem lkX3_fencerOnLine_18 (Y : xw_Y) : xw_lk (tbX3_fencerOnLine Y) 18 = some (tr_ild 19 1) := rfl
theorem lkX3_fencerOnLine_19 (Y : xw_Y) : xw_lk (tbX3_fencerOnLine Y) 19 = some (tr_iald 20 Y.2.1) := rfl
theorem lkX3_fencerOnLine_20 (Y : xw_Y) : xw_lk (tbX3_fencerOnLine Y) 20 = some (tr_push 21 (.int 0)) := rfl
theorem lkX3_fencerOnLine_21 (Y : xw_Y) : xw_lk (tbX3_fencerOnLine Y) 21 = some (tr_push 23 (.int 15)) := rfl
theorem lkX3_fencerOnLine_23 (Y : xw_Y) : xw_lk (tbX3_fencerOnLine Y) 23 = some (tr_callS 26 3 (ptX3_isIn Y) 0 0 0 0) := rfl
theorem lkX3_fencerOnLine_26 (Y : xw_Y) : xw_lk (tbX3_fencerOnLine Y) 26 = some (tr_ifz 29 31 (fun x => ¬ x = 0)) := rfl
theorem lkX3_fencerOnLine_29 (Y : xw_Y) : xw_lk (tbX3_fencerOnLine Y) 29 = some (tr_push 30 .null) := rfl
theorem lkX3_fencerOnLine_30 (Y : xw_Y) : xw_lk (tbX3_fencerOnLine Y) 30 = some (tr_aret) := rfl
theorem lkX3_fencerOnLine_31 (Y : xw_Y) : xw_lk (tbX3_fencerOnLine Y) 31 = some (tr_ald 32 0) := rfl
theorem lkX3_fencerOnLine_32 (Y : xw_Y) : xw_lk (tbX3_fencerOnLine Y) 32 = some (tr_getf 35 4 4) := rfl
theorem lkX3_fencerOnLine_35 (Y : xw_Y) : xw_lk (tbX3_fencerOnLine Y) 35 = some (tr_ald 36 0) := rfl
theorem lkX3_fencerOnLine_36 (Y : xw_Y) : xw_lk (tbX3_fencerOnLine Y) 36 = some (tr_getf 39 4 5) := rfl
theorem lkX3_fencerOnLine_39 (Y : xw_Y) : xw_lk (tbX3_fencerOnLine Y) 39 = some (tr_ild 40 1) := rfl
theorem lkX3_fencerOnLine_40 (Y : xw_Y) : xw_lk (tbX3_fencerOnLine Y) 40 = some (tr_iald 41 Y.2.1) := rfl
theorem lkX3_fencerOnLine_41 (Y : xw_Y) : xw_lk (tbX3_fencerOnLine Y) 41 = some (tr_aald 42 Y.2.2.2.2) := rfl
theorem lkX3_fencerOnLine_42 (Y : xw_Y) : xw_lk (tbX3_fencerOnLine Y) 42 = some (tr_aret) := rfl
def tbX3_enteredOnLine (Y : xw_Y) : List (Nat × xw_T) := [(0, tr_ald 1 0),
  (1, tr_ild 2 1),
  (2, tr_callV 5 1 4 (ptX3_fencerOnLine Y) 0 0 0 0),
  (5, tr_ast 6 2),
  (6, tr_ald 7 2),
  (7, tr_ifn 20 10),
  (10, tr_ald 11 2),
  (11, tr_ild 12 1),
  (12, tr_putf 15 2 12 .int),
  (15, tr_ald 16 2),
  (16, tr_push 17 (.int 4)),
  (17, tr_putf 20 2 13 .int),
  (20, tr_ald 21 2),
  (21, tr_aret)]
def ptX3_enteredOnLine (Y : xw_Y) : xw_PT := xw_pt (tbX3_enteredOnLine Y) 3 0 0
theorem lkX3_enteredOnLine_0 (Y : xw_Y) : xw_lk (tbX3_enteredOnLine Y) 0 = some (tr_ald 1 0) := rfl
theorem lkX3_enteredOnLine_1 (Y : xw_Y) : xw_lk (tbX3_enteredOnLine Y) 1 = some (tr_ild 2 1) := rfl
theorem lkX3_enteredOnLine_2 (Y : xw_Y) : xw_lk (tbX3_enteredOnLine Y) 2 = some (tr_callV 5 1 4 (ptX3_fencerOnLine Y) 0 0 0 0) := rfl
theorem lkX3_enteredOnLine_5 (Y : xw_Y) : xw_lk (tbX3_enteredOnLine Y) 5 = some (tr_ast 6 2) := rfl
theorem lkX3_enteredOnLine_6 (Y : xw_Y) : xw_lk (tbX3_enteredOnLine Y) 6 = some (tr_ald 7 2) := rfl
theorem lkX3_enteredOnLine_7 (Y : xw_Y) : xw_lk (tbX3_enteredOnLine Y) 7 = some (tr_ifn 20 10) := rfl
theorem lkX3_enteredOnLine_10 (Y : xw_Y) : xw_lk (tbX3_enteredOnLine Y) 10 = some (tr_ald 11 2) := rfl
theorem lkX3_enteredOnLine_11 (Y : xw_Y) : xw_lk (tbX3_enteredOnLine Y) 11 = some (tr_ild 12 1) := rfl
theorem lkX3_enteredOnLine_12 (Y : xw_Y) : xw_lk (tbX3_enteredOnLine Y) 12 = some (tr_putf 15 2 12 .int) := rfl
theorem lkX3_enteredOnLine_15 (Y : xw_Y) : xw_lk (tbX3_enteredOnLine Y) 15 = some (tr_ald 16 2) := rfl
theorem lkX3_enteredOnLine_16 (Y : xw_Y) : xw_lk (tbX3_enteredOnLine Y) 16 = some (tr_push 17 (.int 4)) := rfl
theorem lkX3_enteredOnLine_17 (Y : xw_Y) : xw_lk (tbX3_enteredOnLine Y) 17 = some (tr_putf 20 2 13 .int) := rfl
theorem lkX3_enteredOnLine_20 (Y : xw_Y) : xw_lk (tbX3_enteredOnLine Y) 20 = some (tr_ald 21 2) := rfl
theorem lkX3_enteredOnLine_21 (Y : xw_Y) : xw_lk (tbX3_enteredOnLine Y) 21 = some (tr_aret) := rfl
def tbX0_isKnown (Y : xw_Y) : List (Nat × xw_T) := [(0, tr_ald 1 0),
  (1, tr_getf 4 1 2),
  (4, tr_getf 7 3 0),
  (7, tr_ifn 24 10),
  (10, tr_ald 11 0),
  (11, tr_getf 14 1 3),
  (14, tr_getf 17 3 0),
  (17, tr_ifn 24 20),
  (20, tr_push 21 (.int 1)),
  (21, tr_goto 25),
  (24, tr_push 25 (.int 0)),
  (25, tr_iret .boolean)]
def ptX0_isKnown (Y : xw_Y) : xw_PT := xw_pt (tbX0_isKnown Y) 1 0 0
theorem lkX0_isKnown_0 (Y : xw_Y) : xw_lk (tbX0_isKnown Y) 0 = some (tr_ald 1 0) := rfl
theorem lkX0_isKnown_1 (Y : xw_Y) : xw_lk (tbX0_isKnown Y) 1 = some (tr_getf 4 1 2) := rfl
theorem lkX0_isKnown_4 (Y : xw_Y) : xw_lk (tbX0_isKnown Y) 4 = some (tr_getf 7 3 0) := rfl
theorem lkX0_isKnown_7 (Y : xw_Y) : xw_lk (tbX0_isKnown Y) 7 = some (tr_ifn 24 10) := rfl
theorem lkX0_isKnown_10 (Y : xw_Y) : xw_lk (tbX0_isKnown Y) 10 = some (tr_ald 11 0) := rfl
theorem lkX0_isKnown_11 (Y : xw_Y) : xw_lk (tbX0_isKnown Y) 11 = some (tr_getf 14 1 3) := rfl
theorem lkX0_isKnown_14 (Y : xw_Y) : xw_lk (tbX0_isKnown Y) 14 = some (tr_getf 17 3 0) := rfl
theorem lkX0_isKnown_17 (Y : xw_Y) : xw_lk (tbX0_isKnown Y) 17 = some (tr_ifn 24 20) := rfl
theorem lkX0_isKnown_20 (Y : xw_Y) : xw_lk (tbX0_isKnown Y) 20 = some (tr_push 21 (.int 1)) := rfl
theorem lkX0_isKnown_21 (Y : xw_Y) : xw_lk (tbX0_isKnown Y) 21 = some (tr_goto 25) := rfl
theorem lkX0_isKnown_24 (Y : xw_Y) : xw_lk (tbX0_isKnown Y) 24 = some (tr_push 25 (.int 0)) := rfl
theorem lkX0_isKnown_25 (Y : xw_Y) : xw_lk (tbX0_isKnown Y) 25 = some (tr_iret .boolean) := rfl
def tbX1_count (Y : xw_Y) : List (Nat × xw_T) := [(0, tr_ald 1 0),
  (1, tr_dup 2),
  (2, tr_getf 5 2 8),
  (5, tr_ild 7 4),
  (7, tr_i2 8 (fun x y => x + y)),
  (8, tr_putf 11 2 8 .int),
  (11, tr_ald 12 0),
  (12, tr_dup 13),
  (13, tr_getf 16 2 9),
  (16, tr_ild 17 1),
  (17, tr_ifz 20 25 (fun x => x = 0)),
  (20, tr_ild 22 4),
  (22, tr_goto 26),
  (25, tr_push 26 (.int 0)),
  (26, tr_i2 27 (fun x y => x + y)),
  (27, tr_putf 30 2 9 .int),
  (30, tr_ald 31 0),
  (31, tr_dup 32),
  (32, tr_getf 35 2 10),
  (35, tr_ild 36 2),
  (36, tr_ild 38 4),
  (38, tr_i2 39 (fun x y => x * y)),
  (39, tr_i2 40 (fun x y => x + y)),
  (40, tr_putf 43 2 10 .int),
  (43, tr_ald 44 0),
  (44, tr_dup 45),
  (45, tr_getf 48 2 11),
  (48, tr_ild 49 3),
  (49, tr_ild 51 4),
  (51, tr_i2 52 (fun x y => x * y)),
  (52, tr_i2 53 (fun x y => x + y)),
  (53, tr_putf 56 2 11 .int),
  (56, tr_vret)]
def ptX1_count (Y : xw_Y) : xw_PT := xw_pt (tbX1_count Y) 5 0 0
theorem lkX1_count_0 (Y : xw_Y) : xw_lk (tbX1_count Y) 0 = some (tr_ald 1 0) := rfl
theorem lkX1_count_1 (Y : xw_Y) : xw_lk (tbX1_count Y) 1 = some (tr_dup 2) := rfl
theorem lkX1_count_2 (Y : xw_Y) : xw_lk (tbX1_count Y) 2 = some (tr_getf 5 2 8) := rfl
theorem lkX1_count_5 (Y : xw_Y) : xw_lk (tbX1_count Y) 5 = some (tr_ild 7 4) := rfl
theorem lkX1_count_7 (Y : xw_Y) : xw_lk (tbX1_count Y) 7 = some (tr_i2 8 (fun x y => x + y)) := rfl
theorem lkX1_count_8 (Y : xw_Y) : xw_lk (tbX1_count Y) 8 = some (tr_putf 11 2 8 .int) := rfl
theorem lkX1_count_11 (Y : xw_Y) : xw_lk (tbX1_count Y) 11 = some (tr_ald 12 0) := rfl
theorem lkX1_count_12 (Y : xw_Y) : xw_lk (tbX1_count Y) 12 = some (tr_dup 13) := rfl
theorem lkX1_count_13 (Y : xw_Y) : xw_lk (tbX1_count Y) 13 = some (tr_getf 16 2 9) := rfl
theorem lkX1_count_16 (Y : xw_Y) : xw_lk (tbX1_count Y) 16 = some (tr_ild 17 1) := rfl
theorem lkX1_count_17 (Y : xw_Y) : xw_lk (tbX1_count Y) 17 = some (tr_ifz 20 25 (fun x => x = 0)) := rfl
theorem lkX1_count_20 (Y : xw_Y) : xw_lk (tbX1_count Y) 20 = some (tr_ild 22 4) := rfl
theorem lkX1_count_22 (Y : xw_Y) : xw_lk (tbX1_count Y) 22 = some (tr_goto 26) := rfl
theorem lkX1_count_25 (Y : xw_Y) : xw_lk (tbX1_count Y) 25 = some (tr_push 26 (.int 0)) := rfl
theorem lkX1_count_26 (Y : xw_Y) : xw_lk (tbX1_count Y) 26 = some (tr_i2 27 (fun x y => x + y)) := rfl
theorem lkX1_count_27 (Y : xw_Y) : xw_lk (tbX1_count Y) 27 = some (tr_putf 30 2 9 .int) := rfl
theorem lkX1_count_30 (Y : xw_Y) : xw_lk (tbX1_count Y) 30 = some (tr_ald 31 0) := rfl
theorem lkX1_count_31 (Y : xw_Y) : xw_lk (tbX1_count Y) 31 = some (tr_dup 32) := rfl
theorem lkX1_count_32 (Y : xw_Y) : xw_lk (tbX1_count Y) 32 = some (tr_getf 35 2 10) := rfl
theorem lkX1_count_35 (Y : xw_Y) : xw_lk (tbX1_count Y) 35 = some (tr_ild 36 2) := rfl
theorem lkX1_count_36 (Y : xw_Y) : xw_lk (tbX1_count Y) 36 = some (tr_ild 38 4) := rfl
theorem lkX1_count_38 (Y : xw_Y) : xw_lk (tbX1_count Y) 38 = some (tr_i2 39 (fun x y => x * y)) := rfl
theorem lkX1_count_39 (Y : xw_Y) : xw_lk (tbX1_count Y) 39 = some (tr_i2 40 (fun x y => x + y)) := rfl
theorem lkX1_count_40 (Y : xw_Y) : xw_lk (tbX1_count Y) 40 = some (tr_putf 43 2 10 .int) := rfl
theorem lkX1_count_43 (Y : xw_Y) : xw_lk (tbX1_count Y) 43 = some (tr_ald 44 0) := rfl
theorem lkX1_count_44 (Y : xw_Y) : xw_lk (tbX1_count Y) 44 = some (tr_dup 45) := rfl
theorem lkX1_count_45 (Y : xw_Y) : xw_lk (tbX1_count Y) 45 = some (tr_getf 48 2 11) := rfl
theorem lkX1_count_48 (Y : xw_Y) : xw_lk (tbX1_count Y) 48 = some (tr_ild 49 3) := rfl
theorem lkX1_count_49 (Y : xw_Y) : xw_lk (tbX1_count Y) 49 = some (tr_ild 51 4) := rfl
theorem lkX1_count_51 (Y : xw_Y) : xw_lk (tbX1_count Y) 51 = some (tr_i2 52 (fun x y => x * y)) := rfl
theorem lkX1_count_52 (Y : xw_Y) : xw_lk (tbX1_count Y) 52 = some (tr_i2 53 (fun x y => x + y)) := rfl
theorem lkX1_count_53 (Y : xw_Y) : xw_lk (tbX1_count Y) 53 = some (tr_putf 56 2 11 .int) := rfl
theorem lkX1_count_56 (Y : xw_Y) : xw_lk (tbX1_count Y) 56 = some (tr_vret) := rfl
def tbX2_count (Y : xw_Y) : List (Nat × xw_T) := [(0, tr_ald 1 0),
  (1, tr_getf 4 3 0),
  (4, tr_ifn 31 7),
  (7, tr_ald 8 0),
  (8, tr_getf 11 3 0),
  (11, tr_ald 12 1),
  (12, tr_ald 13 0),
  (13, tr_getf 16 3 0),
  (16, tr_ifa 19 23),
  (19, tr_push 20 (.int 1)),
  (20, tr_goto 24),
  (23, tr_push 24 (.int 0)),
  (24, tr_ild 25 2),
  (25, tr_ild 26 3),
  (26, tr_ild 28 4),
  (28, tr_callV 31 4 2 (ptX1_count Y) 0 0 0 0),
  (31, tr_vret)]
def ptX2_count (Y : xw_Y) : xw_PT := xw_pt (tbX2_count Y) 5 0 0
theorem lkX2_count_0 (Y : xw_Y) : xw_lk (tbX2_count Y) 0 = some (tr_ald 1 0) := rfl
theorem lkX2_count_1 (Y : xw_Y) : xw_lk (tbX2_count Y) 1 = some (tr_getf 4 3 0) := rfl
theorem lkX2_count_4 (Y : xw_Y) : xw_lk (tbX2_count Y) 4 = some (tr_ifn 31 7) := rfl
theorem lkX2_count_7 (Y : xw_Y) : xw_lk (tbX2_count Y) 7 = some (tr_ald 8 0) := rfl
theorem lkX2_count_8 (Y : xw_Y) : xw_lk (tbX2_count Y) 8 = some (tr_getf 11 3 0) := rfl
theorem lkX2_count_11 (Y : xw_Y) : xw_lk (tbX2_count Y) 11 = some (tr_ald 12 1) := rfl
theorem lkX2_count_12 (Y : xw_Y) : xw_lk (tbX2_count Y) 12 = some (tr_ald 13 0) := rfl
theorem lkX2_count_13 (Y : xw_Y) : xw_lk (tbX2_count Y) 13 = some (tr_getf 16 3 0) := rfl
theorem lkX2_count_16 (Y : xw_Y) : xw_lk (tbX2_count Y) 16 = some (tr_ifa 19 23) := rfl
theorem lkX2_count_19 (Y : xw_Y) : xw_lk (tbX2_count Y) 19 = some (tr_push 20 (.int 1)) := rfl
theorem lkX2_count_20 (Y : xw_Y) : xw_lk (tbX2_count Y) 20 = some (tr_goto 24) := rfl
theorem lkX2_count_23 (Y : xw_Y) : xw_lk (tbX2_count Y) 23 = some (tr_push 24 (.int 0)) := rfl
theorem lkX2_count_24 (Y : xw_Y) : xw_lk (tbX2_count Y) 24 = some (tr_ild 25 2) := rfl
theorem lkX2_count_25 (Y : xw_Y) : xw_lk (tbX2_count Y) 25 = some (tr_ild 26 3) := rfl
theorem lkX2_count_26 (Y : xw_Y) : xw_lk (tbX2_count Y) 26 = some (tr_ild 28 4) := rfl
theorem lkX2_count_28 (Y : xw_Y) : xw_lk (tbX2_count Y) 28 = some (tr_callV 31 4 2 (ptX1_count Y) 0 0 0 0) := rfl
theorem lkX2_count_31 (Y : xw_Y) : xw_lk (tbX2_count Y) 31 = some (tr_vret) := rfl
def tbX0_count (Y : xw_Y) : List (Nat × xw_T) := [(0, tr_ald 1 0),
  (1, tr_getf 4 1 2),
  (4, tr_ald 5 1),
  (5, tr_ild 6 2),
  (6, tr_ild 7 3),
  (7, tr_ild 9 4),
  (9, tr_callV 12 4 3 (ptX2_count Y) 0 0 0 0),
  (12, tr_ald 13 0),
  (13, tr_getf 16 1 3),
  (16, tr_ald 17 1),
  (17, tr_ild 18 3),
  (18, tr_ild 19 2),
  (19, tr_ild 21 4),
  (21, tr_callV 24 4 3 (ptX2_count Y) 0 0 0 0),
  (24, tr_vret)]
def ptX0_count (Y : xw_Y) : xw_PT := xw_pt (tbX0_count Y) 5 0 0
theorem lkX0_count_0 (Y : xw_Y) : xw_lk (tbX0_count Y) 0 = some (tr_ald 1 0) := rfl
theorem lkX0_count_1 (Y : xw_Y) : xw_lk (tbX0_count Y) 1 = some (tr_getf 4 1 2) := rfl
theorem lkX0_count_4 (Y : xw_Y) : xw_lk (tbX0_count Y) 4 = some (tr_ald 5 1) := rfl
theorem lkX0_count_5 (Y : xw_Y) : xw_lk (tbX0_count Y) 5 = some (tr_ild 6 2) := rfl
theorem lkX0_count_6 (Y : xw_Y) : xw_lk (tbX0_count Y) 6 = some (tr_ild 7 3) := rfl
theorem lkX0_count_7 (Y : xw_Y) : xw_lk (tbX0_count Y) 7 = some (tr_ild 9 4) := rfl
theorem lkX0_count_9 (Y : xw_Y) : xw_lk (tbX0_count Y) 9 = some (tr_callV 12 4 3 (ptX2_count Y) 0 0 0 0) := rfl
theorem lkX0_count_12 (Y : xw_Y) : xw_lk (tbX0_count Y) 12 = some (tr_ald 13 0) := rfl
theorem lkX0_count_13 (Y : xw_Y) : xw_lk (tbX0_count Y) 13 = some (tr_getf 16 1 3) := rfl
theorem lkX0_count_16 (Y : xw_Y) : xw_lk (tbX0_count Y) 16 = some (tr_ald 17 1) := rfl
theorem lkX0_count_17 (Y : xw_Y) : xw_lk (tbX0_count Y) 17 = some (tr_ild 18 3) := rfl
theorem lkX0_count_18 (Y : xw_Y) : xw_lk (tbX0_count Y) 18 = some (tr_ild 19 2) := rfl
theorem lkX0_count_19 (Y : xw_Y) : xw_lk (tbX0_count Y) 19 = some (tr_ild 21 4) := rfl
theorem lkX0_count_21 (Y : xw_Y) : xw_lk (tbX0_count Y) 21 = some (tr_callV 24 4 3 (ptX2_count Y) 0 0 0 0) := rfl
theorem lkX0_count_24 (Y : xw_Y) : xw_lk (tbX0_count Y) 24 = some (tr_vret) := rfl
def tbX0_sideOf (Y : xw_Y) : List (Nat × xw_T) := [(0, tr_ild 1 1),
  (1, tr_ifz 4 11 (fun x => ¬ x = 0)),
  (4, tr_ald 5 0),
  (5, tr_getf 8 1 2),
  (8, tr_goto 15),
  (11, tr_ald 12 0),
  (12, tr_getf 15 1 3),
  (15, tr_aret)]
def ptX0_sideOf (Y : xw_Y) : xw_PT := xw_pt (tbX0_sideOf Y) 2 0 0
theorem lkX0_sideOf_0 (Y : xw_Y) : xw_lk (tbX0_sideOf Y) 0 = some (tr_ild 1 1) := rfl
theorem lkX0_sideOf_1 (Y : xw_Y) : xw_lk (tbX0_sideOf Y) 1 = some (tr_ifz 4 11 (fun x => ¬ x = 0)) := rfl
theorem lkX0_sideOf_4 (Y : xw_Y) : xw_lk (tbX0_sideOf Y) 4 = some (tr_ald 5 0) := rfl
theorem lkX0_sideOf_5 (Y : xw_Y) : xw_lk (tbX0_sideOf Y) 5 = some (tr_getf 8 1 2) := rfl
theorem lkX0_sideOf_8 (Y : xw_Y) : xw_lk (tbX0_sideOf Y) 8 = some (tr_goto 15) := rfl
theorem lkX0_sideOf_11 (Y : xw_Y) : xw_lk (tbX0_sideOf Y) 11 = some (tr_ald 12 0) := rfl
theorem lkX0_sideOf_12 (Y : xw_Y) : xw_lk (tbX0_sideOf Y) 12 = some (tr_getf 15 1 3) := rfl
theorem lkX0_sideOf_15 (Y : xw_Y) : xw_lk (tbX0_sideOf Y) 15 = some (tr_aret) := rfl
def tbX3_goOnInTable (Y : xw_Y) : List (Nat × xw_T) := [(0, tr_ald 1 1),
  (1, tr_getf 4 1 0),
  (4, tr_ald 5 0),
  (5, tr_getf 8 4 9),
  (8, tr_i2 9 (fun x y => x - y)),
  (9, tr_ist 10 2),
  (10, tr_ald 11 0),
  (11, tr_getf 14 4 9),
  (14, tr_ald 15 0),
  (15, tr_getf 18 4 8),
  (18, tr_push 19 (.int 2)),
  (19, tr_i2z 20 (fun x y => x / y)),
  (20, tr_i2 21 (fun x y => x + y)),
  (21, tr_ild 22 2),
  (22, tr_push 23 (.int 2)),
  (23, tr_i2z 24 (fun x y => x / y)),
  (24, tr_i2 25 (fun x y => x + y)),
  (25, tr_ist 26 3),
  (26, tr_ild 27 3),
  (27, tr_push 28 (.int 0)),
  (28, tr_ald 29 0),
  (29, tr_getf 32 4 1),
  (32, tr_callV 35 0 0 (ptJx4a65c_size_8abf5 Y) 0 0 0 0),
  (35, tr_push 36 (.int 1)),
  (36, tr_i2 37 (fun x y => x - y)),
  (37, tr_callS 40 3 (ptX3_isIn Y) 0 0 0 0),
  (40, tr_ifz 43 67 (fun x => x = 0)),
  (43, tr_ald 44 0),
  (44, tr_getf 47 4 1),
  (47, tr_ild 48 3),
  (48, tr_callV 51 1 0 (ptJx4a65c_get_915e3 Y) 0 0 0 0),
  (51, tr_cast 54 1),
  (54, tr_ild 55 2),
  (55, tr_push 56 (.int 2)),
  (56, tr_i2z 57 (fun x y => x - x / y * y)),
  (57, tr_callV 60 1 1 (ptX0_sideOf Y) 0 0 0 0),
  (60, tr_ald 61 1),
  (61, tr_getf 64 1 5),
  (64, tr_putf 67 3 0 (.object "Pommel$Fencer")),
  (67, tr_vret)]
def ptX3_goOnInTable (Y : xw_Y) : xw_PT := xw_pt (tbX3_goOnInTable Y) 4 0 0
theorem lkX3_goOnInTable_0 (Y : xw_Y) : xw_lk (tbX3_goOnInTable Y) 0 = some (tr_ald 1 1) := rfl
theorem lkX3_goOnInTable_1 (Y : xw_Y) : xw_lk (tbX3_goOnInTable Y) 1 = some (tr_getf 4 1 0) := rfl
theorem lkX3_goOnInTable_4 (Y : xw_Y) : xw_lk (tbX3_goOnInTable Y) 4 = some (tr_ald 5 0) := rfl
theorem lkX3_goOnInTable_5 (Y : xw_Y) : xw_lk (tbX3_goOnInTable Y) 5 = some (tr_getf 8 4 9) := rfl
theorem lkX3_goOnInTable_8 (Y : xw_Y) : xw_lk (tbX3_goOnInTable Y) 8 = some (tr_i2 9 (fun x y => x - y)) := rfl
theorem lkX3_goOnInTable_9 (Y : xw_Y) : xw_lk (tbX3_goOnInTable Y) 9 = some (tr_ist 10 2) := rfl
theorem lkX3_goOnInTable_10 (Y : xw_Y) : xw_lk (tbX3_goOnInTable Y) 10 = some (tr_ald 11 0) := rfl
theorem lkX3_goOnInTable_11 (Y : xw_Y) : xw_lk (tbX3_goOnInTable Y) 11 = some (tr_getf 14 4 9) := rfl
theorem lkX3_goOnInTable_14 (Y : xw_Y) : xw_lk (tbX3_goOnInTable Y) 14 = some (tr_ald 15 0) := rfl
theorem lkX3_goOnInTable_15 (Y : xw_Y) : xw_lk (tbX3_goOnInTable Y) 15 = some (tr_getf 18 4 8) := rfl
theorem lkX3_goOnInTable_18 (Y : xw_Y) : xw_lk (tbX3_goOnInTable Y) 18 = some (tr_push 19 (.int 2)) := rfl
theorem lkX3_goOnInTable_19 (Y : xw_Y) : xw_lk (tbX3_goOnInTable Y) 19 = some (tr_i2z 20 (fun x y => x / y)) := rfl
theorem lkX3_goOnInTable_20 (Y : xw_Y) : xw_lk (tbX3_goOnInTable Y) 20 = some (tr_i2 21 (fun x y => x + y)) := rfl
theorem lkX3_goOnInTable_21 (Y : xw_Y) : xw_lk (tbX3_goOnInTable Y) 21 = some (tr_ild 22 2) := rfl
theorem lkX3_goOnInTable_22 (Y : xw_Y) : xw_lk (tbX3_goOnInTable Y) 22 = some (tr_push 23 (.int 2)) := rfl
theorem lkX3_goOnInTable_23 (Y : xw_Y) : xw_lk (tbX3_goOnInTable Y) 23 = some (tr_i2z 24 (fun x y => x / y)) := rfl
theorem lkX3_goOnInTable_24 (Y : xw_Y) : xw_lk (tbX3_goOnInTable Y) 24 = some (tr_i2 25 (fun x y => x + y)) := rfl
theorem lkX3_goOnInTable_25 (Y : xw_Y) : xw_lk (tbX3_goOnInTable Y) 25 = some (tr_ist 26 3) := rfl
theorem lkX3_goOnInTable_26 (Y : xw_Y) : xw_lk (tbX3_goOnInTable Y) 26 = some (tr_ild 27 3) := rfl
theorem lkX3_goOnInTable_27 (Y : xw_Y) : xw_lk (tbX3_goOnInTable Y) 27 = some (tr_push 28 (.int 0)) := rfl
theorem lkX3_goOnInTable_28 (Y : xw_Y) : xw_lk (tbX3_goOnInTable Y) 28 = some (tr_ald 29 0) := rfl
theorem lkX3_goOnInTable_29 (Y : xw_Y) : xw_lk (tbX3_goOnInTable Y) 29 = some (tr_getf 32 4 1) := rfl
theorem lkX3_goOnInTable_32 (Y : xw_Y) : xw_lk (tbX3_goOnInTable Y) 32 = some (tr_callV 35 0 0 (ptJx4a65c_size_8abf5 Y) 0 0 0 0) := rfl
theorem lkX3_goOnInTable_35 (Y : xw_Y) : xw_lk (tbX3_goOnInTable Y) 35 = some (tr_push 36 (.int 1)) := rfl
theorem lkX3_goOnInTable_36 (Y : xw_Y) : xw_lk (tbX3_goOnInTable Y) 36 = some (tr_i2 37 (fun x y => x - y)) := rfl
theorem lkX3_goOnInTable_37 (Y : xw_Y) : xw_lk (tbX3_goOnInTable Y) 37 = some (tr_callS 40 3 (ptX3_isIn Y) 0 0 0 0) := rfl
theorem lkX3_goOnInTable_40 (Y : xw_Y) : xw_lk (tbX3_goOnInTable Y) 40 = some (tr_ifz 43 67 (fun x => x = 0)) := rfl
theorem lkX3_goOnInTable_43 (Y : xw_Y) : xw_lk (tbX3_goOnInTable Y) 43 = some (tr_ald 44 0) := rfl
theorem lkX3_goOnInTable_44 (Y : xw_Y) : xw_lk (tbX3_goOnInTable Y) 44 = some (tr_getf 47 4 1) := rfl
theorem lkX3_goOnInTable_47 (Y : xw_Y) : xw_lk (tbX3_goOnInTable Y) 47 = some (tr_ild 48 3) := rfl
theorem lkX3_goOnInTable_48 (Y : xw_Y) : xw_lk (tbX3_goOnInTable Y) 48 = some (tr_callV 51 1 0 (ptJx4a65c_get_915e3 Y) 0 0 0 0) := rfl
theorem lkX3_goOnInTable_51 (Y : xw_Y) : xw_lk (tbX3_goOnInTable Y) 51 = some (tr_cast 54 1) := rfl
theorem lkX3_goOnInTable_54 (Y : xw_Y) : xw_lk (tbX3_goOnInTable Y) 54 = some (tr_ild 55 2) := rfl
theorem lkX3_goOnInTable_55 (Y : xw_Y) : xw_lk (tbX3_goOnInTable Y) 55 = some (tr_push 56 (.int 2)) := rfl
theorem lkX3_goOnInTable_56 (Y : xw_Y) : xw_lk (tbX3_goOnInTable Y) 56 = some (tr_i2z 57 (fun x y => x - x / y * y)) := rfl
theorem lkX3_goOnInTable_57 (Y : xw_Y) : xw_lk (tbX3_goOnInTable Y) 57 = some (tr_callV 60 1 1 (ptX0_sideOf Y) 0 0 0 0) := rfl
theorem lkX3_goOnInTable_60 (Y : xw_Y) : xw_lk (tbX3_goOnInTable Y) 60 = some (tr_ald 61 1) := rfl
theorem lkX3_goOnInTable_61 (Y : xw_Y) : xw_lk (tbX3_goOnInTable Y) 61 = some (tr_getf 64 1 5) := rfl
theorem lkX3_goOnInTable_64 (Y : xw_Y) : xw_lk (tbX3_goOnInTable Y) 64 = some (tr_putf 67 3 0 (.object "Pommel$Fencer")) := rfl
theorem lkX3_goOnInTable_67 (Y : xw_Y) : xw_lk (tbX3_goOnInTable Y) 67 = some (tr_vret) := rfl
def tbX3_decide (Y : xw_Y) : List (Nat × xw_T) := [(0, tr_ald 1 1),
  (1, tr_push 2 (.int 2)),
  (2, tr_putf 5 1 4 .int),
  (5, tr_ald 6 1),
  (6, tr_ald 7 2),
  (7, tr_putf 10 1 5 (.object "Pommel$Fencer")),
  (10, tr_ald 11 1),
  (11, tr_callV 14 0 1 (ptX0_isOfTable Y) 0 0 0 0),
  (14, tr_ifz 17 38 (fun x => ¬ x = 0)),
  (17, tr_ald 18 1),
  (18, tr_ald 19 2),
  (19, tr_ald 20 1),
  (20, tr_getf 23 1 2),
  (23, tr_getf 26 3 1),
  (26, tr_ald 27 1),
  (27, tr_getf 30 1 3),
  (30, tr_getf 33 3 1),
  (33, tr_push 34 (.int 1)),
  (34, tr_callV 37 4 1 (ptX0_count Y) 0 0 0 0),
  (37, tr_vret),
  (38, tr_ald 39 1),
  (39, tr_getf 42 1 2),
  (42, tr_getf 45 3 0),
  (45, tr_ald 46 2),
  (46, tr_ifa 49 59),
  (49, tr_ald 50 1),
  (50, tr_getf 53 1 3),
  (53, tr_getf 56 3 0),
  (56, tr_goto 66),
  (59, tr_ald 60 1),
  (60, tr_getf 63 1 2),
  (63, tr_getf 66 3 0),
  (66, tr_ast 67 3),
  (67, tr_ald 68 3),
  (68, tr_ifn 79 71),
  (71, tr_ald 72 3),
  (72, tr_ald 73 1),
  (73, tr_getf 76 1 1),
  (76, tr_putf 79 2 13 .int),
  (79, tr_ald 80 0),
  (80, tr_ald 81 1),
  (81, tr_callV 84 1 4 (ptX3_goOnInTable Y) 0 0 0 0),
  (84, tr_vret)]
def ptX3_decide (Y : xw_Y) : xw_PT := xw_pt (tbX3_decide Y) 4 0 0
theorem lkX3_decide_0 (Y : xw_Y) : xw_lk (tbX3_decide Y) 0 = some (tr_ald 1 1) := rfl
theorem lkX3_decide_1 (Y : xw_Y) : xw_lk (tbX3_decide Y) 1 = some (tr_push 2 (.int 2)) := rfl
theorem lkX3_decide_2 (Y : xw_Y) : xw_lk (tbX3_decide Y) 2 = some (tr_putf 5 1 4 .int) := rfl
theorem lkX3_decide_5 (Y : xw_Y) : xw_lk (tbX3_decide Y) 5 = some (tr_ald 6 1) := rfl
theorem lkX3_decide_6 (Y : xw_Y) : xw_lk (tbX3_decide Y) 6 = some (tr_ald 7 2) := rfl
theorem lkX3_decide_7 (Y : xw_Y) : xw_lk (tbX3_decide Y) 7 = some (tr_putf 10 1 5 (.object "Pommel$Fencer")) := rfl
theorem lkX3_decide_10 (Y : xw_Y) : xw_lk (tbX3_decide Y) 10 = some (tr_ald 11 1) := rfl
theorem lkX3_decide_11 (Y : xw_Y) : xw_lk (tbX3_decide Y) 11 = some (tr_callV 14 0 1 (ptX0_isOfTable Y) 0 0 0 0) := rfl
theorem lkX3_decide_14 (Y : xw_Y) : xw_lk (tbX3_decide Y) 14 = some (tr_ifz 17 38 (fun x => ¬ x = 0)) := rfl
theorem lkX3_decide_17 (Y : xw_Y) : xw_lk (tbX3_decide Y) 17 = some (tr_ald 18 1) := rfl
theorem lkX3_decide_18 (Y : xw_Y) : xw_lk (tbX3_decide Y) 18 = some (tr_ald 19 2) := rfl
theorem lkX3_decide_19 (Y : xw_Y) : xw_lk (tbX3_decide Y) 19 = some (tr_ald 20 1) := rfl
theorem lkX3_decide_20 (Y : xw_Y) : xw_lk (tbX3_decide Y) 20 = some (tr_getf 23 1 2) := rfl
theorem lkX3_decide_23 (Y : xw_Y) : xw_lk (tbX3_decide Y) 23 = some (tr_getf 26 3 1) := rfl
theorem lkX3_decide_26 (Y : xw_Y) : xw_lk (tbX3_decide Y) 26 = some (tr_ald 27 1) := rfl
theorem lkX3_decide_27 (Y : xw_Y) : xw_lk (tbX3_decide Y) 27 = some (tr_getf 30 1 3) := rfl
theorem lkX3_decide_30 (Y : xw_Y) : xw_lk (tbX3_decide Y) 30 = some (tr_getf 33 3 1) := rfl
theorem lkX3_decide_33 (Y : xw_Y) : xw_lk (tbX3_decide Y) 33 = some (tr_push 34 (.int 1)) := rfl
theorem lkX3_decide_34 (Y : xw_Y) : xw_lk (tbX3_decide Y) 34 = some (tr_callV 37 4 1 (ptX0_count Y) 0 0 0 0) := rfl
theorem lkX3_decide_37 (Y : xw_Y) : xw_lk (tbX3_decide Y) 37 = some (tr_vret) := rfl
theorem lkX3_decide_38 (Y : xw_Y) : xw_lk (tbX3_decide Y) 38 = some (tr_ald 39 1) := rfl
theorem lkX3_decide_39 (Y : xw_Y) : xw_lk (tbX3_decide Y) 39 = some (tr_getf 42 1 2) := rfl
theorem lkX3_decide_42 (Y : xw_Y) : xw_lk (tbX3_decide Y) 42 = some (tr_getf 45 3 0) := rfl
theorem lkX3_decide_45 (Y : xw_Y) : xw_lk (tbX3_decide Y) 45 = some (tr_ald 46 2) := rfl
theorem lkX3_decide_46 (Y : xw_Y) : xw_lk (tbX3_decide Y) 46 = some (tr_ifa 49 59) := rfl
theorem lkX3_decide_49 (Y : xw_Y) : xw_lk (tbX3_decide Y) 49 = some (tr_ald 50 1) := rfl
theorem lkX3_decide_50 (Y : xw_Y) : xw_lk (tbX3_decide Y) 50 = some (tr_getf 53 1 3) := rfl
theorem lkX3_decide_53 (Y : xw_Y) : xw_lk (tbX3_decide Y) 53 = some (tr_getf 56 3 0) := rfl
theorem lkX3_decide_56 (Y : xw_Y) : xw_lk (tbX3_decide Y) 56 = some (tr_goto 66) := rfl
theorem lkX3_decide_59 (Y : xw_Y) : xw_lk (tbX3_decide Y) 59 = some (tr_ald 60 1) := rfl
theorem lkX3_decide_60 (Y : xw_Y) : xw_lk (tbX3_decide Y) 60 = some (tr_getf 63 1 2) := rfl
theorem lkX3_decide_63 (Y : xw_Y) : xw_lk (tbX3_decide Y) 63 = some (tr_getf 66 3 0) := rfl
theorem lkX3_decide_66 (Y : xw_Y) : xw_lk (tbX3_decide Y) 66 = some (tr_ast 67 3) := rfl
theorem lkX3_decide_67 (Y : xw_Y) : xw_lk (tbX3_decide Y) 67 = some (tr_ald 68 3) := rfl
theorem lkX3_decide_68 (Y : xw_Y) : xw_lk (tbX3_decide Y) 68 = some (tr_ifn 79 71) := rfl
theorem lkX3_decide_71 (Y : xw_Y) : xw_lk (tbX3_decide Y) 71 = some (tr_ald 72 3) := rfl
theorem lkX3_decide_72 (Y : xw_Y) : xw_lk (tbX3_decide Y) 72 = some (tr_ald 73 1) := rfl
theorem lkX3_decide_73 (Y : xw_Y) : xw_lk (tbX3_decide Y) 73 = some (tr_getf 76 1 1) := rfl
theorem lkX3_decide_76 (Y : xw_Y) : xw_lk (tbX3_decide Y) 76 = some (tr_putf 79 2 13 .int) := rfl
theorem lkX3_decide_79 (Y : xw_Y) : xw_lk (tbX3_decide Y) 79 = some (tr_ald 80 0) := rfl
theorem lkX3_decide_80 (Y : xw_Y) : xw_lk (tbX3_decide Y) 80 = some (tr_ald 81 1) := rfl
theorem lkX3_decide_81 (Y : xw_Y) : xw_lk (tbX3_decide Y) 81 = some (tr_callV 84 1 4 (ptX3_goOnInTable Y) 0 0 0 0) := rfl
theorem lkX3_decide_84 (Y : xw_Y) : xw_lk (tbX3_decide Y) 84 = some (tr_vret) := rfl
def tbX3_decideWithoutOther (Y : xw_Y) : List (Nat × xw_T) := [(0, tr_push 1 (.int 0)),
  (1, tr_ist 2 1),
  (2, tr_ild 3 1),
  (3, tr_ald 4 0),
  (4, tr_getf 7 4 8),
  (7, tr_push 8 (.int 2)),
  (8, tr_i2z 9 (fun x y => x / y)),
  (9, tr_ifc 12 94 (fun x y => y ≤ x)),
  (12, tr_ald 13 0),
  (13, tr_getf 16 4 9),
  (16, tr_ild 17 1),
  (17, tr_i2 18 (fun x y => x + y)),
  (18, tr_ist 19 2),
  (19, tr_ild 20 2),
  (20, tr_push 21 (.int 0)),
  (21, tr_ald 22 0),
  (22, tr_getf 25 4 1),
  (25, tr_callV 28 0 0 (ptJx4a65c_size_8abf5 Y) 0 0 0 0),
  (28, tr_push 29 (.int 1)),
  (29, tr_i2 30 (fun x y => x - y)),
  (30, tr_callS 33 3 (ptX3_isIn Y) 0 0 0 0),
  (33, tr_ifz 36 37 (fun x => ¬ x = 0)),
  (36, tr_vret),
  (37, tr_ald 38 0),
  (38, tr_getf 41 4 1),
  (41, tr_ild 42 2),
  (42, tr_callV 45 1 0 (ptJx4a65c_get_915e3 Y) 0 0 0 0),
  (45, tr_cast 48 1),
  (48, tr_ast 49 3),
  (49, tr_ald 50 3),
  (50, tr_callV 53 0 1 (ptX0_isKnown Y) 0 0 0 0),
  (53, tr_ifz 56 88 (fun x => ¬ x = 0)),
  (56, tr_ald 57 0),
  (57, tr_ald 58 3),
  (58, tr_ald 59 3),
  (59, tr_getf 62 1 2),
  (62, tr_getf 65 3 0),
  (65, tr_ifn 68 78),
  (68, tr_ald 69 3),
  (69, tr_getf 72 1 3),
  (72, tr_getf 75 3 0),
  (75, tr_goto 85),
  (78, tr_ald 79 3),
  (79, tr_getf 82 1 2),
  (82, tr_getf 85 3 0),
  (85, tr_callV 88 2 4 (ptX3_decide Y) 0 0 0 0),
  (88, tr_inc 91 1 1),
  (91, tr_goto 2),
  (94, tr_vret)]
def ptX3_decideWithoutOther (Y : xw_Y) : xw_PT := xw_pt (tbX3_decideWithoutOther Y) 4 0 0
theorem lkX3_decideWithoutOther_0 (Y : xw_Y) : xw_lk (tbX3_decideWithoutOther Y) 0 = some (tr_push 1 (.int 0)) := rfl
theorem lkX3_decideWithoutOther_1 (Y : xw_Y) : xw_lk (tbX3_decideWithoutOther Y) 1 = some (tr_ist 2 1) := rfl
theorem lkX3_decideWithoutOther_2 (Y : xw_Y) : xw_lk (tbX3_decideWithoutOther Y) 2 = some (tr_ild 3 1) := rfl
theorem lkX3_decideWithoutOther_3 (Y : xw_Y) : xw_lk (tbX3_decideWithoutOther Y) 3 = some (tr_ald 4 0) := rfl
theorem lkX3_decideWithoutOther_4 (Y : xw_Y) : xw_lk (tbX3_decideWithoutOther Y) 4 = some (tr_getf 7 4 8) := rfl
theorem lkX3_decideWithoutOther_7 (Y : xw_Y) : xw_lk (tbX3_decideWithoutOther Y) 7 = some (tr_push 8 (.int 2)) := rfl
theorem lkX3_decideWithoutOther_8 (Y : xw_Y) : xw_lk (tbX3_decideWithoutOther Y) 8 = some (tr_i2z 9 (fun x y => x / y)) := rfl
theorem lkX3_decideWithoutOther_9 (Y : xw_Y) : xw_lk (tbX3_decideWithoutOther Y) 9 = some (tr_ifc 12 94 (fun x y => y ≤ x)) := rfl
theorem lkX3_decideWithoutOther_12 (Y : xw_Y) : xw_lk (tbX3_decideWithoutOther Y) 12 = some (tr_ald 13 0) := rfl
theorem lkX3_decideWithoutOther_13 (Y : xw_Y) : xw_lk (tbX3_decideWithoutOther Y) 13 = some (tr_getf 16 4 9) := rfl
theorem lkX3_decideWithoutOther_16 (Y : xw_Y) : xw_lk (tbX3_decideWithoutOther Y) 16 = some (tr_ild 17 1) := rfl
theorem lkX3_decideWithoutOther_17 (Y : xw_Y) : xw_lk (tbX3_decideWithoutOther Y) 17 = some (tr_i2 18 (fun x y => x + y)) := rfl
theorem lkX3_decideWithoutOther_18 (Y : xw_Y) : xw_lk (tbX3_decideWithoutOther Y) 18 = some (tr_ist 19 2) := rfl
theorem lkX3_decideWithoutOther_19 (Y : xw_Y) : xw_lk (tbX3_decideWithoutOther Y) 19 = some (tr_ild 20 2) := rfl
theorem lkX3_decideWithoutOther_20 (Y : xw_Y) : xw_lk (tbX3_decideWithoutOther Y) 20 = some (tr_push 21 (.int 0)) := rfl
theorem lkX3_decideWithoutOther_21 (Y : xw_Y) : xw_lk (tbX3_decideWithoutOther Y) 21 = some (tr_ald 22 0) := rfl
theorem lkX3_decideWithoutOther_22 (Y : xw_Y) : xw_lk (tbX3_decideWithoutOther Y) 22 = some (tr_getf 25 4 1) := rfl
theorem lkX3_decideWithoutOther_25 (Y : xw_Y) : xw_lk (tbX3_decideWithoutOther Y) 25 = some (tr_callV 28 0 0 (ptJx4a65c_size_8abf5 Y) 0 0 0 0) := rfl
theorem lkX3_decideWithoutOther_28 (Y : xw_Y) : xw_lk (tbX3_decideWithoutOther Y) 28 = some (tr_push 29 (.int 1)) := rfl
theorem lkX3_decideWithoutOther_29 (Y : xw_Y) : xw_lk (tbX3_decideWithoutOther Y) 29 = some (tr_i2 30 (fun x y => x - y)) := rfl
theorem lkX3_decideWithoutOther_30 (Y : xw_Y) : xw_lk (tbX3_decideWithoutOther Y) 30 = some (tr_callS 33 3 (ptX3_isIn Y) 0 0 0 0) := rfl
theorem lkX3_decideWithoutOther_33 (Y : xw_Y) : xw_lk (tbX3_decideWithoutOther Y) 33 = some (tr_ifz 36 37 (fun x => ¬ x = 0)) := rfl
theorem lkX3_decideWithoutOther_36 (Y : xw_Y) : xw_lk (tbX3_decideWithoutOther Y) 36 = some (tr_vret) := rfl
theorem lkX3_decideWithoutOther_37 (Y : xw_Y) : xw_lk (tbX3_decideWithoutOther Y) 37 = some (tr_ald 38 0) := rfl
theorem lkX3_decideWithoutOther_38 (Y : xw_Y) : xw_lk (tbX3_decideWithoutOther Y) 38 = some (tr_getf 41 4 1) := rfl
theorem lkX3_decideWithoutOther_41 (Y : xw_Y) : xw_lk (tbX3_decideWithoutOther Y) 41 = some (tr_ild 42 2) := rfl
theorem lkX3_decideWithoutOther_42 (Y : xw_Y) : xw_lk (tbX3_decideWithoutOther Y) 42 = some (tr_callV 45 1 0 (ptJx4a65c_get_915e3 Y) 0 0 0 0) := rfl
theorem lkX3_decideWithoutOther_45 (Y : xw_Y) : xw_lk (tbX3_decideWithoutOther Y) 45 = some (tr_cast 48 1) := rfl
theorem lkX3_decideWithoutOther_48 (Y : xw_Y) : xw_lk (tbX3_decideWithoutOther Y) 48 = some (tr_ast 49 3) := rfl
theorem lkX3_decideWithoutOther_49 (Y : xw_Y) : xw_lk (tbX3_decideWithoutOther Y) 49 = some (tr_ald 50 3) := rfl
theorem lkX3_decideWithoutOther_50 (Y : xw_Y) : xw_lk (tbX3_decideWithoutOther Y) 50 = some (tr_callV 53 0 1 (ptX0_isKnown Y) 0 0 0 0) := rfl
theorem lkX3_decideWithoutOther_53 (Y : xw_Y) : xw_lk (tbX3_decideWithoutOther Y) 53 = some (tr_ifz 56 88 (fun x => ¬ x = 0)) := rfl
theorem lkX3_decideWithoutOther_56 (Y : xw_Y) : xw_lk (tbX3_decideWithoutOther Y) 56 = some (tr_ald 57 0) := rfl
theorem lkX3_decideWithoutOther_57 (Y : xw_Y) : xw_lk (tbX3_decideWithoutOther Y) 57 = some (tr_ald 58 3) := rfl
theorem lkX3_decideWithoutOther_58 (Y : xw_Y) : xw_lk (tbX3_decideWithoutOther Y) 58 = some (tr_ald 59 3) := rfl
theorem lkX3_decideWithoutOther_59 (Y : xw_Y) : xw_lk (tbX3_decideWithoutOther Y) 59 = some (tr_getf 62 1 2) := rfl
theorem lkX3_decideWithoutOther_62 (Y : xw_Y) : xw_lk (tbX3_decideWithoutOther Y) 62 = some (tr_getf 65 3 0) := rfl
theorem lkX3_decideWithoutOther_65 (Y : xw_Y) : xw_lk (tbX3_decideWithoutOther Y) 65 = some (tr_ifn 68 78) := rfl
theorem lkX3_decideWithoutOther_68 (Y : xw_Y) : xw_lk (tbX3_decideWithoutOther Y) 68 = some (tr_ald 69 3) := rfl
theorem lkX3_decideWithoutOther_69 (Y : xw_Y) : xw_lk (tbX3_decideWithoutOther Y) 69 = some (tr_getf 72 1 3) := rfl
theorem lkX3_decideWithoutOther_72 (Y : xw_Y) : xw_lk (tbX3_decideWithoutOther Y) 72 = some (tr_getf 75 3 0) := rfl
theorem lkX3_decideWithoutOther_75 (Y : xw_Y) : xw_lk (tbX3_decideWithoutOther Y) 75 = some (tr_goto 85) := rfl
theorem lkX3_decideWithoutOther_78 (Y : xw_Y) : xw_lk (tbX3_decideWithoutOther Y) 78 = some (tr_ald 79 3) := rfl
theorem lkX3_decideWithoutOther_79 (Y : xw_Y) : xw_lk (tbX3_decideWithoutOther Y) 79 = some (tr_getf 82 1 2) := rfl
theorem lkX3_decideWithoutOther_82 (Y : xw_Y) : xw_lk (tbX3_decideWithoutOther Y) 82 = some (tr_getf 85 3 0) := rfl
theorem lkX3_decideWithoutOther_85 (Y : xw_Y) : xw_lk (tbX3_decideWithoutOther Y) 85 = some (tr_callV 88 2 4 (ptX3_decide Y) 0 0 0 0) := rfl
theorem lkX3_decideWithoutOther_88 (Y : xw_Y) : xw_lk (tbX3_decideWithoutOther Y) 88 = some (tr_inc 91 1 1) := rfl
theorem lkX3_decideWithoutOther_91 (Y : xw_Y) : xw_lk (tbX3_decideWithoutOther Y) 91 = some (tr_goto 2) := rfl
theorem lkX3_decideWithoutOther_94 (Y : xw_Y) : xw_lk (tbX3_decideWithoutOther Y) 94 = some (tr_vret) := rfl
def tbX3_addTableBouts (Y : xw_Y) : List (Nat × xw_T) := [(0, tr_ald 1 0),
  (1, tr_ald 2 0),
  (2, tr_getf 5 4 1),
  (5, tr_callV 8 0 0 (ptJx4a65c_size_8abf5 Y) 0 0 60 3300),
  (8, tr_putf 11 4 9 .int),
  (11, tr_push 12 (.int 0)),
  (12, tr_ist 13 1),
  (13, tr_ild 14 1),
  (14, tr_ald 15 0),
  (15, tr_getf 18 4 8),
  (18, tr_push 19 (.int 2)),
  (19, tr_i2z 20 (fun x y => x / y)),
  (20, tr_ifc 23 72 (fun x y => y ≤ x)),
  (23, tr_ald 24 0),
  (24, tr_push 25 (.int 2)),
  (25, tr_ild 26 1),
  (26, tr_i2 27 (fun x y => x * y)),
  (27, tr_callV 30 1 4 (ptX3_enteredOnLine Y) 0 0 60 3300),
  (30, tr_ast 31 2),
  (31, tr_ald 32 0),
  (32, tr_push 33 (.int 2)),
  (33, tr_ild 34 1),
  (34, tr_i2 35 (fun x y => x * y)),
  (35, tr_push 36 (.int 1)),
  (36, tr_i2 37 (fun x y => x + y)),
  (37, tr_callV 40 1 4 (ptX3_enteredOnLine Y) 0 0 60 3300),
  (40, tr_ast 41 3),
  (41, tr_ald 42 0),
  (42, tr_getf 45 4 1),
  (45, tr_new 48 1 9 [.int 0, .int 0, .null, .null, .int 0, .null, .int 0, .int 0, .int 0] 60 3300),
  (48, tr_dup 49),
  (49, tr_ald 50 0),
  (50, tr_getf 53 4 1),
  (53, tr_callV 56 0 0 (ptJx4a65c_size_8abf5 Y) 0 0 60 3300),
  (56, tr_push 57 (.int 0)),
  (57, tr_ald 58 2),
  (58, tr_ald 59 3),
  (59, tr_callI 62 4 (ptX0_init Y) 2 6 60 3300),
  (62, tr_callV 65 1 0 (ptJx4a65c_add_9ea2d Y) 1 200 60 3300),
  (65, tr_pop 66),
  (66, tr_inc 69 1 1),
  (69, tr_goto 13),
  (72, tr_push 73 (.int 1)),
  (73, tr_ist 74 1),
  (74, tr_ald 75 0),
  (75, tr_getf 78 4 8),
  (78, tr_push 79 (.int 4)),
  (79, tr_i2z 80 (fun x y => x / y)),
  (80, tr_ist 81 2),
  (81, tr_ild 82 2),
  (82, tr_ifz 85 133 (fun x => x ≤ 0)),
  (85, tr_push 86 (.int 0)),
  (86, tr_ist 87 3),
  (87, tr_ild 88 3),
  (88, tr_ild 89 2),
  (89, tr_ifc 92 123 (fun x y => y ≤ x)),
  (92, tr_ald 93 0),
  (93, tr_getf 96 4 1),
  (96, tr_new 99 1 9 [.int 0, .int 0, .null, .null, .int 0, .null, .int 0, .int 0, .int 0] 60 3300),
  (99, tr_dup 100),
  (100, tr_ald 101 0),
  (101, tr_getf 104 4 1),
  (104, tr_callV 107 0 0 (ptJx4a65c_size_8abf5 Y) 0 0 60 3300),
  (107, tr_ild 108 1),
  (108, tr_push 109 .null),
  (109, tr_push 110 .null),
  (110, tr_callI 113 4 (ptX0_init Y) 2 6 60 3300),
  (113, tr_callV 116 1 0 (ptJx4a65c_add_9ea2d Y) 1 200 60 3300),
  (116, tr_pop 117),
  (117, tr_inc 120 3 1),
  (120, tr_goto 87),
  (123, tr_inc 126 1 1),
  (126, tr_ild 127 2),
  (127, tr_push 128 (.int 2)),
  (128, tr_i2z 129 (fun x y => x / y)),
  (129, tr_ist 130 2),
  (130, tr_goto 81),
  (133, tr_ald 134 0),
  (134, tr_callV 137 0 4 (ptX3_decideWithoutOther Y) 0 0 60 3300),
  (137, tr_vret)]
def ptX3_addTableBouts (Y : xw_Y) : xw_PT := xw_pt (tbX3_addTableBouts Y) 4 60 3300
theorem lkX3_addTableBouts_0 (Y : xw_Y) : xw_lk (tbX3_addTableBouts Y) 0 = some (tr_ald 1 0) := rfl
theorem lkX3_addTableBouts_1 (Y : xw_Y) : xw_lk (tbX3_addTableBouts Y) 1 = some (tr_ald 2 0) := rfl
theorem lkX3_addTableBouts_2 (Y : xw_Y) : xw_lk (tbX3_addTableBouts Y) 2 = some (tr_getf 5 4 1) := rfl
theorem lkX3_addTableBouts_5 (Y : xw_Y) : xw_lk (tbX3_addTableBouts Y) 5 = some (tr_callV 8 0 0 (ptJx4a65c_size_8abf5 Y) 0 0 60 3300) := rfl
theorem lkX3_addTableBouts_8 (Y : xw_Y) : xw_lk (tbX3_addTableBouts Y) 8 = some (tr_putf 11 4 9 .int) := rfl
theorem lkX3_addTableBouts_11 (Y : xw_Y) : xw_lk (tbX3_addTableBouts Y) 11 = some (tr_push 12 (.int 0)) := rfl
theorem lkX3_addTableBouts_12 (Y : xw_Y) : xw_lk (tbX3_addTableBouts Y) 12 = some (tr_ist 13 1) := rfl
theorem lkX3_addTableBouts_13 (Y : xw_Y) : xw_lk (tbX3_addTableBouts Y) 13 = some (tr_ild 14 1) := rfl
theorem lkX3_addTableBouts_14 (Y : xw_Y) : xw_lk (tbX3_addTableBouts Y) 14 = some (tr_ald 15 0) := rfl
theorem lkX3_addTableBouts_15 (Y : xw_Y) : xw_lk (tbX3_addTableBouts Y) 15 = some (tr_getf 18 4 8) := rfl
theorem lkX3_addTableBouts_18 (Y : xw_Y) : xw_lk (tbX3_addTableBouts Y) 18 = some (tr_push 19 (.int 2)) := rfl
theorem lkX3_addTableBouts_19 (Y : xw_Y) : xw_lk (tbX3_addTableBouts Y) 19 = some (tr_i2z 20 (fun x y => x / y)) := rfl
theorem lkX3_addTableBouts_20 (Y : xw_Y) : xw_lk (tbX3_addTableBouts Y) 20 = some (tr_ifc 23 72 (fun x y => y ≤ x)) := rfl
theorem lkX3_addTableBouts_23 (Y : xw_Y) : xw_lk (tbX3_addTableBouts Y) 23 = some (tr_ald 24 0) := rfl
theorem lkX3_addTableBouts_24 (Y : xw_Y) : xw_lk (tbX3_addTableBouts Y) 24 = some (tr_push 25 (.int 2)) := rfl
theorem lkX3_addTableBouts_25 (Y : xw_Y) : xw_lk (tbX3_addTableBouts Y) 25 = some (tr_ild 26 1) := rfl
theorem lkX3_addTableBouts_26 (Y : xw_Y) : xw_lk (tbX3_addTableBouts Y) 26 = some (tr_i2 27 (fun x y => x * y)) := rfl
theorem lkX3_addTableBouts_27 (Y : xw_Y) : xw_lk (tbX3_addTableBouts Y) 27 = some (tr_callV 30 1 4 (ptX3_enteredOnLine Y) 0 0 60 3300) := rfl
theorem lkX3_addTableBouts_30 (Y : xw_Y) : xw_lk (tbX3_addTableBouts Y) 30 = some (tr_ast 31 2) := rfl
theorem lkX3_addTableBouts_31 (Y : xw_Y) : xw_lk (tbX3_addTableBouts Y) 31 = some (tr_ald 32 0) := rfl
theorem lkX3_addTableBouts_32 (Y : xw_Y) : xw_lk (tbX3_addTableBouts Y) 32 = some (tr_push 33 (.int 2)) := rfl
theorem lkX3_addTableBouts_33 (Y : xw_Y) : xw_lk (tbX3_addTableBouts Y) 33 = some (tr_ild 34 1) := rfl
theorem lkX3_addTableBouts_34 (Y : xw_Y) : xw_lk (tbX3_addTableBouts Y) 34 = some (tr_i2 35 (fun x y => x * y)) := rfl
theorem lkX3_addTableBouts_35 (Y : xw_Y) : xw_lk (tbX3_addTableBouts Y) 35 = some (tr_push 36 (.int 1)) := rfl
theorem lkX3_addTableBouts_36 (Y : xw_Y) : xw_lk (tbX3_addTableBouts Y) 36 = some (tr_i2 37 (fun x y => x + y)) := rfl
theorem lkX3_addTableBouts_37 (Y : xw_Y) : xw_lk (tbX3_addTableBouts Y) 37 = some (tr_callV 40 1 4 (ptX3_enteredOnLine Y) 0 0 60 3300) := rfl
theorem lkX3_addTableBouts_40 (Y : xw_Y) : xw_lk (tbX3_addTableBouts Y) 40 = some (tr_ast 41 3) := rfl
theorem lkX3_addTableBouts_41 (Y : xw_Y) : xw_lk (tbX3_addTableBouts Y) 41 = some (tr_ald 42 0) := rfl
theorem lkX3_addTableBouts_42 (Y : xw_Y) : xw_lk (tbX3_addTableBouts Y) 42 = some (tr_getf 45 4 1) := rfl
theorem lkX3_addTableBouts_45 (Y : xw_Y) : xw_lk (tbX3_addTableBouts Y) 45 = some (tr_new 48 1 9 [.int 0, .int 0, .null, .null, .int 0, .null, .int 0, .int 0, .int 0] 60 3300) := rfl
theorem lkX3_addTableBouts_48 (Y : xw_Y) : xw_lk (tbX3_addTableBouts Y) 48 = some (tr_dup 49) := rfl
theorem lkX3_addTableBouts_49 (Y : xw_Y) : xw_lk (tbX3_addTableBouts Y) 49 = some (tr_ald 50 0) := rfl
theorem lkX3_addTableBouts_50 (Y : xw_Y) : xw_lk (tbX3_addTableBouts Y) 50 = some (tr_getf 53 4 1) := rfl
theorem lkX3_addTableBouts_53 (Y : xw_Y) : xw_lk (tbX3_addTableBouts Y) 53 = some (tr_callV 56 0 0 (ptJx4a65c_size_8abf5 Y) 0 0 60 3300) := rfl
theorem lkX3_addTableBouts_56 (Y : xw_Y) : xw_lk (tbX3_addTableBouts Y) 56 = some (tr_push 57 (.int 0)) := rfl
theorem lkX3_addTableBouts_57 (Y : xw_Y) : xw_lk (tbX3_addTableBouts Y) 57 = some (tr_ald 58 2) := rfl
theorem lkX3_addTableBouts_58 (Y : xw_Y) : xw_lk (tbX3_addTableBouts Y) 58 = some (tr_ald 59 3) := rfl
theorem lkX3_addTableBouts_59 (Y : xw_Y) : xw_lk (tbX3_addTableBouts Y) 59 = some (tr_callI 62 4 (ptX0_init Y) 2 6 60 3300) := rfl
theorem lkX3_addTableBouts_62 (Y : xw_Y) : xw_lk (tbX3_addTableBouts Y) 62 = some (tr_callV 65 1 0 (ptJx4a65c_add_9ea2d Y) 1 200 60 3300) := rfl
theorem lkX3_addTableBouts_65 (Y : xw_Y) : xw_lk (tbX3_addTableBouts Y) 65 = some (tr_pop 66) := rfl
theorem lkX3_addTableBouts_66 (Y : xw_Y) : xw_lk (tbX3_addTableBouts Y) 66 = some (tr_inc 69 1 1) := rfl
theorem lkX3_addTableBouts_69 (Y : xw_Y) : xw_lk (tbX3_addTableBouts Y) 69 = some (tr_goto 13) := rfl
theorem lkX3_addTableBouts_72 (Y : xw_Y) : xw_lk (tbX3_addTableBouts Y) 72 = some (tr_push 73 (.int 1)) := rfl
theorem lkX3_addTableBouts_73 (Y : xw_Y) : xw_lk (tbX3_addTableBouts Y) 73 = some (tr_ist 74 1) := rfl
theorem lkX3_addTableBouts_74 (Y : xw_Y) : xw_lk (tbX3_addTableBouts Y) 74 = some (tr_ald 75 0) := rfl
theorem lkX3_addTableBouts_75 (Y : xw_Y) : xw_lk (tbX3_addTableBouts Y) 75 = some (tr_getf 78 4 8) := rfl
theorem lkX3_addTableBouts_78 (Y : xw_Y) : xw_lk (tbX3_addTableBouts Y) 78 = some (tr_push 79 (.int 4)) := rfl
theorem lkX3_addTableBouts_79 (Y : xw_Y) : xw_lk (tbX3_addTableBouts Y) 79 = some (tr_i2z 80 (fun x y => x / y)) := rfl
theorem lkX3_addTableBouts_80 (Y : xw_Y) : xw_lk (tbX3_addTableBouts Y) 80 = some (tr_ist 81 2) := rfl
theorem lkX3_addTableBouts_81 (Y : xw_Y) : xw_lk (tbX3_addTableBouts Y) 81 = some (tr_ild 82 2) := rfl
theorem lkX3_addTableBouts_82 (Y : xw_Y) : xw_lk (tbX3_addTableBouts Y) 82 = some (tr_ifz 85 133 (fun x => x ≤ 0)) := rfl
theorem lkX3_addTableBouts_85 (Y : xw_Y) : xw_lk (tbX3_addTableBouts Y) 85 = some (tr_push 86 (.int 0)) := rfl
theorem lkX3_addTableBouts_86 (Y : xw_Y) : xw_lk (tbX3_addTableBouts Y) 86 = some (tr_ist 87 3) := rfl
theorem lkX3_addTableBouts_87 (Y : xw_Y) : xw_lk (tbX3_addTableBouts Y) 87 = some (tr_ild 88 3) := rfl
theorem lkX3_addTableBouts_88 (Y : xw_Y) : xw_lk (tbX3_addTableBouts Y) 88 = some (tr_ild 89 2) := rfl
theorem lkX3_addTableBouts_89 (Y : xw_Y) : xw_lk (tbX3_addTableBouts Y) 89 = some (tr_ifc 92 123 (fun x y => y ≤ x)) := rfl
theorem lkX3_addTableBouts_92 (Y : xw_Y) : xw_lk (tbX3_addTableBouts Y) 92 = some (tr_ald 93 0) := rfl
theorem lkX3_addTableBouts_93 (Y : xw_Y) : xw_lk (tbX3_addTableBouts Y) 93 = some (tr_getf 96 4 1) := rfl
theorem lkX3_addTableBouts_96 (Y : xw_Y) : xw_lk (tbX3_addTableBouts Y) 96 = some (tr_new 99 1 9 [.int 0, .int 0, .null, .null, .int 0, .null, .int 0, .int 0, .int 0] 60 3300) := rfl
theorem lkX3_addTableBouts_99 (Y : xw_Y) : xw_lk (tbX3_addTableBouts Y) 99 = some (tr_dup 100) := rfl
theorem lkX3_addTableBouts_100 (Y : xw_Y) : xw_lk (tbX3_addTableBouts Y) 100 = some (tr_ald 101 0) := rfl
theorem lkX3_addTableBouts_101 (Y : xw_Y) : xw_lk (tbX3_addTableBouts Y) 101 = some (tr_getf 104 4 1) := rfl
theorem lkX3_addTableBouts_104 (Y : xw_Y) : xw_lk (tbX3_addTableBouts Y) 104 = some (tr_callV 107 0 0 (ptJx4a65c_size_8abf5 Y) 0 0 60 3300) := rfl
theorem lkX3_addTableBouts_107 (Y : xw_Y) : xw_lk (tbX3_addTableBouts Y) 107 = some (tr_ild 108 1) := rfl
theorem lkX3_addTableBouts_108 (Y : xw_Y) : xw_lk (tbX3_addTableBouts Y) 108 = some (tr_push 109 .null) := rfl
theorem lkX3_addTableBouts_109 (Y : xw_Y) : xw_lk (tbX3_addTableBouts Y) 109 = some (tr_push 110 .null) := rfl
theorem lkX3_addTableBouts_110 (Y : xw_Y) : xw_lk (tbX3_addTableBouts Y) 110 = some (tr_callI 113 4 (ptX0_init Y) 2 6 60 3300) := rfl
theorem lkX3_addTableBouts_113 (Y : xw_Y) : xw_lk (tbX3_addTableBouts Y) 113 = some (tr_callV 116 1 0 (ptJx4a65c_add_9ea2d Y) 1 200 60 3300) := rfl
theorem lkX3_addTableBouts_116 (Y : xw_Y) : xw_lk (tbX3_addTableBouts Y) 116 = some (tr_pop 117) := rfl
theorem lkX3_addTableBouts_117 (Y : xw_Y) : xw_lk (tbX3_addTableBouts Y) 117 = some (tr_inc 120 3 1) := rfl
theorem lkX3_addTableBouts_120 (Y : xw_Y) : xw_lk (tbX3_addTableBouts Y) 120 = some (tr_goto 87) := rfl
theorem lkX3_addTableBouts_123 (Y : xw_Y) : xw_lk (tbX3_addTableBouts Y) 123 = some (tr_inc 126 1 1) := rfl
theorem lkX3_addTableBouts_126 (Y : xw_Y) : xw_lk (tbX3_addTableBouts Y) 126 = some (tr_ild 127 2) := rfl
theorem lkX3_addTableBouts_127 (Y : xw_Y) : xw_lk (tbX3_addTableBouts Y) 127 = some (tr_push 128 (.int 2)) := rfl
theorem lkX3_addTableBouts_128 (Y : xw_Y) : xw_lk (tbX3_addTableBouts Y) 128 = some (tr_i2z 129 (fun x y => x / y)) := rfl
theorem lkX3_addTableBouts_129 (Y : xw_Y) : xw_lk (tbX3_addTableBouts Y) 129 = some (tr_ist 130 2) := rfl
theorem lkX3_addTableBouts_130 (Y : xw_Y) : xw_lk (tbX3_addTableBouts Y) 130 = some (tr_goto 81) := rfl
theorem lkX3_addTableBouts_133 (Y : xw_Y) : xw_lk (tbX3_addTableBouts Y) 133 = some (tr_ald 134 0) := rfl
theorem lkX3_addTableBouts_134 (Y : xw_Y) : xw_lk (tbX3_addTableBouts Y) 134 = some (tr_callV 137 0 4 (ptX3_decideWithoutOther Y) 0 0 60 3300) := rfl
theorem lkX3_addTableBouts_137 (Y : xw_Y) : xw_lk (tbX3_addTableBouts Y) 137 = some (tr_vret) := rfl
def tbX3_draw (Y : xw_Y) : List (Nat × xw_T) := [(0, tr_ild 1 1),
  (1, tr_push 2 (.int 0)),
  (2, tr_push 4 (.int 50)),
  (4, tr_callS 7 3 (ptX3_isIn Y) 0 0 60 3300),
  (7, tr_ifz 10 21 (fun x => ¬ x = 0)),
  (21, tr_ald 22 0),
  (22, tr_getf 25 4 6),
  (25, tr_ifz 28 51 (fun x => x = 0)),
  (28, tr_ald 29 0),
  (29, tr_getf 32 4 8),
  (32, tr_ifz 35 51 (fun x => 0 < x)),
  (35, tr_ald 36 0),
  (36, tr_push 37 (.int 0)),
  (37, tr_callV 40 1 4 (ptX3_boutsIn Y) 0 0 60 3300),
  (40, tr_ifz 43 51 (fun x => 0 < x)),
  (43, tr_ald 44 0),
  (44, tr_push 45 (.int 1)),
  (45, tr_callV 48 1 4 (ptX3_boutsIn Y) 0 0 60 3300),
  (48, tr_ifz 51 62 (fun x => x ≤ 0)),
  (62, tr_ald 63 0),
  (63, tr_getf 66 4 0),
  (66, tr_callV 69 0 0 (ptJx4a65c_size_8abf5 Y) 0 0 60 3300),
  (69, tr_ald 70 0),
  (70, tr_callV 73 0 4 (ptX3_fencersOut Y) 0 0 60 3300),
  (73, tr_i2 74 (fun x y => x - y)),
  (74, tr_ist 75 2),
  (75, tr_ild 76 2),
  (76, tr_ild 77 2),
  (77, tr_ild 78 1),
  (78, tr_i2 79 (fun x y => x * y)),
  (79, tr_push 81 (.int 100)),
  (81, tr_i2z 82 (fun x y => x / y)),
  (82, tr_i2 83 (fun x y => x - y)),
  (83, tr_ist 84 3),
  (84, tr_ild 85 3),
  (85, tr_push 86 (.int 2)),
  (86, tr_ifc 89 100 (fun x y => y ≤ x)),
  (100, tr_ald 101 0),
  (101, tr_ild 102 3),
  (102, tr_callV 105 1 4 (ptX3_seed Y) 0 0 60 3300),
  (105, tr_ald 106 0),
  (106, tr_ild 107 3),
  (107, tr_callV 110 1 4 (ptX3_setLines Y) 0 0 60 3300),
  (110, tr_ald 111 0),
  (111, tr_callV 114 0 4 (ptX3_addTableBouts Y) 60 3300 60 3300),
  (114, tr_ild 115 3),
  (115, tr_iret .int)]
def ptX3_draw (Y : xw_Y) : xw_PT := xw_pt (tbX3_draw Y) 4 60 3300
theorem lkX3_draw_0 (Y : xw_Y) : xw_lk (tbX3_draw Y) 0 = some (tr_ild 1 1) := rfl
theorem lkX3_draw_1 (Y : xw_Y) : xw_lk (tbX3_draw Y) 1 = some (tr_push 2 (.int 0)) := rfl
theorem lkX3_draw_2 (Y : xw_Y) : xw_lk (tbX3_draw Y) 2 = some (tr_push 4 (.int 50)) := rfl
theorem lkX3_draw_4 (Y : xw_Y) : xw_lk (tbX3_draw Y) 4 = some (tr_callS 7 3 (ptX3_isIn Y) 0 0 60 3300) := rfl
theorem lkX3_draw_7 (Y : xw_Y) : xw_lk (tbX3_draw Y) 7 = some (tr_ifz 10 21 (fun x => ¬ x = 0)) := rfl
theorem lkX3_draw_21 (Y : xw_Y) : xw_lk (tbX3_draw Y) 21 = some (tr_ald 22 0) := rfl
theorem lkX3_draw_22 (Y : xw_Y) : xw_lk (tbX3_draw Y) 22 = some (tr_getf 25 4 6) := rfl
theorem lkX3_draw_25 (Y : xw_Y) : xw_lk (tbX3_draw Y) 25 = some (tr_ifz 28 51 (fun x => x = 0)) := rfl
theorem lkX3_draw_28 (Y : xw_Y) : xw_lk (tbX3_draw Y) 28 = some (tr_ald 29 0) := rfl
theorem lkX3_draw_29 (Y : xw_Y) : xw_lk (tbX3_draw Y) 29 = some (tr_getf 32 4 8) := rfl
theorem lkX3_draw_32 (Y : xw_Y) : xw_lk (tbX3_draw Y) 32 = some (tr_ifz 35 51 (fun x => 0 < x)) := rfl
theorem lkX3_draw_35 (Y : xw_Y) : xw_lk (tbX3_draw Y) 35 = some (tr_ald 36 0) := rfl
theorem lkX3_draw_36 (Y : xw_Y) : xw_lk (tbX3_draw Y) 36 = some (tr_push 37 (.int 0)) := rfl
theorem lkX3_draw_37 (Y : xw_Y) : xw_lk (tbX3_draw Y) 37 = some (tr_callV 40 1 4 (ptX3_boutsIn Y) 0 0 60 3300) := rfl
theorem lkX3_draw_40 (Y : xw_Y) : xw_lk (tbX3_draw Y) 40 = some (tr_ifz 43 51 (fun x => 0 < x)) := rfl
theorem lkX3_draw_43 (Y : xw_Y) : xw_lk (tbX3_draw Y) 43 = some (tr_ald 44 0) := rfl
theorem lkX3_draw_44 (Y : xw_Y) : xw_lk (tbX3_draw Y) 44 = some (tr_push 45 (.int 1)) := rfl
theorem lkX3_draw_45 (Y : xw_Y) : xw_lk (tbX3_draw Y) 45 = some (tr_callV 48 1 4 (ptX3_boutsIn Y) 0 0 60 3300) := rfl
theorem lkX3_draw_48 (Y : xw_Y) : xw_lk (tbX3_draw Y) 48 = some (tr_ifz 51 62 (fun x => x ≤ 0)) := rfl
theorem lkX3_draw_62 (Y : xw_Y) : xw_lk (tbX3_draw Y) 62 = some (tr_ald 63 0) := rfl
theorem lkX3_draw_63 (Y : xw_Y) : xw_lk (tbX3_draw Y) 63 = some (tr_getf 66 4 0) := rfl
theorem lkX3_draw_66 (Y : xw_Y) : xw_lk (tbX3_draw Y) 66 = some (tr_callV 69 0 0 (ptJx4a65c_size_8abf5 Y) 0 0 60 3300) := rfl
theorem lkX3_draw_69 (Y : xw_Y) : xw_lk (tbX3_draw Y) 69 = some (tr_ald 70 0) := rfl
theorem lkX3_draw_70 (Y : xw_Y) : xw_lk (tbX3_draw Y) 70 = some (tr_callV 73 0 4 (ptX3_fencersOut Y) 0 0 60 3300) := rfl
theorem lkX3_draw_73 (Y : xw_Y) : xw_lk (tbX3_draw Y) 73 = some (tr_i2 74 (fun x y => x - y)) := rfl
theorem lkX3_draw_74 (Y : xw_Y) : xw_lk (tbX3_draw Y) 74 = some (tr_ist 75 2) := rfl
theorem lkX3_draw_75 (Y : xw_Y) : xw_lk (tbX3_draw Y) 75 = some (tr_ild 76 2) := rfl
theorem lkX3_draw_76 (Y : xw_Y) : xw_lk (tbX3_draw Y) 76 = some (tr_ild 77 2) := rfl
theorem lkX3_draw_77 (Y : xw_Y) : xw_lk (tbX3_draw Y) 77 = some (tr_ild 78 1) := rfl
theorem lkX3_draw_78 (Y : xw_Y) : xw_lk (tbX3_draw Y) 78 = some (tr_i2 79 (fun x y => x * y)) := rfl
theorem lkX3_draw_79 (Y : xw_Y) : xw_lk (tbX3_draw Y) 79 = some (tr_push 81 (.int 100)) := rfl
theorem lkX3_draw_81 (Y : xw_Y) : xw_lk (tbX3_draw Y) 81 = some (tr_i2z 82 (fun x y => x / y)) := rfl
theorem lkX3_draw_82 (Y : xw_Y) : xw_lk (tbX3_draw Y) 82 = some (tr_i2 83 (fun x y => x - y)) := rfl
theorem lkX3_draw_83 (Y : xw_Y) : xw_lk (tbX3_draw Y) 83 = some (tr_ist 84 3) := rfl
theorem lkX3_draw_84 (Y : xw_Y) : xw_lk (tbX3_draw Y) 84 = some (tr_ild 85 3) := rfl
theorem lkX3_draw_85 (Y : xw_Y) : xw_lk (tbX3_draw Y) 85 = some (tr_push 86 (.int 2)) := rfl
theorem lkX3_draw_86 (Y : xw_Y) : xw_lk (tbX3_draw Y) 86 = some (tr_ifc 89 100 (fun x y => y ≤ x)) := rfl
theorem lkX3_draw_100 (Y : xw_Y) : xw_lk (tbX3_draw Y) 100 = some (tr_ald 101 0) := rfl
theorem lkX3_draw_101 (Y : xw_Y) : xw_lk (tbX3_draw Y) 101 = some (tr_ild 102 3) := rfl
theorem lkX3_draw_102 (Y : xw_Y) : xw_lk (tbX3_draw Y) 102 = some (tr_callV 105 1 4 (ptX3_seed Y) 0 0 60 3300) := rfl
theorem lkX3_draw_105 (Y : xw_Y) : xw_lk (tbX3_draw Y) 105 = some (tr_ald 106 0) := rfl
theorem lkX3_draw_106 (Y : xw_Y) : xw_lk (tbX3_draw Y) 106 = some (tr_ild 107 3) := rfl
theorem lkX3_draw_107 (Y : xw_Y) : xw_lk (tbX3_draw Y) 107 = some (tr_callV 110 1 4 (ptX3_setLines Y) 0 0 60 3300) := rfl
theorem lkX3_draw_110 (Y : xw_Y) : xw_lk (tbX3_draw Y) 110 = some (tr_ald 111 0) := rfl
theorem lkX3_draw_111 (Y : xw_Y) : xw_lk (tbX3_draw Y) 111 = some (tr_callV 114 0 4 (ptX3_addTableBouts Y) 60 3300 60 3300) := rfl
theorem lkX3_draw_114 (Y : xw_Y) : xw_lk (tbX3_draw Y) 114 = some (tr_ild 115 3) := rfl
theorem lkX3_draw_115 (Y : xw_Y) : xw_lk (tbX3_draw Y) 115 = some (tr_iret .int) := rfl
def tbX2_restedAt (Y : xw_Y) : List (Nat × xw_T) := [(0, tr_ald 1 0),
  (1, tr_getf 4 3 0),
  (4, tr_ifn 7 11),
  (7, tr_push 8 (.int 0)),
  (8, tr_goto 18),
  (11, tr_ald 12 0),
  (12, tr_getf 15 3 0),
  (15, tr_getf 18 2 7),
  (18, tr_iret .int)]
def ptX2_restedAt (Y : xw_Y) : xw_PT := xw_pt (tbX2_restedAt Y) 1 0 0
theorem lkX2_restedAt_0 (Y : xw_Y) : xw_lk (tbX2_restedAt Y) 0 = some (tr_ald 1 0) := rfl
theorem lkX2_restedAt_1 (Y : xw_Y) : xw_lk (tbX2_restedAt Y) 1 = some (tr_getf 4 3 0) := rfl
theorem lkX2_restedAt_4 (Y : xw_Y) : xw_lk (tbX2_restedAt Y) 4 = some (tr_ifn 7 11) := rfl
theorem lkX2_restedAt_7 (Y : xw_Y) : xw_lk (tbX2_restedAt Y) 7 = some (tr_push 8 (.int 0)) := rfl
theorem lkX2_restedAt_8 (Y : xw_Y) : xw_lk (tbX2_restedAt Y) 8 = some (tr_goto 18) := rfl
theorem lkX2_restedAt_11 (Y : xw_Y) : xw_lk (tbX2_restedAt Y) 11 = some (tr_ald 12 0) := rfl
theorem lkX2_restedAt_12 (Y : xw_Y) : xw_lk (tbX2_restedAt Y) 12 = some (tr_getf 15 3 0) := rfl
theorem lkX2_restedAt_15 (Y : xw_Y) : xw_lk (tbX2_restedAt Y) 15 = some (tr_getf 18 2 7) := rfl
theorem lkX2_restedAt_18 (Y : xw_Y) : xw_lk (tbX2_restedAt Y) 18 = some (tr_iret .int) := rfl
def tbX0_restedAt (Y : xw_Y) : List (Nat × xw_T) := [(0, tr_ald 1 0),
  (1, tr_getf 4 1 2),
  (4, tr_callV 7 0 3 (ptX2_restedAt Y) 0 0 0 0),
  (7, tr_ald 8 0),
  (8, tr_getf 11 1 3),
  (11, tr_callV 14 0 3 (ptX2_restedAt Y) 0 0 0 0),
  (14, tr_max 17 0 0),
  (17, tr_iret .int)]
def ptX0_restedAt (Y : xw_Y) : xw_PT := xw_pt (tbX0_restedAt Y) 1 0 0
theorem lkX0_restedAt_0 (Y : xw_Y) : xw_lk (tbX0_restedAt Y) 0 = some (tr_ald 1 0) := rfl
theorem lkX0_restedAt_1 (Y : xw_Y) : xw_lk (tbX0_restedAt Y) 1 = some (tr_getf 4 1 2) := rfl
theorem lkX0_restedAt_4 (Y : xw_Y) : xw_lk (tbX0_restedAt Y) 4 = some (tr_callV 7 0 3 (ptX2_restedAt Y) 0 0 0 0) := rfl
theorem lkX0_restedAt_7 (Y : xw_Y) : xw_lk (tbX0_restedAt Y) 7 = some (tr_ald 8 0) := rfl
theorem lkX0_restedAt_8 (Y : xw_Y) : xw_lk (tbX0_restedAt Y) 8 = some (tr_getf 11 1 3) := rfl
theorem lkX0_restedAt_11 (Y : xw_Y) : xw_lk (tbX0_restedAt Y) 11 = some (tr_callV 14 0 3 (ptX2_restedAt Y) 0 0 0 0) := rfl
theorem lkX0_restedAt_14 (Y : xw_Y) : xw_lk (tbX0_restedAt Y) 14 = some (tr_max 17 0 0) := rfl
theorem lkX0_restedAt_17 (Y : xw_Y) : xw_lk (tbX0_restedAt Y) 17 = some (tr_iret .int) := rfl
def tbX2_isInLiveBout (Y : xw_Y) : List (Nat × xw_T) := [(0, tr_ald 1 0),
  (1, tr_getf 4 3 0),
  (4, tr_ifn 21 7),
  (7, tr_ald 8 0),
  (8, tr_getf 11 3 0),
  (11, tr_getf 14 2 6),
  (14, tr_ifn 21 17),
  (17, tr_push 18 (.int 1)),
  (18, tr_goto 22),
  (21, tr_push 22 (.int 0)),
  (22, tr_iret .boolean)]
def ptX2_isInLiveBout (Y : xw_Y) : xw_PT := xw_pt (tbX2_isInLiveBout Y) 1 0 0
theorem lkX2_isInLiveBout_0 (Y : xw_Y) : xw_lk (tbX2_isInLiveBout Y) 0 = some (tr_ald 1 0) := rfl
theorem lkX2_isInLiveBout_1 (Y : xw_Y) : xw_lk (tbX2_isInLiveBout Y) 1 = some (tr_getf 4 3 0) := rfl
theorem lkX2_isInLiveBout_4 (Y : xw_Y) : xw_lk (tbX2_isInLiveBout Y) 4 = some (tr_ifn 21 7) := rfl
theorem lkX2_isInLiveBout_7 (Y : xw_Y) : xw_lk (tbX2_isInLiveBout Y) 7 = some (tr_ald 8 0) := rfl
theorem lkX2_isInLiveBout_8 (Y : xw_Y) : xw_lk (tbX2_isInLiveBout Y) 8 = some (tr_getf 11 3 0) := rfl
theorem lkX2_isInLiveBout_11 (Y : xw_Y) : xw_lk (tbX2_isInLiveBout Y) 11 = some (tr_getf 14 2 6) := rfl
theorem lkX2_isInLiveBout_14 (Y : xw_Y) : xw_lk (tbX2_isInLiveBout Y) 14 = some (tr_ifn 21 17) := rfl
theorem lkX2_isInLiveBout_17 (Y : xw_Y) : xw_lk (tbX2_isInLiveBout Y) 17 = some (tr_push 18 (.int 1)) := rfl
theorem lkX2_isInLiveBout_18 (Y : xw_Y) : xw_lk (tbX2_isInLiveBout Y) 18 = some (tr_goto 22) := rfl
theorem lkX2_isInLiveBout_21 (Y : xw_Y) : xw_lk (tbX2_isInLiveBout Y) 21 = some (tr_push 22 (.int 0)) := rfl
theorem lkX2_isInLiveBout_22 (Y : xw_Y) : xw_lk (tbX2_isInLiveBout Y) 22 = some (tr_iret .boolean) := rfl
def tbX3_whyNotReady (Y : xw_Y) : List (Nat × xw_T) := [(0, tr_ald 1 1),
  (1, tr_getf 4 1 4),
  (4, tr_ifz 7 9 (fun x => x = 0)),
  (7, tr_push 8 (.int 1)),
  (8, tr_iret .int),
  (9, tr_ald 10 1),
  (10, tr_callV 13 0 1 (ptX0_isKnown Y) 0 0 0 0),
  (13, tr_ifz 16 18 (fun x => ¬ x = 0)),
  (16, tr_push 17 (.int 2)),
  (17, tr_iret .int),
  (18, tr_ald 19 1),
  (19, tr_getf 22 1 2),
  (22, tr_callV 25 0 3 (ptX2_isInLiveBout Y) 0 0 0 0),
  (25, tr_ifz 28 38 (fun x => ¬ x = 0)),
  (28, tr_ald 29 1),
  (29, tr_getf 32 1 3),
  (32, tr_callV 35 0 3 (ptX2_isInLiveBout Y) 0 0 0 0),
  (35, tr_ifz 38 40 (fun x => x = 0)),
  (38, tr_push 39 (.int 3)),
  (39, tr_iret .int),
  (40, tr_ald 41 0),
  (41, tr_getf 44 4 7),
  (44, tr_ald 45 1),
  (45, tr_callV 48 0 1 (ptX0_restedAt Y) 0 0 0 0),
  (48, tr_ifc 51 55 (fun x y => y ≤ x)),
  (51, tr_push 52 (.int 4)),
  (52, tr_goto 56),
  (55, tr_push 56 (.int 0)),
  (56, tr_iret .int)]
def ptX3_whyNotReady (Y : xw_Y) : xw_PT := xw_pt (tbX3_whyNotReady Y) 2 0 0
theorem lkX3_whyNotReady_0 (Y : xw_Y) : xw_lk (tbX3_whyNotReady Y) 0 = some (tr_ald 1 1) := rfl
theorem lkX3_whyNotReady_1 (Y : xw_Y) : xw_lk (tbX3_whyNotReady Y) 1 = some (tr_getf 4 1 4) := rfl
theorem lkX3_whyNotReady_4 (Y : xw_Y) : xw_lk (tbX3_whyNotReady Y) 4 = some (tr_ifz 7 9 (fun x => x = 0)) := rfl
theorem lkX3_whyNotReady_7 (Y : xw_Y) : xw_lk (tbX3_whyNotReady Y) 7 = some (tr_push 8 (.int 1)) := rfl
theorem lkX3_whyNotReady_8 (Y : xw_Y) : xw_lk (tbX3_whyNotReady Y) 8 = some (tr_iret .int) := rfl
theorem lkX3_whyNotReady_9 (Y : xw_Y) : xw_lk (tbX3_whyNotReady Y) 9 = some (tr_ald 10 1) := rfl
theorem lkX3_whyNotReady_10 (Y : xw_Y) : xw_lk (tbX3_whyNotReady Y) 10 = some (tr_callV 13 0 1 (ptX0_isKnown Y) 0 0 0 0) := rfl
theorem lkX3_whyNotReady_13 (Y : xw_Y) : xw_lk (tbX3_whyNotReady Y) 13 = some (tr_ifz 16 18 (fun x => ¬ x = 0)) := rfl
theorem lkX3_whyNotReady_16 (Y : xw_Y) : xw_lk (tbX3_whyNotReady Y) 16 = some (tr_push 17 (.int 2)) := rfl
theorem lkX3_whyNotReady_17 (Y : xw_Y) : xw_lk (tbX3_whyNotReady Y) 17 = some (tr_iret .int) := rfl
theorem lkX3_whyNotReady_18 (Y : xw_Y) : xw_lk (tbX3_whyNotReady Y) 18 = some (tr_ald 19 1) := rfl
theorem lkX3_whyNotReady_19 (Y : xw_Y) : xw_lk (tbX3_whyNotReady Y) 19 = some (tr_getf 22 1 2) := rfl
theorem lkX3_whyNotReady_22 (Y : xw_Y) : xw_lk (tbX3_whyNotReady Y) 22 = some (tr_callV 25 0 3 (ptX2_isInLiveBout Y) 0 0 0 0) := rfl
theorem lkX3_whyNotReady_25 (Y : xw_Y) : xw_lk (tbX3_whyNotReady Y) 25 = some (tr_ifz 28 38 (fun x => ¬ x = 0)) := rfl
theorem lkX3_whyNotReady_28 (Y : xw_Y) : xw_lk (tbX3_whyNotReady Y) 28 = some (tr_ald 29 1) := rfl
theorem lkX3_whyNotReady_29 (Y : xw_Y) : xw_lk (tbX3_whyNotReady Y) 29 = some (tr_getf 32 1 3) := rfl
theorem lkX3_whyNotReady_32 (Y : xw_Y) : xw_lk (tbX3_whyNotReady Y) 32 = some (tr_callV 35 0 3 (ptX2_isInLiveBout Y) 0 0 0 0) := rfl
theorem lkX3_whyNotReady_35 (Y : xw_Y) : xw_lk (tbX3_whyNotReady Y) 35 = some (tr_ifz 38 40 (fun x => x = 0)) := rfl
theorem lkX3_whyNotReady_38 (Y : xw_Y) : xw_lk (tbX3_whyNotReady Y) 38 = some (tr_push 39 (.int 3)) := rfl
theorem lkX3_whyNotReady_39 (Y : xw_Y) : xw_lk (tbX3_whyNotReady Y) 39 = some (tr_iret .int) := rfl
theorem lkX3_whyNotReady_40 (Y : xw_Y) : xw_lk (tbX3_whyNotReady Y) 40 = some (tr_ald 41 0) := rfl
theorem lkX3_whyNotReady_41 (Y : xw_Y) : xw_lk (tbX3_whyNotReady Y) 41 = some (tr_getf 44 4 7) := rfl
theorem lkX3_whyNotReady_44 (Y : xw_Y) : xw_lk (tbX3_whyNotReady Y) 44 = some (tr_ald 45 1) := rfl
theorem lkX3_whyNotReady_45 (Y : xw_Y) : xw_lk (tbX3_whyNotReady Y) 45 = some (tr_callV 48 0 1 (ptX0_restedAt Y) 0 0 0 0) := rfl
theorem lkX3_whyNotReady_48 (Y : xw_Y) : xw_lk (tbX3_whyNotReady Y) 48 = some (tr_ifc 51 55 (fun x y => y ≤ x)) := rfl
theorem lkX3_whyNotReady_51 (Y : xw_Y) : xw_lk (tbX3_whyNotReady Y) 51 = some (tr_push 52 (.int 4)) := rfl
theorem lkX3_whyNotReady_52 (Y : xw_Y) : xw_lk (tbX3_whyNotReady Y) 52 = some (tr_goto 56) := rfl
theorem lkX3_whyNotReady_55 (Y : xw_Y) : xw_lk (tbX3_whyNotReady Y) 55 = some (tr_push 56 (.int 0)) := rfl
theorem lkX3_whyNotReady_56 (Y : xw_Y) : xw_lk (tbX3_whyNotReady Y) 56 = some (tr_iret .int) := rfl
def tbX3_next (Y : xw_Y) : List (Nat × xw_T) := [(0, tr_push 1 (.int (-1))),
  (1, tr_ist 2 1),
  (2, tr_push 3 (.int 0)),
  (3, tr_ist 4 2),
  (4, tr_push 5 (.int 0)),
  (5, tr_ist 6 3),
  (6, tr_ild 7 3),
  (7, tr_ald 8 0),
  (8, tr_getf 11 4 1),
  (11, tr_callV 14 0 0 (ptJx4a65c_size_8abf5 Y) 0 0 0 0),
  (14, tr_ifc 17 79 (fun x y => y ≤ x)),
  (17, tr_ald 18 0),
  (18, tr_getf 21 4 1),
  (21, tr_ild 22 3),
  (22, tr_callV 25 1 0 (ptJx4a65c_get_915e3 Y) 0 0 0 0),
  (25, tr_cast 28 1),
  (28, tr_ast 30 4),
  (30, tr_ild 31 1),
  (31, tr_push 32 (.int (-1))),
  (32, tr_ifc 35 44 (fun x y => x = y)),
  (35, tr_ald 37 4),
  (37, tr_callV 40 0 1 (ptX0_restedAt Y) 0 0 0 0),
  (40, tr_ild 41 2),
  (41, tr_ifc 44 48 (fun x y => y ≤ x)),
  (44, tr_push 45 (.int 1)),
  (45, tr_goto 49),
  (48, tr_push 49 (.int 0)),
  (49, tr_ist 51 5),
  (51, tr_ild 53 5),
  (53, tr_ifz 56 73 (fun x => x = 0)),
  (56, tr_ald 57 0),
  (57, tr_ald 59 4),
  (59, tr_callV 62 1 4 (ptX3_whyNotReady Y) 0 0 0 0),
  (62, tr_ifz 65 73 (fun x => ¬ x = 0)),
  (65, tr_ild 66 3),
  (66, tr_ist 67 1),
  (67, tr_ald 69 4),
  (69, tr_callV 72 0 1 (ptX0_restedAt Y) 0 0 0 0),
  (72, tr_ist 73 2),
  (73, tr_inc 76 3 1),
  (76, tr_goto 6),
  (79, tr_ild 80 1),
  (80, tr_iret .int)]
def ptX3_next (Y : xw_Y) : xw_PT := xw_pt (tbX3_next Y) 6 0 0
theorem lkX3_next_0 (Y : xw_Y) : xw_lk (tbX3_next Y) 0 = some (tr_push 1 (.int (-1))) := rfl
theorem lkX3_next_1 (Y : xw_Y) : xw_lk (tbX3_next Y) 1 = some (tr_ist 2 1) := rfl
theorem lkX3_next_2 (Y : xw_Y) : xw_lk (tbX3_next Y) 2 = some (tr_push 3 (.int 0)) := rfl
theorem lkX3_next_3 (Y : xw_Y) : xw_lk (tbX3_next Y) 3 = some (tr_ist 4 2) := rfl
theorem lkX3_next_4 (Y : xw_Y) : xw_lk (tbX3_next Y) 4 = some (tr_push 5 (.int 0)) := rfl
theorem lkX3_next_5 (Y : xw_Y) : xw_lk (tbX3_next Y) 5 = some (tr_ist 6 3) := rfl
theorem lkX3_next_6 (Y : xw_Y) : xw_lk (tbX3_next Y) 6 = some (tr_ild 7 3) := rfl
theorem lkX3_next_7 (Y : xw_Y) : xw_lk (tbX3_next Y) 7 = some (tr_ald 8 0) := rfl
theorem lkX3_next_8 (Y : xw_Y) : xw_lk (tbX3_next Y) 8 = some (tr_getf 11 4 1) := rfl
theorem lkX3_next_11 (Y : xw_Y) : xw_lk (tbX3_next Y) 11 = some (tr_callV 14 0 0 (ptJx4a65c_size_8abf5 Y) 0 0 0 0) := rfl
theorem lkX3_next_14 (Y : xw_Y) : xw_lk (tbX3_next Y) 14 = some (tr_ifc 17 79 (fun x y => y ≤ x)) := rfl
theorem lkX3_next_17 (Y : xw_Y) : xw_lk (tbX3_next Y) 17 = some (tr_ald 18 0) := rfl
theorem lkX3_next_18 (Y : xw_Y) : xw_lk (tbX3_next Y) 18 = some (tr_getf 21 4 1) := rfl
theorem lkX3_next_21 (Y : xw_Y) : xw_lk (tbX3_next Y) 21 = some (tr_ild 22 3) := rfl
theorem lkX3_next_22 (Y : xw_Y) : xw_lk (tbX3_next Y) 22 = some (tr_callV 25 1 0 (ptJx4a65c_get_915e3 Y) 0 0 0 0) := rfl
theorem lkX3_next_25 (Y : xw_Y) : xw_lk (tbX3_next Y) 25 = some (tr_cast 28 1) := rfl
theorem lkX3_next_28 (Y : xw_Y) : xw_lk (tbX3_next Y) 28 = some (tr_ast 30 4) := rfl
theorem lkX3_next_30 (Y : xw_Y) : xw_lk (tbX3_next Y) 30 = some (tr_ild 31 1) := rfl
theorem lkX3_next_31 (Y : xw_Y) : xw_lk (tbX3_next Y) 31 = some (tr_push 32 (.int (-1))) := rfl
theorem lkX3_next_32 (Y : xw_Y) : xw_lk (tbX3_next Y) 32 = some (tr_ifc 35 44 (fun x y => x = y)) := rfl
theorem lkX3_next_35 (Y : xw_Y) : xw_lk (tbX3_next Y) 35 = some (tr_ald 37 4) := rfl
theorem lkX3_next_37 (Y : xw_Y) : xw_lk (tbX3_next Y) 37 = some (tr_callV 40 0 1 (ptX0_restedAt Y) 0 0 0 0) := rfl
theorem lkX3_next_40 (Y : xw_Y) : xw_lk (tbX3_next Y) 40 = some (tr_ild 41 2) := rfl
theorem lkX3_next_41 (Y : xw_Y) : xw_lk (tbX3_next Y) 41 = some (tr_ifc 44 48 (fun x y => y ≤ x)) := rfl
theorem lkX3_next_44 (Y : xw_Y) : xw_lk (tbX3_next Y) 44 = some (tr_push 45 (.int 1)) := rfl
theorem lkX3_next_45 (Y : xw_Y) : xw_lk (tbX3_next Y) 45 = some (tr_goto 49) := rfl
theorem lkX3_next_48 (Y : xw_Y) : xw_lk (tbX3_next Y) 48 = some (tr_push 49 (.int 0)) := rfl
theorem lkX3_next_49 (Y : xw_Y) : xw_lk (tbX3_next Y) 49 = some (tr_ist 51 5) := rfl
theorem lkX3_next_51 (Y : xw_Y) : xw_lk (tbX3_next Y) 51 = some (tr_ild 53 5) := rfl
theorem lkX3_next_53 (Y : xw_Y) : xw_lk (tbX3_next Y) 53 = some (tr_ifz 56 73 (fun x => x = 0)) := rfl
theorem lkX3_next_56 (Y : xw_Y) : xw_lk (tbX3_next Y) 56 = some (tr_ald 57 0) := rfl
theorem lkX3_next_57 (Y : xw_Y) : xw_lk (tbX3_next Y) 57 = some (tr_ald 59 4) := rfl
theorem lkX3_next_59 (Y : xw_Y) : xw_lk (tbX3_next Y) 59 = some (tr_callV 62 1 4 (ptX3_whyNotReady Y) 0 0 0 0) := rfl
theorem lkX3_next_62 (Y : xw_Y) : xw_lk (tbX3_next Y) 62 = some (tr_ifz 65 73 (fun x => ¬ x = 0)) := rfl
theorem lkX3_next_65 (Y : xw_Y) : xw_lk (tbX3_next Y) 65 = some (tr_ild 66 3) := rfl
theorem lkX3_next_66 (Y : xw_Y) : xw_lk (tbX3_next Y) 66 = some (tr_ist 67 1) := rfl
theorem lkX3_next_67 (Y : xw_Y) : xw_lk (tbX3_next Y) 67 = some (tr_ald 69 4) := rfl
theorem lkX3_next_69 (Y : xw_Y) : xw_lk (tbX3_next Y) 69 = some (tr_callV 72 0 1 (ptX0_restedAt Y) 0 0 0 0) := rfl
theorem lkX3_next_72 (Y : xw_Y) : xw_lk (tbX3_next Y) 72 = some (tr_ist 73 2) := rfl
theorem lkX3_next_73 (Y : xw_Y) : xw_lk (tbX3_next Y) 73 = some (tr_inc 76 3 1) := rfl
theorem lkX3_next_76 (Y : xw_Y) : xw_lk (tbX3_next Y) 76 = some (tr_goto 6) := rfl
theorem lkX3_next_79 (Y : xw_Y) : xw_lk (tbX3_next Y) 79 = some (tr_ild 80 1) := rfl
theorem lkX3_next_80 (Y : xw_Y) : xw_lk (tbX3_next Y) 80 = some (tr_iret .int) := rfl
def tbX0_secondsUntilOver (Y : xw_Y) : List (Nat × xw_T) := [(0, tr_ald 1 0),
  (1, tr_callV 4 0 1 (ptX0_isInExtra Y) 0 0 0 0),
  (4, tr_ifz 7 12 (fun x => x = 0)),
  (7, tr_ald 8 0),
  (8, tr_getf 11 1 8),
  (11, tr_iret .int),
  (12, tr_ald 13 0),
  (13, tr_getf 16 1 8),
  (16, tr_ald 17 0),
  (17, tr_callV 20 0 1 (ptX0_periods Y) 0 0 0 0),
  (20, tr_ald 21 0),
  (21, tr_getf 24 1 7),
  (24, tr_i2 25 (fun x y => x - y)),
  (25, tr_push 28 (.int 180)),
  (28, tr_i2 29 (fun x y => x * y)),
  (29, tr_i2 30 (fun x y => x + y)),
  (30, tr_ist 31 1),
  (31, tr_ald 32 0),
  (32, tr_getf 35 1 2),
  (35, tr_getf 38 3 1),
  (38, tr_ald 39 0),
  (39, tr_getf 42 1 3),
  (42, tr_getf 45 3 1),
  (45, tr_ifc 48 55 (fun x y => ¬ x = y)),
  (48, tr_ild 49 1),
  (49, tr_push 51 (.int 60)),
  (51, tr_i2 52 (fun x y => x + y)),
  (52, tr_goto 56),
  (55, tr_ild 56 1),
  (56, tr_iret .int)]
def ptX0_secondsUntilOver (Y : xw_Y) : xw_PT := xw_pt (tbX0_secondsUntilOver Y) 2 0 0
theorem lkX0_secondsUntilOver_0 (Y : xw_Y) : xw_lk (tbX0_secondsUntilOver Y) 0 = some (tr_ald 1 0) := rfl
theorem lkX0_secondsUntilOver_1 (Y : xw_Y) : xw_lk (tbX0_secondsUntilOver Y) 1 = some (tr_callV 4 0 1 (ptX0_isInExtra Y) 0 0 0 0) := rfl
theorem lkX0_secondsUntilOver_4 (Y : xw_Y) : xw_lk (tbX0_secondsUntilOver Y) 4 = some (tr_ifz 7 12 (fun x => x = 0)) := rfl
theorem lkX0_secondsUntilOver_7 (Y : xw_Y) : xw_lk (tbX0_secondsUntilOver Y) 7 = some (tr_ald 8 0) := rfl
theorem lkX0_secondsUntilOver_8 (Y : xw_Y) : xw_lk (tbX0_secondsUntilOver Y) 8 = some (tr_getf 11 1 8) := rfl
theorem lkX0_secondsUntilOver_11 (Y : xw_Y) : xw_lk (tbX0_secondsUntilOver Y) 11 = some (tr_iret .int) := rfl
theorem lkX0_secondsUntilOver_12 (Y : xw_Y) : xw_lk (tbX0_secondsUntilOver Y) 12 = some (tr_ald 13 0) := rfl
theorem lkX0_secondsUntilOver_13 (Y : xw_Y) : xw_lk (tbX0_secondsUntilOver Y) 13 = some (tr_getf 16 1 8) := rfl
theorem lkX0_secondsUntilOver_16 (Y : xw_Y) : xw_lk (tbX0_secondsUntilOver Y) 16 = some (tr_ald 17 0) := rfl
theorem lkX0_secondsUntilOver_17 (Y : xw_Y) : xw_lk (tbX0_secondsUntilOver Y) 17 = some (tr_callV 20 0 1 (ptX0_periods Y) 0 0 0 0) := rfl
theorem lkX0_secondsUntilOver_20 (Y : xw_Y) : xw_lk (tbX0_secondsUntilOver Y) 20 = some (tr_ald 21 0) := rfl
theorem lkX0_secondsUntilOver_21 (Y : xw_Y) : xw_lk (tbX0_secondsUntilOver Y) 21 = some (tr_getf 24 1 7) := rfl
theorem lkX0_secondsUntilOver_24 (Y : xw_Y) : xw_lk (tbX0_secondsUntilOver Y) 24 = some (tr_i2 25 (fun x y => x - y)) := rfl
theorem lkX0_secondsUntilOver_25 (Y : xw_Y) : xw_lk (tbX0_secondsUntilOver Y) 25 = some (tr_push 28 (.int 180)) := rfl
theorem lkX0_secondsUntilOver_28 (Y : xw_Y) : xw_lk (tbX0_secondsUntilOver Y) 28 = some (tr_i2 29 (fun x y => x * y)) := rfl
theorem lkX0_secondsUntilOver_29 (Y : xw_Y) : xw_lk (tbX0_secondsUntilOver Y) 29 = some (tr_i2 30 (fun x y => x + y)) := rfl
theorem lkX0_secondsUntilOver_30 (Y : xw_Y) : xw_lk (tbX0_secondsUntilOver Y) 30 = some (tr_ist 31 1) := rfl
theorem lkX0_secondsUntilOver_31 (Y : xw_Y) : xw_lk (tbX0_secondsUntilOver Y) 31 = some (tr_ald 32 0) := rfl
theorem lkX0_secondsUntilOver_32 (Y : xw_Y) : xw_lk (tbX0_secondsUntilOver Y) 32 = some (tr_getf 35 1 2) := rfl
theorem lkX0_secondsUntilOver_35 (Y : xw_Y) : xw_lk (tbX0_secondsUntilOver Y) 35 = some (tr_getf 38 3 1) := rfl
theorem lkX0_secondsUntilOver_38 (Y : xw_Y) : xw_lk (tbX0_secondsUntilOver Y) 38 = some (tr_ald 39 0) := rfl
theorem lkX0_secondsUntilOver_39 (Y : xw_Y) : xw_lk (tbX0_secondsUntilOver Y) 39 = some (tr_getf 42 1 3) := rfl
theorem lkX0_secondsUntilOver_42 (Y : xw_Y) : xw_lk (tbX0_secondsUntilOver Y) 42 = some (tr_getf 45 3 1) := rfl
theorem lkX0_secondsUntilOver_45 (Y : xw_Y) : xw_lk (tbX0_secondsUntilOver Y) 45 = some (tr_ifc 48 55 (fun x y => ¬ x = y)) := rfl
theorem lkX0_secondsUntilOver_48 (Y : xw_Y) : xw_lk (tbX0_secondsUntilOver Y) 48 = some (tr_ild 49 1) := rfl
theorem lkX0_secondsUntilOver_49 (Y : xw_Y) : xw_lk (tbX0_secondsUntilOver Y) 49 = some (tr_push 51 (.int 60)) := rfl
theorem lkX0_secondsUntilOver_51 (Y : xw_Y) : xw_lk (tbX0_secondsUntilOver Y) 51 = some (tr_i2 52 (fun x y => x + y)) := rfl
theorem lkX0_secondsUntilOver_52 (Y : xw_Y) : xw_lk (tbX0_secondsUntilOver Y) 52 = some (tr_goto 56) := rfl
theorem lkX0_secondsUntilOver_55 (Y : xw_Y) : xw_lk (tbX0_secondsUntilOver Y) 55 = some (tr_ild 56 1) := rfl
theorem lkX0_secondsUntilOver_56 (Y : xw_Y) : xw_lk (tbX0_secondsUntilOver Y) 56 = some (tr_iret .int) := rfl
def tbX0_goOn (Y : xw_Y) : List (Nat × xw_T) := [(0, tr_ild 1 1),
  (1, tr_ist 2 2),
  (2, tr_ild 3 2),
  (3, tr_ald 4 0),
  (4, tr_getf 7 1 8),
  (7, tr_ifc 10 60 (fun x y => x < y)),
  (10, tr_ald 11 0),
  (11, tr_getf 14 1 7),
  (14, tr_ald 15 0),
  (15, tr_callV 18 0 1 (ptX0_periods Y) 0 0 0 0),
  (18, tr_ifc 21 60 (fun x y => y < x)),
  (21, tr_ild 22 2),
  (22, tr_ald 23 0),
  (23, tr_getf 26 1 8),
  (26, tr_i2 27 (fun x y => x - y)),
  (27, tr_ist 28 2),
  (28, tr_ald 29 0),
  (29, tr_dup 30),
  (30, tr_getf 33 1 7),
  (33, tr_push 34 (.int 1)),
  (34, tr_i2 35 (fun x y => x + y)),
  (35, tr_putf 38 1 7 .int),
  (38, tr_ald 39 0),
  (39, tr_ald 40 0),
  (40, tr_callV 43 0 1 (ptX0_isInExtra Y) 0 0 0 0),
  (43, tr_ifz 46 51 (fun x => x = 0)),
  (46, tr_push 48 (.int 60)),
  (48, tr_goto 54),
  (51, tr_push 54 (.int 180)),
  (54, tr_putf 57 1 8 .int),
  (57, tr_goto 2),
  (60, tr_ald 61 0),
  (61, tr_dup 62),
  (62, tr_getf 65 1 8),
  (65, tr_ild 66 2),
  (66, tr_i2 67 (fun x y => x - y)),
  (67, tr_putf 70 1 8 .int),
  (70, tr_vret)]
def ptX0_goOn (Y : xw_Y) : xw_PT := xw_pt (tbX0_goOn Y) 3 0 0
theorem lkX0_goOn_0 (Y : xw_Y) : xw_lk (tbX0_goOn Y) 0 = some (tr_ild 1 1) := rfl
theorem lkX0_goOn_1 (Y : xw_Y) : xw_lk (tbX0_goOn Y) 1 = some (tr_ist 2 2) := rfl
theorem lkX0_goOn_2 (Y : xw_Y) : xw_lk (tbX0_goOn Y) 2 = some (tr_ild 3 2) := rfl
theorem lkX0_goOn_3 (Y : xw_Y) : xw_lk (tbX0_goOn Y) 3 = some (tr_ald 4 0) := rfl
theorem lkX0_goOn_4 (Y : xw_Y) : xw_lk (tbX0_goOn Y) 4 = some (tr_getf 7 1 8) := rfl
theorem lkX0_goOn_7 (Y : xw_Y) : xw_lk (tbX0_goOn Y) 7 = some (tr_ifc 10 60 (fun x y => x < y)) := rfl
theorem lkX0_goOn_10 (Y : xw_Y) : xw_lk (tbX0_goOn Y) 10 = some (tr_ald 11 0) := rfl
theorem lkX0_goOn_11 (Y : xw_Y) : xw_lk (tbX0_goOn Y) 11 = some (tr_getf 14 1 7) := rfl
theorem lkX0_goOn_14 (Y : xw_Y) : xw_lk (tbX0_goOn Y) 14 = some (tr_ald 15 0) := rfl
theorem lkX0_goOn_15 (Y : xw_Y) : xw_lk (tbX0_goOn Y) 15 = some (tr_callV 18 0 1 (ptX0_periods Y) 0 0 0 0) := rfl
theorem lkX0_goOn_18 (Y : xw_Y) : xw_lk (tbX0_goOn Y) 18 = some (tr_ifc 21 60 (fun x y => y < x)) := rfl
theorem lkX0_goOn_21 (Y : xw_Y) : xw_lk (tbX0_goOn Y) 21 = some (tr_ild 22 2) := rfl
theorem lkX0_goOn_22 (Y : xw_Y) : xw_lk (tbX0_goOn Y) 22 = some (tr_ald 23 0) := rfl
theorem lkX0_goOn_23 (Y : xw_Y) : xw_lk (tbX0_goOn Y) 23 = some (tr_getf 26 1 8) := rfl
theorem lkX0_goOn_26 (Y : xw_Y) : xw_lk (tbX0_goOn Y) 26 = some (tr_i2 27 (fun x y => x - y)) := rfl
theorem lkX0_goOn_27 (Y : xw_Y) : xw_lk (tbX0_goOn Y) 27 = some (tr_ist 28 2) := rfl
theorem lkX0_goOn_28 (Y : xw_Y) : xw_lk (tbX0_goOn Y) 28 = some (tr_ald 29 0) := rfl
theorem lkX0_goOn_29 (Y : xw_Y) : xw_lk (tbX0_goOn Y) 29 = some (tr_dup 30) := rfl
theorem lkX0_goOn_30 (Y : xw_Y) : xw_lk (tbX0_goOn Y) 30 = some (tr_getf 33 1 7) := rfl
theorem lkX0_goOn_33 (Y : xw_Y) : xw_lk (tbX0_goOn Y) 33 = some (tr_push 34 (.int 1)) := rfl
theorem lkX0_goOn_34 (Y : xw_Y) : xw_lk (tbX0_goOn Y) 34 = some (tr_i2 35 (fun x y => x + y)) := rfl
theorem lkX0_goOn_35 (Y : xw_Y) : xw_lk (tbX0_goOn Y) 35 = some (tr_putf 38 1 7 .int) := rfl
theorem lkX0_goOn_38 (Y : xw_Y) : xw_lk (tbX0_goOn Y) 38 = some (tr_ald 39 0) := rfl
theorem lkX0_goOn_39 (Y : xw_Y) : xw_lk (tbX0_goOn Y) 39 = some (tr_ald 40 0) := rfl
theorem lkX0_goOn_40 (Y : xw_Y) : xw_lk (tbX0_goOn Y) 40 = some (tr_callV 43 0 1 (ptX0_isInExtra Y) 0 0 0 0) := rfl
theorem lkX0_goOn_43 (Y : xw_Y) : xw_lk (tbX0_goOn Y) 43 = some (tr_ifz 46 51 (fun x => x = 0)) := rfl
theorem lkX0_goOn_46 (Y : xw_Y) : xw_lk (tbX0_goOn Y) 46 = some (tr_push 48 (.int 60)) := rfl
theorem lkX0_goOn_48 (Y : xw_Y) : xw_lk (tbX0_goOn Y) 48 = some (tr_goto 54) := rfl
theorem lkX0_goOn_51 (Y : xw_Y) : xw_lk (tbX0_goOn Y) 51 = some (tr_push 54 (.int 180)) := rfl
theorem lkX0_goOn_54 (Y : xw_Y) : xw_lk (tbX0_goOn Y) 54 = some (tr_putf 57 1 8 .int) := rfl
theorem lkX0_goOn_57 (Y : xw_Y) : xw_lk (tbX0_goOn Y) 57 = some (tr_goto 2) := rfl
theorem lkX0_goOn_60 (Y : xw_Y) : xw_lk (tbX0_goOn Y) 60 = some (tr_ald 61 0) := rfl
theorem lkX0_goOn_61 (Y : xw_Y) : xw_lk (tbX0_goOn Y) 61 = some (tr_dup 62) := rfl
theorem lkX0_goOn_62 (Y : xw_Y) : xw_lk (tbX0_goOn Y) 62 = some (tr_getf 65 1 8) := rfl
theorem lkX0_goOn_65 (Y : xw_Y) : xw_lk (tbX0_goOn Y) 65 = some (tr_ild 66 2) := rfl
theorem lkX0_goOn_66 (Y : xw_Y) : xw_lk (tbX0_goOn Y) 66 = some (tr_i2 67 (fun x y => x - y)) := rfl
theorem lkX0_goOn_67 (Y : xw_Y) : xw_lk (tbX0_goOn Y) 67 = some (tr_putf 70 1 8 .int) := rfl
theorem lkX0_goOn_70 (Y : xw_Y) : xw_lk (tbX0_goOn Y) 70 = some (tr_vret) := rfl
def tbX0_winnerAsItStands (Y : xw_Y) : List (Nat × xw_T) := [(0, tr_ald 1 0),
  (1, tr_getf 4 1 2),
  (4, tr_getf 7 3 1),
  (7, tr_ald 8 0),
  (8, tr_getf 11 1 3),
  (11, tr_getf 14 3 1),
  (14, tr_ifc 17 25 (fun x y => ¬ x = y)),
  (17, tr_ald 18 0),
  (18, tr_callV 21 0 1 (ptX0_withPriority Y) 0 0 0 0),
  (21, tr_getf 24 3 0),
  (24, tr_aret),
  (25, tr_ald 26 0),
  (26, tr_getf 29 1 2),
  (29, tr_getf 32 3 1),
  (32, tr_ald 33 0),
  (33, tr_getf 36 1 3),
  (36, tr_getf 39 3 1),
  (39, tr_ifc 42 52 (fun x y => x ≤ y)),
  (42, tr_ald 43 0),
  (43, tr_getf 46 1 2),
  (46, tr_getf 49 3 0),
  (49, tr_goto 59),
  (52, tr_ald 53 0),
  (53, tr_getf 56 1 3),
  (56, tr_getf 59 3 0),
  (59, tr_aret)]
def ptX0_winnerAsItStands (Y : xw_Y) : xw_PT := xw_pt (tbX0_winnerAsItStands Y) 1 0 0
theorem lkX0_winnerAsItStands_0 (Y : xw_Y) : xw_lk (tbX0_winnerAsItStands Y) 0 = some (tr_ald 1 0) := rfl
theorem lkX0_winnerAsItStands_1 (Y : xw_Y) : xw_lk (tbX0_winnerAsItStands Y) 1 = some (tr_getf 4 1 2) := rfl
theorem lkX0_winnerAsItStands_4 (Y : xw_Y) : xw_lk (tbX0_winnerAsItStands Y) 4 = some (tr_getf 7 3 1) := rfl
theorem lkX0_winnerAsItStands_7 (Y : xw_Y) : xw_lk (tbX0_winnerAsItStands Y) 7 = some (tr_ald 8 0) := rfl
theorem lkX0_winnerAsItStands_8 (Y : xw_Y) : xw_lk (tbX0_winnerAsItStands Y) 8 = some (tr_getf 11 1 3) := rfl
theorem lkX0_winnerAsItStands_11 (Y : xw_Y) : xw_lk (tbX0_winnerAsItStands Y) 11 = some (tr_getf 14 3 1) := rfl
theorem lkX0_winnerAsItStands_14 (Y : xw_Y) : xw_lk (tbX0_winnerAsItStands Y) 14 = some (tr_ifc 17 25 (fun x y => ¬ x = y)) := rfl
theorem lkX0_winnerAsItStands_17 (Y : xw_Y) : xw_lk (tbX0_winnerAsItStands Y) 17 = some (tr_ald 18 0) := rfl
theorem lkX0_winnerAsItStands_18 (Y : xw_Y) : xw_lk (tbX0_winnerAsItStands Y) 18 = some (tr_callV 21 0 1 (ptX0_withPriority Y) 0 0 0 0) := rfl
theorem lkX0_winnerAsItStands_21 (Y : xw_Y) : xw_lk (tbX0_winnerAsItStands Y) 21 = some (tr_getf 24 3 0) := rfl
theorem lkX0_winnerAsItStands_24 (Y : xw_Y) : xw_lk (tbX0_winnerAsItStands Y) 24 = some (tr_aret) := rfl
theorem lkX0_winnerAsItStands_25 (Y : xw_Y) : xw_lk (tbX0_winnerAsItStands Y) 25 = some (tr_ald 26 0) := rfl
theorem lkX0_winnerAsItStands_26 (Y : xw_Y) : xw_lk (tbX0_winnerAsItStands Y) 26 = some (tr_getf 29 1 2) := rfl
theorem lkX0_winnerAsItStands_29 (Y : xw_Y) : xw_lk (tbX0_winnerAsItStands Y) 29 = some (tr_getf 32 3 1) := rfl
theorem lkX0_winnerAsItStands_32 (Y : xw_Y) : xw_lk (tbX0_winnerAsItStands Y) 32 = some (tr_ald 33 0) := rfl
theorem lkX0_winnerAsItStands_33 (Y : xw_Y) : xw_lk (tbX0_winnerAsItStands Y) 33 = some (tr_getf 36 1 3) := rfl
theorem lkX0_winnerAsItStands_36 (Y : xw_Y) : xw_lk (tbX0_winnerAsItStands Y) 36 = some (tr_getf 39 3 1) := rfl
theorem lkX0_winnerAsItStands_39 (Y : xw_Y) : xw_lk (tbX0_winnerAsItStands Y) 39 = some (tr_ifc 42 52 (fun x y => x ≤ y)) := rfl
theorem lkX0_winnerAsItStands_42 (Y : xw_Y) : xw_lk (tbX0_winnerAsItStands Y) 42 = some (tr_ald 43 0) := rfl
theorem lkX0_winnerAsItStands_43 (Y : xw_Y) : xw_lk (tbX0_winnerAsItStands Y) 43 = some (tr_getf 46 1 2) := rfl
theorem lkX0_winnerAsItStands_46 (Y : xw_Y) : xw_lk (tbX0_winnerAsItStands Y) 46 = some (tr_getf 49 3 0) := rfl
theorem lkX0_winnerAsItStands_49 (Y : xw_Y) : xw_lk (tbX0_winnerAsItStands Y) 49 = some (tr_goto 59) := rfl
theorem lkX0_winnerAsItStands_52 (Y : xw_Y) : xw_lk (tbX0_winnerAsItStands Y) 52 = some (tr_ald 53 0) := rfl
theorem lkX0_winnerAsItStands_53 (Y : xw_Y) : xw_lk (tbX0_winnerAsItStands Y) 53 = some (tr_getf 56 1 3) := rfl
theorem lkX0_winnerAsItStands_56 (Y : xw_Y) : xw_lk (tbX0_winnerAsItStands Y) 56 = some (tr_getf 59 3 0) := rfl
theorem lkX0_winnerAsItStands_59 (Y : xw_Y) : xw_lk (tbX0_winnerAsItStands Y) 59 = some (tr_aret) := rfl
def tbX3_isPiste (Y : xw_Y) : List (Nat × xw_T) := [(0, tr_ild 1 0),
  (1, tr_push 2 (.int 0)),
  (2, tr_push 3 (.int 2)),
  (3, tr_callS 6 3 (ptX3_isIn Y) 0 0 0 0),
  (6, tr_iret .boolean)]
def ptX3_isPiste (Y : xw_Y) : xw_PT := xw_pt (tbX3_isPiste Y) 1 0 0
theorem lkX3_isPiste_0 (Y : xw_Y) : xw_lk (tbX3_isPiste Y) 0 = some (tr_ild 1 0) := rfl
theorem lkX3_isPiste_1 (Y : xw_Y) : xw_lk (tbX3_isPiste Y) 1 = some (tr_push 2 (.int 0)) := rfl
theorem lkX3_isPiste_2 (Y : xw_Y) : xw_lk (tbX3_isPiste Y) 2 = some (tr_push 3 (.int 2)) := rfl
theorem lkX3_isPiste_3 (Y : xw_Y) : xw_lk (tbX3_isPiste Y) 3 = some (tr_callS 6 3 (ptX3_isIn Y) 0 0 0 0) := rfl
theorem lkX3_isPiste_6 (Y : xw_Y) : xw_lk (tbX3_isPiste Y) 6 = some (tr_iret .boolean) := rfl
def tbX2_end (Y : xw_Y) : List (Nat × xw_T) := [(0, tr_ald 1 0),
  (1, tr_getf 4 3 0),
  (4, tr_ifn 26 7),
  (7, tr_ald 8 0),
  (8, tr_getf 11 3 0),
  (11, tr_push 12 .null),
  (12, tr_putf 15 2 6 (.object "Pommel$Bout")),
  (15, tr_ald 16 0),
  (16, tr_getf 19 3 0),
  (19, tr_ild 20 1),
  (20, tr_push 22 (.int 120)),
  (22, tr_i2 23 (fun x y => x + y)),
  (23, tr_putf 26 2 7 .int),
  (26, tr_vret)]
def ptX2_end (Y : xw_Y) : xw_PT := xw_pt (tbX2_end Y) 2 0 0
theorem lkX2_end_0 (Y : xw_Y) : xw_lk (tbX2_end Y) 0 = some (tr_ald 1 0) := rfl
theorem lkX2_end_1 (Y : xw_Y) : xw_lk (tbX2_end Y) 1 = some (tr_getf 4 3 0) := rfl
theorem lkX2_end_4 (Y : xw_Y) : xw_lk (tbX2_end Y) 4 = some (tr_ifn 26 7) := rfl
theorem lkX2_end_7 (Y : xw_Y) : xw_lk (tbX2_end Y) 7 = some (tr_ald 8 0) := rfl
theorem lkX2_end_8 (Y : xw_Y) : xw_lk (tbX2_end Y) 8 = some (tr_getf 11 3 0) := rfl
theorem lkX2_end_11 (Y : xw_Y) : xw_lk (tbX2_end Y) 11 = some (tr_push 12 .null) := rfl
theorem lkX2_end_12 (Y : xw_Y) : xw_lk (tbX2_end Y) 12 = some (tr_putf 15 2 6 (.object "Pommel$Bout")) := rfl
theorem lkX2_end_15 (Y : xw_Y) : xw_lk (tbX2_end Y) 15 = some (tr_ald 16 0) := rfl
theorem lkX2_end_16 (Y : xw_Y) : xw_lk (tbX2_end Y) 16 = some (tr_getf 19 3 0) := rfl
theorem lkX2_end_19 (Y : xw_Y) : xw_lk (tbX2_end Y) 19 = some (tr_ild 20 1) := rfl
theorem lkX2_end_20 (Y : xw_Y) : xw_lk (tbX2_end Y) 20 = some (tr_push 22 (.int 120)) := rfl
theorem lkX2_end_22 (Y : xw_Y) : xw_lk (tbX2_end Y) 22 = some (tr_i2 23 (fun x y => x + y)) := rfl
theorem lkX2_end_23 (Y : xw_Y) : xw_lk (tbX2_end Y) 23 = some (tr_putf 26 2 7 .int) := rfl
theorem lkX2_end_26 (Y : xw_Y) : xw_lk (tbX2_end Y) 26 = some (tr_vret) := rfl
def tbX0_end (Y : xw_Y) : List (Nat × xw_T) := [(0, tr_ald 1 0),
  (1, tr_push 2 (.int (-1))),
  (2, tr_putf 5 1 6 .int),
  (5, tr_ald 6 0),
  (6, tr_push 7 (.int 0)),
  (7, tr_putf 10 1 7 .int),
  (10, tr_ald 11 0),
  (11, tr_push 12 (.int 0)),
  (12, tr_putf 15 1 8 .int),
  (15, tr_ald 16 0),
  (16, tr_getf 19 1 2),
  (19, tr_ild 20 1),
  (20, tr_callV 23 1 3 (ptX2_end Y) 0 0 0 0),
  (23, tr_ald 24 0),
  (24, tr_getf 27 1 3),
  (27, tr_ild 28 1),
  (28, tr_callV 31 1 3 (ptX2_end Y) 0 0 0 0),
  (31, tr_vret)]
def ptX0_end (Y : xw_Y) : xw_PT := xw_pt (tbX0_end Y) 2 0 0
theorem lkX0_end_0 (Y : xw_Y) : xw_lk (tbX0_end Y) 0 = some (tr_ald 1 0) := rfl
theorem lkX0_end_1 (Y : xw_Y) : xw_lk (tbX0_end Y) 1 = some (tr_push 2 (.int (-1))) := rfl
theorem lkX0_end_2 (Y : xw_Y) : xw_lk (tbX0_end Y) 2 = some (tr_putf 5 1 6 .int) := rfl
theorem lkX0_end_5 (Y : xw_Y) : xw_lk (tbX0_end Y) 5 = some (tr_ald 6 0) := rfl
theorem lkX0_end_6 (Y : xw_Y) : xw_lk (tbX0_end Y) 6 = some (tr_push 7 (.int 0)) := rfl
theorem lkX0_end_7 (Y : xw_Y) : xw_lk (tbX0_end Y) 7 = some (tr_putf 10 1 7 .int) := rfl
theorem lkX0_end_10 (Y : xw_Y) : xw_lk (tbX0_end Y) 10 = some (tr_ald 11 0) := rfl
theorem lkX0_end_11 (Y : xw_Y) : xw_lk (tbX0_end Y) 11 = some (tr_push 12 (.int 0)) := rfl
theorem lkX0_end_12 (Y : xw_Y) : xw_lk (tbX0_end Y) 12 = some (tr_putf 15 1 8 .int) := rfl
theorem lkX0_end_15 (Y : xw_Y) : xw_lk (tbX0_end Y) 15 = some (tr_ald 16 0) := rfl
theorem lkX0_end_16 (Y : xw_Y) : xw_lk (tbX0_end Y) 16 = some (tr_getf 19 1 2) := rfl
theorem lkX0_end_19 (Y : xw_Y) : xw_lk (tbX0_end Y) 19 = some (tr_ild 20 1) := rfl
theorem lkX0_end_20 (Y : xw_Y) : xw_lk (tbX0_end Y) 20 = some (tr_callV 23 1 3 (ptX2_end Y) 0 0 0 0) := rfl
theorem lkX0_end_23 (Y : xw_Y) : xw_lk (tbX0_end Y) 23 = some (tr_ald 24 0) := rfl
theorem lkX0_end_24 (Y : xw_Y) : xw_lk (tbX0_end Y) 24 = some (tr_getf 27 1 3) := rfl
theorem lkX0_end_27 (Y : xw_Y) : xw_lk (tbX0_end Y) 27 = some (tr_ild 28 1) := rfl
theorem lkX0_end_28 (Y : xw_Y) : xw_lk (tbX0_end Y) 28 = some (tr_callV 31 1 3 (ptX2_end Y) 0 0 0 0) := rfl
theorem lkX0_end_31 (Y : xw_Y) : xw_lk (tbX0_end Y) 31 = some (tr_vret) := rfl
def tbX3_leavePiste (Y : xw_Y) : List (Nat × xw_T) := [(0, tr_ald 1 1),
  (1, tr_getf 4 1 6),
  (4, tr_callS 7 1 (ptX3_isPiste Y) 0 0 0 0),
  (7, tr_ifz 10 20 (fun x => x = 0)),
  (10, tr_ald 11 0),
  (11, tr_getf 14 4 2),
  (14, tr_ald 15 1),
  (15, tr_getf 18 1 6),
  (18, tr_push 19 .null),
  (19, tr_aast 20 Y.2.2.2.1 [1]),
  (20, tr_ald 21 1),
  (21, tr_ild 22 2),
  (22, tr_callV 25 1 1 (ptX0_end Y) 0 0 0 0),
  (25, tr_vret)]
def ptX3_leavePiste (Y : xw_Y) : xw_PT := xw_pt (tbX3_leavePiste Y) 3 0 0
theorem lkX3_leavePiste_0 (Y : xw_Y) : xw_lk (tbX3_leavePiste Y) 0 = some (tr_ald 1 1) := rfl
theorem lkX3_leavePiste_1 (Y : xw_Y) : xw_lk (tbX3_leavePiste Y) 1 = some (tr_getf 4 1 6) := rfl
theorem lkX3_leavePiste_4 (Y : xw_Y) : xw_lk (tbX3_leavePiste Y) 4 = some (tr_callS 7 1 (ptX3_isPiste Y) 0 0 0 0) := rfl
theorem lkX3_leavePiste_7 (Y : xw_Y) : xw_lk (tbX3_leavePiste Y) 7 = some (tr_ifz 10 20 (fun x => x = 0)) := rfl
theorem lkX3_leavePiste_10 (Y : xw_Y) : xw_lk (tbX3_leavePiste Y) 10 = some (tr_ald 11 0) := rfl
theorem lkX3_leavePiste_11 (Y : xw_Y) : xw_lk (tbX3_leavePiste Y) 11 = some (tr_getf 14 4 2) := rfl
theorem lkX3_leavePiste_14 (Y : xw_Y) : xw_lk (tbX3_leavePiste Y) 14 = some (tr_ald 15 1) := rfl
theorem lkX3_leavePiste_15 (Y : xw_Y) : xw_lk (tbX3_leavePiste Y) 15 = some (tr_getf 18 1 6) := rfl
theorem lkX3_leavePiste_18 (Y : xw_Y) : xw_lk (tbX3_leavePiste Y) 18 = some (tr_push 19 .null) := rfl
theorem lkX3_leavePiste_19 (Y : xw_Y) : xw_lk (tbX3_leavePiste Y) 19 = some (tr_aast 20 Y.2.2.2.1 [1]) := rfl
theorem lkX3_leavePiste_20 (Y : xw_Y) : xw_lk (tbX3_leavePiste Y) 20 = some (tr_ald 21 1) := rfl
theorem lkX3_leavePiste_21 (Y : xw_Y) : xw_lk (tbX3_leavePiste Y) 21 = some (tr_ild 22 2) := rfl
theorem lkX3_leavePiste_22 (Y : xw_Y) : xw_lk (tbX3_leavePiste Y) 22 = some (tr_callV 25 1 1 (ptX0_end Y) 0 0 0 0) := rfl
theorem lkX3_leavePiste_25 (Y : xw_Y) : xw_lk (tbX3_leavePiste Y) 25 = some (tr_vret) := rfl
def tbX3_finish (Y : xw_Y) : List (Nat × xw_T) := [(0, tr_ald 1 0),
  (1, tr_ald 2 1),
  (2, tr_ild 3 3),
  (3, tr_callV 6 2 4 (ptX3_leavePiste Y) 0 0 0 0),
  (6, tr_ald 7 0),
  (7, tr_ald 8 1),
  (8, tr_ald 9 2),
  (9, tr_callV 12 2 4 (ptX3_decide Y) 0 0 0 0),
  (12, tr_vret)]
def ptX3_finish (Y : xw_Y) : xw_PT := xw_pt (tbX3_finish Y) 4 0 0
theorem lkX3_finish_0 (Y : xw_Y) : xw_lk (tbX3_finish Y) 0 = some (tr_ald 1 0) := rfl
theorem lkX3_finish_1 (Y : xw_Y) : xw_lk (tbX3_finish Y) 1 = some (tr_ald 2 1) := rfl
theorem lkX3_finish_2 (Y : xw_Y) : xw_lk (tbX3_finish Y) 2 = some (tr_ild 3 3) := rfl
theorem lkX3_finish_3 (Y : xw_Y) : xw_lk (tbX3_finish Y) 3 = some (tr_callV 6 2 4 (ptX3_leavePiste Y) 0 0 0 0) := rfl
theorem lkX3_finish_6 (Y : xw_Y) : xw_lk (tbX3_finish Y) 6 = some (tr_ald 7 0) := rfl
theorem lkX3_finish_7 (Y : xw_Y) : xw_lk (tbX3_finish Y) 7 = some (tr_ald 8 1) := rfl
theorem lkX3_finish_8 (Y : xw_Y) : xw_lk (tbX3_finish Y) 8 = some (tr_ald 9 2) := rfl
theorem lkX3_finish_9 (Y : xw_Y) : xw_lk (tbX3_finish Y) 9 = some (tr_callV 12 2 4 (ptX3_decide Y) 0 0 0 0) := rfl
theorem lkX3_finish_12 (Y : xw_Y) : xw_lk (tbX3_finish Y) 12 = some (tr_vret) := rfl
def tbX3_isOverAfter (Y : xw_Y) : List (Nat × xw_T) := [(0, tr_ald 1 1),
  (1, tr_callV 4 0 1 (ptX0_secondsUntilOver Y) 0 0 0 0),
  (4, tr_ist 5 3),
  (5, tr_ild 6 2),
  (6, tr_ild 7 3),
  (7, tr_ifc 10 17 (fun x y => y ≤ x)),
  (10, tr_ald 11 1),
  (11, tr_ild 12 2),
  (12, tr_callV 15 1 1 (ptX0_goOn Y) 0 0 0 0),
  (15, tr_push 16 (.int 0)),
  (16, tr_iret .boolean),
  (17, tr_ald 18 0),
  (18, tr_ald 19 1),
  (19, tr_ald 20 1),
  (20, tr_callV 23 0 1 (ptX0_winnerAsItStands Y) 0 0 0 0),
  (23, tr_ald 24 0),
  (24, tr_getf 27 4 7),
  (27, tr_ild 28 3),
  (28, tr_i2 29 (fun x y => x + y)),
  (29, tr_callV 32 3 4 (ptX3_finish Y) 0 0 0 0),
  (32, tr_push 33 (.int 1)),
  (33, tr_iret .boolean)]
def ptX3_isOverAfter (Y : xw_Y) : xw_PT := xw_pt (tbX3_isOverAfter Y) 4 0 0
theorem lkX3_isOverAfter_0 (Y : xw_Y) : xw_lk (tbX3_isOverAfter Y) 0 = some (tr_ald 1 1) := rfl
theorem lkX3_isOverAfter_1 (Y : xw_Y) : xw_lk (tbX3_isOverAfter Y) 1 = some (tr_callV 4 0 1 (ptX0_secondsUntilOver Y) 0 0 0 0) := rfl
theorem lkX3_isOverAfter_4 (Y : xw_Y) : xw_lk (tbX3_isOverAfter Y) 4 = some (tr_ist 5 3) := rfl
theorem lkX3_isOverAfter_5 (Y : xw_Y) : xw_lk (tbX3_isOverAfter Y) 5 = some (tr_ild 6 2) := rfl
theorem lkX3_isOverAfter_6 (Y : xw_Y) : xw_lk (tbX3_isOverAfter Y) 6 = some (tr_ild 7 3) := rfl
theorem lkX3_isOverAfter_7 (Y : xw_Y) : xw_lk (tbX3_isOverAfter Y) 7 = some (tr_ifc 10 17 (fun x y => y ≤ x)) := rfl
theorem lkX3_isOverAfter_10 (Y : xw_Y) : xw_lk (tbX3_isOverAfter Y) 10 = some (tr_ald 11 1) := rfl
theorem lkX3_isOverAfter_11 (Y : xw_Y) : xw_lk (tbX3_isOverAfter Y) 11 = some (tr_ild 12 2) := rfl
theorem lkX3_isOverAfter_12 (Y : xw_Y) : xw_lk (tbX3_isOverAfter Y) 12 = some (tr_callV 15 1 1 (ptX0_goOn Y) 0 0 0 0) := rfl
theorem lkX3_isOverAfter_15 (Y : xw_Y) : xw_lk (tbX3_isOverAfter Y) 15 = some (tr_push 16 (.int 0)) := rfl
theorem lkX3_isOverAfter_16 (Y : xw_Y) : xw_lk (tbX3_isOverAfter Y) 16 = some (tr_iret .boolean) := rfl
theorem lkX3_isOverAfter_17 (Y : xw_Y) : xw_lk (tbX3_isOverAfter Y) 17 = some (tr_ald 18 0) := rfl
theorem lkX3_isOverAfter_18 (Y : xw_Y) : xw_lk (tbX3_isOverAfter Y) 18 = some (tr_ald 19 1) := rfl
theorem lkX3_isOverAfter_19 (Y : xw_Y) : xw_lk (tbX3_isOverAfter Y) 19 = some (tr_ald 20 1) := rfl
theorem lkX3_isOverAfter_20 (Y : xw_Y) : xw_lk (tbX3_isOverAfter Y) 20 = some (tr_callV 23 0 1 (ptX0_winnerAsItStands Y) 0 0 0 0) := rfl
theorem lkX3_isOverAfter_23 (Y : xw_Y) : xw_lk (tbX3_isOverAfter Y) 23 = some (tr_ald 24 0) := rfl
theorem lkX3_isOverAfter_24 (Y : xw_Y) : xw_lk (tbX3_isOverAfter Y) 24 = some (tr_getf 27 4 7) := rfl
theorem lkX3_isOverAfter_27 (Y : xw_Y) : xw_lk (tbX3_isOverAfter Y) 27 = some (tr_ild 28 3) := rfl
theorem lkX3_isOverAfter_28 (Y : xw_Y) : xw_lk (tbX3_isOverAfter Y) 28 = some (tr_i2 29 (fun x y => x + y)) := rfl
theorem lkX3_isOverAfter_29 (Y : xw_Y) : xw_lk (tbX3_isOverAfter Y) 29 = some (tr_callV 32 3 4 (ptX3_finish Y) 0 0 0 0) := rfl
theorem lkX3_isOverAfter_32 (Y : xw_Y) : xw_lk (tbX3_isOverAfter Y) 32 = some (tr_push 33 (.int 1)) := rfl
theorem lkX3_isOverAfter_33 (Y : xw_Y) : xw_lk (tbX3_isOverAfter Y) 33 = some (tr_iret .boolean) := rfl
def tbX3_pass (Y : xw_Y) : List (Nat × xw_T) := [(0, tr_ild 1 1),
  (1, tr_push 2 (.int 1)),
  (2, tr_push 5 (.int 600)),
  (5, tr_callS 8 3 (ptX3_isIn Y) 0 0 0 0),
  (8, tr_ifz 11 21 (fun x => ¬ x = 0)),
  (21, tr_push 22 (.int 0)),
  (22, tr_ist 23 2),
  (23, tr_push 24 (.int 0)),
  (24, tr_ist 25 3),
  (25, tr_ild 26 3),
  (26, tr_push 27 (.int 3)),
  (27, tr_ifc 30 62 (fun x y => y ≤ x)),
  (30, tr_ald 31 0),
  (31, tr_getf 34 4 2),
  (34, tr_ild 35 3),
  (35, tr_aald 36 Y.2.2.2.1),
  (36, tr_ast 38 4),
  (38, tr_ald 40 4),
  (40, tr_ifn 56 43),
  (43, tr_ald 44 0),
  (44, tr_ald 46 4),
  (46, tr_ild 47 1),
  (47, tr_callV 50 2 4 (ptX3_isOverAfter Y) 0 0 0 0),
  (50, tr_ifz 53 56 (fun x => x = 0)),
  (53, tr_inc 56 2 1),
  (56, tr_inc 59 3 1),
  (59, tr_goto 25),
  (62, tr_ald 63 0),
  (63, tr_dup 64),
  (64, tr_getf 67 4 7),
  (67, tr_ild 68 1),
  (68, tr_i2 69 (fun x y => x + y)),
  (69, tr_putf 72 4 7 .int),
  (72, tr_ild 73 2),
  (73, tr_iret .int)]
def ptX3_pass (Y : xw_Y) : xw_PT := xw_pt (tbX3_pass Y) 5 0 0
theorem lkX3_pass_0 (Y : xw_Y) : xw_lk (tbX3_pass Y) 0 = some (tr_ild 1 1) := rfl
theorem lkX3_pass_1 (Y : xw_Y) : xw_lk (tbX3_pass Y) 1 = some (tr_push 2 (.int 1)) := rfl
theorem lkX3_pass_2 (Y : xw_Y) : xw_lk (tbX3_pass Y) 2 = some (tr_push 5 (.int 600)) := rfl
theorem lkX3_pass_5 (Y : xw_Y) : xw_lk (tbX3_pass Y) 5 = some (tr_callS 8 3 (ptX3_isIn Y) 0 0 0 0) := rfl
theorem lkX3_pass_8 (Y : xw_Y) : xw_lk (tbX3_pass Y) 8 = some (tr_ifz 11 21 (fun x => ¬ x = 0)) := rfl
theorem lkX3_pass_21 (Y : xw_Y) : xw_lk (tbX3_pass Y) 21 = some (tr_push 22 (.int 0)) := rfl
theorem lkX3_pass_22 (Y : xw_Y) : xw_lk (tbX3_pass Y) 22 = some (tr_ist 23 2) := rfl
theorem lkX3_pass_23 (Y : xw_Y) : xw_lk (tbX3_pass Y) 23 = some (tr_push 24 (.int 0)) := rfl
theorem lkX3_pass_24 (Y : xw_Y) : xw_lk (tbX3_pass Y) 24 = some (tr_ist 25 3) := rfl
theorem lkX3_pass_25 (Y : xw_Y) : xw_lk (tbX3_pass Y) 25 = some (tr_ild 26 3) := rfl
theorem lkX3_pass_26 (Y : xw_Y) : xw_lk (tbX3_pass Y) 26 = some (tr_push 27 (.int 3)) := rfl
theorem lkX3_pass_27 (Y : xw_Y) : xw_lk (tbX3_pass Y) 27 = some (tr_ifc 30 62 (fun x y => y ≤ x)) := rfl
theorem lkX3_pass_30 (Y : xw_Y) : xw_lk (tbX3_pass Y) 30 = some (tr_ald 31 0) := rfl
theorem lkX3_pass_31 (Y : xw_Y) : xw_lk (tbX3_pass Y) 31 = some (tr_getf 34 4 2) := rfl
theorem lkX3_pass_34 (Y : xw_Y) : xw_lk (tbX3_pass Y) 34 = some (tr_ild 35 3) := rfl
theorem lkX3_pass_35 (Y : xw_Y) : xw_lk (tbX3_pass Y) 35 = some (tr_aald 36 Y.2.2.2.1) := rfl
theorem lkX3_pass_36 (Y : xw_Y) : xw_lk (tbX3_pass Y) 36 = some (tr_ast 38 4) := rfl
theorem lkX3_pass_38 (Y : xw_Y) : xw_lk (tbX3_pass Y) 38 = some (tr_ald 40 4) := rfl
theorem lkX3_pass_40 (Y : xw_Y) : xw_lk (tbX3_pass Y) 40 = some (tr_ifn 56 43) := rfl
theorem lkX3_pass_43 (Y : xw_Y) : xw_lk (tbX3_pass Y) 43 = some (tr_ald 44 0) := rfl
theorem lkX3_pass_44 (Y : xw_Y) : xw_lk (tbX3_pass Y) 44 = some (tr_ald 46 4) := rfl
theorem lkX3_pass_46 (Y : xw_Y) : xw_lk (tbX3_pass Y) 46 = some (tr_ild 47 1) := rfl
theorem lkX3_pass_47 (Y : xw_Y) : xw_lk (tbX3_pass Y) 47 = some (tr_callV 50 2 4 (ptX3_isOverAfter Y) 0 0 0 0) := rfl
theorem lkX3_pass_50 (Y : xw_Y) : xw_lk (tbX3_pass Y) 50 = some (tr_ifz 53 56 (fun x => x = 0)) := rfl
theorem lkX3_pass_53 (Y : xw_Y) : xw_lk (tbX3_pass Y) 53 = some (tr_inc 56 2 1) := rfl
theorem lkX3_pass_56 (Y : xw_Y) : xw_lk (tbX3_pass Y) 56 = some (tr_inc 59 3 1) := rfl
theorem lkX3_pass_59 (Y : xw_Y) : xw_lk (tbX3_pass Y) 59 = some (tr_goto 25) := rfl
theorem lkX3_pass_62 (Y : xw_Y) : xw_lk (tbX3_pass Y) 62 = some (tr_ald 63 0) := rfl
theorem lkX3_pass_63 (Y : xw_Y) : xw_lk (tbX3_pass Y) 63 = some (tr_dup 64) := rfl
theorem lkX3_pass_64 (Y : xw_Y) : xw_lk (tbX3_pass Y) 64 = some (tr_getf 67 4 7) := rfl
theorem lkX3_pass_67 (Y : xw_Y) : xw_lk (tbX3_pass Y) 67 = some (tr_ild 68 1) := rfl
theorem lkX3_pass_68 (Y : xw_Y) : xw_lk (tbX3_pass Y) 68 = some (tr_i2 69 (fun x y => x + y)) := rfl
theorem lkX3_pass_69 (Y : xw_Y) : xw_lk (tbX3_pass Y) 69 = some (tr_putf 72 4 7 .int) := rfl
theorem lkX3_pass_72 (Y : xw_Y) : xw_lk (tbX3_pass Y) 72 = some (tr_ild 73 2) := rfl
theorem lkX3_pass_73 (Y : xw_Y) : xw_lk (tbX3_pass Y) 73 = some (tr_iret .int) := rfl
def tbX3_reason (Y : xw_Y) : List (Nat × xw_T) := [(0, tr_ald 1 0),
  (1, tr_ald 2 0),
  (2, tr_ild 3 1),
  (3, tr_callV 6 1 4 (ptX3_boutAt Y) 0 0 0 0),
  (6, tr_callV 9 1 4 (ptX3_whyNotReady Y) 0 0 0 0),
  (9, tr_iret .int)]
def ptX3_reason (Y : xw_Y) : xw_PT := xw_pt (tbX3_reason Y) 2 0 0
theorem lkX3_reason_0 (Y : xw_Y) : xw_lk (tbX3_reason Y) 0 = some (tr_ald 1 0) := rfl
theorem lkX3_reason_1 (Y : xw_Y) : xw_lk (tbX3_reason Y) 1 = some (tr_ald 2 0) := rfl
theorem lkX3_reason_2 (Y : xw_Y) : xw_lk (tbX3_reason Y) 2 = some (tr_ild 3 1) := rfl
theorem lkX3_reason_3 (Y : xw_Y) : xw_lk (tbX3_reason Y) 3 = some (tr_callV 6 1 4 (ptX3_boutAt Y) 0 0 0 0) := rfl
theorem lkX3_reason_6 (Y : xw_Y) : xw_lk (tbX3_reason Y) 6 = some (tr_callV 9 1 4 (ptX3_whyNotReady Y) 0 0 0 0) := rfl
theorem lkX3_reason_9 (Y : xw_Y) : xw_lk (tbX3_reason Y) 9 = some (tr_iret .int) := rfl
def tbX2_begin (Y : xw_Y) : List (Nat × xw_T) := [(0, tr_ald 1 0),
  (1, tr_getf 4 3 0),
  (4, tr_ifn 15 7),
  (7, tr_ald 8 0),
  (8, tr_getf 11 3 0),
  (11, tr_ald 12 1),
  (12, tr_putf 15 2 6 (.object "Pommel$Bout")),
  (15, tr_vret)]
def ptX2_begin (Y : xw_Y) : xw_PT := xw_pt (tbX2_begin Y) 2 0 0
theorem lkX2_begin_0 (Y : xw_Y) : xw_lk (tbX2_begin Y) 0 = some (tr_ald 1 0) := rfl
theorem lkX2_begin_1 (Y : xw_Y) : xw_lk (tbX2_begin Y) 1 = some (tr_getf 4 3 0) := rfl
theorem lkX2_begin_4 (Y : xw_Y) : xw_lk (tbX2_begin Y) 4 = some (tr_ifn 15 7) := rfl
theorem lkX2_begin_7 (Y : xw_Y) : xw_lk (tbX2_begin Y) 7 = some (tr_ald 8 0) := rfl
theorem lkX2_begin_8 (Y : xw_Y) : xw_lk (tbX2_begin Y) 8 = some (tr_getf 11 3 0) := rfl
theorem lkX2_begin_11 (Y : xw_Y) : xw_lk (tbX2_begin Y) 11 = some (tr_ald 12 1) := rfl
theorem lkX2_begin_12 (Y : xw_Y) : xw_lk (tbX2_begin Y) 12 = some (tr_putf 15 2 6 (.object "Pommel$Bout")) := rfl
theorem lkX2_begin_15 (Y : xw_Y) : xw_lk (tbX2_begin Y) 15 = some (tr_vret) := rfl
def tbX0_begin (Y : xw_Y) : List (Nat × xw_T) := [(0, tr_ald 1 0),
  (1, tr_push 2 (.int 1)),
  (2, tr_putf 5 1 4 .int),
  (5, tr_ald 6 0),
  (6, tr_ild 7 1),
  (7, tr_putf 10 1 6 .int),
  (10, tr_ald 11 0),
  (11, tr_push 12 (.int 1)),
  (12, tr_putf 15 1 7 .int),
  (15, tr_ald 16 0),
  (16, tr_push 19 (.int 180)),
  (19, tr_putf 22 1 8 .int),
  (22, tr_ald 23 0),
  (23, tr_getf 26 1 2),
  (26, tr_ald 27 0),
  (27, tr_callV 30 1 3 (ptX2_begin Y) 0 0 0 0),
  (30, tr_ald 31 0),
  (31, tr_getf 34 1 3),
  (34, tr_ald 35 0),
  (35, tr_callV 38 1 3 (ptX2_begin Y) 0 0 0 0),
  (38, tr_vret)]
def ptX0_begin (Y : xw_Y) : xw_PT := xw_pt (tbX0_begin Y) 2 0 0
theorem lkX0_begin_0 (Y : xw_Y) : xw_lk (tbX0_begin Y) 0 = some (tr_ald 1 0) := rfl
theorem lkX0_begin_1 (Y : xw_Y) : xw_lk (tbX0_begin Y) 1 = some (tr_push 2 (.int 1)) := rfl
theorem lkX0_begin_2 (Y : xw_Y) : xw_lk (tbX0_begin Y) 2 = some (tr_putf 5 1 4 .int) := rfl
theorem lkX0_begin_5 (Y : xw_Y) : xw_lk (tbX0_begin Y) 5 = some (tr_ald 6 0) := rfl
theorem lkX0_begin_6 (Y : xw_Y) : xw_lk (tbX0_begin Y) 6 = some (tr_ild 7 1) := rfl
theorem lkX0_begin_7 (Y : xw_Y) : xw_lk (tbX0_begin Y) 7 = some (tr_putf 10 1 6 .int) := rfl
theorem lkX0_begin_10 (Y : xw_Y) : xw_lk (tbX0_begin Y) 10 = some (tr_ald 11 0) := rfl
theorem lkX0_begin_11 (Y : xw_Y) : xw_lk (tbX0_begin Y) 11 = some (tr_push 12 (.int 1)) := rfl
theorem lkX0_begin_12 (Y : xw_Y) : xw_lk (tbX0_begin Y) 12 = some (tr_putf 15 1 7 .int) := rfl
theorem lkX0_begin_15 (Y : xw_Y) : xw_lk (tbX0_begin Y) 15 = some (tr_ald 16 0) := rfl
theorem lkX0_begin_16 (Y : xw_Y) : xw_lk (tbX0_begin Y) 16 = some (tr_push 19 (.int 180)) := rfl
theorem lkX0_begin_19 (Y : xw_Y) : xw_lk (tbX0_begin Y) 19 = some (tr_putf 22 1 8 .int) := rfl
theorem lkX0_begin_22 (Y : xw_Y) : xw_lk (tbX0_begin Y) 22 = some (tr_ald 23 0) := rfl
theorem lkX0_begin_23 (Y : xw_Y) : xw_lk (tbX0_begin Y) 23 = some (tr_getf 26 1 2) := rfl
theorem lkX0_begin_26 (Y : xw_Y) : xw_lk (tbX0_begin Y) 26 = some (tr_ald 27 0) := rfl
theorem lkX0_begin_27 (Y : xw_Y) : xw_lk (tbX0_begin Y) 27 = some (tr_callV 30 1 3 (ptX2_begin Y) 0 0 0 0) := rfl
theorem lkX0_begin_30 (Y : xw_Y) : xw_lk (tbX0_begin Y) 30 = some (tr_ald 31 0) := rfl
theorem lkX0_begin_31 (Y : xw_Y) : xw_lk (tbX0_begin Y) 31 = some (tr_getf 34 1 3) := rfl
theorem lkX0_begin_34 (Y : xw_Y) : xw_lk (tbX0_begin Y) 34 = some (tr_ald 35 0) := rfl
theorem lkX0_begin_35 (Y : xw_Y) : xw_lk (tbX0_begin Y) 35 = some (tr_callV 38 1 3 (ptX2_begin Y) 0 0 0 0) := rfl
theorem lkX0_begin_38 (Y : xw_Y) : xw_lk (tbX0_begin Y) 38 = some (tr_vret) := rfl
def tbX3_start (Y : xw_Y) : List (Nat × xw_T) := [(0, tr_ald 1 0),
  (1, tr_ild 2 1),
  (2, tr_callV 5 1 4 (ptX3_boutAt Y) 0 0 0 0),
  (5, tr_ast 6 3),
  (6, tr_ild 7 2),
  (7, tr_callS 10 1 (ptX3_isPiste Y) 0 0 0 0),
  (10, tr_ifz 13 23 (fun x => ¬ x = 0)),
  (23, tr_ald 24 0),
  (24, tr_ald 25 3),
  (25, tr_callV 28 1 4 (ptX3_whyNotReady Y) 0 0 0 0),
  (28, tr_ifz 31 40 (fun x => ¬ x = 0)),
  (31, tr_ald 32 0),
  (32, tr_getf 35 4 2),
  (35, tr_ild 36 2),
  (36, tr_aald 37 Y.2.2.2.1),
  (37, tr_ifn 50 40),
  (50, tr_ald 51 3),
  (51, tr_ild 52 2),
  (52, tr_callV 55 1 1 (ptX0_begin Y) 0 0 0 0),
  (55, tr_ald 56 0),
  (56, tr_getf 59 4 2),
  (59, tr_ild 60 2),
  (60, tr_ald 61 3),
  (61, tr_aast 62 Y.2.2.2.1 [1]),
  (62, tr_vret)]
def ptX3_start (Y : xw_Y) : xw_PT := xw_pt (tbX3_start Y) 4 0 0
theorem lkX3_start_0 (Y : xw_Y) : xw_lk (tbX3_start Y) 0 = some (tr_ald 1 0) := rfl
theorem lkX3_start_1 (Y : xw_Y) : xw_lk (tbX3_start Y) 1 = some (tr_ild 2 1) := rfl
theorem lkX3_start_2 (Y : xw_Y) : xw_lk (tbX3_start Y) 2 = some (tr_callV 5 1 4 (ptX3_boutAt Y) 0 0 0 0) := rfl
theorem lkX3_start_5 (Y : xw_Y) : xw_lk (tbX3_start Y) 5 = some (tr_ast 6 3) := rfl
theorem lkX3_start_6 (Y : xw_Y) : xw_lk (tbX3_start Y) 6 = some (tr_ild 7 2) := rfl
theorem lkX3_start_7 (Y : xw_Y) : xw_lk (tbX3_start Y) 7 = some (tr_callS 10 1 (ptX3_isPiste Y) 0 0 0 0) := rfl
theorem lkX3_start_10 (Y : xw_Y) : xw_lk (tbX3_start Y) 10 = some (tr_ifz 13 23 (fun x => ¬ x = 0)) := rfl
theorem lkX3_start_23 (Y : xw_Y) : xw_lk (tbX3_start Y) 23 = some (tr_ald 24 0) := rfl
theorem lkX3_start_24 (Y : xw_Y) : xw_lk (tbX3_start Y) 24 = some (tr_ald 25 3) := rfl
theorem lkX3_start_25 (Y : xw_Y) : xw_lk (tbX3_start Y) 25 = some (tr_callV 28 1 4 (ptX3_whyNotReady Y) 0 0 0 0) := rfl
theorem lkX3_start_28 (Y : xw_Y) : xw_lk (tbX3_start Y) 28 = some (tr_ifz 31 40 (fun x => ¬ x = 0)) := rfl
theorem lkX3_start_31 (Y : xw_Y) : xw_lk (tbX3_start Y) 31 = some (tr_ald 32 0) := rfl
theorem lkX3_start_32 (Y : xw_Y) : xw_lk (tbX3_start Y) 32 = some (tr_getf 35 4 2) := rfl
theorem lkX3_start_35 (Y : xw_Y) : xw_lk (tbX3_start Y) 35 = some (tr_ild 36 2) := rfl
theorem lkX3_start_36 (Y : xw_Y) : xw_lk (tbX3_start Y) 36 = some (tr_aald 37 Y.2.2.2.1) := rfl
theorem lkX3_start_37 (Y : xw_Y) : xw_lk (tbX3_start Y) 37 = some (tr_ifn 50 40) := rfl
theorem lkX3_start_50 (Y : xw_Y) : xw_lk (tbX3_start Y) 50 = some (tr_ald 51 3) := rfl
theorem lkX3_start_51 (Y : xw_Y) : xw_lk (tbX3_start Y) 51 = some (tr_ild 52 2) := rfl
theorem lkX3_start_52 (Y : xw_Y) : xw_lk (tbX3_start Y) 52 = some (tr_callV 55 1 1 (ptX0_begin Y) 0 0 0 0) := rfl
theorem lkX3_start_55 (Y : xw_Y) : xw_lk (tbX3_start Y) 55 = some (tr_ald 56 0) := rfl
theorem lkX3_start_56 (Y : xw_Y) : xw_lk (tbX3_start Y) 56 = some (tr_getf 59 4 2) := rfl
theorem lkX3_start_59 (Y : xw_Y) : xw_lk (tbX3_start Y) 59 = some (tr_ild 60 2) := rfl
theorem lkX3_start_60 (Y : xw_Y) : xw_lk (tbX3_start Y) 60 = some (tr_ald 61 3) := rfl
theorem lkX3_start_61 (Y : xw_Y) : xw_lk (tbX3_start Y) 61 = some (tr_aast 62 Y.2.2.2.1 [1]) := rfl
theorem lkX3_start_62 (Y : xw_Y) : xw_lk (tbX3_start Y) 62 = some (tr_vret) := rfl
def tbX3_liveBoutOn (Y : xw_Y) : List (Nat × xw_T) := [(0, tr_ild 1 1),
  (1, tr_callS 4 1 (ptX3_isPiste Y) 0 0 0 0),
  (4, tr_ifz 7 16 (fun x => x = 0)),
  (7, tr_ald 8 0),
  (8, tr_getf 11 4 2),
  (11, tr_ild 12 1),
  (12, tr_aald 13 Y.2.2.2.1),
  (13, tr_goto 17),
  (16, tr_push 17 .null),
  (17, tr_ast 18 2),
  (18, tr_ald 19 2),
  (19, tr_ifn 22 33),
  (33, tr_ald 34 2),
  (34, tr_aret)]
def ptX3_liveBoutOn (Y : xw_Y) : xw_PT := xw_pt (tbX3_liveBoutOn Y) 3 0 0
theorem lkX3_liveBoutOn_0 (Y : xw_Y) : xw_lk (tbX3_liveBoutOn Y) 0 = some (tr_ild 1 1) := rfl
theorem lkX3_liveBoutOn_1 (Y : xw_Y) : xw_lk (tbX3_liveBoutOn Y) 1 = some (tr_callS 4 1 (ptX3_isPiste Y) 0 0 0 0) := rfl
theorem lkX3_liveBoutOn_4 (Y : xw_Y) : xw_lk (tbX3_liveBoutOn Y) 4 = some (tr_ifz 7 16 (fun x => x = 0)) := rfl
theorem lkX3_liveBoutOn_7 (Y : xw_Y) : xw_lk (tbX3_liveBoutOn Y) 7 = some (tr_ald 8 0) := rfl
theorem lkX3_liveBoutOn_8 (Y : xw_Y) : xw_lk (tbX3_liveBoutOn Y) 8 = some (tr_getf 11 4 2) := rfl
theorem lkX3_liveBoutOn_11 (Y : xw_Y) : xw_lk (tbX3_liveBoutOn Y) 11 = some (tr_ild 12 1) := rfl
theorem lkX3_liveBoutOn_12 (Y : xw_Y) : xw_lk (tbX3_liveBoutOn Y) 12 = some (tr_aald 13 Y.2.2.2.1) := rfl
theorem lkX3_liveBoutOn_13 (Y : xw_Y) : xw_lk (tbX3_liveBoutOn Y) 13 = some (tr_goto 17) := rfl
theorem lkX3_liveBoutOn_16 (Y : xw_Y) : xw_lk (tbX3_liveBoutOn Y) 16 = some (tr_push 17 .null) := rfl
theorem lkX3_liveBoutOn_17 (Y : xw_Y) : xw_lk (tbX3_liveBoutOn Y) 17 = some (tr_ast 18 2) := rfl
theorem lkX3_liveBoutOn_18 (Y : xw_Y) : xw_lk (tbX3_liveBoutOn Y) 18 = some (tr_ald 19 2) := rfl
theorem lkX3_liveBoutOn_19 (Y : xw_Y) : xw_lk (tbX3_liveBoutOn Y) 19 = some (tr_ifn 22 33) := rfl
theorem lkX3_liveBoutOn_33 (Y : xw_Y) : xw_lk (tbX3_liveBoutOn Y) 33 = some (tr_ald 34 2) := rfl
theorem lkX3_liveBoutOn_34 (Y : xw_Y) : xw_lk (tbX3_liveBoutOn Y) 34 = some (tr_aret) := rfl
def tbX0_goal (Y : xw_Y) : List (Nat × xw_T) := [(0, tr_ald 1 0),
  (1, tr_callV 4 0 1 (ptX0_isOfTable Y) 0 0 0 0),
  (4, tr_ifz 7 12 (fun x => x = 0)),
  (7, tr_push 9 (.int 15)),
  (9, tr_goto 13),
  (12, tr_push 13 (.int 5)),
  (13, tr_iret .int)]
def ptX0_goal (Y : xw_Y) : xw_PT := xw_pt (tbX0_goal Y) 1 0 0
theorem lkX0_goal_0 (Y : xw_Y) : xw_lk (tbX0_goal Y) 0 = some (tr_ald 1 0) := rfl
theorem lkX0_goal_1 (Y : xw_Y) : xw_lk (tbX0_goal Y) 1 = some (tr_callV 4 0 1 (ptX0_isOfTable Y) 0 0 0 0) := rfl
theorem lkX0_goal_4 (Y : xw_Y) : xw_lk (tbX0_goal Y) 4 = some (tr_ifz 7 12 (fun x => x = 0)) := rfl
theorem lkX0_goal_7 (Y : xw_Y) : xw_lk (tbX0_goal Y) 7 = some (tr_push 9 (.int 15)) := rfl
theorem lkX0_goal_9 (Y : xw_Y) : xw_lk (tbX0_goal Y) 9 = some (tr_goto 13) := rfl
theorem lkX0_goal_12 (Y : xw_Y) : xw_lk (tbX0_goal Y) 12 = some (tr_push 13 (.int 5)) := rfl
theorem lkX0_goal_13 (Y : xw_Y) : xw_lk (tbX0_goal Y) 13 = some (tr_iret .int) := rfl
def tbX0_countsForBoth (Y : xw_Y) : List (Nat × xw_T) := [(0, tr_ald 1 0),
  (1, tr_callV 4 0 1 (ptX0_isInExtra Y) 0 0 0 0),
  (4, tr_ifz 7 43 (fun x => ¬ x = 0)),
  (7, tr_ald 8 0),
  (8, tr_getf 11 1 2),
  (11, tr_getf 14 3 1),
  (14, tr_push 15 (.int 1)),
  (15, tr_i2 16 (fun x y => x + y)),
  (16, tr_ald 17 0),
  (17, tr_callV 20 0 1 (ptX0_goal Y) 0 0 0 0),
  (20, tr_ifc 23 39 (fun x y => x < y)),
  (23, tr_ald 24 0),
  (24, tr_getf 27 1 3),
  (27, tr_getf 30 3 1),
  (30, tr_push 31 (.int 1)),
  (31, tr_i2 32 (fun x y => x + y)),
  (32, tr_ald 33 0),
  (33, tr_callV 36 0 1 (ptX0_goal Y) 0 0 0 0),
  (36, tr_ifc 39 43 (fun x y => y ≤ x)),
  (39, tr_push 40 (.int 1)),
  (40, tr_goto 44),
  (43, tr_push 44 (.int 0)),
  (44, tr_iret .boolean)]
def ptX0_countsForBoth (Y : xw_Y) : xw_PT := xw_pt (tbX0_countsForBoth Y) 1 0 0
theorem lkX0_countsForBoth_0 (Y : xw_Y) : xw_lk (tbX0_countsForBoth Y) 0 = some (tr_ald 1 0) := rfl
theorem lkX0_countsForBoth_1 (Y : xw_Y) : xw_lk (tbX0_countsForBoth Y) 1 = some (tr_callV 4 0 1 (ptX0_isInExtra Y) 0 0 0 0) := rfl
theorem lkX0_countsForBoth_4 (Y : xw_Y) : xw_lk (tbX0_countsForBoth Y) 4 = some (tr_ifz 7 43 (fun x => ¬ x = 0)) := rfl
theorem lkX0_countsForBoth_7 (Y : xw_Y) : xw_lk (tbX0_countsForBoth Y) 7 = some (tr_ald 8 0) := rfl
theorem lkX0_countsForBoth_8 (Y : xw_Y) : xw_lk (tbX0_countsForBoth Y) 8 = some (tr_getf 11 1 2) := rfl
theorem lkX0_countsForBoth_11 (Y : xw_Y) : xw_lk (tbX0_countsForBoth Y) 11 = some (tr_getf 14 3 1) := rfl
theorem lkX0_countsForBoth_14 (Y : xw_Y) : xw_lk (tbX0_countsForBoth Y) 14 = some (tr_push 15 (.int 1)) := rfl
theorem lkX0_countsForBoth_15 (Y : xw_Y) : xw_lk (tbX0_countsForBoth Y) 15 = some (tr_i2 16 (fun x y => x + y)) := rfl
theorem lkX0_countsForBoth_16 (Y : xw_Y) : xw_lk (tbX0_countsForBoth Y) 16 = some (tr_ald 17 0) := rfl
theorem lkX0_countsForBoth_17 (Y : xw_Y) : xw_lk (tbX0_countsForBoth Y) 17 = some (tr_callV 20 0 1 (ptX0_goal Y) 0 0 0 0) := rfl
theorem lkX0_countsForBoth_20 (Y : xw_Y) : xw_lk (tbX0_countsForBoth Y) 20 = some (tr_ifc 23 39 (fun x y => x < y)) := rfl
theorem lkX0_countsForBoth_23 (Y : xw_Y) : xw_lk (tbX0_countsForBoth Y) 23 = some (tr_ald 24 0) := rfl
theorem lkX0_countsForBoth_24 (Y : xw_Y) : xw_lk (tbX0_countsForBoth Y) 24 = some (tr_getf 27 1 3) := rfl
theorem lkX0_countsForBoth_27 (Y : xw_Y) : xw_lk (tbX0_countsForBoth Y) 27 = some (tr_getf 30 3 1) := rfl
theorem lkX0_countsForBoth_30 (Y : xw_Y) : xw_lk (tbX0_countsForBoth Y) 30 = some (tr_push 31 (.int 1)) := rfl
theorem lkX0_countsForBoth_31 (Y : xw_Y) : xw_lk (tbX0_countsForBoth Y) 31 = some (tr_i2 32 (fun x y => x + y)) := rfl
theorem lkX0_countsForBoth_32 (Y : xw_Y) : xw_lk (tbX0_countsForBoth Y) 32 = some (tr_ald 33 0) := rfl
theorem lkX0_countsForBoth_33 (Y : xw_Y) : xw_lk (tbX0_countsForBoth Y) 33 = some (tr_callV 36 0 1 (ptX0_goal Y) 0 0 0 0) := rfl
theorem lkX0_countsForBoth_36 (Y : xw_Y) : xw_lk (tbX0_countsForBoth Y) 36 = some (tr_ifc 39 43 (fun x y => y ≤ x)) := rfl
theorem lkX0_countsForBoth_39 (Y : xw_Y) : xw_lk (tbX0_countsForBoth Y) 39 = some (tr_push 40 (.int 1)) := rfl
theorem lkX0_countsForBoth_40 (Y : xw_Y) : xw_lk (tbX0_countsForBoth Y) 40 = some (tr_goto 44) := rfl
theorem lkX0_countsForBoth_43 (Y : xw_Y) : xw_lk (tbX0_countsForBoth Y) 43 = some (tr_push 44 (.int 0)) := rfl
theorem lkX0_countsForBoth_44 (Y : xw_Y) : xw_lk (tbX0_countsForBoth Y) 44 = some (tr_iret .boolean) := rfl
def tbX0_isDecidedByHit (Y : xw_Y) : List (Nat × xw_T) := [(0, tr_ald 1 0),
  (1, tr_callV 4 0 1 (ptX0_isInExtra Y) 0 0 0 0),
  (4, tr_ifz 7 35 (fun x => ¬ x = 0)),
  (7, tr_ald 8 0),
  (8, tr_getf 11 1 2),
  (11, tr_getf 14 3 1),
  (14, tr_ald 15 0),
  (15, tr_callV 18 0 1 (ptX0_goal Y) 0 0 0 0),
  (18, tr_ifc 21 35 (fun x y => y ≤ x)),
  (21, tr_ald 22 0),
  (22, tr_getf 25 1 3),
  (25, tr_getf 28 3 1),
  (28, tr_ald 29 0),
  (29, tr_callV 32 0 1 (ptX0_goal Y) 0 0 0 0),
  (32, tr_ifc 35 39 (fun x y => x < y)),
  (35, tr_push 36 (.int 1)),
  (36, tr_goto 40),
  (39, tr_push 40 (.int 0)),
  (40, tr_iret .boolean)]
def ptX0_isDecidedByHit (Y : xw_Y) : xw_PT := xw_pt (tbX0_isDecidedByHit Y) 1 0 0
theorem lkX0_isDecidedByHit_0 (Y : xw_Y) : xw_lk (tbX0_isDecidedByHit Y) 0 = some (tr_ald 1 0) := rfl
theorem lkX0_isDecidedByHit_1 (Y : xw_Y) : xw_lk (tbX0_isDecidedByHit Y) 1 = some (tr_callV 4 0 1 (ptX0_isInExtra Y) 0 0 0 0) := rfl
theorem lkX0_isDecidedByHit_4 (Y : xw_Y) : xw_lk (tbX0_isDecidedByHit Y) 4 = some (tr_ifz 7 35 (fun x => ¬ x = 0)) := rfl
theorem lkX0_isDecidedByHit_7 (Y : xw_Y) : xw_lk (tbX0_isDecidedByHit Y) 7 = some (tr_ald 8 0) := rfl
theorem lkX0_isDecidedByHit_8 (Y : xw_Y) : xw_lk (tbX0_isDecidedByHit Y) 8 = some (tr_getf 11 1 2) := rfl
theorem lkX0_isDecidedByHit_11 (Y : xw_Y) : xw_lk (tbX0_isDecidedByHit Y) 11 = some (tr_getf 14 3 1) := rfl
theorem lkX0_isDecidedByHit_14 (Y : xw_Y) : xw_lk (tbX0_isDecidedByHit Y) 14 = some (tr_ald 15 0) := rfl
theorem lkX0_isDecidedByHit_15 (Y : xw_Y) : xw_lk (tbX0_isDecidedByHit Y) 15 = some (tr_callV 18 0 1 (ptX0_goal Y) 0 0 0 0) := rfl
theorem lkX0_isDecidedByHit_18 (Y : xw_Y) : xw_lk (tbX0_isDecidedByHit Y) 18 = some (tr_ifc 21 35 (fun x y => y ≤ x)) := rfl
theorem lkX0_isDecidedByHit_21 (Y : xw_Y) : xw_lk (tbX0_isDecidedByHit Y) 21 = some (tr_ald 22 0) := rfl
theorem lkX0_isDecidedByHit_22 (Y : xw_Y) : xw_lk (tbX0_isDecidedByHit Y) 22 = some (tr_getf 25 1 3) := rfl
theorem lkX0_isDecidedByHit_25 (Y : xw_Y) : xw_lk (tbX0_isDecidedByHit Y) 25 = some (tr_getf 28 3 1) := rfl
theorem lkX0_isDecidedByHit_28 (Y : xw_Y) : xw_lk (tbX0_isDecidedByHit Y) 28 = some (tr_ald 29 0) := rfl
theorem lkX0_isDecidedByHit_29 (Y : xw_Y) : xw_lk (tbX0_isDecidedByHit Y) 29 = some (tr_callV 32 0 1 (ptX0_goal Y) 0 0 0 0) := rfl
theorem lkX0_isDecidedByHit_32 (Y : xw_Y) : xw_lk (tbX0_isDecidedByHit Y) 32 = some (tr_ifc 35 39 (fun x y => x < y)) := rfl
theorem lkX0_isDecidedByHit_35 (Y : xw_Y) : xw_lk (tbX0_isDecidedByHit Y) 35 = some (tr_push 36 (.int 1)) := rfl
theorem lkX0_isDecidedByHit_36 (Y : xw_Y) : xw_lk (tbX0_isDecidedByHit Y) 36 = some (tr_goto 40) := rfl
theorem lkX0_isDecidedByHit_39 (Y : xw_Y) : xw_lk (tbX0_isDecidedByHit Y) 39 = some (tr_push 40 (.int 0)) := rfl
theorem lkX0_isDecidedByHit_40 (Y : xw_Y) : xw_lk (tbX0_isDecidedByHit Y) 40 = some (tr_iret .boolean) := rfl
def tbX3_isOverByHit (Y : xw_Y) : List (Nat × xw_T) := [(0, tr_ald 1 1),
  (1, tr_callV 4 0 1 (ptX0_isDecidedByHit Y) 0 0 0 0),
  (4, tr_ifz 7 9 (fun x => ¬ x = 0)),
  (7, tr_push 8 (.int 0)),
  (8, tr_iret .boolean),
  (9, tr_ald 10 0),
  (10, tr_ald 11 1),
  (11, tr_ald 12 1),
  (12, tr_callV 15 0 1 (ptX0_winnerAsItStands Y) 0 0 0 0),
  (15, tr_ald 16 0),
  (16, tr_getf 19 4 7),
  (19, tr_callV 22 3 4 (ptX3_finish Y) 0 0 0 0),
  (22, tr_push 23 (.int 1)),
  (23, tr_iret .boolean)]
def ptX3_isOverByHit (Y : xw_Y) : xw_PT := xw_pt (tbX3_isOverByHit Y) 2 0 0
theorem lkX3_isOverByHit_0 (Y : xw_Y) : xw_lk (tbX3_isOverByHit Y) 0 = some (tr_ald 1 1) := rfl
theorem lkX3_isOverByHit_1 (Y : xw_Y) : xw_lk (tbX3_isOverByHit Y) 1 = some (tr_callV 4 0 1 (ptX0_isDecidedByHit Y) 0 0 0 0) := rfl
theorem lkX3_isOverByHit_4 (Y : xw_Y) : xw_lk (tbX3_isOverByHit Y) 4 = some (tr_ifz 7 9 (fun x => ¬ x = 0)) := rfl
theorem lkX3_isOverByHit_7 (Y : xw_Y) : xw_lk (tbX3_isOverByHit Y) 7 = some (tr_push 8 (.int 0)) := rfl
theorem lkX3_isOverByHit_8 (Y : xw_Y) : xw_lk (tbX3_isOverByHit Y) 8 = some (tr_iret .boolean) := rfl
theorem lkX3_isOverByHit_9 (Y : xw_Y) : xw_lk (tbX3_isOverByHit Y) 9 = some (tr_ald 10 0) := rfl
theorem lkX3_isOverByHit_10 (Y : xw_Y) : xw_lk (tbX3_isOverByHit Y) 10 = some (tr_ald 11 1) := rfl
theorem lkX3_isOverByHit_11 (Y : xw_Y) : xw_lk (tbX3_isOverByHit Y) 11 = some (tr_ald 12 1) := rfl
theorem lkX3_isOverByHit_12 (Y : xw_Y) : xw_lk (tbX3_isOverByHit Y) 12 = some (tr_callV 15 0 1 (ptX0_winnerAsItStands Y) 0 0 0 0) := rfl
theorem lkX3_isOverByHit_15 (Y : xw_Y) : xw_lk (tbX3_isOverByHit Y) 15 = some (tr_ald 16 0) := rfl
theorem lkX3_isOverByHit_16 (Y : xw_Y) : xw_lk (tbX3_isOverByHit Y) 16 = some (tr_getf 19 4 7) := rfl
theorem lkX3_isOverByHit_19 (Y : xw_Y) : xw_lk (tbX3_isOverByHit Y) 19 = some (tr_callV 22 3 4 (ptX3_finish Y) 0 0 0 0) := rfl
theorem lkX3_isOverByHit_22 (Y : xw_Y) : xw_lk (tbX3_isOverByHit Y) 22 = some (tr_push 23 (.int 1)) := rfl
theorem lkX3_isOverByHit_23 (Y : xw_Y) : xw_lk (tbX3_isOverByHit Y) 23 = some (tr_iret .boolean) := rfl
def tbX3_hit (Y : xw_Y) : List (Nat × xw_T) := [(0, tr_ild 1 1),
  (1, tr_callS 4 1 (ptX3_isPiste Y) 0 0 0 0),
  (4, tr_ifz 7 16 (fun x => x = 0)),
  (7, tr_ild 8 2),
  (8, tr_push 9 (.int 0)),
  (9, tr_push 10 (.int 2)),
  (10, tr_callS 13 3 (ptX3_isIn Y) 0 0 0 0),
  (13, tr_ifz 16 26 (fun x => ¬ x = 0)),
  (26, tr_ald 27 0),
  (27, tr_ild 28 1),
  (28, tr_callV 31 1 4 (ptX3_liveBoutOn Y) 0 0 0 0),
  (31, tr_ast 32 3),
  (32, tr_ild 33 2),
  (33, tr_push 34 (.int 2)),
  (34, tr_ifc 37 46 (fun x y => ¬ x = y)),
  (37, tr_ald 38 3),
  (38, tr_callV 41 0 1 (ptX0_countsForBoth Y) 0 0 0 0),
  (41, tr_ifz 44 46 (fun x => ¬ x = 0)),
  (44, tr_push 45 (.int 0)),
  (45, tr_iret .boolean),
  (46, tr_ild 47 2),
  (47, tr_push 48 (.int 1)),
  (48, tr_ifc 51 64 (fun x y => x = y)),
  (51, tr_ald 52 3),
  (52, tr_getf 55 1 2),
  (55, tr_dup 56),
  (56, tr_getf 59 3 1),
  (59, tr_push 60 (.int 1)),
  (60, tr_i2 61 (fun x y => x + y)),
  (61, tr_putf 64 3 1 .int),
  (64, tr_ild 65 2),
  (65, tr_ifz 68 81 (fun x => x = 0)),
  (68, tr_ald 69 3),
  (69, tr_getf 72 1 3),
  (72, tr_dup 73),
  (73, tr_getf 76 3 1),
  (76, tr_push 77 (.int 1)),
  (77, tr_i2 78 (fun x y => x + y)),
  (78, tr_putf 81 3 1 .int),
  (81, tr_ald 82 0),
  (82, tr_ald 83 3),
  (83, tr_callV 86 1 4 (ptX3_isOverByHit Y) 0 0 0 0),
  (86, tr_iret .boolean)]
def ptX3_hit (Y : xw_Y) : xw_PT := xw_pt (tbX3_hit Y) 4 0 0
theorem lkX3_hit_0 (Y : xw_Y) : xw_lk (tbX3_hit Y) 0 = some (tr_ild 1 1) := rfl
theorem lkX3_hit_1 (Y : xw_Y) : xw_lk (tbX3_hit Y) 1 = some (tr_callS 4 1 (ptX3_isPiste Y) 0 0 0 0) := rfl
theorem lkX3_hit_4 (Y : xw_Y) : xw_lk (tbX3_hit Y) 4 = some (tr_ifz 7 16 (fun x => x = 0)) := rfl
theorem lkX3_hit_7 (Y : xw_Y) : xw_lk (tbX3_hit Y) 7 = some (tr_ild 8 2) := rfl
theorem lkX3_hit_8 (Y : xw_Y) : xw_lk (tbX3_hit Y) 8 = some (tr_push 9 (.int 0)) := rfl
theorem lkX3_hit_9 (Y : xw_Y) : xw_lk (tbX3_hit Y) 9 = some (tr_push 10 (.int 2)) := rfl
theorem lkX3_hit_10 (Y : xw_Y) : xw_lk (tbX3_hit Y) 10 = some (tr_callS 13 3 (ptX3_isIn Y) 0 0 0 0) := rfl
theorem lkX3_hit_13 (Y : xw_Y) : xw_lk (tbX3_hit Y) 13 = some (tr_ifz 16 26 (fun x => ¬ x = 0)) := rfl
theorem lkX3_hit_26 (Y : xw_Y) : xw_lk (tbX3_hit Y) 26 = some (tr_ald 27 0) := rfl
theorem lkX3_hit_27 (Y : xw_Y) : xw_lk (tbX3_hit Y) 27 = some (tr_ild 28 1) := rfl
theorem lkX3_hit_28 (Y : xw_Y) : xw_lk (tbX3_hit Y) 28 = some (tr_callV 31 1 4 (ptX3_liveBoutOn Y) 0 0 0 0) := rfl
theorem lkX3_hit_31 (Y : xw_Y) : xw_lk (tbX3_hit Y) 31 = some (tr_ast 32 3) := rfl
theorem lkX3_hit_32 (Y : xw_Y) : xw_lk (tbX3_hit Y) 32 = some (tr_ild 33 2) := rfl
theorem lkX3_hit_33 (Y : xw_Y) : xw_lk (tbX3_hit Y) 33 = some (tr_push 34 (.int 2)) := rfl
theorem lkX3_hit_34 (Y : xw_Y) : xw_lk (tbX3_hit Y) 34 = some (tr_ifc 37 46 (fun x y => ¬ x = y)) := rfl
theorem lkX3_hit_37 (Y : xw_Y) : xw_lk (tbX3_hit Y) 37 = some (tr_ald 38 3) := rfl
theorem lkX3_hit_38 (Y : xw_Y) : xw_lk (tbX3_hit Y) 38 = some (tr_callV 41 0 1 (ptX0_countsForBoth Y) 0 0 0 0) := rfl
theorem lkX3_hit_41 (Y : xw_Y) : xw_lk (tbX3_hit Y) 41 = some (tr_ifz 44 46 (fun x => ¬ x = 0)) := rfl
theorem lkX3_hit_44 (Y : xw_Y) : xw_lk (tbX3_hit Y) 44 = some (tr_push 45 (.int 0)) := rfl
theorem lkX3_hit_45 (Y : xw_Y) : xw_lk (tbX3_hit Y) 45 = some (tr_iret .boolean) := rfl
theorem lkX3_hit_46 (Y : xw_Y) : xw_lk (tbX3_hit Y) 46 = some (tr_ild 47 2) := rfl
theorem lkX3_hit_47 (Y : xw_Y) : xw_lk (tbX3_hit Y) 47 = some (tr_push 48 (.int 1)) := rfl
theorem lkX3_hit_48 (Y : xw_Y) : xw_lk (tbX3_hit Y) 48 = some (tr_ifc 51 64 (fun x y => x = y)) := rfl
theorem lkX3_hit_51 (Y : xw_Y) : xw_lk (tbX3_hit Y) 51 = some (tr_ald 52 3) := rfl
theorem lkX3_hit_52 (Y : xw_Y) : xw_lk (tbX3_hit Y) 52 = some (tr_getf 55 1 2) := rfl
theorem lkX3_hit_55 (Y : xw_Y) : xw_lk (tbX3_hit Y) 55 = some (tr_dup 56) := rfl
theorem lkX3_hit_56 (Y : xw_Y) : xw_lk (tbX3_hit Y) 56 = some (tr_getf 59 3 1) := rfl
theorem lkX3_hit_59 (Y : xw_Y) : xw_lk (tbX3_hit Y) 59 = some (tr_push 60 (.int 1)) := rfl
theorem lkX3_hit_60 (Y : xw_Y) : xw_lk (tbX3_hit Y) 60 = some (tr_i2 61 (fun x y => x + y)) := rfl
theorem lkX3_hit_61 (Y : xw_Y) : xw_lk (tbX3_hit Y) 61 = some (tr_putf 64 3 1 .int) := rfl
theorem lkX3_hit_64 (Y : xw_Y) : xw_lk (tbX3_hit Y) 64 = some (tr_ild 65 2) := rfl
theorem lkX3_hit_65 (Y : xw_Y) : xw_lk (tbX3_hit Y) 65 = some (tr_ifz 68 81 (fun x => x = 0)) := rfl
theorem lkX3_hit_68 (Y : xw_Y) : xw_lk (tbX3_hit Y) 68 = some (tr_ald 69 3) := rfl
theorem lkX3_hit_69 (Y : xw_Y) : xw_lk (tbX3_hit Y) 69 = some (tr_getf 72 1 3) := rfl
theorem lkX3_hit_72 (Y : xw_Y) : xw_lk (tbX3_hit Y) 72 = some (tr_dup 73) := rfl
theorem lkX3_hit_73 (Y : xw_Y) : xw_lk (tbX3_hit Y) 73 = some (tr_getf 76 3 1) := rfl
theorem lkX3_hit_76 (Y : xw_Y) : xw_lk (tbX3_hit Y) 76 = some (tr_push 77 (.int 1)) := rfl
theorem lkX3_hit_77 (Y : xw_Y) : xw_lk (tbX3_hit Y) 77 = some (tr_i2 78 (fun x y => x + y)) := rfl
theorem lkX3_hit_78 (Y : xw_Y) : xw_lk (tbX3_hit Y) 78 = some (tr_putf 81 3 1 .int) := rfl
theorem lkX3_hit_81 (Y : xw_Y) : xw_lk (tbX3_hit Y) 81 = some (tr_ald 82 0) := rfl
theorem lkX3_hit_82 (Y : xw_Y) : xw_lk (tbX3_hit Y) 82 = some (tr_ald 83 3) := rfl
theorem lkX3_hit_83 (Y : xw_Y) : xw_lk (tbX3_hit Y) 83 = some (tr_callV 86 1 4 (ptX3_isOverByHit Y) 0 0 0 0) := rfl
theorem lkX3_hit_86 (Y : xw_Y) : xw_lk (tbX3_hit Y) 86 = some (tr_iret .boolean) := rfl
def tbX3_winnerIn (Y : xw_Y) : List (Nat × xw_T) := [(0, tr_ild 1 1),
  (1, tr_callS 4 1 (ptX3_isPiste Y) 0 0 0 0),
  (4, tr_ifz 7 18 (fun x => x = 0)),
  (7, tr_ild 8 2),
  (8, tr_push 9 (.int 1)),
  (9, tr_push 12 (.int 600)),
  (12, tr_callS 15 3 (ptX3_isIn Y) 0 0 0 0),
  (15, tr_ifz 18 29 (fun x => ¬ x = 0)),
  (29, tr_ald 30 0),
  (30, tr_ild 31 1),
  (31, tr_callV 34 1 4 (ptX3_liveBoutOn Y) 0 0 0 0),
  (34, tr_ast 35 3),
  (35, tr_ild 36 2),
  (36, tr_ald 37 3),
  (37, tr_callV 40 0 1 (ptX0_secondsUntilOver Y) 0 0 0 0),
  (40, tr_ifc 43 47 (fun x y => y ≤ x)),
  (43, tr_push 44 (.int (-1))),
  (44, tr_goto 54),
  (47, tr_ald 48 3),
  (48, tr_callV 51 0 1 (ptX0_winnerAsItStands Y) 0 0 0 0),
  (51, tr_callS 54 1 (ptX3_numberOf Y) 0 0 0 0),
  (54, tr_iret .int)]
def ptX3_winnerIn (Y : xw_Y) : xw_PT := xw_pt (tbX3_winnerIn Y) 4 0 0
theorem lkX3_winnerIn_0 (Y : xw_Y) : xw_lk (tbX3_winnerIn Y) 0 = some (tr_ild 1 1) := rfl
theorem lkX3_winnerIn_1 (Y : xw_Y) : xw_lk (tbX3_winnerIn Y) 1 = some (tr_callS 4 1 (ptX3_isPiste Y) 0 0 0 0) := rfl
theorem lkX3_winnerIn_4 (Y : xw_Y) : xw_lk (tbX3_winnerIn Y) 4 = some (tr_ifz 7 18 (fun x => x = 0)) := rfl
theorem lkX3_winnerIn_7 (Y : xw_Y) : xw_lk (tbX3_winnerIn Y) 7 = some (tr_ild 8 2) := rfl
theorem lkX3_winnerIn_8 (Y : xw_Y) : xw_lk (tbX3_winnerIn Y) 8 = some (tr_push 9 (.int 1)) := rfl
theorem lkX3_winnerIn_9 (Y : xw_Y) : xw_lk (tbX3_winnerIn Y) 9 = some (tr_push 12 (.int 600)) := rfl
theorem lkX3_winnerIn_12 (Y : xw_Y) : xw_lk (tbX3_winnerIn Y) 12 = some (tr_callS 15 3 (ptX3_isIn Y) 0 0 0 0) := rfl
theorem lkX3_winnerIn_15 (Y : xw_Y) : xw_lk (tbX3_winnerIn Y) 15 = some (tr_ifz 18 29 (fun x => ¬ x = 0)) := rfl
theorem lkX3_winnerIn_29 (Y : xw_Y) : xw_lk (tbX3_winnerIn Y) 29 = some (tr_ald 30 0) := rfl
theorem lkX3_winnerIn_30 (Y : xw_Y) : xw_lk (tbX3_winnerIn Y) 30 = some (tr_ild 31 1) := rfl
theorem lkX3_winnerIn_31 (Y : xw_Y) : xw_lk (tbX3_winnerIn Y) 31 = some (tr_callV 34 1 4 (ptX3_liveBoutOn Y) 0 0 0 0) := rfl
theorem lkX3_winnerIn_34 (Y : xw_Y) : xw_lk (tbX3_winnerIn Y) 34 = some (tr_ast 35 3) := rfl
theorem lkX3_winnerIn_35 (Y : xw_Y) : xw_lk (tbX3_winnerIn Y) 35 = some (tr_ild 36 2) := rfl
theorem lkX3_winnerIn_36 (Y : xw_Y) : xw_lk (tbX3_winnerIn Y) 36 = some (tr_ald 37 3) := rfl
theorem lkX3_winnerIn_37 (Y : xw_Y) : xw_lk (tbX3_winnerIn Y) 37 = some (tr_callV 40 0 1 (ptX0_secondsUntilOver Y) 0 0 0 0) := rfl
theorem lkX3_winnerIn_40 (Y : xw_Y) : xw_lk (tbX3_winnerIn Y) 40 = some (tr_ifc 43 47 (fun x y => y ≤ x)) := rfl
theorem lkX3_winnerIn_43 (Y : xw_Y) : xw_lk (tbX3_winnerIn Y) 43 = some (tr_push 44 (.int (-1))) := rfl
theorem lkX3_winnerIn_44 (Y : xw_Y) : xw_lk (tbX3_winnerIn Y) 44 = some (tr_goto 54) := rfl
theorem lkX3_winnerIn_47 (Y : xw_Y) : xw_lk (tbX3_winnerIn Y) 47 = some (tr_ald 48 3) := rfl
theorem lkX3_winnerIn_48 (Y : xw_Y) : xw_lk (tbX3_winnerIn Y) 48 = some (tr_callV 51 0 1 (ptX0_winnerAsItStands Y) 0 0 0 0) := rfl
theorem lkX3_winnerIn_51 (Y : xw_Y) : xw_lk (tbX3_winnerIn Y) 51 = some (tr_callS 54 1 (ptX3_numberOf Y) 0 0 0 0) := rfl
theorem lkX3_winnerIn_54 (Y : xw_Y) : xw_lk (tbX3_winnerIn Y) 54 = some (tr_iret .int) := rfl
def tbX3_makeVoid (Y : xw_Y) : List (Nat × xw_T) := [(0, tr_ald 1 1),
  (1, tr_getf 4 1 4),
  (4, tr_push 5 (.int 2)),
  (5, tr_ifc 8 31 (fun x y => ¬ x = y)),
  (8, tr_ald 9 1),
  (9, tr_ald 10 1),
  (10, tr_getf 13 1 5),
  (13, tr_ald 14 1),
  (14, tr_getf 17 1 2),
  (17, tr_getf 20 3 1),
  (20, tr_ald 21 1),
  (21, tr_getf 24 1 3),
  (24, tr_getf 27 3 1),
  (27, tr_push 28 (.int (-1))),
  (28, tr_callV 31 4 1 (ptX0_count Y) 0 0 0 0),
  (31, tr_ald 32 1),
  (32, tr_push 33 (.int 3)),
  (33, tr_putf 36 1 4 .int),
  (36, tr_ald 37 1),
  (37, tr_push 38 .null),
  (38, tr_putf 41 1 5 (.object "Pommel$Fencer")),
  (41, tr_vret)]
def ptX3_makeVoid (Y : xw_Y) : xw_PT := xw_pt (tbX3_makeVoid Y) 2 0 0
theorem lkX3_makeVoid_0 (Y : xw_Y) : xw_lk (tbX3_makeVoid Y) 0 = some (tr_ald 1 1) := rfl
theorem lkX3_makeVoid_1 (Y : xw_Y) : xw_lk (tbX3_makeVoid Y) 1 = some (tr_getf 4 1 4) := rfl
theorem lkX3_makeVoid_4 (Y : xw_Y) : xw_lk (tbX3_makeVoid Y) 4 = some (tr_push 5 (.int 2)) := rfl
theorem lkX3_makeVoid_5 (Y : xw_Y) : xw_lk (tbX3_makeVoid Y) 5 = some (tr_ifc 8 31 (fun x y => ¬ x = y)) := rfl
theorem lkX3_makeVoid_8 (Y : xw_Y) : xw_lk (tbX3_makeVoid Y) 8 = some (tr_ald 9 1) := rfl
theorem lkX3_makeVoid_9 (Y : xw_Y) : xw_lk (tbX3_makeVoid Y) 9 = some (tr_ald 10 1) := rfl
theorem lkX3_makeVoid_10 (Y : xw_Y) : xw_lk (tbX3_makeVoid Y) 10 = some (tr_getf 13 1 5) := rfl
theorem lkX3_makeVoid_13 (Y : xw_Y) : xw_lk (tbX3_makeVoid Y) 13 = some (tr_ald 14 1) := rfl
theorem lkX3_makeVoid_14 (Y : xw_Y) : xw_lk (tbX3_makeVoid Y) 14 = some (tr_getf 17 1 2) := rfl
theorem lkX3_makeVoid_17 (Y : xw_Y) : xw_lk (tbX3_makeVoid Y) 17 = some (tr_getf 20 3 1) := rfl
theorem lkX3_makeVoid_20 (Y : xw_Y) : xw_lk (tbX3_makeVoid Y) 20 = some (tr_ald 21 1) := rfl
theorem lkX3_makeVoid_21 (Y : xw_Y) : xw_lk (tbX3_makeVoid Y) 21 = some (tr_getf 24 1 3) := rfl
theorem lkX3_makeVoid_24 (Y : xw_Y) : xw_lk (tbX3_makeVoid Y) 24 = some (tr_getf 27 3 1) := rfl
theorem lkX3_makeVoid_27 (Y : xw_Y) : xw_lk (tbX3_makeVoid Y) 27 = some (tr_push 28 (.int (-1))) := rfl
theorem lkX3_makeVoid_28 (Y : xw_Y) : xw_lk (tbX3_makeVoid Y) 28 = some (tr_callV 31 4 1 (ptX0_count Y) 0 0 0 0) := rfl
theorem lkX3_makeVoid_31 (Y : xw_Y) : xw_lk (tbX3_makeVoid Y) 31 = some (tr_ald 32 1) := rfl
theorem lkX3_makeVoid_32 (Y : xw_Y) : xw_lk (tbX3_makeVoid Y) 32 = some (tr_push 33 (.int 3)) := rfl
theorem lkX3_makeVoid_33 (Y : xw_Y) : xw_lk (tbX3_makeVoid Y) 33 = some (tr_putf 36 1 4 .int) := rfl
theorem lkX3_makeVoid_36 (Y : xw_Y) : xw_lk (tbX3_makeVoid Y) 36 = some (tr_ald 37 1) := rfl
theorem lkX3_makeVoid_37 (Y : xw_Y) : xw_lk (tbX3_makeVoid Y) 37 = some (tr_push 38 .null) := rfl
theorem lkX3_makeVoid_38 (Y : xw_Y) : xw_lk (tbX3_makeVoid Y) 38 = some (tr_putf 41 1 5 (.object "Pommel$Fencer")) := rfl
theorem lkX3_makeVoid_41 (Y : xw_Y) : xw_lk (tbX3_makeVoid Y) 41 = some (tr_vret) := rfl
def tbX3_putOut (Y : xw_Y) : List (Nat × xw_T) := [(0, tr_ald 1 2),
  (1, tr_ifn 4 5),
  (4, tr_vret),
  (5, tr_ald 6 2),
  (6, tr_push 7 (.int 1)),
  (7, tr_putf 10 2 5 .boolean),
  (10, tr_ald 11 1),
  (11, tr_callV 14 0 1 (ptX0_isOfTable Y) 0 0 0 0),
  (14, tr_ifz 17 28 (fun x => x = 0)),
  (17, tr_ald 18 0),
  (18, tr_ald 19 1),
  (19, tr_ald 20 3),
  (20, tr_ald 21 0),
  (21, tr_getf 24 4 7),
  (24, tr_callV 27 3 4 (ptX3_finish Y) 0 0 0 0),
  (27, tr_vret),
  (28, tr_ald 29 0),
  (29, tr_ald 30 1),
  (30, tr_ald 31 0),
  (31, tr_getf 34 4 7),
  (34, tr_callV 37 2 4 (ptX3_leavePiste Y) 0 0 0 0),
  (37, tr_push 38 (.int 0)),
  (38, tr_ist 40 4),
  (40, tr_ild 42 4),
  (42, tr_ald 43 0),
  (43, tr_getf 46 4 1),
  (46, tr_callV 49 0 0 (ptJx4a65c_size_8abf5 Y) 0 0 0 0),
  (49, tr_ifc 52 102 (fun x y => y ≤ x)),
  (52, tr_ald 53 0),
  (53, tr_getf 56 4 1),
  (56, tr_ild 58 4),
  (58, tr_callV 61 1 0 (ptJx4a65c_get_915e3 Y) 0 0 0 0),
  (61, tr_cast 64 1),
  (64, tr_ast 66 5),
  (66, tr_ald 68 5),
  (68, tr_getf 71 1 2),
  (71, tr_getf 74 3 0),
  (74, tr_ald 75 2),
  (75, tr_ifa 90 78),
  (78, tr_ald 80 5),
  (80, tr_getf 83 1 3),
  (83, tr_getf 86 3 0),
  (86, tr_ald 87 2),
  (87, tr_ifa 90 96),
  (90, tr_ald 91 0),
  (91, tr_ald 93 5),
  (93, tr_callV 96 1 4 (ptX3_makeVoid Y) 0 0 0 0),
  (96, tr_inc 99 4 1),
  (99, tr_goto 40),
  (102, tr_vret)]
def ptX3_putOut (Y : xw_Y) : xw_PT := xw_pt (tbX3_putOut Y) 6 0 0
theorem lkX3_putOut_0 (Y : xw_Y) : xw_lk (tbX3_putOut Y) 0 = some (tr_ald 1 2) := rfl
theorem lkX3_putOut_1 (Y : xw_Y) : xw_lk (tbX3_putOut Y) 1 = some (tr_ifn 4 5) := rfl
theorem lkX3_putOut_4 (Y : xw_Y) : xw_lk (tbX3_putOut Y) 4 = some (tr_vret) := rfl
theorem lkX3_putOut_5 (Y : xw_Y) : xw_lk (tbX3_putOut Y) 5 = some (tr_ald 6 2) := rfl
theorem lkX3_putOut_6 (Y : xw_Y) : xw_lk (tbX3_putOut Y) 6 = some (tr_push 7 (.int 1)) := rfl
theorem lkX3_putOut_7 (Y : xw_Y) : xw_lk (tbX3_putOut Y) 7 = some (tr_putf 10 2 5 .boolean) := rfl
theorem lkX3_putOut_10 (Y : xw_Y) : xw_lk (tbX3_putOut Y) 10 = some (tr_ald 11 1) := rfl
theorem lkX3_putOut_11 (Y : xw_Y) : xw_lk (tbX3_putOut Y) 11 = some (tr_callV 14 0 1 (ptX0_isOfTable Y) 0 0 0 0) := rfl
theorem lkX3_putOut_14 (Y : xw_Y) : xw_lk (tbX3_putOut Y) 14 = some (tr_ifz 17 28 (fun x => x = 0)) := rfl
theorem lkX3_putOut_17 (Y : xw_Y) : xw_lk (tbX3_putOut Y) 17 = some (tr_ald 18 0) := rfl
theorem lkX3_putOut_18 (Y : xw_Y) : xw_lk (tbX3_putOut Y) 18 = some (tr_ald 19 1) := rfl
theorem lkX3_putOut_19 (Y : xw_Y) : xw_lk (tbX3_putOut Y) 19 = some (tr_ald 20 3) := rfl
theorem lkX3_putOut_20 (Y : xw_Y) : xw_lk (tbX3_putOut Y) 20 = some (tr_ald 21 0) := rfl
theorem lkX3_putOut_21 (Y : xw_Y) : xw_lk (tbX3_putOut Y) 21 = some (tr_getf 24 4 7) := rfl
theorem lkX3_putOut_24 (Y : xw_Y) : xw_lk (tbX3_putOut Y) 24 = some (tr_callV 27 3 4 (ptX3_finish Y) 0 0 0 0) := rfl
theorem lkX3_putOut_27 (Y : xw_Y) : xw_lk (tbX3_putOut Y) 27 = some (tr_vret) := rfl
theorem lkX3_putOut_28 (Y : xw_Y) : xw_lk (tbX3_putOut Y) 28 = some (tr_ald 29 0) := rfl
theorem lkX3_putOut_29 (Y : xw_Y) : xw_lk (tbX3_putOut Y) 29 = some (tr_ald 30 1) := rfl
theorem lkX3_putOut_30 (Y : xw_Y) : xw_lk (tbX3_putOut Y) 30 = some (tr_ald 31 0) := rfl
theorem lkX3_putOut_31 (Y : xw_Y) : xw_lk (tbX3_putOut Y) 31 = some (tr_getf 34 4 7) := rfl
theorem lkX3_putOut_34 (Y : xw_Y) : xw_lk (tbX3_putOut Y) 34 = some (tr_callV 37 2 4 (ptX3_leavePiste Y) 0 0 0 0) := rfl
theorem lkX3_putOut_37 (Y : xw_Y) : xw_lk (tbX3_putOut Y) 37 = some (tr_push 38 (.int 0)) := rfl
theorem lkX3_putOut_38 (Y : xw_Y) : xw_lk (tbX3_putOut Y) 38 = some (tr_ist 40 4) := rfl
theorem lkX3_putOut_40 (Y : xw_Y) : xw_lk (tbX3_putOut Y) 40 = some (tr_ild 42 4) := rfl
theorem lkX3_putOut_42 (Y : xw_Y) : xw_lk (tbX3_putOut Y) 42 = some (tr_ald 43 0) := rfl
theorem lkX3_putOut_43 (Y : xw_Y) : xw_lk (tbX3_putOut Y) 43 = some (tr_getf 46 4 1) := rfl
theorem lkX3_putOut_46 (Y : xw_Y) : xw_lk (tbX3_putOut Y) 46 = some (tr_callV 49 0 0 (ptJx4a65c_size_8abf5 Y) 0 0 0 0) := rfl
theorem lkX3_putOut_49 (Y : xw_Y) : xw_lk (tbX3_putOut Y) 49 = some (tr_ifc 52 102 (fun x y => y ≤ x)) := rfl
theorem lkX3_putOut_52 (Y : xw_Y) : xw_lk (tbX3_putOut Y) 52 = some (tr_ald 53 0) := rfl
theorem lkX3_putOut_53 (Y : xw_Y) : xw_lk (tbX3_putOut Y) 53 = some (tr_getf 56 4 1) := rfl
theorem lkX3_putOut_56 (Y : xw_Y) : xw_lk (tbX3_putOut Y) 56 = some (tr_ild 58 4) := rfl
theorem lkX3_putOut_58 (Y : xw_Y) : xw_lk (tbX3_putOut Y) 58 = some (tr_callV 61 1 0 (ptJx4a65c_get_915e3 Y) 0 0 0 0) := rfl
theorem lkX3_putOut_61 (Y : xw_Y) : xw_lk (tbX3_putOut Y) 61 = some (tr_cast 64 1) := rfl
theorem lkX3_putOut_64 (Y : xw_Y) : xw_lk (tbX3_putOut Y) 64 = some (tr_ast 66 5) := rfl
theorem lkX3_putOut_66 (Y : xw_Y) : xw_lk (tbX3_putOut Y) 66 = some (tr_ald 68 5) := rfl
theorem lkX3_putOut_68 (Y : xw_Y) : xw_lk (tbX3_putOut Y) 68 = some (tr_getf 71 1 2) := rfl
theorem lkX3_putOut_71 (Y : xw_Y) : xw_lk (tbX3_putOut Y) 71 = some (tr_getf 74 3 0) := rfl
theorem lkX3_putOut_74 (Y : xw_Y) : xw_lk (tbX3_putOut Y) 74 = some (tr_ald 75 2) := rfl
theorem lkX3_putOut_75 (Y : xw_Y) : xw_lk (tbX3_putOut Y) 75 = some (tr_ifa 90 78) := rfl
theorem lkX3_putOut_78 (Y : xw_Y) : xw_lk (tbX3_putOut Y) 78 = some (tr_ald 80 5) := rfl
theorem lkX3_putOut_80 (Y : xw_Y) : xw_lk (tbX3_putOut Y) 80 = some (tr_getf 83 1 3) := rfl
theorem lkX3_putOut_83 (Y : xw_Y) : xw_lk (tbX3_putOut Y) 83 = some (tr_getf 86 3 0) := rfl
theorem lkX3_putOut_86 (Y : xw_Y) : xw_lk (tbX3_putOut Y) 86 = some (tr_ald 87 2) := rfl
theorem lkX3_putOut_87 (Y : xw_Y) : xw_lk (tbX3_putOut Y) 87 = some (tr_ifa 90 96) := rfl
theorem lkX3_putOut_90 (Y : xw_Y) : xw_lk (tbX3_putOut Y) 90 = some (tr_ald 91 0) := rfl
theorem lkX3_putOut_91 (Y : xw_Y) : xw_lk (tbX3_putOut Y) 91 = some (tr_ald 93 5) := rfl
theorem lkX3_putOut_93 (Y : xw_Y) : xw_lk (tbX3_putOut Y) 93 = some (tr_callV 96 1 4 (ptX3_makeVoid Y) 0 0 0 0) := rfl
theorem lkX3_putOut_96 (Y : xw_Y) : xw_lk (tbX3_putOut Y) 96 = some (tr_inc 99 4 1) := rfl
theorem lkX3_putOut_99 (Y : xw_Y) : xw_lk (tbX3_putOut Y) 99 = some (tr_goto 40) := rfl
theorem lkX3_putOut_102 (Y : xw_Y) : xw_lk (tbX3_putOut Y) 102 = some (tr_vret) := rfl
def tbX3_card (Y : xw_Y) : List (Nat × xw_T) := [(0, tr_ild 1 1),
  (1, tr_callS 4 1 (ptX3_isPiste Y) 0 0 0 0),
  (4, tr_ifz 7 25 (fun x => x = 0)),
  (7, tr_ild 8 2),
  (8, tr_push 9 (.int 0)),
  (9, tr_push 10 (.int 1)),
  (10, tr_callS 13 3 (ptX3_isIn Y) 0 0 0 0),
  (13, tr_ifz 16 25 (fun x => x = 0)),
  (16, tr_ild 17 3),
  (17, tr_push 18 (.int 0)),
  (18, tr_push 19 (.int 2)),
  (19, tr_callS 22 3 (ptX3_isIn Y) 0 0 0 0),
  (22, tr_ifz 25 35 (fun x => ¬ x = 0)),
  (35, tr_ald 36 0),
  (36, tr_ild 37 1),
  (37, tr_callV 40 1 4 (ptX3_liveBoutOn Y) 0 0 0 0),
  (40, tr_ast 42 4),
  (42, tr_ald 44 4),
  (44, tr_ild 45 2),
  (45, tr_callV 48 1 1 (ptX0_sideOf Y) 0 0 0 0),
  (48, tr_ast 50 5),
  (50, tr_ald 52 4),
  (52, tr_push 53 (.int 1)),
  (53, tr_ild 54 2),
  (54, tr_i2 55 (fun x y => x - y)),
  (55, tr_callV 58 1 1 (ptX0_sideOf Y) 0 0 0 0),
  (58, tr_ast 60 6),
  (60, tr_ild 61 3),
  (61, tr_ifz 64 76 (fun x => ¬ x = 0)),
  (64, tr_ald 66 5),
  (66, tr_getf 69 3 2),
  (69, tr_ifz 72 76 (fun x => x ≤ 0)),
  (72, tr_push 73 (.int 1)),
  (73, tr_goto 77),
  (76, tr_ild 77 3),
  (77, tr_ist 79 7),
  (79, tr_ald 81 5),
  (81, tr_ald 83 5),
  (83, tr_getf 86 3 2),
  (86, tr_ild 88 7),
  (88, tr_push 89 (.int 1)),
  (89, tr_i2 90 (fun x y => x + y)),
  (90, tr_max 93 0 0),
  (93, tr_putf 96 3 2 .int),
  (96, tr_ild 98 7),
  (98, tr_push 99 (.int 1)),
  (99, tr_ifc 102 123 (fun x y => ¬ x = y)),
  (102, tr_ald 104 6),
  (104, tr_dup 105),
  (105, tr_getf 108 3 1),
  (108, tr_push 109 (.int 1)),
  (109, tr_i2 110 (fun x y => x + y)),
  (110, tr_putf 113 3 1 .int),
  (113, tr_ald 114 0),
  (114, tr_ald 116 4),
  (116, tr_callV 119 1 4 (ptX3_isOverByHit Y) 0 0 0 0),
  (119, tr_pop 120),
  (120, tr_goto 145),
  (123, tr_ild 125 7),
  (125, tr_push 126 (.int 2)),
  (126, tr_ifc 129 145 (fun x y => ¬ x = y)),
  (129, tr_ald 130 0),
  (130, tr_ald 132 4),
  (132, tr_ald 134 5),
  (134, tr_getf 137 3 0),
  (137, tr_ald 139 6),
  (139, tr_getf 142 3 0),
  (142, tr_callV 145 3 4 (ptX3_putOut Y) 0 0 0 0),
  (145, tr_ild 147 7),
  (147, tr_iret .int)]
def ptX3_card (Y : xw_Y) : xw_PT := xw_pt (tbX3_card Y) 8 0 0
theorem lkX3_card_0 (Y : xw_Y) : xw_lk (tbX3_card Y) 0 = some (tr_ild 1 1) := rfl
theorem lkX3_card_1 (Y : xw_Y) : xw_lk (tbX3_card Y) 1 = some (tr_callS 4 1 (ptX3_isPiste Y) 0 0 0 0) := rfl
theorem lkX3_card_4 (Y : xw_Y) : xw_lk (tbX3_card Y) 4 = some (tr_ifz 7 25 (fun x => x = 0)) := rfl
theorem lkX3_card_7 (Y : xw_Y) : xw_lk (tbX3_card Y) 7 = some (tr_ild 8 2) := rfl
theorem lkX3_card_8 (Y : xw_Y) : xw_lk (tbX3_card Y) 8 = some (tr_push 9 (.int 0)) := rfl
theorem lkX3_card_9 (Y : xw_Y) : xw_lk (tbX3_card Y) 9 = some (tr_push 10 (.int 1)) := rfl
theorem lkX3_card_10 (Y : xw_Y) : xw_lk (tbX3_card Y) 10 = some (tr_callS 13 3 (ptX3_isIn Y) 0 0 0 0) := rfl
theorem lkX3_card_13 (Y : xw_Y) : xw_lk (tbX3_card Y) 13 = some (tr_ifz 16 25 (fun x => x = 0)) := rfl
theorem lkX3_card_16 (Y : xw_Y) : xw_lk (tbX3_card Y) 16 = some (tr_ild 17 3) := rfl
theorem lkX3_card_17 (Y : xw_Y) : xw_lk (tbX3_card Y) 17 = some (tr_push 18 (.int 0)) := rfl
theorem lkX3_card_18 (Y : xw_Y) : xw_lk (tbX3_card Y) 18 = some (tr_push 19 (.int 2)) := rfl
theorem lkX3_card_19 (Y : xw_Y) : xw_lk (tbX3_card Y) 19 = some (tr_callS 22 3 (ptX3_isIn Y) 0 0 0 0) := rfl
theorem lkX3_card_22 (Y : xw_Y) : xw_lk (tbX3_card Y) 22 = some (tr_ifz 25 35 (fun x => ¬ x = 0)) := rfl
theorem lkX3_card_35 (Y : xw_Y) : xw_lk (tbX3_card Y) 35 = some (tr_ald 36 0) := rfl
theorem lkX3_card_36 (Y : xw_Y) : xw_lk (tbX3_card Y) 36 = some (tr_ild 37 1) := rfl
theorem lkX3_card_37 (Y : xw_Y) : xw_lk (tbX3_card Y) 37 = some (tr_callV 40 1 4 (ptX3_liveBoutOn Y) 0 0 0 0) := rfl
theorem lkX3_card_40 (Y : xw_Y) : xw_lk (tbX3_card Y) 40 = some (tr_ast 42 4) := rfl
theorem lkX3_card_42 (Y : xw_Y) : xw_lk (tbX3_card Y) 42 = some (tr_ald 44 4) := rfl
theorem lkX3_card_44 (Y : xw_Y) : xw_lk (tbX3_card Y) 44 = some (tr_ild 45 2) := rfl
theorem lkX3_card_45 (Y : xw_Y) : xw_lk (tbX3_card Y) 45 = some (tr_callV 48 1 1 (ptX0_sideOf Y) 0 0 0 0) := rfl
theorem lkX3_card_48 (Y : xw_Y) : xw_lk (tbX3_card Y) 48 = some (tr_ast 50 5) := rfl
theorem lkX3_card_50 (Y : xw_Y) : xw_lk (tbX3_card Y) 50 = some (tr_ald 52 4) := rfl
theorem lkX3_card_52 (Y : xw_Y) : xw_lk (tbX3_card Y) 52 = some (tr_push 53 (.int 1)) := rfl
theorem lkX3_card_53 (Y : xw_Y) : xw_lk (tbX3_card Y) 53 = some (tr_ild 54 2) := rfl
theorem lkX3_card_54 (Y : xw_Y) : xw_lk (tbX3_card Y) 54 = some (tr_i2 55 (fun x y => x - y)) := rfl
theorem lkX3_card_55 (Y : xw_Y) : xw_lk (tbX3_card Y) 55 = some (tr_callV 58 1 1 (ptX0_sideOf Y) 0 0 0 0) := rfl
theorem lkX3_card_58 (Y : xw_Y) : xw_lk (tbX3_card Y) 58 = some (tr_ast 60 6) := rfl
theorem lkX3_card_60 (Y : xw_Y) : xw_lk (tbX3_card Y) 60 = some (tr_ild 61 3) := rfl
theorem lkX3_card_61 (Y : xw_Y) : xw_lk (tbX3_card Y) 61 = some (tr_ifz 64 76 (fun x => ¬ x = 0)) := rfl
theorem lkX3_card_64 (Y : xw_Y) : xw_lk (tbX3_card Y) 64 = some (tr_ald 66 5) := rfl
theorem lkX3_card_66 (Y : xw_Y) : xw_lk (tbX3_card Y) 66 = some (tr_getf 69 3 2) := rfl
theorem lkX3_card_69 (Y : xw_Y) : xw_lk (tbX3_card Y) 69 = some (tr_ifz 72 76 (fun x => x ≤ 0)) := rfl
theorem lkX3_card_72 (Y : xw_Y) : xw_lk (tbX3_card Y) 72 = some (tr_push 73 (.int 1)) := rfl
theorem lkX3_card_73 (Y : xw_Y) : xw_lk (tbX3_card Y) 73 = some (tr_goto 77) := rfl
theorem lkX3_card_76 (Y : xw_Y) : xw_lk (tbX3_card Y) 76 = some (tr_ild 77 3) := rfl
theorem lkX3_card_77 (Y : xw_Y) : xw_lk (tbX3_card Y) 77 = some (tr_ist 79 7) := rfl
theorem lkX3_card_79 (Y : xw_Y) : xw_lk (tbX3_card Y) 79 = some (tr_ald 81 5) := rfl
theorem lkX3_card_81 (Y : xw_Y) : xw_lk (tbX3_card Y) 81 = some (tr_ald 83 5) := rfl
theorem lkX3_card_83 (Y : xw_Y) : xw_lk (tbX3_card Y) 83 = some (tr_getf 86 3 2) := rfl
theorem lkX3_card_86 (Y : xw_Y) : xw_lk (tbX3_card Y) 86 = some (tr_ild 88 7) := rfl
theorem lkX3_card_88 (Y : xw_Y) : xw_lk (tbX3_card Y) 88 = some (tr_push 89 (.int 1)) := rfl
theorem lkX3_card_89 (Y : xw_Y) : xw_lk (tbX3_card Y) 89 = some (tr_i2 90 (fun x y => x + y)) := rfl
theorem lkX3_card_90 (Y : xw_Y) : xw_lk (tbX3_card Y) 90 = some (tr_max 93 0 0) := rfl
theorem lkX3_card_93 (Y : xw_Y) : xw_lk (tbX3_card Y) 93 = some (tr_putf 96 3 2 .int) := rfl
theorem lkX3_card_96 (Y : xw_Y) : xw_lk (tbX3_card Y) 96 = some (tr_ild 98 7) := rfl
theorem lkX3_card_98 (Y : xw_Y) : xw_lk (tbX3_card Y) 98 = some (tr_push 99 (.int 1)) := rfl
theorem lkX3_card_99 (Y : xw_Y) : xw_lk (tbX3_card Y) 99 = some (tr_ifc 102 123 (fun x y => ¬ x = y)) := rfl
theorem lkX3_card_102 (Y : xw_Y) : xw_lk (tbX3_card Y) 102 = some (tr_ald 104 6) := rfl
theorem lkX3_card_104 (Y : xw_Y) : xw_lk (tbX3_card Y) 104 = some (tr_dup 105) := rfl
theorem lkX3_card_105 (Y : xw_Y) : xw_lk (tbX3_card Y) 105 = some (tr_getf 108 3 1) := rfl
theorem lkX3_card_108 (Y : xw_Y) : xw_lk (tbX3_card Y) 108 = some (tr_push 109 (.int 1)) := rfl
theorem lkX3_card_109 (Y : xw_Y) : xw_lk (tbX3_card Y) 109 = some (tr_i2 110 (fun x y => x + y)) := rfl
theorem lkX3_card_110 (Y : xw_Y) : xw_lk (tbX3_card Y) 110 = some (tr_putf 113 3 1 .int) := rfl
theorem lkX3_card_113 (Y : xw_Y) : xw_lk (tbX3_card Y) 113 = some (tr_ald 114 0) := rfl
theorem lkX3_card_114 (Y : xw_Y) : xw_lk (tbX3_card Y) 114 = some (tr_ald 116 4) := rfl
theorem lkX3_card_116 (Y : xw_Y) : xw_lk (tbX3_card Y) 116 = some (tr_callV 119 1 4 (ptX3_isOverByHit Y) 0 0 0 0) := rfl
theorem lkX3_card_119 (Y : xw_Y) : xw_lk (tbX3_card Y) 119 = some (tr_pop 120) := rfl
theorem lkX3_card_120 (Y : xw_Y) : xw_lk (tbX3_card Y) 120 = some (tr_goto 145) := rfl
theorem lkX3_card_123 (Y : xw_Y) : xw_lk (tbX3_card Y) 123 = some (tr_ild 125 7) := rfl
theorem lkX3_card_125 (Y : xw_Y) : xw_lk (tbX3_card Y) 125 = some (tr_push 126 (.int 2)) := rfl
theorem lkX3_card_126 (Y : xw_Y) : xw_lk (tbX3_card Y) 126 = some (tr_ifc 129 145 (fun x y => ¬ x = y)) := rfl
theorem lkX3_card_129 (Y : xw_Y) : xw_lk (tbX3_card Y) 129 = some (tr_ald 130 0) := rfl
theorem lkX3_card_130 (Y : xw_Y) : xw_lk (tbX3_card Y) 130 = some (tr_ald 132 4) := rfl
theorem lkX3_card_132 (Y : xw_Y) : xw_lk (tbX3_card Y) 132 = some (tr_ald 134 5) := rfl
theorem lkX3_card_134 (Y : xw_Y) : xw_lk (tbX3_card Y) 134 = some (tr_getf 137 3 0) := rfl
theorem lkX3_card_137 (Y : xw_Y) : xw_lk (tbX3_card Y) 137 = some (tr_ald 139 6) := rfl
theorem lkX3_card_139 (Y : xw_Y) : xw_lk (tbX3_card Y) 139 = some (tr_getf 142 3 0) := rfl
theorem lkX3_card_142 (Y : xw_Y) : xw_lk (tbX3_card Y) 142 = some (tr_callV 145 3 4 (ptX3_putOut Y) 0 0 0 0) := rfl
theorem lkX3_card_145 (Y : xw_Y) : xw_lk (tbX3_card Y) 145 = some (tr_ild 147 7) := rfl
theorem lkX3_card_147 (Y : xw_Y) : xw_lk (tbX3_card Y) 147 = some (tr_iret .int) := rfl
def tbX3_withFencer (Y : xw_Y) : List (Nat × xw_T) := [(0, tr_lld 1 1),
  (1, tr_lst 3 4),
  (3, tr_push 4 (.int 0)),
  (4, tr_ist 6 6),
  (6, tr_ild 8 6),
  (8, tr_push 10 (.int 6)),
  (10, tr_ifc 13 36 (fun x y => y < x)),
  (13, tr_lld 15 4),
  (15, tr_push 18 (.long (31))),
  (18, tr_l2 19 (fun x y => x * y)),
  (19, tr_ald 20 0),
  (20, tr_ild 21 3),
  (21, tr_ild 23 6),
  (23, tr_callV 26 2 4 (ptX3_of Y) 0 0 0 0),
  (26, tr_i2l 27),
  (27, tr_l2 28 (fun x y => x + y)),
  (28, tr_lst 30 4),
  (30, tr_inc 33 6 1),
  (33, tr_goto 6),
  (36, tr_push 37 (.int 0)),
  (37, tr_ist 39 6),
  (39, tr_ild 41 6),
  (41, tr_push 42 (.int 4)),
  (42, tr_ifc 45 68 (fun x y => y < x)),
  (45, tr_lld 47 4),
  (47, tr_push 50 (.long (31))),
  (50, tr_l2 51 (fun x y => x * y)),
  (51, tr_ald 52 0),
  (52, tr_ild 53 3),
  (53, tr_ild 55 6),
  (55, tr_callV 58 2 4 (ptX3_order Y) 0 0 0 0),
  (58, tr_i2l 59),
  (59, tr_l2 60 (fun x y => x + y)),
  (60, tr_lst 62 4),
  (62, tr_inc 65 6 1),
  (65, tr_goto 39),
  (68, tr_lld 70 4),
  (70, tr_push 73 (.long (31))),
  (73, tr_l2 74 (fun x y => x * y)),
  (74, tr_ald 75 0),
  (75, tr_ild 76 3),
  (76, tr_callV 79 1 4 (ptX3_place Y) 0 0 0 0),
  (79, tr_i2l 80),
  (80, tr_l2 81 (fun x y => x + y)),
  (81, tr_lst 83 4),
  (83, tr_lld 85 4),
  (85, tr_push 88 (.long (31))),
  (88, tr_l2 89 (fun x y => x * y)),
  (89, tr_ald 90 0),
  (90, tr_ild 91 3),
  (91, tr_callV 94 1 4 (ptX3_voidWith Y) 0 0 0 0),
  (94, tr_i2l 95),
  (95, tr_l2 96 (fun x y => x + y)),
  (96, tr_lret)]
def ptX3_withFencer (Y : xw_Y) : xw_PT := xw_pt (tbX3_withFencer Y) 7 0 0
theorem lkX3_withFencer_0 (Y : xw_Y) : xw_lk (tbX3_withFencer Y) 0 = some (tr_lld 1 1) := rfl
theorem lkX3_withFencer_1 (Y : xw_Y) : xw_lk (tbX3_withFencer Y) 1 = some (tr_lst 3 4) := rfl
theorem lkX3_withFencer_3 (Y : xw_Y) : xw_lk (tbX3_withFencer Y) 3 = some (tr_push 4 (.int 0)) := rfl
theorem lkX3_withFencer_4 (Y : xw_Y) : xw_lk (tbX3_withFencer Y) 4 = some (tr_ist 6 6) := rfl
theorem lkX3_withFencer_6 (Y : xw_Y) : xw_lk (tbX3_withFencer Y) 6 = some (tr_ild 8 6) := rfl
theorem lkX3_withFencer_8 (Y : xw_Y) : xw_lk (tbX3_withFencer Y) 8 = some (tr_push 10 (.int 6)) := rfl
theorem lkX3_withFencer_10 (Y : xw_Y) : xw_lk (tbX3_withFencer Y) 10 = some (tr_ifc 13 36 (fun x y => y < x)) := rfl
theorem lkX3_withFencer_13 (Y : xw_Y) : xw_lk (tbX3_withFencer Y) 13 = some (tr_lld 15 4) := rfl
theorem lkX3_withFencer_15 (Y : xw_Y) : xw_lk (tbX3_withFencer Y) 15 = some (tr_push 18 (.long (31))) := rfl
theorem lkX3_withFencer_18 (Y : xw_Y) : xw_lk (tbX3_withFencer Y) 18 = some (tr_l2 19 (fun x y => x * y)) := rfl
theorem lkX3_withFencer_19 (Y : xw_Y) : xw_lk (tbX3_withFencer Y) 19 = some (tr_ald 20 0) := rfl
theorem lkX3_withFencer_20 (Y : xw_Y) : xw_lk (tbX3_withFencer Y) 20 = some (tr_ild 21 3) := rfl
theorem lkX3_withFencer_21 (Y : xw_Y) : xw_lk (tbX3_withFencer Y) 21 = some (tr_ild 23 6) := rfl
theorem lkX3_withFencer_23 (Y : xw_Y) : xw_lk (tbX3_withFencer Y) 23 = some (tr_callV 26 2 4 (ptX3_of Y) 0 0 0 0) := rfl
theorem lkX3_withFencer_26 (Y : xw_Y) : xw_lk (tbX3_withFencer Y) 26 = some (tr_i2l 27) := rfl
theorem lkX3_withFencer_27 (Y : xw_Y) : xw_lk (tbX3_withFencer Y) 27 = some (tr_l2 28 (fun x y => x + y)) := rfl
theorem lkX3_withFencer_28 (Y : xw_Y) : xw_lk (tbX3_withFencer Y) 28 = some (tr_lst 30 4) := rfl
theorem lkX3_withFencer_30 (Y : xw_Y) : xw_lk (tbX3_withFencer Y) 30 = some (tr_inc 33 6 1) := rfl
theorem lkX3_withFencer_33 (Y : xw_Y) : xw_lk (tbX3_withFencer Y) 33 = some (tr_goto 6) := rfl
theorem lkX3_withFencer_36 (Y : xw_Y) : xw_lk (tbX3_withFencer Y) 36 = some (tr_push 37 (.int 0)) := rfl
theorem lkX3_withFencer_37 (Y : xw_Y) : xw_lk (tbX3_withFencer Y) 37 = some (tr_ist 39 6) := rfl
theorem lkX3_withFencer_39 (Y : xw_Y) : xw_lk (tbX3_withFencer Y) 39 = some (tr_ild 41 6) := rfl
theorem lkX3_withFencer_41 (Y : xw_Y) : xw_lk (tbX3_withFencer Y) 41 = some (tr_push 42 (.int 4)) := rfl
theorem lkX3_withFencer_42 (Y : xw_Y) : xw_lk (tbX3_withFencer Y) 42 = some (tr_ifc 45 68 (fun x y => y < x)) := rfl
theorem lkX3_withFencer_45 (Y : xw_Y) : xw_lk (tbX3_withFencer Y) 45 = some (tr_lld 47 4) := rfl
theorem lkX3_withFencer_47 (Y : xw_Y) : xw_lk (tbX3_withFencer Y) 47 = some (tr_push 50 (.long (31))) := rfl
theorem lkX3_withFencer_50 (Y : xw_Y) : xw_lk (tbX3_withFencer Y) 50 = some (tr_l2 51 (fun x y => x * y)) := rfl
theorem lkX3_withFencer_51 (Y : xw_Y) : xw_lk (tbX3_withFencer Y) 51 = some (tr_ald 52 0) := rfl
theorem lkX3_withFencer_52 (Y : xw_Y) : xw_lk (tbX3_withFencer Y) 52 = some (tr_ild 53 3) := rfl
theorem lkX3_withFencer_53 (Y : xw_Y) : xw_lk (tbX3_withFencer Y) 53 = some (tr_ild 55 6) := rfl
theorem lkX3_withFencer_55 (Y : xw_Y) : xw_lk (tbX3_withFencer Y) 55 = some (tr_callV 58 2 4 (ptX3_order Y) 0 0 0 0) := rfl
theorem lkX3_withFencer_58 (Y : xw_Y) : xw_lk (tbX3_withFencer Y) 58 = some (tr_i2l 59) := rfl
theorem lkX3_withFencer_59 (Y : xw_Y) : xw_lk (tbX3_withFencer Y) 59 = some (tr_l2 60 (fun x y => x + y)) := rfl
theorem lkX3_withFencer_60 (Y : xw_Y) : xw_lk (tbX3_withFencer Y) 60 = some (tr_lst 62 4) := rfl
theorem lkX3_withFencer_62 (Y : xw_Y) : xw_lk (tbX3_withFencer Y) 62 = some (tr_inc 65 6 1) := rfl
theorem lkX3_withFencer_65 (Y : xw_Y) : xw_lk (tbX3_withFencer Y) 65 = some (tr_goto 39) := rfl
theorem lkX3_withFencer_68 (Y : xw_Y) : xw_lk (tbX3_withFencer Y) 68 = some (tr_lld 70 4) := rfl
theorem lkX3_withFencer_70 (Y : xw_Y) : xw_lk (tbX3_withFencer Y) 70 = some (tr_push 73 (.long (31))) := rfl
theorem lkX3_withFencer_73 (Y : xw_Y) : xw_lk (tbX3_withFencer Y) 73 = some (tr_l2 74 (fun x y => x * y)) := rfl
theorem lkX3_withFencer_74 (Y : xw_Y) : xw_lk (tbX3_withFencer Y) 74 = some (tr_ald 75 0) := rfl
theorem lkX3_withFencer_75 (Y : xw_Y) : xw_lk (tbX3_withFencer Y) 75 = some (tr_ild 76 3) := rfl
theorem lkX3_withFencer_76 (Y : xw_Y) : xw_lk (tbX3_withFencer Y) 76 = some (tr_callV 79 1 4 (ptX3_place Y) 0 0 0 0) := rfl
theorem lkX3_withFencer_79 (Y : xw_Y) : xw_lk (tbX3_withFencer Y) 79 = some (tr_i2l 80) := rfl
theorem lkX3_withFencer_80 (Y : xw_Y) : xw_lk (tbX3_withFencer Y) 80 = some (tr_l2 81 (fun x y => x + y)) := rfl
theorem lkX3_withFencer_81 (Y : xw_Y) : xw_lk (tbX3_withFencer Y) 81 = some (tr_lst 83 4) := rfl
theorem lkX3_withFencer_83 (Y : xw_Y) : xw_lk (tbX3_withFencer Y) 83 = some (tr_lld 85 4) := rfl
theorem lkX3_withFencer_85 (Y : xw_Y) : xw_lk (tbX3_withFencer Y) 85 = some (tr_push 88 (.long (31))) := rfl
theorem lkX3_withFencer_88 (Y : xw_Y) : xw_lk (tbX3_withFencer Y) 88 = some (tr_l2 89 (fun x y => x * y)) := rfl
theorem lkX3_withFencer_89 (Y : xw_Y) : xw_lk (tbX3_withFencer Y) 89 = some (tr_ald 90 0) := rfl
theorem lkX3_withFencer_90 (Y : xw_Y) : xw_lk (tbX3_withFencer Y) 90 = some (tr_ild 91 3) := rfl
theorem lkX3_withFencer_91 (Y : xw_Y) : xw_lk (tbX3_withFencer Y) 91 = some (tr_callV 94 1 4 (ptX3_voidWith Y) 0 0 0 0) := rfl
theorem lkX3_withFencer_94 (Y : xw_Y) : xw_lk (tbX3_withFencer Y) 94 = some (tr_i2l 95) := rfl
theorem lkX3_withFencer_95 (Y : xw_Y) : xw_lk (tbX3_withFencer Y) 95 = some (tr_l2 96 (fun x y => x + y)) := rfl
theorem lkX3_withFencer_96 (Y : xw_Y) : xw_lk (tbX3_withFencer Y) 96 = some (tr_lret) := rfl
def tbX3_withBout (Y : xw_Y) : List (Nat × xw_T) := [(0, tr_lld 1 1),
  (1, tr_lst 3 4),
  (3, tr_push 4 (.int 0)),
  (4, tr_ist 6 6),
  (6, tr_ild 8 6),
  (8, tr_push 10 (.int 11)),
  (10, tr_ifc 13 36 (fun x y => y < x)),
  (13, tr_lld 15 4),
  (15, tr_push 18 (.long (31))),
  (18, tr_l2 19 (fun x y => x * y)),
  (19, tr_ald 20 0),
  (20, tr_ild 21 3),
  (21, tr_ild 23 6),
  (23, tr_callV 26 2 4 (ptX3_ofBout Y) 0 0 0 0),
  (26, tr_i2l 27),
  (27, tr_l2 28 (fun x y => x + y)),
  (28, tr_lst 30 4),
  (30, tr_inc 33 6 1),
  (33, tr_goto 6),
  (36, tr_lld 38 4),
  (38, tr_push 41 (.long (31))),
  (41, tr_l2 42 (fun x y => x * y)),
  (42, tr_ald 43 0),
  (43, tr_ild 44 3),
  (44, tr_callV 47 1 4 (ptX3_reason Y) 0 0 0 0),
  (47, tr_i2l 48),
  (48, tr_l2 49 (fun x y => x + y)),
  (49, tr_lret)]
def ptX3_withBout (Y : xw_Y) : xw_PT := xw_pt (tbX3_withBout Y) 7 0 0
theorem lkX3_withBout_0 (Y : xw_Y) : xw_lk (tbX3_withBout Y) 0 = some (tr_lld 1 1) := rfl
theorem lkX3_withBout_1 (Y : xw_Y) : xw_lk (tbX3_withBout Y) 1 = some (tr_lst 3 4) := rfl
theorem lkX3_withBout_3 (Y : xw_Y) : xw_lk (tbX3_withBout Y) 3 = some (tr_push 4 (.int 0)) := rfl
theorem lkX3_withBout_4 (Y : xw_Y) : xw_lk (tbX3_withBout Y) 4 = some (tr_ist 6 6) := rfl
theorem lkX3_withBout_6 (Y : xw_Y) : xw_lk (tbX3_withBout Y) 6 = some (tr_ild 8 6) := rfl
theorem lkX3_withBout_8 (Y : xw_Y) : xw_lk (tbX3_withBout Y) 8 = some (tr_push 10 (.int 11)) := rfl
theorem lkX3_withBout_10 (Y : xw_Y) : xw_lk (tbX3_withBout Y) 10 = some (tr_ifc 13 36 (fun x y => y < x)) := rfl
theorem lkX3_withBout_13 (Y : xw_Y) : xw_lk (tbX3_withBout Y) 13 = some (tr_lld 15 4) := rfl
theorem lkX3_withBout_15 (Y : xw_Y) : xw_lk (tbX3_withBout Y) 15 = some (tr_push 18 (.long (31))) := rfl
theorem lkX3_withBout_18 (Y : xw_Y) : xw_lk (tbX3_withBout Y) 18 = some (tr_l2 19 (fun x y => x * y)) := rfl
theorem lkX3_withBout_19 (Y : xw_Y) : xw_lk (tbX3_withBout Y) 19 = some (tr_ald 20 0) := rfl
theorem lkX3_withBout_20 (Y : xw_Y) : xw_lk (tbX3_withBout Y) 20 = some (tr_ild 21 3) := rfl
theorem lkX3_withBout_21 (Y : xw_Y) : xw_lk (tbX3_withBout Y) 21 = some (tr_ild 23 6) := rfl
theorem lkX3_withBout_23 (Y : xw_Y) : xw_lk (tbX3_withBout Y) 23 = some (tr_callV 26 2 4 (ptX3_ofBout Y) 0 0 0 0) := rfl
theorem lkX3_withBout_26 (Y : xw_Y) : xw_lk (tbX3_withBout Y) 26 = some (tr_i2l 27) := rfl
theorem lkX3_withBout_27 (Y : xw_Y) : xw_lk (tbX3_withBout Y) 27 = some (tr_l2 28 (fun x y => x + y)) := rfl
theorem lkX3_withBout_28 (Y : xw_Y) : xw_lk (tbX3_withBout Y) 28 = some (tr_lst 30 4) := rfl
theorem lkX3_withBout_30 (Y : xw_Y) : xw_lk (tbX3_withBout Y) 30 = some (tr_inc 33 6 1) := rfl
theorem lkX3_withBout_33 (Y : xw_Y) : xw_lk (tbX3_withBout Y) 33 = some (tr_goto 6) := rfl
theorem lkX3_withBout_36 (Y : xw_Y) : xw_lk (tbX3_withBout Y) 36 = some (tr_lld 38 4) := rfl
theorem lkX3_withBout_38 (Y : xw_Y) : xw_lk (tbX3_withBout Y) 38 = some (tr_push 41 (.long (31))) := rfl
theorem lkX3_withBout_41 (Y : xw_Y) : xw_lk (tbX3_withBout Y) 41 = some (tr_l2 42 (fun x y => x * y)) := rfl
theorem lkX3_withBout_42 (Y : xw_Y) : xw_lk (tbX3_withBout Y) 42 = some (tr_ald 43 0) := rfl
theorem lkX3_withBout_43 (Y : xw_Y) : xw_lk (tbX3_withBout Y) 43 = some (tr_ild 44 3) := rfl
theorem lkX3_withBout_44 (Y : xw_Y) : xw_lk (tbX3_withBout Y) 44 = some (tr_callV 47 1 4 (ptX3_reason Y) 0 0 0 0) := rfl
theorem lkX3_withBout_47 (Y : xw_Y) : xw_lk (tbX3_withBout Y) 47 = some (tr_i2l 48) := rfl
theorem lkX3_withBout_48 (Y : xw_Y) : xw_lk (tbX3_withBout Y) 48 = some (tr_l2 49 (fun x y => x + y)) := rfl
theorem lkX3_withBout_49 (Y : xw_Y) : xw_lk (tbX3_withBout Y) 49 = some (tr_lret) := rfl
def tbX3_line (Y : xw_Y) : List (Nat × xw_T) := [(0, tr_ild 1 1),
  (1, tr_push 2 (.int 0)),
  (2, tr_ald 3 0),
  (3, tr_getf 6 4 8),
  (6, tr_push 7 (.int 1)),
  (7, tr_i2 8 (fun x y => x - y)),
  (8, tr_callS 11 3 (ptX3_isIn Y) 0 0 0 0),
  (11, tr_ifz 14 25 (fun x => ¬ x = 0)),
  (25, tr_ald 26 0),
  (26, tr_ild 27 1),
  (27, tr_callV 30 1 4 (ptX3_fencerOnLine Y) 0 0 0 0),
  (30, tr_callS 33 1 (ptX3_numberOf Y) 0 0 0 0),
  (33, tr_iret .int)]
def ptX3_line (Y : xw_Y) : xw_PT := xw_pt (tbX3_line Y) 2 0 0
theorem lkX3_line_0 (Y : xw_Y) : xw_lk (tbX3_line Y) 0 = some (tr_ild 1 1) := rfl
theorem lkX3_line_1 (Y : xw_Y) : xw_lk (tbX3_line Y) 1 = some (tr_push 2 (.int 0)) := rfl
theorem lkX3_line_2 (Y : xw_Y) : xw_lk (tbX3_line Y) 2 = some (tr_ald 3 0) := rfl
theorem lkX3_line_3 (Y : xw_Y) : xw_lk (tbX3_line Y) 3 = some (tr_getf 6 4 8) := rfl
theorem lkX3_line_6 (Y : xw_Y) : xw_lk (tbX3_line Y) 6 = some (tr_push 7 (.int 1)) := rfl
theorem lkX3_line_7 (Y : xw_Y) : xw_lk (tbX3_line Y) 7 = some (tr_i2 8 (fun x y => x - y)) := rfl
theorem lkX3_line_8 (Y : xw_Y) : xw_lk (tbX3_line Y) 8 = some (tr_callS 11 3 (ptX3_isIn Y) 0 0 0 0) := rfl
theorem lkX3_line_11 (Y : xw_Y) : xw_lk (tbX3_line Y) 11 = some (tr_ifz 14 25 (fun x => ¬ x = 0)) := rfl
theorem lkX3_line_25 (Y : xw_Y) : xw_lk (tbX3_line Y) 25 = some (tr_ald 26 0) := rfl
theorem lkX3_line_26 (Y : xw_Y) : xw_lk (tbX3_line Y) 26 = some (tr_ild 27 1) := rfl
theorem lkX3_line_27 (Y : xw_Y) : xw_lk (tbX3_line Y) 27 = some (tr_callV 30 1 4 (ptX3_fencerOnLine Y) 0 0 0 0) := rfl
theorem lkX3_line_30 (Y : xw_Y) : xw_lk (tbX3_line Y) 30 = some (tr_callS 33 1 (ptX3_numberOf Y) 0 0 0 0) := rfl
theorem lkX3_line_33 (Y : xw_Y) : xw_lk (tbX3_line Y) 33 = some (tr_iret .int) := rfl
def tbX3_digest (Y : xw_Y) : List (Nat × xw_T) := [(0, tr_push 3 (.long (58101))),
  (3, tr_lst 4 1),
  (4, tr_push 5 (.int 0)),
  (5, tr_ist 6 3),
  (6, tr_ild 7 3),
  (7, tr_push 9 (.int 10)),
  (9, tr_ifc 12 31 (fun x y => y < x)),
  (12, tr_lld 13 1),
  (13, tr_push 16 (.long (31))),
  (16, tr_l2 17 (fun x y => x * y)),
  (17, tr_ald 18 0),
  (18, tr_ild 19 3),
  (19, tr_callV 22 1 4 (ptX3_many Y) 0 0 0 0),
  (22, tr_i2l 23),
  (23, tr_l2 24 (fun x y => x + y)),
  (24, tr_lst 25 1),
  (25, tr_inc 28 3 1),
  (28, tr_goto 6),
  (31, tr_push 32 (.int 0)),
  (32, tr_ist 33 3),
  (33, tr_ild 34 3),
  (34, tr_ald 35 0),
  (35, tr_getf 38 4 0),
  (38, tr_callV 41 0 0 (ptJx4a65c_size_8abf5 Y) 0 0 0 0),
  (41, tr_ifc 44 57 (fun x y => y ≤ x)),
  (44, tr_ald 45 0),
  (45, tr_lld 46 1),
  (46, tr_ild 47 3),
  (47, tr_callV 50 2 4 (ptX3_withFencer Y) 0 0 0 0),
  (50, tr_lst 51 1),
  (51, tr_inc 54 3 1),
  (54, tr_goto 33),
  (57, tr_push 58 (.int 0)),
  (58, tr_ist 59 3),
  (59, tr_ild 60 3),
  (60, tr_ald 61 0),
  (61, tr_getf 64 4 1),
  (64, tr_callV 67 0 0 (ptJx4a65c_size_8abf5 Y) 0 0 0 0),
  (67, tr_ifc 70 83 (fun x y => y ≤ x)),
  (70, tr_ald 71 0),
  (71, tr_lld 72 1),
  (72, tr_ild 73 3),
  (73, tr_callV 76 2 4 (ptX3_withBout Y) 0 0 0 0),
  (76, tr_lst 77 1),
  (77, tr_inc 80 3 1),
  (80, tr_goto 59),
  (83, tr_lld 84 1),
  (84, tr_push 87 (.long (31))),
  (87, tr_l2 88 (fun x y => x * y)),
  (88, tr_ald 89 0),
  (89, tr_callV 92 0 4 (ptX3_next Y) 0 0 0 0),
  (92, tr_i2l 93),
  (93, tr_l2 94 (fun x y => x + y)),
  (94, tr_lst 95 1),
  (95, tr_push 96 (.int 0)),
  (96, tr_ist 97 3),
  (97, tr_ild 98 3),
  (98, tr_ald 99 0),
  (99, tr_getf 102 4 8),
  (102, tr_ifc 105 124 (fun x y => y ≤ x)),
  (105, tr_lld 106 1),
  (106, tr_push 109 (.long (31))),
  (109, tr_l2 110 (fun x y => x * y)),
  (110, tr_ald 111 0),
  (111, tr_ild 112 3),
  (112, tr_callV 115 1 4 (ptX3_line Y) 0 0 0 0),
  (115, tr_i2l 116),
  (116, tr_l2 117 (fun x y => x + y)),
  (117, tr_lst 118 1),
  (118, tr_inc 121 3 1),
  (121, tr_goto 97),
  (124, tr_lld 125 1),
  (125, tr_lret)]
def ptX3_digest (Y : xw_Y) : xw_PT := xw_pt (tbX3_digest Y) 4 0 0
theorem lkX3_digest_0 (Y : xw_Y) : xw_lk (tbX3_digest Y) 0 = some (tr_push 3 (.long (58101))) := rfl
theorem lkX3_digest_3 (Y : xw_Y) : xw_lk (tbX3_digest Y) 3 = some (tr_lst 4 1) := rfl
theorem lkX3_digest_4 (Y : xw_Y) : xw_lk (tbX3_digest Y) 4 = some (tr_push 5 (.int 0)) := rfl
theorem lkX3_digest_5 (Y : xw_Y) : xw_lk (tbX3_digest Y) 5 = some (tr_ist 6 3) := rfl
theorem lkX3_digest_6 (Y : xw_Y) : xw_lk (tbX3_digest Y) 6 = some (tr_ild 7 3) := rfl
theorem lkX3_digest_7 (Y : xw_Y) : xw_lk (tbX3_digest Y) 7 = some (tr_push 9 (.int 10)) := rfl
theorem lkX3_digest_9 (Y : xw_Y) : xw_lk (tbX3_digest Y) 9 = some (tr_ifc 12 31 (fun x y => y < x)) := rfl
theorem lkX3_digest_12 (Y : xw_Y) : xw_lk (tbX3_digest Y) 12 = some (tr_lld 13 1) := rfl
theorem lkX3_digest_13 (Y : xw_Y) : xw_lk (tbX3_digest Y) 13 = some (tr_push 16 (.long (31))) := rfl
theorem lkX3_digest_16 (Y : xw_Y) : xw_lk (tbX3_digest Y) 16 = some (tr_l2 17 (fun x y => x * y)) := rfl
theorem lkX3_digest_17 (Y : xw_Y) : xw_lk (tbX3_digest Y) 17 = some (tr_ald 18 0) := rfl
theorem lkX3_digest_18 (Y : xw_Y) : xw_lk (tbX3_digest Y) 18 = some (tr_ild 19 3) := rfl
theorem lkX3_digest_19 (Y : xw_Y) : xw_lk (tbX3_digest Y) 19 = some (tr_callV 22 1 4 (ptX3_many Y) 0 0 0 0) := rfl
theorem lkX3_digest_22 (Y : xw_Y) : xw_lk (tbX3_digest Y) 22 = some (tr_i2l 23) := rfl
theorem lkX3_digest_23 (Y : xw_Y) : xw_lk (tbX3_digest Y) 23 = some (tr_l2 24 (fun x y => x + y)) := rfl
theorem lkX3_digest_24 (Y : xw_Y) : xw_lk (tbX3_digest Y) 24 = some (tr_lst 25 1) := rfl
theorem lkX3_digest_25 (Y : xw_Y) : xw_lk (tbX3_digest Y) 25 = some (tr_inc 28 3 1) := rfl
theorem lkX3_digest_28 (Y : xw_Y) : xw_lk (tbX3_digest Y) 28 = some (tr_goto 6) := rfl
theorem lkX3_digest_31 (Y : xw_Y) : xw_lk (tbX3_digest Y) 31 = some (tr_push 32 (.int 0)) := rfl
theorem lkX3_digest_32 (Y : xw_Y) : xw_lk (tbX3_digest Y) 32 = some (tr_ist 33 3) := rfl
theorem lkX3_digest_33 (Y : xw_Y) : xw_lk (tbX3_digest Y) 33 = some (tr_ild 34 3) := rfl
theorem lkX3_digest_34 (Y : xw_Y) : xw_lk (tbX3_digest Y) 34 = some (tr_ald 35 0) := rfl
theorem lkX3_digest_35 (Y : xw_Y) : xw_lk (tbX3_digest Y) 35 = some (tr_getf 38 4 0) := rfl
theorem lkX3_digest_38 (Y : xw_Y) : xw_lk (tbX3_digest Y) 38 = some (tr_callV 41 0 0 (ptJx4a65c_size_8abf5 Y) 0 0 0 0) := rfl
theorem lkX3_digest_41 (Y : xw_Y) : xw_lk (tbX3_digest Y) 41 = some (tr_ifc 44 57 (fun x y => y ≤ x)) := rfl
theorem lkX3_digest_44 (Y : xw_Y) : xw_lk (tbX3_digest Y) 44 = some (tr_ald 45 0) := rfl
theorem lkX3_digest_45 (Y : xw_Y) : xw_lk (tbX3_digest Y) 45 = some (tr_lld 46 1) := rfl
theorem lkX3_digest_46 (Y : xw_Y) : xw_lk (tbX3_digest Y) 46 = some (tr_ild 47 3) := rfl
theorem lkX3_digest_47 (Y : xw_Y) : xw_lk (tbX3_digest Y) 47 = some (tr_callV 50 2 4 (ptX3_withFencer Y) 0 0 0 0) := rfl
theorem lkX3_digest_50 (Y : xw_Y) : xw_lk (tbX3_digest Y) 50 = some (tr_lst 51 1) := rfl
theorem lkX3_digest_51 (Y : xw_Y) : xw_lk (tbX3_digest Y) 51 = some (tr_inc 54 3 1) := rfl
theorem lkX3_digest_54 (Y : xw_Y) : xw_lk (tbX3_digest Y) 54 = some (tr_goto 33) := rfl
theorem lkX3_digest_57 (Y : xw_Y) : xw_lk (tbX3_digest Y) 57 = some (tr_push 58 (.int 0)) := rfl
theorem lkX3_digest_58 (Y : xw_Y) : xw_lk (tbX3_digest Y) 58 = some (tr_ist 59 3) := rfl
theorem lkX3_digest_59 (Y : xw_Y) : xw_lk (tbX3_digest Y) 59 = some (tr_ild 60 3) := rfl
theorem lkX3_digest_60 (Y : xw_Y) : xw_lk (tbX3_digest Y) 60 = some (tr_ald 61 0) := rfl
theorem lkX3_digest_61 (Y : xw_Y) : xw_lk (tbX3_digest Y) 61 = some (tr_getf 64 4 1) := rfl
theorem lkX3_digest_64 (Y : xw_Y) : xw_lk (tbX3_digest Y) 64 = some (tr_callV 67 0 0 (ptJx4a65c_size_8abf5 Y) 0 0 0 0) := rfl
theorem lkX3_digest_67 (Y : xw_Y) : xw_lk (tbX3_digest Y) 67 = some (tr_ifc 70 83 (fun x y => y ≤ x)) := rfl
theorem lkX3_digest_70 (Y : xw_Y) : xw_lk (tbX3_digest Y) 70 = some (tr_ald 71 0) := rfl
theorem lkX3_digest_71 (Y : xw_Y) : xw_lk (tbX3_digest Y) 71 = some (tr_lld 72 1) := rfl
theorem lkX3_digest_72 (Y : xw_Y) : xw_lk (tbX3_digest Y) 72 = some (tr_ild 73 3) := rfl
theorem lkX3_digest_73 (Y : xw_Y) : xw_lk (tbX3_digest Y) 73 = some (tr_callV 76 2 4 (ptX3_withBout Y) 0 0 0 0) := rfl
theorem lkX3_digest_76 (Y : xw_Y) : xw_lk (tbX3_digest Y) 76 = some (tr_lst 77 1) := rfl
theorem lkX3_digest_77 (Y : xw_Y) : xw_lk (tbX3_digest Y) 77 = some (tr_inc 80 3 1) := rfl
theorem lkX3_digest_80 (Y : xw_Y) : xw_lk (tbX3_digest Y) 80 = some (tr_goto 59) := rfl
theorem lkX3_digest_83 (Y : xw_Y) : xw_lk (tbX3_digest Y) 83 = some (tr_lld 84 1) := rfl
theorem lkX3_digest_84 (Y : xw_Y) : xw_lk (tbX3_digest Y) 84 = some (tr_push 87 (.long (31))) := rfl
theorem lkX3_digest_87 (Y : xw_Y) : xw_lk (tbX3_digest Y) 87 = some (tr_l2 88 (fun x y => x * y)) := rfl
theorem lkX3_digest_88 (Y : xw_Y) : xw_lk (tbX3_digest Y) 88 = some (tr_ald 89 0) := rfl
theorem lkX3_digest_89 (Y : xw_Y) : xw_lk (tbX3_digest Y) 89 = some (tr_callV 92 0 4 (ptX3_next Y) 0 0 0 0) := rfl
theorem lkX3_digest_92 (Y : xw_Y) : xw_lk (tbX3_digest Y) 92 = some (tr_i2l 93) := rfl
theorem lkX3_digest_93 (Y : xw_Y) : xw_lk (tbX3_digest Y) 93 = some (tr_l2 94 (fun x y => x + y)) := rfl
theorem lkX3_digest_94 (Y : xw_Y) : xw_lk (tbX3_digest Y) 94 = some (tr_lst 95 1) := rfl
theorem lkX3_digest_95 (Y : xw_Y) : xw_lk (tbX3_digest Y) 95 = some (tr_push 96 (.int 0)) := rfl
theorem lkX3_digest_96 (Y : xw_Y) : xw_lk (tbX3_digest Y) 96 = some (tr_ist 97 3) := rfl
theorem lkX3_digest_97 (Y : xw_Y) : xw_lk (tbX3_digest Y) 97 = some (tr_ild 98 3) := rfl
theorem lkX3_digest_98 (Y : xw_Y) : xw_lk (tbX3_digest Y) 98 = some (tr_ald 99 0) := rfl
theorem lkX3_digest_99 (Y : xw_Y) : xw_lk (tbX3_digest Y) 99 = some (tr_getf 102 4 8) := rfl
theorem lkX3_digest_102 (Y : xw_Y) : xw_lk (tbX3_digest Y) 102 = some (tr_ifc 105 124 (fun x y => y ≤ x)) := rfl
theorem lkX3_digest_105 (Y : xw_Y) : xw_lk (tbX3_digest Y) 105 = some (tr_lld 106 1) := rfl
theorem lkX3_digest_106 (Y : xw_Y) : xw_lk (tbX3_digest Y) 106 = some (tr_push 109 (.long (31))) := rfl
theorem lkX3_digest_109 (Y : xw_Y) : xw_lk (tbX3_digest Y) 109 = some (tr_l2 110 (fun x y => x * y)) := rfl
theorem lkX3_digest_110 (Y : xw_Y) : xw_lk (tbX3_digest Y) 110 = some (tr_ald 111 0) := rfl
theorem lkX3_digest_111 (Y : xw_Y) : xw_lk (tbX3_digest Y) 111 = some (tr_ild 112 3) := rfl
theorem lkX3_digest_112 (Y : xw_Y) : xw_lk (tbX3_digest Y) 112 = some (tr_callV 115 1 4 (ptX3_line Y) 0 0 0 0) := rfl
theorem lkX3_digest_115 (Y : xw_Y) : xw_lk (tbX3_digest Y) 115 = some (tr_i2l 116) := rfl
theorem lkX3_digest_116 (Y : xw_Y) : xw_lk (tbX3_digest Y) 116 = some (tr_l2 117 (fun x y => x + y)) := rfl
theorem lkX3_digest_117 (Y : xw_Y) : xw_lk (tbX3_digest Y) 117 = some (tr_lst 118 1) := rfl
theorem lkX3_digest_118 (Y : xw_Y) : xw_lk (tbX3_digest Y) 118 = some (tr_inc 121 3 1) := rfl
theorem lkX3_digest_121 (Y : xw_Y) : xw_lk (tbX3_digest Y) 121 = some (tr_goto 97) := rfl
theorem lkX3_digest_124 (Y : xw_Y) : xw_lk (tbX3_digest Y) 124 = some (tr_lld 125 1) := rfl
theorem lkX3_digest_125 (Y : xw_Y) : xw_lk (tbX3_digest Y) 125 = some (tr_lret) := rfl
