/-! THE LAW: its table -/
section XL7
def tbL_law (Y : xw_Y) : List (Nat × xw_T) := [(0, tr_new 3 4 10 [.null, .null, .null, .null, .null, .null, .int 0, .int 0, .int 0, .int 0] 608221 7276804),
  (3, tr_dup 4),
  (4, tr_callI 7 0 (ptX3_init Y) 6 45 608221 7276804),
  (7, tr_ast 8 1),
  (8, tr_push 9 (.int 1)),
  (9, tr_ald 10 0),
  (10, tr_push 11 (.int 0)),
  (11, tr_callS 14 2 (ptL_cell Y) 0 0 608221 7276804),
  (14, tr_push 15 (.int 2)),
  (15, tr_callS 18 2 (ptL_below Y) 0 0 608221 7276804),
  (18, tr_i2 19 (fun x y => x + y)),
  (19, tr_ist 20 2),
  (20, tr_push 21 (.int 3)),
  (21, tr_ild 22 2),
  (22, tr_i2 23 (fun x y => x * y)),
  (23, tr_ald 24 0),
  (24, tr_push 25 (.int 1)),
  (25, tr_callS 28 2 (ptL_cell Y) 0 0 608221 7276804),
  (28, tr_push 29 (.int 3)),
  (29, tr_callS 32 2 (ptL_below Y) 0 0 608221 7276804),
  (32, tr_i2 33 (fun x y => x + y)),
  (33, tr_ist 34 3),
  (34, tr_push 35 (.int 0)),
  (35, tr_ist 37 4),
  (37, tr_ild 39 4),
  (39, tr_ild 40 3),
  (40, tr_ifc 43 83 (fun x y => y ≤ x)),
  (43, tr_ald 44 1),
  (44, tr_ald 45 0),
  (45, tr_ild 47 4),
  (47, tr_callS 50 2 (ptL_cell Y) 0 0 608221 7276804),
  (50, tr_push 52 (.int 9)),
  (52, tr_callS 55 2 (ptL_below Y) 0 0 608221 7276804),
  (55, tr_ald 56 0),
  (56, tr_ild 58 4),
  (58, tr_callS 61 2 (ptL_cell Y) 0 0 608221 7276804),
  (61, tr_push 62 (.int 4)),
  (62, tr_i2 63 (fun x y => x >>> (y &&& 31))),
  (63, tr_push 64 (.int 3)),
  (64, tr_callS 67 2 (ptL_below Y) 0 0 608221 7276804),
  (67, tr_callV 70 2 4 (ptX3_fencer Y) 2 214 608221 7276804),
  (70, tr_ild 72 4),
  (72, tr_ifc 75 77 (fun x y => x = y)),
  (75, tr_push 76 (.int 0)),
  (76, tr_iret .boolean),
  (77, tr_inc 80 4 1),
  (80, tr_goto 37),
  (83, tr_ald 84 1),
  (84, tr_ild 85 2),
  (85, tr_callV 88 1 4 (ptX3_form Y) 400 22000 608221 7276804),
  (88, tr_ist 90 4),
  (90, tr_push 91 (.int 0)),
  (91, tr_ist 93 5),
  (93, tr_ild 95 5),
  (95, tr_push 98 (.int 160)),
  (98, tr_ifc 101 615 (fun x y => y ≤ x)),
  (101, tr_ald 102 0),
  (102, tr_ild 104 5),
  (104, tr_push 106 (.int 16)),
  (106, tr_i2z 107 (fun x y => x - x / y * y)),
  (107, tr_callS 110 2 (ptL_cell Y) 0 0 608221 7276804),
  (110, tr_ild 112 5),
  (112, tr_push 114 (.int 16)),
  (114, tr_i2z 115 (fun x y => x / y)),
  (115, tr_i2 116 (fun x y => x >>> (y &&& 31))),
  (116, tr_push 118 (.int 7)),
  (118, tr_ild 120 5),
  (120, tr_i2 121 (fun x y => x * y)),
  (121, tr_i2 122 (fun x y => x + y)),
  (122, tr_ist 124 6),
  (124, tr_ald 125 1),
  (125, tr_push 126 (.int 3)),
  (126, tr_callV 129 1 4 (ptX3_many Y) 0 0 608221 7276804),
  (129, tr_ald 130 1),
  (130, tr_push 131 (.int 4)),
  (131, tr_callV 134 1 4 (ptX3_many Y) 0 0 608221 7276804),
  (134, tr_i2 135 (fun x y => x + y)),
  (135, tr_ifz 138 185 (fun x => ¬ x = 0)),
  (138, tr_ald 139 1),
  (139, tr_push 141 (.int 9)),
  (141, tr_callV 144 1 4 (ptX3_many Y) 0 0 608221 7276804),
  (144, tr_ifz 147 185 (fun x => ¬ x = 0)),
  (147, tr_ild 148 3),
  (148, tr_ald 149 1),
  (149, tr_push 151 (.int 8)),
  (151, tr_callV 154 1 4 (ptX3_many Y) 0 0 608221 7276804),
  (154, tr_i2 155 (fun x y => x - y)),
  (155, tr_push 156 (.int 2)),
  (156, tr_ifc 159 167 (fun x y => y ≤ x)),
  (159, tr_ald 160 1),
  (160, tr_ild 161 3),
  (161, tr_ild 163 4),
  (163, tr_callS 166 3 (ptL_isFair Y) 1 8 608221 7276804),
  (166, tr_iret .boolean),
  (167, tr_ald 168 1),
  (168, tr_push 169 (.int 0)),
  (169, tr_callV 172 1 4 (ptX3_draw Y) 60 3300 608221 7276804),
  (172, tr_ild 173 3),
  (173, tr_ald 174 1),
  (174, tr_push 176 (.int 8)),
  (176, tr_callV 179 1 4 (ptX3_many Y) 0 0 608221 7276804),
  (179, tr_i2 180 (fun x y => x - y)),
  (180, tr_ifc 183 185 (fun x y => x = y)),
  (183, tr_push 184 (.int 0)),
  (184, tr_iret .boolean),
  (185, tr_ild 187 6),
  (187, tr_push 188 (.int 3)),
  (188, tr_i2 189 (fun x y => x >>> (y &&& 31))),
  (189, tr_push 190 (.int 3)),
  (190, tr_callS 193 2 (ptL_below Y) 0 0 608221 7276804),
  (193, tr_ist 195 7),
  (195, tr_ald 196 1),
  (196, tr_ild 198 7),
  (198, tr_callS 201 2 (ptL_live Y) 0 0 608221 7276804),
  (201, tr_ist 203 8),
  (203, tr_ild 205 8),
  (205, tr_ifz 208 277 (fun x => 0 ≤ x)),
  (208, tr_ald 209 1),
  (209, tr_callV 212 0 4 (ptX3_next Y) 0 0 608221 7276804),
  (212, tr_ist 214 9),
  (214, tr_ild 216 9),
  (216, tr_ifz 219 230 (fun x => 0 ≤ x)),
  (219, tr_ald 220 1),
  (220, tr_push 222 (.int 120)),
  (222, tr_callV 225 1 4 (ptX3_pass Y) 0 0 608221 7276804),
  (225, tr_ifz 228 609 (fun x => 0 ≤ x)),
  (228, tr_push 229 (.int 0)),
  (229, tr_iret .boolean),
  (230, tr_ald 231 1),
  (231, tr_ild 233 9),
  (233, tr_callV 236 1 4 (ptX3_reason Y) 0 0 608221 7276804),
  (236, tr_ifz 239 241 (fun x => x = 0)),
  (239, tr_push 240 (.int 0)),
  (240, tr_iret .boolean),
  (241, tr_ald 242 1),
  (242, tr_ild 244 9),
  (244, tr_ild 246 7),
  (246, tr_callV 249 2 4 (ptX3_start Y) 0 0 608221 7276804),
  (249, tr_ald 250 1),
  (250, tr_ild 252 9),
  (252, tr_push 254 (.int 6)),
  (254, tr_callV 257 2 4 (ptX3_ofBout Y) 0 0 608221 7276804),
  (257, tr_ild 259 7),
  (259, tr_ifc 262 272 (fun x y => ¬ x = y)),
  (262, tr_ald 263 1),
  (263, tr_ild 265 9),
  (265, tr_callV 268 1 4 (ptX3_reason Y) 0 0 608221 7276804),
  (268, tr_push 269 (.int 1)),
  (269, tr_ifc 272 274 (fun x y => x = y)),
  (272, tr_push 273 (.int 0)),
  (273, tr_iret .boolean),
  (274, tr_goto 590),
  (277, tr_ild 279 6),
  (279, tr_push 280 (.int 5)),
  (280, tr_callS 283 2 (ptL_below Y) 0 0 608221 7276804),
  (283, tr_push 284 (.int 3)),
  (284, tr_ifc 287 379 (fun x y => y ≤ x)),
  (287, tr_ild 289 6),
  (289, tr_push 290 (.int 5)),
  (290, tr_i2 291 (fun x y => x >>> (y &&& 31))),
  (291, tr_push 292 (.int 2)),
  (292, tr_callS 295 2 (ptL_below Y) 0 0 608221 7276804),
  (295, tr_ist 297 9),
  (297, tr_ald 298 1),
  (298, tr_ild 300 8),
  (300, tr_push 301 (.int 3)),
  (301, tr_ild 303 9),
  (303, tr_i2 304 (fun x y => x + y)),
  (304, tr_callV 307 2 4 (ptX3_ofBout Y) 0 0 608221 7276804),
  (307, tr_ist 309 10),
  (309, tr_ald 310 1),
  (310, tr_ild 312 7),
  (312, tr_ild 314 9),
  (314, tr_callV 317 2 4 (ptX3_hit Y) 0 0 608221 7276804),
  (317, tr_ald 318 1),
  (318, tr_ild 320 8),
  (320, tr_push 321 (.int 0)),
  (321, tr_callV 324 2 4 (ptX3_ofBout Y) 0 0 608221 7276804),
  (324, tr_push 325 (.int 2)),
  (325, tr_ifc 328 332 (fun x y => ¬ x = y)),
  (328, tr_push 329 (.int 1)),
  (329, tr_goto 333),
  (332, tr_push 333 (.int 0)),
  (333, tr_ifc 336 374 (fun x y => ¬ x = y)),
  (336, tr_ald 337 1),
  (337, tr_ild 339 8),
  (339, tr_push 340 (.int 3)),
  (340, tr_ild 342 9),
  (342, tr_i2 343 (fun x y => x + y)),
  (343, tr_callV 346 2 4 (ptX3_ofBout Y) 0 0 608221 7276804),
  (346, tr_ild 348 10),
  (348, tr_push 349 (.int 1)),
  (349, tr_i2 350 (fun x y => x + y)),
  (350, tr_ifc 353 374 (fun x y => ¬ x = y)),
  (353, tr_ald 354 1),
  (354, tr_ild 356 8),
  (356, tr_push 357 (.int 0)),
  (357, tr_callV 360 2 4 (ptX3_ofBout Y) 0 0 608221 7276804),
  (360, tr_push 361 (.int 2)),
  (361, tr_ifc 364 376 (fun x y => ¬ x = y)),
  (364, tr_ald 365 1),
  (365, tr_ild 367 8),
  (367, tr_push 368 (.int 5)),
  (368, tr_callV 371 2 4 (ptX3_ofBout Y) 0 0 608221 7276804),
  (371, tr_ifz 374 376 (fun x => 0 ≤ x)),
  (374, tr_push 375 (.int 0)),
  (375, tr_iret .boolean),
  (376, tr_goto 590),
  (379, tr_ild 381 6),
  (381, tr_push 382 (.int 5)),
  (382, tr_callS 385 2 (ptL_below Y) 0 0 608221 7276804),
  (385, tr_push 386 (.int 3)),
  (386, tr_ifc 389 471 (fun x y => ¬ x = y)),
  (389, tr_push 390 (.int 1)),
  (390, tr_ild 392 6),
  (392, tr_push 393 (.int 4)),
  (393, tr_i2 394 (fun x y => x >>> (y &&& 31))),
  (394, tr_push 397 (.int 200)),
  (397, tr_callS 400 2 (ptL_below Y) 0 0 608221 7276804),
  (400, tr_i2 401 (fun x y => x + y)),
  (401, tr_ist 403 9),
  (403, tr_ald 404 1),
  (404, tr_ild 406 7),
  (406, tr_ild 408 9),
  (408, tr_callV 411 2 4 (ptX3_winnerIn Y) 0 0 608221 7276804),
  (411, tr_ist 413 10),
  (413, tr_ald 414 1),
  (414, tr_push 416 (.int 7)),
  (416, tr_callV 419 1 4 (ptX3_many Y) 0 0 608221 7276804),
  (419, tr_ist 421 11),
  (421, tr_ald 422 1),
  (422, tr_ild 424 9),
  (424, tr_callV 427 1 4 (ptX3_pass Y) 0 0 608221 7276804),
  (427, tr_ild 429 10),
  (429, tr_ifz 432 436 (fun x => 0 ≤ x)),
  (432, tr_push 433 (.int 0)),
  (433, tr_goto 437),
  (436, tr_push 437 (.int 1)),
  (437, tr_ifc 440 466 (fun x y => x < y)),
  (440, tr_ald 441 1),
  (441, tr_ild 443 8),
  (443, tr_push 444 (.int 5)),
  (444, tr_callV 447 2 4 (ptX3_ofBout Y) 0 0 608221 7276804),
  (447, tr_ild 449 10),
  (449, tr_ifc 452 466 (fun x y => ¬ x = y)),
  (452, tr_ald 453 1),
  (453, tr_push 455 (.int 7)),
  (455, tr_callV 458 1 4 (ptX3_many Y) 0 0 608221 7276804),
  (458, tr_ild 460 11),
  (460, tr_ild 462 9),
  (462, tr_i2 463 (fun x y => x + y)),
  (463, tr_ifc 466 468 (fun x y => x = y)),
  (466, tr_push 467 (.int 0)),
  (467, tr_iret .boolean),
  (468, tr_goto 590),
  (471, tr_ild 473 6),
  (473, tr_push 475 (.int 6)),
  (475, tr_i2 476 (fun x y => x >>> (y &&& 31))),
  (476, tr_push 478 (.int 12)),
  (478, tr_callS 481 2 (ptL_below Y) 0 0 608221 7276804),
  (481, tr_ifz 484 488 (fun x => ¬ x = 0)),
  (484, tr_push 485 (.int 2)),
  (485, tr_goto 496),
  (488, tr_ild 490 6),
  (490, tr_push 491 (.int 5)),
  (491, tr_i2 492 (fun x y => x >>> (y &&& 31))),
  (492, tr_push 493 (.int 2)),
  (493, tr_callS 496 2 (ptL_below Y) 0 0 608221 7276804),
  (496, tr_ist 498 9),
  (498, tr_ild 500 6),
  (500, tr_push 502 (.int 8)),
  (502, tr_i2 503 (fun x y => x >>> (y &&& 31))),
  (503, tr_push 504 (.int 2)),
  (504, tr_callS 507 2 (ptL_below Y) 0 0 608221 7276804),
  (507, tr_ist 509 10),
  (509, tr_ald 510 1),
  (510, tr_ild 512 8),
  (512, tr_push 513 (.int 1)),
  (513, tr_ild 515 10),
  (515, tr_i2 516 (fun x y => x + y)),
  (516, tr_callV 519 2 4 (ptX3_ofBout Y) 0 0 608221 7276804),
  (519, tr_ist 521 11),
  (521, tr_ald 522 1),
  (522, tr_ild 524 7),
  (524, tr_ild 526 10),
  (526, tr_ild 528 9),
  (528, tr_callV 531 3 4 (ptX3_card Y) 0 0 608221 7276804),
  (531, tr_ist 533 12),
  (533, tr_ild 535 12),
  (535, tr_ild 537 9),
  (537, tr_ifc 540 588 (fun x y => x < y)),
  (540, tr_ild 542 12),
  (542, tr_push 543 (.int 2)),
  (543, tr_ifc 546 550 (fun x y => ¬ x = y)),
  (546, tr_push 547 (.int 1)),
  (547, tr_goto 551),
  (550, tr_push 551 (.int 0)),
  (551, tr_ald 552 1),
  (552, tr_ild 554 11),
  (554, tr_push 555 (.int 4)),
  (555, tr_callV 558 2 4 (ptX3_of Y) 0 0 608221 7276804),
  (558, tr_push 559 (.int 1)),
  (559, tr_ifc 562 566 (fun x y => ¬ x = y)),
  (562, tr_push 563 (.int 1)),
  (563, tr_goto 567),
  (566, tr_push 567 (.int 0)),
  (567, tr_ifc 570 588 (fun x y => ¬ x = y)),
  (570, tr_ald 571 1),
  (571, tr_ild 573 8),
  (573, tr_push 575 (.int 10)),
  (575, tr_ild 577 10),
  (577, tr_i2 578 (fun x y => x + y)),
  (578, tr_callV 581 2 4 (ptX3_ofBout Y) 0 0 608221 7276804),
  (581, tr_ild 583 12),
  (583, tr_push 584 (.int 1)),
  (584, tr_i2 585 (fun x y => x + y)),
  (585, tr_ifc 588 590 (fun x y => y ≤ x)),
  (588, tr_push 589 (.int 0)),
  (589, tr_iret .boolean),
  (590, tr_ild 592 5),
  (592, tr_push 593 (.int 5)),
  (593, tr_i2z 594 (fun x y => x - x / y * y)),
  (594, tr_ifz 597 609 (fun x => ¬ x = 0)),
  (597, tr_ald 598 1),
  (598, tr_ild 599 3),
  (599, tr_ild 601 4),
  (601, tr_callS 604 3 (ptL_isFair Y) 1 8 608221 7276804),
  (604, tr_ifz 607 609 (fun x => ¬ x = 0)),
  (607, tr_push 608 (.int 0)),
  (608, tr_iret .boolean),
  (609, tr_inc 612 5 1),
  (612, tr_goto 93),
  (615, tr_ald 616 1),
  (616, tr_callV 619 0 4 (ptX3_digest Y) 0 0 608221 7276804),
  (619, tr_lst 621 5),
  (621, tr_ald 622 1),
  (622, tr_ild 623 3),
  (623, tr_ild 625 4),
  (625, tr_callS 628 3 (ptL_isFair Y) 1 8 608221 7276804),
  (628, tr_ifz 631 655 (fun x => x = 0)),
  (631, tr_ald 632 1),
  (632, tr_callV 635 0 4 (ptX3_digest Y) 0 0 608221 7276804),
  (635, tr_lld 637 5),
  (637, tr_lcmp 638),
  (638, tr_ifz 641 655 (fun x => ¬ x = 0)),
  (641, tr_ald 642 1),
  (642, tr_push 643 (.int 2)),
  (643, tr_callV 646 1 4 (ptX3_many Y) 0 0 608221 7276804),
  (646, tr_ild 648 4),
  (648, tr_ifc 651 655 (fun x y => x < y)),
  (651, tr_push 652 (.int 1)),
  (652, tr_goto 656),
  (655, tr_push 656 (.int 0)),
  (656, tr_iret .boolean)]
theorem lkL_law_0 (Y : xw_Y) : xw_lk (tbL_law Y) 0 = some (tr_new 3 4 10 [.null, .null, .null, .null, .null, .null, .int 0, .int 0, .int 0, .int 0] 608221 7276804) := rfl
theorem lkL_law_3 (Y : xw_Y) : xw_lk (tbL_law Y) 3 = some (tr_dup 4) := rfl
theorem lkL_law_4 (Y : xw_Y) : xw_lk (tbL_law Y) 4 = some (tr_callI 7 0 (ptX3_init Y) 6 45 608221 7276804) := rfl
theorem lkL_law_7 (Y : xw_Y) : xw_lk (tbL_law Y) 7 = some (tr_ast 8 1) := rfl
theorem lkL_law_8 (Y : xw_Y) : xw_lk (tbL_law Y) 8 = some (tr_push 9 (.int 1)) := rfl
theorem lkL_law_9 (Y : xw_Y) : xw_lk (tbL_law Y) 9 = some (tr_ald 10 0) := rfl
theorem lkL_law_10 (Y : xw_Y) : xw_lk (tbL_law Y) 10 = some (tr_push 11 (.int 0)) := rfl
theorem lkL_law_11 (Y : xw_Y) : xw_lk (tbL_law Y) 11 = some (tr_callS 14 2 (ptL_cell Y) 0 0 608221 7276804) := rfl
theorem lkL_law_14 (Y : xw_Y) : xw_lk (tbL_law Y) 14 = some (tr_push 15 (.int 2)) := rfl
theorem lkL_law_15 (Y : xw_Y) : xw_lk (tbL_law Y) 15 = some (tr_callS 18 2 (ptL_below Y) 0 0 608221 7276804) := rfl
theorem lkL_law_18 (Y : xw_Y) : xw_lk (tbL_law Y) 18 = some (tr_i2 19 (fun x y => x + y)) := rfl
theorem lkL_law_19 (Y : xw_Y) : xw_lk (tbL_law Y) 19 = some (tr_ist 20 2) := rfl
theorem lkL_law_20 (Y : xw_Y) : xw_lk (tbL_law Y) 20 = some (tr_push 21 (.int 3)) := rfl
theorem lkL_law_21 (Y : xw_Y) : xw_lk (tbL_law Y) 21 = some (tr_ild 22 2) := rfl
theorem lkL_law_22 (Y : xw_Y) : xw_lk (tbL_law Y) 22 = some (tr_i2 23 (fun x y => x * y)) := rfl
theorem lkL_law_23 (Y : xw_Y) : xw_lk (tbL_law Y) 23 = some (tr_ald 24 0) := rfl
theorem lkL_law_24 (Y : xw_Y) : xw_lk (tbL_law Y) 24 = some (tr_push 25 (.int 1)) := rfl
theorem lkL_law_25 (Y : xw_Y) : xw_lk (tbL_law Y) 25 = some (tr_callS 28 2 (ptL_cell Y) 0 0 608221 7276804) := rfl
theorem lkL_law_28 (Y : xw_Y) : xw_lk (tbL_law Y) 28 = some (tr_push 29 (.int 3)) := rfl
theorem lkL_law_29 (Y : xw_Y) : xw_lk (tbL_law Y) 29 = some (tr_callS 32 2 (ptL_below Y) 0 0 608221 7276804) := rfl
theorem lkL_law_32 (Y : xw_Y) : xw_lk (tbL_law Y) 32 = some (tr_i2 33 (fun x y => x + y)) := rfl
theorem lkL_law_33 (Y : xw_Y) : xw_lk (tbL_law Y) 33 = some (tr_ist 34 3) := rfl
theorem lkL_law_34 (Y : xw_Y) : xw_lk (tbL_law Y) 34 = some (tr_push 35 (.int 0)) := rfl
theorem lkL_law_35 (Y : xw_Y) : xw_lk (tbL_law Y) 35 = some (tr_ist 37 4) := rfl
theorem lkL_law_37 (Y : xw_Y) : xw_lk (tbL_law Y) 37 = some (tr_ild 39 4) := rfl
theorem lkL_law_39 (Y : xw_Y) : xw_lk (tbL_law Y) 39 = some (tr_ild 40 3) := rfl
theorem lkL_law_40 (Y : xw_Y) : xw_lk (tbL_law Y) 40 = some (tr_ifc 43 83 (fun x y => y ≤ x)) := rfl
theorem lkL_law_43 (Y : xw_Y) : xw_lk (tbL_law Y) 43 = some (tr_ald 44 1) := rfl
theorem lkL_law_44 (Y : xw_Y) : xw_lk (tbL_law Y) 44 = some (tr_ald 45 0) := rfl
theorem lkL_law_45 (Y : xw_Y) : xw_lk (tbL_law Y) 45 = some (tr_ild 47 4) := rfl
theorem lkL_law_47 (Y : xw_Y) : xw_lk (tbL_law Y) 47 = some (tr_callS 50 2 (ptL_cell Y) 0 0 608221 7276804) := rfl
theorem lkL_law_50 (Y : xw_Y) : xw_lk (tbL_law Y) 50 = some (tr_push 52 (.int 9)) := rfl
theorem lkL_law_52 (Y : xw_Y) : xw_lk (tbL_law Y) 52 = some (tr_callS 55 2 (ptL_below Y) 0 0 608221 7276804) := rfl
theorem lkL_law_55 (Y : xw_Y) : xw_lk (tbL_law Y) 55 = some (tr_ald 56 0) := rfl
theorem lkL_law_56 (Y : xw_Y) : xw_lk (tbL_law Y) 56 = some (tr_ild 58 4) := rfl
theorem lkL_law_58 (Y : xw_Y) : xw_lk (tbL_law Y) 58 = some (tr_callS 61 2 (ptL_cell Y) 0 0 608221 7276804) := rfl
theorem lkL_law_61 (Y : xw_Y) : xw_lk (tbL_law Y) 61 = some (tr_push 62 (.int 4)) := rfl
theorem lkL_law_62 (Y : xw_Y) : xw_lk (tbL_law Y) 62 = some (tr_i2 63 (fun x y => x >>> (y &&& 31))) := rfl
theorem lkL_law_63 (Y : xw_Y) : xw_lk (tbL_law Y) 63 = some (tr_push 64 (.int 3)) := rfl
theorem lkL_law_64 (Y : xw_Y) : xw_lk (tbL_law Y) 64 = some (tr_callS 67 2 (ptL_below Y) 0 0 608221 7276804) := rfl
theorem lkL_law_67 (Y : xw_Y) : xw_lk (tbL_law Y) 67 = some (tr_callV 70 2 4 (ptX3_fencer Y) 2 214 608221 7276804) := rfl
theorem lkL_law_70 (Y : xw_Y) : xw_lk (tbL_law Y) 70 = some (tr_ild 72 4) := rfl
theorem lkL_law_72 (Y : xw_Y) : xw_lk (tbL_law Y) 72 = some (tr_ifc 75 77 (fun x y => x = y)) := rfl
theorem lkL_law_75 (Y : xw_Y) : xw_lk (tbL_law Y) 75 = some (tr_push 76 (.int 0)) := rfl
theorem lkL_law_76 (Y : xw_Y) : xw_lk (tbL_law Y) 76 = some (tr_iret .boolean) := rfl
theorem lkL_law_77 (Y : xw_Y) : xw_lk (tbL_law Y) 77 = some (tr_inc 80 4 1) := rfl
theorem lkL_law_80 (Y : xw_Y) : xw_lk (tbL_law Y) 80 = some (tr_goto 37) := rfl
theorem lkL_law_83 (Y : xw_Y) : xw_lk (tbL_law Y) 83 = some (tr_ald 84 1) := rfl
theorem lkL_law_84 (Y : xw_Y) : xw_lk (tbL_law Y) 84 = some (tr_ild 85 2) := rfl
theorem lkL_law_85 (Y : xw_Y) : xw_lk (tbL_law Y) 85 = some (tr_callV 88 1 4 (ptX3_form Y) 400 22000 608221 7276804) := rfl
theorem lkL_law_88 (Y : xw_Y) : xw_lk (tbL_law Y) 88 = some (tr_ist 90 4) := rfl
theorem lkL_law_90 (Y : xw_Y) : xw_lk (tbL_law Y) 90 = some (tr_push 91 (.int 0)) := rfl
theorem lkL_law_91 (Y : xw_Y) : xw_lk (tbL_law Y) 91 = some (tr_ist 93 5) := rfl
theorem lkL_law_93 (Y : xw_Y) : xw_lk (tbL_law Y) 93 = some (tr_ild 95 5) := rfl
theorem lkL_law_95 (Y : xw_Y) : xw_lk (tbL_law Y) 95 = some (tr_push 98 (.int 160)) := rfl
theorem lkL_law_98 (Y : xw_Y) : xw_lk (tbL_law Y) 98 = some (tr_ifc 101 615 (fun x y => y ≤ x)) := rfl
theorem lkL_law_101 (Y : xw_Y) : xw_lk (tbL_law Y) 101 = some (tr_ald 102 0) := rfl
theorem lkL_law_102 (Y : xw_Y) : xw_lk (tbL_law Y) 102 = some (tr_ild 104 5) := rfl
theorem lkL_law_104 (Y : xw_Y) : xw_lk (tbL_law Y) 104 = some (tr_push 106 (.int 16)) := rfl
theorem lkL_law_106 (Y : xw_Y) : xw_lk (tbL_law Y) 106 = some (tr_i2z 107 (fun x y => x - x / y * y)) := rfl
theorem lkL_law_107 (Y : xw_Y) : xw_lk (tbL_law Y) 107 = some (tr_callS 110 2 (ptL_cell Y) 0 0 608221 7276804) := rfl
theorem lkL_law_110 (Y : xw_Y) : xw_lk (tbL_law Y) 110 = some (tr_ild 112 5) := rfl
theorem lkL_law_112 (Y : xw_Y) : xw_lk (tbL_law Y) 112 = some (tr_push 114 (.int 16)) := rfl
theorem lkL_law_114 (Y : xw_Y) : xw_lk (tbL_law Y) 114 = some (tr_i2z 115 (fun x y => x / y)) := rfl
theorem lkL_law_115 (Y : xw_Y) : xw_lk (tbL_law Y) 115 = some (tr_i2 116 (fun x y => x >>> (y &&& 31))) := rfl
theorem lkL_law_116 (Y : xw_Y) : xw_lk (tbL_law Y) 116 = some (tr_push 118 (.int 7)) := rfl
theorem lkL_law_118 (Y : xw_Y) : xw_lk (tbL_law Y) 118 = some (tr_ild 120 5) := rfl
theorem lkL_law_120 (Y : xw_Y) : xw_lk (tbL_law Y) 120 = some (tr_i2 121 (fun x y => x * y)) := rfl
theorem lkL_law_121 (Y : xw_Y) : xw_lk (tbL_law Y) 121 = some (tr_i2 122 (fun x y => x + y)) := rfl
theorem lkL_law_122 (Y : xw_Y) : xw_lk (tbL_law Y) 122 = some (tr_ist 124 6) := rfl
theorem lkL_law_124 (Y : xw_Y) : xw_lk (tbL_law Y) 124 = some (tr_ald 125 1) := rfl
theorem lkL_law_125 (Y : xw_Y) : xw_lk (tbL_law Y) 125 = some (tr_push 126 (.int 3)) := rfl
theorem lkL_law_126 (Y : xw_Y) : xw_lk (tbL_law Y) 126 = some (tr_callV 129 1 4 (ptX3_many Y) 0 0 608221 7276804) := rfl
theorem lkL_law_129 (Y : xw_Y) : xw_lk (tbL_law Y) 129 = some (tr_ald 130 1) := rfl
theorem lkL_law_130 (Y : xw_Y) : xw_lk (tbL_law Y) 130 = some (tr_push 131 (.int 4)) := rfl
theorem lkL_law_131 (Y : xw_Y) : xw_lk (tbL_law Y) 131 = some (tr_callV 134 1 4 (ptX3_many Y) 0 0 608221 7276804) := rfl
theorem lkL_law_134 (Y : xw_Y) : xw_lk (tbL_law Y) 134 = some (tr_i2 135 (fun x y => x + y)) := rfl
theorem lkL_law_135 (Y : xw_Y) : xw_lk (tbL_law Y) 135 = some (tr_ifz 138 185 (fun x => ¬ x = 0)) := rfl
theorem lkL_law_138 (Y : xw_Y) : xw_lk (tbL_law Y) 138 = some (tr_ald 139 1) := rfl
theorem lkL_law_139 (Y : xw_Y) : xw_lk (tbL_law Y) 139 = some (tr_push 141 (.int 9)) := rfl
theorem lkL_law_141 (Y : xw_Y) : xw_lk (tbL_law Y) 141 = some (tr_callV 144 1 4 (ptX3_many Y) 0 0 608221 7276804) := rfl
set_option maxRecDepth 20000 in
theorem lkL_law_144 (Y : xw_Y) : xw_lk (tbL_law Y) 144 = some (tr_ifz 147 185 (fun x => ¬ x = 0)) := rfl
set_option maxRecDepth 20000 in
theorem lkL_law_147 (Y : xw_Y) : xw_lk (tbL_law Y) 147 = some (tr_ild 148 3) := rfl
set_option maxRecDepth 20000 in
theorem lkL_law_148 (Y : xw_Y) : xw_lk (tbL_law Y) 148 = some (tr_ald 149 1) := rfl
set_option maxRecDepth 20000 in
theorem lkL_law_149 (Y : xw_Y) : xw_lk (tbL_law Y) 149 = some (tr_push 151 (.int 8)) := rfl
set_option maxRecDepth 20000 in
theorem lkL_law_151 (Y : xw_Y) : xw_lk (tbL_law Y) 151 = some (tr_callV 154 1 4 (ptX3_many Y) 0 0 608221 7276804) := rfl
set_option maxRecDepth 20000 in
theorem lkL_law_154 (Y : xw_Y) : xw_lk (tbL_law Y) 154 = some (tr_i2 155 (fun x y => x - y)) := rfl
set_option maxRecDepth 20000 in
theorem lkL_law_155 (Y : xw_Y) : xw_lk (tbL_law Y) 155 = some (tr_push 156 (.int 2)) := rfl
set_option maxRecDepth 20000 in
theorem lkL_law_156 (Y : xw_Y) : xw_lk (tbL_law Y) 156 = some (tr_ifc 159 167 (fun x y => y ≤ x)) := rfl
set_option maxRecDepth 20000 in
theorem lkL_law_159 (Y : xw_Y) : xw_lk (tbL_law Y) 159 = some (tr_ald 160 1) := rfl
set_option maxRecDepth 20000 in
theorem lkL_law_160 (Y : xw_Y) : xw_lk (tbL_law Y) 160 = some (tr_ild 161 3) := rfl
set_option maxRecDepth 20000 in
theorem lkL_law_161 (Y : xw_Y) : xw_lk (tbL_law Y) 161 = some (tr_ild 163 4) := rfl
set_option maxRecDepth 20000 in
theorem lkL_law_163 (Y : xw_Y) : xw_lk (tbL_law Y) 163 = some (tr_callS 166 3 (ptL_isFair Y) 1 8 608221 7276804) := rfl
set_option maxRecDepth 20000 in
theorem lkL_law_166 (Y : xw_Y) : xw_lk (tbL_law Y) 166 = some (tr_iret .boolean) := rfl
set_option maxRecDepth 20000 in
theorem lkL_law_167 (Y : xw_Y) : xw_lk (tbL_law Y) 167 = some (tr_ald 168 1) := rfl
set_option maxRecDepth 20000 in
theorem lkL_law_168 (Y : xw_Y) : xw_lk (tbL_law Y) 168 = some (tr_push 169 (.int 0)) := rfl
set_option maxRecDepth 20000 in
theorem lkL_law_169 (Y : xw_Y) : xw_lk (tbL_law Y) 169 = some (tr_callV 172 1 4 (ptX3_draw Y) 60 3300 608221 7276804) := rfl
set_option maxRecDepth 20000 in
theorem lkL_law_172 (Y : xw_Y) : xw_lk (tbL_law Y) 172 = some (tr_ild 173 3) := rfl
set_option maxRecDepth 20000 in
theorem lkL_law_173 (Y : xw_Y) : xw_lk (tbL_law Y) 173 = some (tr_ald 174 1) := rfl
set_option maxRecDepth 20000 in
theorem lkL_law_174 (Y : xw_Y) : xw_lk (tbL_law Y) 174 = some (tr_push 176 (.int 8)) := rfl
set_option maxRecDepth 20000 in
theorem lkL_law_176 (Y : xw_Y) : xw_lk (tbL_law Y) 176 = some (tr_callV 179 1 4 (ptX3_many Y) 0 0 608221 7276804) := rfl
set_option maxRecDepth 20000 in
theorem lkL_law_179 (Y : xw_Y) : xw_lk (tbL_law Y) 179 = some (tr_i2 180 (fun x y => x - y)) := rfl
set_option maxRecDepth 20000 in
theorem lkL_law_180 (Y : xw_Y) : xw_lk (tbL_law Y) 180 = some (tr_ifc 183 185 (fun x y => x = y)) := rfl
set_option maxRecDepth 20000 in
theorem lkL_law_183 (Y : xw_Y) : xw_lk (tbL_law Y) 183 = some (tr_push 184 (.int 0)) := rfl
set_option maxRecDepth 20000 in
theorem lkL_law_184 (Y : xw_Y) : xw_lk (tbL_law Y) 184 = some (tr_iret .boolean) := rfl
set_option maxRecDepth 20000 in
theorem lkL_law_185 (Y : xw_Y) : xw_lk (tbL_law Y) 185 = some (tr_ild 187 6) := rfl
set_option maxRecDepth 20000 in
theorem lkL_law_187 (Y : xw_Y) : xw_lk (tbL_law Y) 187 = some (tr_push 188 (.int 3)) := rfl
set_option maxRecDepth 20000 in
theorem lkL_law_188 (Y : xw_Y) : xw_lk (tbL_law Y) 188 = some (tr_i2 189 (fun x y => x >>> (y &&& 31))) := rfl
set_option maxRecDepth 20000 in
theorem lkL_law_189 (Y : xw_Y) : xw_lk (tbL_law Y) 189 = some (tr_push 190 (.int 3)) := rfl
set_option maxRecDepth 20000 in
theorem lkL_law_190 (Y : xw_Y) : xw_lk (tbL_law Y) 190 = some (tr_callS 193 2 (ptL_below Y) 0 0 608221 7276804) := rfl
set_option maxRecDepth 20000 in
theorem lkL_law_193 (Y : xw_Y) : xw_lk (tbL_law Y) 193 = some (tr_ist 195 7) := rfl
set_option maxRecDepth 20000 in
theorem lkL_law_195 (Y : xw_Y) : xw_lk (tbL_law Y) 195 = some (tr_ald 196 1) := rfl
set_option maxRecDepth 20000 in
theorem lkL_law_196 (Y : xw_Y) : xw_lk (tbL_law Y) 196 = some (tr_ild 198 7) := rfl
set_option maxRecDepth 20000 in
theorem lkL_law_198 (Y : xw_Y) : xw_lk (tbL_law Y) 198 = some (tr_callS 201 2 (ptL_live Y) 0 0 608221 7276804) := rfl
set_option maxRecDepth 20000 in
theorem lkL_law_201 (Y : xw_Y) : xw_lk (tbL_law Y) 201 = some (tr_ist 203 8) := rfl
set_option maxRecDepth 20000 in
theorem lkL_law_203 (Y : xw_Y) : xw_lk (tbL_law Y) 203 = some (tr_ild 205 8) := rfl
set_option maxRecDepth 20000 in
theorem lkL_law_205 (Y : xw_Y) : xw_lk (tbL_law Y) 205 = some (tr_ifz 208 277 (fun x => 0 ≤ x)) := rfl
set_option maxRecDepth 20000 in
theorem lkL_law_208 (Y : xw_Y) : xw_lk (tbL_law Y) 208 = some (tr_ald 209 1) := rfl
set_option maxRecDepth 20000 in
theorem lkL_law_209 (Y : xw_Y) : xw_lk (tbL_law Y) 209 = some (tr_callV 212 0 4 (ptX3_next Y) 0 0 608221 7276804) := rfl
set_option maxRecDepth 20000 in
theorem lkL_law_212 (Y : xw_Y) : xw_lk (tbL_law Y) 212 = some (tr_ist 214 9) := rfl
set_option maxRecDepth 20000 in
theorem lkL_law_214 (Y : xw_Y) : xw_lk (tbL_law Y) 214 = some (tr_ild 216 9) := rfl
set_option maxRecDepth 20000 in
theorem lkL_law_216 (Y : xw_Y) : xw_lk (tbL_law Y) 216 = some (tr_ifz 219 230 (fun x => 0 ≤ x)) := rfl
set_option maxRecDepth 20000 in
theorem lkL_law_219 (Y : xw_Y) : xw_lk (tbL_law Y) 219 = some (tr_ald 220 1) := rfl
set_option maxRecDepth 20000 in
theorem lkL_law_220 (Y : xw_Y) : xw_lk (tbL_law Y) 220 = some (tr_push 222 (.int 120)) := rfl
set_option maxRecDepth 20000 in
theorem lkL_law_222 (Y : xw_Y) : xw_lk (tbL_law Y) 222 = some (tr_callV 225 1 4 (ptX3_pass Y) 0 0 608221 7276804) := rfl
set_option maxRecDepth 20000 in
theorem lkL_law_225 (Y : xw_Y) : xw_lk (tbL_law Y) 225 = some (tr_ifz 228 609 (fun x => 0 ≤ x)) := rfl
set_option maxRecDepth 20000 in
theorem lkL_law_228 (Y : xw_Y) : xw_lk (tbL_law Y) 228 = some (tr_push 229 (.int 0)) := rfl
set_option maxRecDepth 20000 in
theorem lkL_law_229 (Y : xw_Y) : xw_lk (tbL_law Y) 229 = some (tr_iret .boolean) := rfl
set_option maxRecDepth 20000 in
theorem lkL_law_230 (Y : xw_Y) : xw_lk (tbL_law Y) 230 = some (tr_ald 231 1) := rfl
set_option maxRecDepth 20000 in
theorem lkL_law_231 (Y : xw_Y) : xw_lk (tbL_law Y) 231 = some (tr_ild 233 9) := rfl
set_option maxRecDepth 20000 in
theorem lkL_law_233 (Y : xw_Y) : xw_lk (tbL_law Y) 233 = some (tr_callV 236 1 4 (ptX3_reason Y) 0 0 608221 7276804) := rfl
set_option maxRecDepth 20000 in
theorem lkL_law_236 (Y : xw_Y) : xw_lk (tbL_law Y) 236 = some (tr_ifz 239 241 (fun x => x = 0)) := rfl
set_option maxRecDepth 20000 in
theorem lkL_law_239 (Y : xw_Y) : xw_lk (tbL_law Y) 239 = some (tr_push 240 (.int 0)) := rfl
set_option maxRecDepth 20000 in
theorem lkL_law_240 (Y : xw_Y) : xw_lk (tbL_law Y) 240 = some (tr_iret .boolean) := rfl
set_option maxRecDepth 20000 in
theorem lkL_law_241 (Y : xw_Y) : xw_lk (tbL_law Y) 241 = some (tr_ald 242 1) := rfl
set_option maxRecDepth 20000 in
theorem lkL_law_242 (Y : xw_Y) : xw_lk (tbL_law Y) 242 = some (tr_ild 244 9) := rfl
set_option maxRecDepth 20000 in
theorem lkL_law_244 (Y : xw_Y) : xw_lk (tbL_law Y) 244 = some (tr_ild 246 7) := rfl
set_option maxRecDepth 20000 in
theorem lkL_law_246 (Y : xw_Y) : xw_lk (tbL_law Y) 246 = some (tr_callV 249 2 4 (ptX3_start Y) 0 0 608221 7276804) := rfl
set_option maxRecDepth 20000 in
theorem lkL_law_249 (Y : xw_Y) : xw_lk (tbL_law Y) 249 = some (tr_ald 250 1) := rfl
set_option maxRecDepth 20000 in
theorem lkL_law_250 (Y : xw_Y) : xw_lk (tbL_law Y) 250 = some (tr_ild 252 9) := rfl
set_option maxRecDepth 20000 in
theorem lkL_law_252 (Y : xw_Y) : xw_lk (tbL_law Y) 252 = some (tr_push 254 (.int 6)) := rfl
set_option maxRecDepth 20000 in
theorem lkL_law_254 (Y : xw_Y) : xw_lk (tbL_law Y) 254 = some (tr_callV 257 2 4 (ptX3_ofBout Y) 0 0 608221 7276804) := rfl
set_option maxRecDepth 20000 in
theorem lkL_law_257 (Y : xw_Y) : xw_lk (tbL_law Y) 257 = some (tr_ild 259 7) := rfl
set_option maxRecDepth 20000 in
theorem lkL_law_259 (Y : xw_Y) : xw_lk (tbL_law Y) 259 = some (tr_ifc 262 272 (fun x y => ¬ x = y)) := rfl
set_option maxRecDepth 20000 in
theorem lkL_law_262 (Y : xw_Y) : xw_lk (tbL_law Y) 262 = some (tr_ald 263 1) := rfl
set_option maxRecDepth 20000 in
theorem lkL_law_263 (Y : xw_Y) : xw_lk (tbL_law Y) 263 = some (tr_ild 265 9) := rfl
set_option maxRecDepth 20000 in
theorem lkL_law_265 (Y : xw_Y) : xw_lk (tbL_law Y) 265 = some (tr_callV 268 1 4 (ptX3_reason Y) 0 0 608221 7276804) := rfl
set_option maxRecDepth 20000 in
theorem lkL_law_268 (Y : xw_Y) : xw_lk (tbL_law Y) 268 = some (tr_push 269 (.int 1)) := rfl
set_option maxRecDepth 20000 in
theorem lkL_law_269 (Y : xw_Y) : xw_lk (tbL_law Y) 269 = some (tr_ifc 272 274 (fun x y => x = y)) := rfl
set_option maxRecDepth 20000 in
theorem lkL_law_272 (Y : xw_Y) : xw_lk (tbL_law Y) 272 = some (tr_push 273 (.int 0)) := rfl
set_option maxRecDepth 20000 in
theorem lkL_law_273 (Y : xw_Y) : xw_lk (tbL_law Y) 273 = some (tr_iret .boolean) := rfl
set_option maxRecDepth 20000 in
theorem lkL_law_274 (Y : xw_Y) : xw_lk (tbL_law Y) 274 = some (tr_goto 590) := rfl
set_option maxRecDepth 20000 in
theorem lkL_law_277 (Y : xw_Y) : xw_lk (tbL_law Y) 277 = some (tr_ild 279 6) := rfl
set_option maxRecDepth 20000 in
theorem lkL_law_279 (Y : xw_Y) : xw_lk (tbL_law Y) 279 = some (tr_push 280 (.int 5)) := rfl
set_option maxRecDepth 20000 in
theorem lkL_law_280 (Y : xw_Y) : xw_lk (tbL_law Y) 280 = some (tr_callS 283 2 (ptL_below Y) 0 0 608221 7276804) := rfl
set_option maxRecDepth 20000 in
theorem lkL_law_283 (Y : xw_Y) : xw_lk (tbL_law Y) 283 = some (tr_push 284 (.int 3)) := rfl
set_option maxRecDepth 20000 in
theorem lkL_law_284 (Y : xw_Y) : xw_lk (tbL_law Y) 284 = some (tr_ifc 287 379 (fun x y => y ≤ x)) := rfl
set_option maxRecDepth 20000 in
theorem lkL_law_287 (Y : xw_Y) : xw_lk (tbL_law Y) 287 = some (tr_ild 289 6) := rfl
set_option maxRecDepth 20000 in
theorem lkL_law_289 (Y : xw_Y) : xw_lk (tbL_law Y) 289 = some (tr_push 290 (.int 5)) := rfl
set_option maxRecDepth 20000 in
theorem lkL_law_290 (Y : xw_Y) : xw_lk (tbL_law Y) 290 = some (tr_i2 291 (fun x y => x >>> (y &&& 31))) := rfl
set_option maxRecDepth 20000 in
theorem lkL_law_291 (Y : xw_Y) : xw_lk (tbL_law Y) 291 = some (tr_push 292 (.int 2)) := rfl
set_option maxRecDepth 20000 in
theorem lkL_law_292 (Y : xw_Y) : xw_lk (tbL_law Y) 292 = some (tr_callS 295 2 (ptL_below Y) 0 0 608221 7276804) := rfl
set_option maxRecDepth 20000 in
theorem lkL_law_295 (Y : xw_Y) : xw_lk (tbL_law Y) 295 = some (tr_ist 297 9) := rfl
set_option maxRecDepth 20000 in
theorem lkL_law_297 (Y : xw_Y) : xw_lk (tbL_law Y) 297 = some (tr_ald 298 1) := rfl
set_option maxRecDepth 20000 in
theorem lkL_law_298 (Y : xw_Y) : xw_lk (tbL_law Y) 298 = some (tr_ild 300 8) := rfl
set_option maxRecDepth 20000 in
theorem lkL_law_300 (Y : xw_Y) : xw_lk (tbL_law Y) 300 = some (tr_push 301 (.int 3)) := rfl
set_option maxRecDepth 20000 in
theorem lkL_law_301 (Y : xw_Y) : xw_lk (tbL_law Y) 301 = some (tr_ild 303 9) := rfl
set_option maxRecDepth 20000 in
theorem lkL_law_303 (Y : xw_Y) : xw_lk (tbL_law Y) 303 = some (tr_i2 304 (fun x y => x + y)) := rfl
set_option maxRecDepth 20000 in
theorem lkL_law_304 (Y : xw_Y) : xw_lk (tbL_law Y) 304 = some (tr_callV 307 2 4 (ptX3_ofBout Y) 0 0 608221 7276804) := rfl
set_option maxRecDepth 20000 in
theorem lkL_law_307 (Y : xw_Y) : xw_lk (tbL_law Y) 307 = some (tr_ist 309 10) := rfl
set_option maxRecDepth 20000 in
theorem lkL_law_309 (Y : xw_Y) : xw_lk (tbL_law Y) 309 = some (tr_ald 310 1) := rfl
set_option maxRecDepth 20000 in
theorem lkL_law_310 (Y : xw_Y) : xw_lk (tbL_law Y) 310 = some (tr_ild 312 7) := rfl
set_option maxRecDepth 20000 in
theorem lkL_law_312 (Y : xw_Y) : xw_lk (tbL_law Y) 312 = some (tr_ild 314 9) := rfl
set_option maxRecDepth 20000 in
theorem lkL_law_314 (Y : xw_Y) : xw_lk (tbL_law Y) 314 = some (tr_callV 317 2 4 (ptX3_hit Y) 0 0 608221 7276804) := rfl
set_option maxRecDepth 20000 in
theorem lkL_law_317 (Y : xw_Y) : xw_lk (tbL_law Y) 317 = some (tr_ald 318 1) := rfl
set_option maxRecDepth 20000 in
theorem lkL_law_318 (Y : xw_Y) : xw_lk (tbL_law Y) 318 = some (tr_ild 320 8) := rfl
set_option maxRecDepth 20000 in
theorem lkL_law_320 (Y : xw_Y) : xw_lk (tbL_law Y) 320 = some (tr_push 321 (.int 0)) := rfl
set_option maxRecDepth 20000 in
theorem lkL_law_321 (Y : xw_Y) : xw_lk (tbL_law Y) 321 = some (tr_callV 324 2 4 (ptX3_ofBout Y) 0 0 608221 7276804) := rfl
set_option maxRecDepth 20000 in
theorem lkL_law_324 (Y : xw_Y) : xw_lk (tbL_law Y) 324 = some (tr_push 325 (.int 2)) := rfl
set_option maxRecDepth 20000 in
theorem lkL_law_325 (Y : xw_Y) : xw_lk (tbL_law Y) 325 = some (tr_ifc 328 332 (fun x y => ¬ x = y)) := rfl
set_option maxRecDepth 20000 in
theorem lkL_law_328 (Y : xw_Y) : xw_lk (tbL_law Y) 328 = some (tr_push 329 (.int 1)) := rfl
set_option maxRecDepth 20000 in
theorem lkL_law_329 (Y : xw_Y) : xw_lk (tbL_law Y) 329 = some (tr_goto 333) := rfl
set_option maxRecDepth 20000 in
theorem lkL_law_332 (Y : xw_Y) : xw_lk (tbL_law Y) 332 = some (tr_push 333 (.int 0)) := rfl
set_option maxRecDepth 20000 in
theorem lkL_law_333 (Y : xw_Y) : xw_lk (tbL_law Y) 333 = some (tr_ifc 336 374 (fun x y => ¬ x = y)) := rfl
set_option maxRecDepth 20000 in
theorem lkL_law_336 (Y : xw_Y) : xw_lk (tbL_law Y) 336 = some (tr_ald 337 1) := rfl
set_option maxRecDepth 20000 in
theorem lkL_law_337 (Y : xw_Y) : xw_lk (tbL_law Y) 337 = some (tr_ild 339 8) := rfl
set_option maxRecDepth 20000 in
theorem lkL_law_339 (Y : xw_Y) : xw_lk (tbL_law Y) 339 = some (tr_push 340 (.int 3)) := rfl
set_option maxRecDepth 20000 in
theorem lkL_law_340 (Y : xw_Y) : xw_lk (tbL_law Y) 340 = some (tr_ild 342 9) := rfl
set_option maxRecDepth 20000 in
theorem lkL_law_342 (Y : xw_Y) : xw_lk (tbL_law Y) 342 = some (tr_i2 343 (fun x y => x + y)) := rfl
set_option maxRecDepth 20000 in
theorem lkL_law_343 (Y : xw_Y) : xw_lk (tbL_law Y) 343 = some (tr_callV 346 2 4 (ptX3_ofBout Y) 0 0 608221 7276804) := rfl
set_option maxRecDepth 20000 in
theorem lkL_law_346 (Y : xw_Y) : xw_lk (tbL_law Y) 346 = some (tr_ild 348 10) := rfl
set_option maxRecDepth 20000 in
theorem lkL_law_348 (Y : xw_Y) : xw_lk (tbL_law Y) 348 = some (tr_push 349 (.int 1)) := rfl
set_option maxRecDepth 20000 in
theorem lkL_law_349 (Y : xw_Y) : xw_lk (tbL_law Y) 349 = some (tr_i2 350 (fun x y => x + y)) := rfl
set_option maxRecDepth 20000 in
theorem lkL_law_350 (Y : xw_Y) : xw_lk (tbL_law Y) 350 = some (tr_ifc 353 374 (fun x y => ¬ x = y)) := rfl
set_option maxRecDepth 20000 in
theorem lkL_law_353 (Y : xw_Y) : xw_lk (tbL_law Y) 353 = some (tr_ald 354 1) := rfl
set_option maxRecDepth 20000 in
theorem lkL_law_354 (Y : xw_Y) : xw_lk (tbL_law Y) 354 = some (tr_ild 356 8) := rfl
set_option maxRecDepth 20000 in
theorem lkL_law_356 (Y : xw_Y) : xw_lk (tbL_law Y) 356 = some (tr_push 357 (.int 0)) := rfl
set_option maxRecDepth 20000 in
theorem lkL_law_357 (Y : xw_Y) : xw_lk (tbL_law Y) 357 = some (tr_callV 360 2 4 (ptX3_ofBout Y) 0 0 608221 7276804) := rfl
set_option maxRecDepth 20000 in
theorem lkL_law_360 (Y : xw_Y) : xw_lk (tbL_law Y) 360 = some (tr_push 361 (.int 2)) := rfl
set_option maxRecDepth 20000 in
theorem lkL_law_361 (Y : xw_Y) : xw_lk (tbL_law Y) 361 = some (tr_ifc 364 376 (fun x y => ¬ x = y)) := rfl
set_option maxRecDepth 20000 in
theorem lkL_law_364 (Y : xw_Y) : xw_lk (tbL_law Y) 364 = some (tr_ald 365 1) := rfl
set_option maxRecDepth 20000 in
theorem lkL_law_365 (Y : xw_Y) : xw_lk (tbL_law Y) 365 = some (tr_ild 367 8) := rfl
set_option maxRecDepth 20000 in
theorem lkL_law_367 (Y : xw_Y) : xw_lk (tbL_law Y) 367 = some (tr_push 368 (.int 5)) := rfl
set_option maxRecDepth 20000 in
theorem lkL_law_368 (Y : xw_Y) : xw_lk (tbL_law Y) 368 = some (tr_callV 371 2 4 (ptX3_ofBout Y) 0 0 608221 7276804) := rfl
set_option maxRecDepth 20000 in
theorem lkL_law_371 (Y : xw_Y) : xw_lk (tbL_law Y) 371 = some (tr_ifz 374 376 (fun x => 0 ≤ x)) := rfl
set_option maxRecDepth 20000 in
theorem lkL_law_374 (Y : xw_Y) : xw_lk (tbL_law Y) 374 = some (tr_push 375 (.int 0)) := rfl
set_option maxRecDepth 20000 in
theorem lkL_law_375 (Y : xw_Y) : xw_lk (tbL_law Y) 375 = some (tr_iret .boolean) := rfl
set_option maxRecDepth 20000 in
theorem lkL_law_376 (Y : xw_Y) : xw_lk (tbL_law Y) 376 = some (tr_goto 590) := rfl
set_option maxRecDepth 20000 in
theorem lkL_law_379 (Y : xw_Y) : xw_lk (tbL_law Y) 379 = some (tr_ild 381 6) := rfl
set_option maxRecDepth 20000 in
theorem lkL_law_381 (Y : xw_Y) : xw_lk (tbL_law Y) 381 = some (tr_push 382 (.int 5)) := rfl
set_option maxRecDepth 20000 in
theorem lkL_law_382 (Y : xw_Y) : xw_lk (tbL_law Y) 382 = some (tr_callS 385 2 (ptL_below Y) 0 0 608221 7276804) := rfl
set_option maxRecDepth 20000 in
theorem lkL_law_385 (Y : xw_Y) : xw_lk (tbL_law Y) 385 = some (tr_push 386 (.int 3)) := rfl
set_option maxRecDepth 20000 in
theorem lkL_law_386 (Y : xw_Y) : xw_lk (tbL_law Y) 386 = some (tr_ifc 389 471 (fun x y => ¬ x = y)) := rfl
set_option maxRecDepth 20000 in
theorem lkL_law_389 (Y : xw_Y) : xw_lk (tbL_law Y) 389 = some (tr_push 390 (.int 1)) := rfl
set_option maxRecDepth 20000 in
theorem lkL_law_390 (Y : xw_Y) : xw_lk (tbL_law Y) 390 = some (tr_ild 392 6) := rfl
set_option maxRecDepth 20000 in
theorem lkL_law_392 (Y : xw_Y) : xw_lk (tbL_law Y) 392 = some (tr_push 393 (.int 4)) := rfl
set_option maxRecDepth 20000 in
theorem lkL_law_393 (Y : xw_Y) : xw_lk (tbL_law Y) 393 = some (tr_i2 394 (fun x y => x >>> (y &&& 31))) := rfl
set_option maxRecDepth 20000 in
theorem lkL_law_394 (Y : xw_Y) : xw_lk (tbL_law Y) 394 = some (tr_push 397 (.int 200)) := rfl
set_option maxRecDepth 20000 in
theorem lkL_law_397 (Y : xw_Y) : xw_lk (tbL_law Y) 397 = some (tr_callS 400 2 (ptL_below Y) 0 0 608221 7276804) := rfl
set_option maxRecDepth 20000 in
theorem lkL_law_400 (Y : xw_Y) : xw_lk (tbL_law Y) 400 = some (tr_i2 401 (fun x y => x + y)) := rfl
set_option maxRecDepth 20000 in
theorem lkL_law_401 (Y : xw_Y) : xw_lk (tbL_law Y) 401 = some (tr_ist 403 9) := rfl
set_option maxRecDepth 20000 in
theorem lkL_law_403 (Y : xw_Y) : xw_lk (tbL_law Y) 403 = some (tr_ald 404 1) := rfl
set_option maxRecDepth 20000 in
theorem lkL_law_404 (Y : xw_Y) : xw_lk (tbL_law Y) 404 = some (tr_ild 406 7) := rfl
set_option maxRecDepth 20000 in
theorem lkL_law_406 (Y : xw_Y) : xw_lk (tbL_law Y) 406 = some (tr_ild 408 9) := rfl
set_option maxRecDepth 20000 in
theorem lkL_law_408 (Y : xw_Y) : xw_lk (tbL_law Y) 408 = some (tr_callV 411 2 4 (ptX3_winnerIn Y) 0 0 608221 7276804) := rfl
set_option maxRecDepth 20000 in
theorem lkL_law_411 (Y : xw_Y) : xw_lk (tbL_law Y) 411 = some (tr_ist 413 10) := rfl
set_option maxRecDepth 20000 in
theorem lkL_law_413 (Y : xw_Y) : xw_lk (tbL_law Y) 413 = some (tr_ald 414 1) := rfl
set_option maxRecDepth 20000 in
theorem lkL_law_414 (Y : xw_Y) : xw_lk (tbL_law Y) 414 = some (tr_push 416 (.int 7)) := rfl
set_option maxRecDepth 20000 in
theorem lkL_law_416 (Y : xw_Y) : xw_lk (tbL_law Y) 416 = some (tr_callV 419 1 4 (ptX3_many Y) 0 0 608221 7276804) := rfl
set_option maxRecDepth 20000 in
theorem lkL_law_419 (Y : xw_Y) : xw_lk (tbL_law Y) 419 = some (tr_ist 421 11) := rfl
set_option maxRecDepth 20000 in
theorem lkL_law_421 (Y : xw_Y) : xw_lk (tbL_law Y) 421 = some (tr_ald 422 1) := rfl
set_option maxRecDepth 20000 in
theorem lkL_law_422 (Y : xw_Y) : xw_lk (tbL_law Y) 422 = some (tr_ild 424 9) := rfl
set_option maxRecDepth 20000 in
theorem lkL_law_424 (Y : xw_Y) : xw_lk (tbL_law Y) 424 = some (tr_callV 427 1 4 (ptX3_pass Y) 0 0 608221 7276804) := rfl
set_option maxRecDepth 20000 in
theorem lkL_law_427 (Y : xw_Y) : xw_lk (tbL_law Y) 427 = some (tr_ild 429 10) := rfl
set_option maxRecDepth 20000 in
theorem lkL_law_429 (Y : xw_Y) : xw_lk (tbL_law Y) 429 = some (tr_ifz 432 436 (fun x => 0 ≤ x)) := rfl
set_option maxRecDepth 20000 in
theorem lkL_law_432 (Y : xw_Y) : xw_lk (tbL_law Y) 432 = some (tr_push 433 (.int 0)) := rfl
set_option maxRecDepth 20000 in
theorem lkL_law_433 (Y : xw_Y) : xw_lk (tbL_law Y) 433 = some (tr_goto 437) := rfl
set_option maxRecDepth 20000 in
theorem lkL_law_436 (Y : xw_Y) : xw_lk (tbL_law Y) 436 = some (tr_push 437 (.int 1)) := rfl
set_option maxRecDepth 20000 in
theorem lkL_law_437 (Y : xw_Y) : xw_lk (tbL_law Y) 437 = some (tr_ifc 440 466 (fun x y => x < y)) := rfl
set_option maxRecDepth 20000 in
theorem lkL_law_440 (Y : xw_Y) : xw_lk (tbL_law Y) 440 = some (tr_ald 441 1) := rfl
set_option maxRecDepth 20000 in
theorem lkL_law_441 (Y : xw_Y) : xw_lk (tbL_law Y) 441 = some (tr_ild 443 8) := rfl
set_option maxRecDepth 20000 in
theorem lkL_law_443 (Y : xw_Y) : xw_lk (tbL_law Y) 443 = some (tr_push 444 (.int 5)) := rfl
set_option maxRecDepth 20000 in
theorem lkL_law_444 (Y : xw_Y) : xw_lk (tbL_law Y) 444 = some (tr_callV 447 2 4 (ptX3_ofBout Y) 0 0 608221 7276804) := rfl
set_option maxRecDepth 20000 in
theorem lkL_law_447 (Y : xw_Y) : xw_lk (tbL_law Y) 447 = some (tr_ild 449 10) := rfl
set_option maxRecDepth 20000 in
theorem lkL_law_449 (Y : xw_Y) : xw_lk (tbL_law Y) 449 = some (tr_ifc 452 466 (fun x y => ¬ x = y)) := rfl
set_option maxRecDepth 20000 in
theorem lkL_law_452 (Y : xw_Y) : xw_lk (tbL_law Y) 452 = some (tr_ald 453 1) := rfl
set_option maxRecDepth 20000 in
theorem lkL_law_453 (Y : xw_Y) : xw_lk (tbL_law Y) 453 = some (tr_push 455 (.int 7)) := rfl
set_option maxRecDepth 20000 in
theorem lkL_law_455 (Y : xw_Y) : xw_lk (tbL_law Y) 455 = some (tr_callV 458 1 4 (ptX3_many Y) 0 0 608221 7276804) := rfl
set_option maxRecDepth 20000 in
theorem lkL_law_458 (Y : xw_Y) : xw_lk (tbL_law Y) 458 = some (tr_ild 460 11) := rfl
set_option maxRecDepth 20000 in
theorem lkL_law_460 (Y : xw_Y) : xw_lk (tbL_law Y) 460 = some (tr_ild 462 9) := rfl
set_option maxRecDepth 20000 in
theorem lkL_law_462 (Y : xw_Y) : xw_lk (tbL_law Y) 462 = some (tr_i2 463 (fun x y => x + y)) := rfl
set_option maxRecDepth 20000 in
theorem lkL_law_463 (Y : xw_Y) : xw_lk (tbL_law Y) 463 = some (tr_ifc 466 468 (fun x y => x = y)) := rfl
set_option maxRecDepth 20000 in
theorem lkL_law_466 (Y : xw_Y) : xw_lk (tbL_law Y) 466 = some (tr_push 467 (.int 0)) := rfl
set_option maxRecDepth 20000 in
theorem lkL_law_467 (Y : xw_Y) : xw_lk (tbL_law Y) 467 = some (tr_iret .boolean) := rfl
set_option maxRecDepth 20000 in
theorem lkL_law_468 (Y : xw_Y) : xw_lk (tbL_law Y) 468 = some (tr_goto 590) := rfl
set_option maxRecDepth 20000 in
theorem lkL_law_471 (Y : xw_Y) : xw_lk (tbL_law Y) 471 = some (tr_ild 473 6) := rfl
set_option maxRecDepth 20000 in
theorem lkL_law_473 (Y : xw_Y) : xw_lk (tbL_law Y) 473 = some (tr_push 475 (.int 6)) := rfl
set_option maxRecDepth 20000 in
theorem lkL_law_475 (Y : xw_Y) : xw_lk (tbL_law Y) 475 = some (tr_i2 476 (fun x y => x >>> (y &&& 31))) := rfl
set_option maxRecDepth 20000 in
theorem lkL_law_476 (Y : xw_Y) : xw_lk (tbL_law Y) 476 = some (tr_push 478 (.int 12)) := rfl
set_option maxRecDepth 20000 in
theorem lkL_law_478 (Y : xw_Y) : xw_lk (tbL_law Y) 478 = some (tr_callS 481 2 (ptL_below Y) 0 0 608221 7276804) := rfl
set_option maxRecDepth 20000 in
theorem lkL_law_481 (Y : xw_Y) : xw_lk (tbL_law Y) 481 = some (tr_ifz 484 488 (fun x => ¬ x = 0)) := rfl
set_option maxRecDepth 20000 in
theorem lkL_law_484 (Y : xw_Y) : xw_lk (tbL_law Y) 484 = some (tr_push 485 (.int 2)) := rfl
set_option maxRecDepth 20000 in
theorem lkL_law_485 (Y : xw_Y) : xw_lk (tbL_law Y) 485 = some (tr_goto 496) := rfl
set_option maxRecDepth 20000 in
theorem lkL_law_488 (Y : xw_Y) : xw_lk (tbL_law Y) 488 = some (tr_ild 490 6) := rfl
set_option maxRecDepth 20000 in
theorem lkL_law_490 (Y : xw_Y) : xw_lk (tbL_law Y) 490 = some (tr_push 491 (.int 5)) := rfl
set_option maxRecDepth 20000 in
theorem lkL_law_491 (Y : xw_Y) : xw_lk (tbL_law Y) 491 = some (tr_i2 492 (fun x y => x >>> (y &&& 31))) := rfl
set_option maxRecDepth 20000 in
theorem lkL_law_492 (Y : xw_Y) : xw_lk (tbL_law Y) 492 = some (tr_push 493 (.int 2)) := rfl
set_option maxRecDepth 20000 in
theorem lkL_law_493 (Y : xw_Y) : xw_lk (tbL_law Y) 493 = some (tr_callS 496 2 (ptL_below Y) 0 0 608221 7276804) := rfl
set_option maxRecDepth 20000 in
theorem lkL_law_496 (Y : xw_Y) : xw_lk (tbL_law Y) 496 = some (tr_ist 498 9) := rfl
set_option maxRecDepth 20000 in
theorem lkL_law_498 (Y : xw_Y) : xw_lk (tbL_law Y) 498 = some (tr_ild 500 6) := rfl
set_option maxRecDepth 20000 in
theorem lkL_law_500 (Y : xw_Y) : xw_lk (tbL_law Y) 500 = some (tr_push 502 (.int 8)) := rfl
set_option maxRecDepth 20000 in
theorem lkL_law_502 (Y : xw_Y) : xw_lk (tbL_law Y) 502 = some (tr_i2 503 (fun x y => x >>> (y &&& 31))) := rfl
set_option maxRecDepth 20000 in
theorem lkL_law_503 (Y : xw_Y) : xw_lk (tbL_law Y) 503 = some (tr_push 504 (.int 2)) := rfl
set_option maxRecDepth 20000 in
theorem lkL_law_504 (Y : xw_Y) : xw_lk (tbL_law Y) 504 = some (tr_callS 507 2 (ptL_below Y) 0 0 608221 7276804) := rfl
set_option maxRecDepth 20000 in
theorem lkL_law_507 (Y : xw_Y) : xw_lk (tbL_law Y) 507 = some (tr_ist 509 10) := rfl
set_option maxRecDepth 20000 in
theorem lkL_law_509 (Y : xw_Y) : xw_lk (tbL_law Y) 509 = some (tr_ald 510 1) := rfl
set_option maxRecDepth 20000 in
theorem lkL_law_510 (Y : xw_Y) : xw_lk (tbL_law Y) 510 = some (tr_ild 512 8) := rfl
set_option maxRecDepth 20000 in
theorem lkL_law_512 (Y : xw_Y) : xw_lk (tbL_law Y) 512 = some (tr_push 513 (.int 1)) := rfl
set_option maxRecDepth 20000 in
theorem lkL_law_513 (Y : xw_Y) : xw_lk (tbL_law Y) 513 = some (tr_ild 515 10) := rfl
set_option maxRecDepth 20000 in
theorem lkL_law_515 (Y : xw_Y) : xw_lk (tbL_law Y) 515 = some (tr_i2 516 (fun x y => x + y)) := rfl
set_option maxRecDepth 20000 in
theorem lkL_law_516 (Y : xw_Y) : xw_lk (tbL_law Y) 516 = some (tr_callV 519 2 4 (ptX3_ofBout Y) 0 0 608221 7276804) := rfl
set_option maxRecDepth 20000 in
theorem lkL_law_519 (Y : xw_Y) : xw_lk (tbL_law Y) 519 = some (tr_ist 521 11) := rfl
set_option maxRecDepth 20000 in
theorem lkL_law_521 (Y : xw_Y) : xw_lk (tbL_law Y) 521 = some (tr_ald 522 1) := rfl
set_option maxRecDepth 20000 in
theorem lkL_law_522 (Y : xw_Y) : xw_lk (tbL_law Y) 522 = some (tr_ild 524 7) := rfl
set_option maxRecDepth 20000 in
theorem lkL_law_524 (Y : xw_Y) : xw_lk (tbL_law Y) 524 = some (tr_ild 526 10) := rfl
set_option maxRecDepth 20000 in
theorem lkL_law_526 (Y : xw_Y) : xw_lk (tbL_law Y) 526 = some (tr_ild 528 9) := rfl
set_option maxRecDepth 20000 in
theorem lkL_law_528 (Y : xw_Y) : xw_lk (tbL_law Y) 528 = some (tr_callV 531 3 4 (ptX3_card Y) 0 0 608221 7276804) := rfl
set_option maxRecDepth 20000 in
theorem lkL_law_531 (Y : xw_Y) : xw_lk (tbL_law Y) 531 = some (tr_ist 533 12) := rfl
set_option maxRecDepth 20000 in
theorem lkL_law_533 (Y : xw_Y) : xw_lk (tbL_law Y) 533 = some (tr_ild 535 12) := rfl
set_option maxRecDepth 20000 in
theorem lkL_law_535 (Y : xw_Y) : xw_lk (tbL_law Y) 535 = some (tr_ild 537 9) := rfl
set_option maxRecDepth 20000 in
theorem lkL_law_537 (Y : xw_Y) : xw_lk (tbL_law Y) 537 = some (tr_ifc 540 588 (fun x y => x < y)) := rfl
set_option maxRecDepth 20000 in
theorem lkL_law_540 (Y : xw_Y) : xw_lk (tbL_law Y) 540 = some (tr_ild 542 12) := rfl
set_option maxRecDepth 20000 in
theorem lkL_law_542 (Y : xw_Y) : xw_lk (tbL_law Y) 542 = some (tr_push 543 (.int 2)) := rfl
set_option maxRecDepth 20000 in
theorem lkL_law_543 (Y : xw_Y) : xw_lk (tbL_law Y) 543 = some (tr_ifc 546 550 (fun x y => ¬ x = y)) := rfl
set_option maxRecDepth 20000 in
theorem lkL_law_546 (Y : xw_Y) : xw_lk (tbL_law Y) 546 = some (tr_push 547 (.int 1)) := rfl
set_option maxRecDepth 20000 in
theorem lkL_law_547 (Y : xw_Y) : xw_lk (tbL_law Y) 547 = some (tr_goto 551) := rfl
set_option maxRecDepth 20000 in
theorem lkL_law_550 (Y : xw_Y) : xw_lk (tbL_law Y) 550 = some (tr_push 551 (.int 0)) := rfl
set_option maxRecDepth 20000 in
theorem lkL_law_551 (Y : xw_Y) : xw_lk (tbL_law Y) 551 = some (tr_ald 552 1) := rfl
set_option maxRecDepth 20000 in
theorem lkL_law_552 (Y : xw_Y) : xw_lk (tbL_law Y) 552 = some (tr_ild 554 11) := rfl
set_option maxRecDepth 20000 in
theorem lkL_law_554 (Y : xw_Y) : xw_lk (tbL_law Y) 554 = some (tr_push 555 (.int 4)) := rfl
set_option maxRecDepth 20000 in
theorem lkL_law_555 (Y : xw_Y) : xw_lk (tbL_law Y) 555 = some (tr_callV 558 2 4 (ptX3_of Y) 0 0 608221 7276804) := rfl
set_option maxRecDepth 20000 in
theorem lkL_law_558 (Y : xw_Y) : xw_lk (tbL_law Y) 558 = some (tr_push 559 (.int 1)) := rfl
set_option maxRecDepth 20000 in
theorem lkL_law_559 (Y : xw_Y) : xw_lk (tbL_law Y) 559 = some (tr_ifc 562 566 (fun x y => ¬ x = y)) := rfl
set_option maxRecDepth 20000 in
theorem lkL_law_562 (Y : xw_Y) : xw_lk (tbL_law Y) 562 = some (tr_push 563 (.int 1)) := rfl
set_option maxRecDepth 20000 in
theorem lkL_law_563 (Y : xw_Y) : xw_lk (tbL_law Y) 563 = some (tr_goto 567) := rfl
set_option maxRecDepth 20000 in
theorem lkL_law_566 (Y : xw_Y) : xw_lk (tbL_law Y) 566 = some (tr_push 567 (.int 0)) := rfl
set_option maxRecDepth 20000 in
theorem lkL_law_567 (Y : xw_Y) : xw_lk (tbL_law Y) 567 = some (tr_ifc 570 588 (fun x y => ¬ x = y)) := rfl
set_option maxRecDepth 20000 in
theorem lkL_law_570 (Y : xw_Y) : xw_lk (tbL_law Y) 570 = some (tr_ald 571 1) := rfl
set_option maxRecDepth 20000 in
theorem lkL_law_571 (Y : xw_Y) : xw_lk (tbL_law Y) 571 = some (tr_ild 573 8) := rfl
set_option maxRecDepth 20000 in
theorem lkL_law_573 (Y : xw_Y) : xw_lk (tbL_law Y) 573 = some (tr_push 575 (.int 10)) := rfl
set_option maxRecDepth 20000 in
theorem lkL_law_575 (Y : xw_Y) : xw_lk (tbL_law Y) 575 = some (tr_ild 577 10) := rfl
set_option maxRecDepth 20000 in
theorem lkL_law_577 (Y : xw_Y) : xw_lk (tbL_law Y) 577 = some (tr_i2 578 (fun x y => x + y)) := rfl
set_option maxRecDepth 20000 in
theorem lkL_law_578 (Y : xw_Y) : xw_lk (tbL_law Y) 578 = some (tr_callV 581 2 4 (ptX3_ofBout Y) 0 0 608221 7276804) := rfl
set_option maxRecDepth 20000 in
theorem lkL_law_581 (Y : xw_Y) : xw_lk (tbL_law Y) 581 = some (tr_ild 583 12) := rfl
set_option maxRecDepth 20000 in
theorem lkL_law_583 (Y : xw_Y) : xw_lk (tbL_law Y) 583 = some (tr_push 584 (.int 1)) := rfl
set_option maxRecDepth 20000 in
theorem lkL_law_584 (Y : xw_Y) : xw_lk (tbL_law Y) 584 = some (tr_i2 585 (fun x y => x + y)) := rfl
set_option maxRecDepth 20000 in
theorem lkL_law_585 (Y : xw_Y) : xw_lk (tbL_law Y) 585 = some (tr_ifc 588 590 (fun x y => y ≤ x)) := rfl
set_option maxRecDepth 20000 in
theorem lkL_law_588 (Y : xw_Y) : xw_lk (tbL_law Y) 588 = some (tr_push 589 (.int 0)) := rfl
set_option maxRecDepth 20000 in
theorem lkL_law_589 (Y : xw_Y) : xw_lk (tbL_law Y) 589 = some (tr_iret .boolean) := rfl
set_option maxRecDepth 20000 in
theorem lkL_law_590 (Y : xw_Y) : xw_lk (tbL_law Y) 590 = some (tr_ild 592 5) := rfl
set_option maxRecDepth 20000 in
theorem lkL_law_592 (Y : xw_Y) : xw_lk (tbL_law Y) 592 = some (tr_push 593 (.int 5)) := rfl
set_option maxRecDepth 20000 in
theorem lkL_law_593 (Y : xw_Y) : xw_lk (tbL_law Y) 593 = some (tr_i2z 594 (fun x y => x - x / y * y)) := rfl
set_option maxRecDepth 20000 in
theorem lkL_law_594 (Y : xw_Y) : xw_lk (tbL_law Y) 594 = some (tr_ifz 597 609 (fun x => ¬ x = 0)) := rfl
set_option maxRecDepth 20000 in
theorem lkL_law_597 (Y : xw_Y) : xw_lk (tbL_law Y) 597 = some (tr_ald 598 1) := rfl
set_option maxRecDepth 20000 in
theorem lkL_law_598 (Y : xw_Y) : xw_lk (tbL_law Y) 598 = some (tr_ild 599 3) := rfl
set_option maxRecDepth 20000 in
theorem lkL_law_599 (Y : xw_Y) : xw_lk (tbL_law Y) 599 = some (tr_ild 601 4) := rfl
set_option maxRecDepth 20000 in
theorem lkL_law_601 (Y : xw_Y) : xw_lk (tbL_law Y) 601 = some (tr_callS 604 3 (ptL_isFair Y) 1 8 608221 7276804) := rfl
set_option maxRecDepth 20000 in
theorem lkL_law_604 (Y : xw_Y) : xw_lk (tbL_law Y) 604 = some (tr_ifz 607 609 (fun x => ¬ x = 0)) := rfl
set_option maxRecDepth 20000 in
theorem lkL_law_607 (Y : xw_Y) : xw_lk (tbL_law Y) 607 = some (tr_push 608 (.int 0)) := rfl
set_option maxRecDepth 20000 in
theorem lkL_law_608 (Y : xw_Y) : xw_lk (tbL_law Y) 608 = some (tr_iret .boolean) := rfl
set_option maxRecDepth 20000 in
theorem lkL_law_609 (Y : xw_Y) : xw_lk (tbL_law Y) 609 = some (tr_inc 612 5 1) := rfl
set_option maxRecDepth 20000 in
theorem lkL_law_612 (Y : xw_Y) : xw_lk (tbL_law Y) 612 = some (tr_goto 93) := rfl
set_option maxRecDepth 20000 in
theorem lkL_law_615 (Y : xw_Y) : xw_lk (tbL_law Y) 615 = some (tr_ald 616 1) := rfl
set_option maxRecDepth 20000 in
theorem lkL_law_616 (Y : xw_Y) : xw_lk (tbL_law Y) 616 = some (tr_callV 619 0 4 (ptX3_digest Y) 0 0 608221 7276804) := rfl
set_option maxRecDepth 20000 in
theorem lkL_law_619 (Y : xw_Y) : xw_lk (tbL_law Y) 619 = some (tr_lst 621 5) := rfl
set_option maxRecDepth 20000 in
theorem lkL_law_621 (Y : xw_Y) : xw_lk (tbL_law Y) 621 = some (tr_ald 622 1) := rfl
set_option maxRecDepth 20000 in
theorem lkL_law_622 (Y : xw_Y) : xw_lk (tbL_law Y) 622 = some (tr_ild 623 3) := rfl
set_option maxRecDepth 20000 in
theorem lkL_law_623 (Y : xw_Y) : xw_lk (tbL_law Y) 623 = some (tr_ild 625 4) := rfl
set_option maxRecDepth 20000 in
theorem lkL_law_625 (Y : xw_Y) : xw_lk (tbL_law Y) 625 = some (tr_callS 628 3 (ptL_isFair Y) 1 8 608221 7276804) := rfl
set_option maxRecDepth 20000 in
theorem lkL_law_628 (Y : xw_Y) : xw_lk (tbL_law Y) 628 = some (tr_ifz 631 655 (fun x => x = 0)) := rfl
set_option maxRecDepth 20000 in
theorem lkL_law_631 (Y : xw_Y) : xw_lk (tbL_law Y) 631 = some (tr_ald 632 1) := rfl
set_option maxRecDepth 20000 in
theorem lkL_law_632 (Y : xw_Y) : xw_lk (tbL_law Y) 632 = some (tr_callV 635 0 4 (ptX3_digest Y) 0 0 608221 7276804) := rfl
set_option maxRecDepth 20000 in
theorem lkL_law_635 (Y : xw_Y) : xw_lk (tbL_law Y) 635 = some (tr_lld 637 5) := rfl
set_option maxRecDepth 20000 in
theorem lkL_law_637 (Y : xw_Y) : xw_lk (tbL_law Y) 637 = some (tr_lcmp 638) := rfl
set_option maxRecDepth 20000 in
theorem lkL_law_638 (Y : xw_Y) : xw_lk (tbL_law Y) 638 = some (tr_ifz 641 655 (fun x => ¬ x = 0)) := rfl
set_option maxRecDepth 20000 in
theorem lkL_law_641 (Y : xw_Y) : xw_lk (tbL_law Y) 641 = some (tr_ald 642 1) := rfl
set_option maxRecDepth 20000 in
theorem lkL_law_642 (Y : xw_Y) : xw_lk (tbL_law Y) 642 = some (tr_push 643 (.int 2)) := rfl
set_option maxRecDepth 20000 in
theorem lkL_law_643 (Y : xw_Y) : xw_lk (tbL_law Y) 643 = some (tr_callV 646 1 4 (ptX3_many Y) 0 0 608221 7276804) := rfl
set_option maxRecDepth 20000 in
theorem lkL_law_646 (Y : xw_Y) : xw_lk (tbL_law Y) 646 = some (tr_ild 648 4) := rfl
set_option maxRecDepth 20000 in
theorem lkL_law_648 (Y : xw_Y) : xw_lk (tbL_law Y) 648 = some (tr_ifc 651 655 (fun x y => x < y)) := rfl
set_option maxRecDepth 20000 in
theorem lkL_law_651 (Y : xw_Y) : xw_lk (tbL_law Y) 651 = some (tr_push 652 (.int 1)) := rfl
set_option maxRecDepth 20000 in
theorem lkL_law_652 (Y : xw_Y) : xw_lk (tbL_law Y) 652 = some (tr_goto 656) := rfl
set_option maxRecDepth 20000 in
theorem lkL_law_655 (Y : xw_Y) : xw_lk (tbL_law Y) 655 = some (tr_push 656 (.int 0)) := rfl
set_option maxRecDepth 20000 in
theorem lkL_law_656 (Y : xw_Y) : xw_lk (tbL_law Y) 656 = some (tr_iret .boolean) := rfl
end XL7
