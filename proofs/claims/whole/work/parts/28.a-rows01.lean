def tL_1 : List (Nat × Instr × Nat) := [(460, .iconst 0, 1), (461, .ireturn, 1), (462, .goto 1529, 3), (465, .aload_n 1, 1), (466, .aload_n 0, 1), (467, .iload 4, 2), (469, .iconst 1, 1), (470, .iadd, 1), (471, .iaload, 1), (472, .aload_n 0, 1), (473, .iload 4, 2), (475, .iconst 2, 1), (476, .iadd, 1), (477, .iaload, 1), (478, .aload_n 3, 1), (479, .invokestatic 142, 3), (482, .istore 5, 2), (484, .aload_n 2, 1), (485, .aload_n 0, 1), (486, .iload 4, 2), (488, .iconst 1, 1), (489, .iadd, 1), (490, .iaload, 1), (491, .aload_n 0, 1), (492, .iload 4, 2), (494, .iconst 2, 1), (495, .iadd, 1), (496, .iaload, 1), (497, .invokevirtual 145, 3), (500, .istore 6, 2), (502, .aload_n 2, 1), (503, .invokevirtual 118, 3), (506, .iload 5, 2), (508, .if_icmp .eq 5, 3), (511, .iconst 0, 1), (512, .ireturn, 1), (513, .iload 5, 2), (515, .ifCond .ne 15, 3), (518, .aload_n 3, 1), (519, .iconst 0, 1), (520, .laload, 1), (521, .iload 6, 2), (523, .i2l, 1), (524, .lcmp, 1), (525, .ifCond .eq 5, 3), (528, .iconst 0, 1), (529, .ireturn, 1), (530, .goto 1461, 3), (533, .aload_n 1, 1), (534, .aload_n 0, 1), (535, .iload 4, 2), (537, .iconst 1, 1), (538, .iadd, 1), (539, .iaload, 1), (540, .aload_n 0, 1), (541, .iload 4, 2), (543, .iconst 2, 1), (544, .iadd, 1), (545, .iaload, 1), (546, .aload_n 0, 1), (547, .iload 4, 2), (549, .iconst 3, 1), (550, .iadd, 1), (551, .iaload, 1), (552, .aload_n 3, 1), (553, .invokestatic 146, 3), (556, .istore 5, 2), (558, .aload_n 2, 1), (559, .aload_n 0, 1), (560, .iload 4, 2), (562, .iconst 1, 1), (563, .iadd, 1), (564, .iaload, 1), (565, .aload_n 0, 1), (566, .iload 4, 2), (568, .iconst 2, 1), (569, .iadd, 1), (570, .iaload, 1), (571, .aload_n 0, 1), (572, .iload 4, 2), (574, .iconst 3, 1), (575, .iadd, 1), (576, .iaload, 1), (577, .invokevirtual 149, 3), (580, .istore 6, 2), (582, .aload_n 2, 1), (583, .invokevirtual 118, 3), (586, .iload 5, 2), (588, .if_icmp .eq 5, 3), (591, .iconst 0, 1), (592, .ireturn, 1), (593, .iload 5, 2), (595, .ifCond .ne 15, 3), (598, .aload_n 3, 1), (599, .iconst 0, 1), (600, .laload, 1), (601, .iload 6, 2), (603, .i2l, 1), (604, .lcmp, 1), (605, .ifCond .eq 5, 3), (608, .iconst 0, 1), (609, .ireturn, 1), (610, .goto 1381, 3), (613, .aload_n 1, 1), (614, .aload_n 0, 1), (615, .iload 4, 2), (617, .iconst 1, 1), (618, .iadd, 1), (619, .iaload, 1), (620, .aload_n 0, 1), (621, .iload 4, 2), (623, .iconst 2, 1), (624, .iadd, 1), (625, .iaload, 1), (626, .aload_n 3, 1), (627, .invokestatic 150, 3), (630, .istore 5, 2), (632, .aload_n 2, 1), (633, .aload_n 0, 1), (634, .iload 4, 2), (636, .iconst 1, 1), (637, .iadd, 1), (638, .iaload, 1), (639, .aload_n 0, 1), (640, .iload 4, 2), (642, .iconst 2, 1), (643, .iadd, 1), (644, .iaload, 1), (645, .invokevirtual 152, 3), (648, .lstore 6, 2), (650, .aload_n 2, 1), (651, .invokevirtual 118, 3), (654, .iload 5, 2), (656, .if_icmp .eq 5, 3), (659, .iconst 0, 1), (660, .ireturn, 1), (661, .iload 5, 2), (663, .ifCond .ne 14, 3), (666, .aload_n 3, 1), (667, .iconst 0, 1), (668, .laload, 1), (669, .lload 6, 2), (671, .lcmp, 1), (672, .ifCond .eq 5, 3), (675, .iconst 0, 1), (676, .ireturn, 1), (677, .goto 1314, 3), (680, .aload_n 1, 1), (681, .aload_n 0, 1), (682, .iload 4, 2), (684, .iconst 1, 1), (685, .iadd, 1), (686, .iaload, 1), (687, .aload_n 3, 1), (688, .invokestatic 153, 3), (691, .istore 5, 2), (693, .aload_n 2, 1), (694, .aload_n 0, 1), (695, .iload 4, 2), (697, .iconst 1, 1), (698, .iadd, 1), (699, .iaload, 1), (700, .invokevirtual 155, 3), (703, .istore 6, 2), (705, .aload_n 2, 1), (706, .invokevirtual 118, 3), (709, .iload 5, 2), (711, .if_icmp .eq 5, 3), (714, .iconst 0, 1), (715, .ireturn, 1), (716, .iload 5, 2), (718, .ifCond .ne 15, 3), (721, .aload_n 3, 1), (722, .iconst 0, 1), (723, .laload, 1), (724, .iload 6, 2), (726, .i2l, 1), (727, .lcmp, 1), (728, .ifCond .eq 5, 3), (731, .iconst 0, 1), (732, .ireturn, 1), (733, .goto 1258, 3), (736, .aload_n 1, 1), (737, .aload_n 0, 1), (738, .iload 4, 2), (740, .iconst 1, 1), (741, .iadd, 1), (742, .iaload, 1), (743, .aload_n 0, 1), (744, .iload 4, 2), (746, .iconst 2, 1), (747, .iadd, 1), (748, .iaload, 1), (749, .ifCond .eq 7, 3), (752, .iconst 1, 1), (753, .goto 4, 3), (756, .iconst 0, 1), (757, .aload_n 3, 1), (758, .invokestatic 156, 3), (761, .istore 5, 2)]
set_option maxRecDepth 100000 in
theorem tL_1_ok : tL_1.all (fun q => decide (decode cL_law q.1 = .ok (q.2.1, q.2.2))) = true := by decide +kernel
set_option maxRecDepth 100000 in
theorem dL_law_460 : decode cL_law 460 = .ok (.iconst 0, 1) := of_decide_eq_true (List.all_eq_true.mp tL_1_ok (460, .iconst 0, 1) (List.mem_of_getElem? (i := 0) rfl))
set_option maxRecDepth 100000 in
theorem dL_law_461 : decode cL_law 461 = .ok (.ireturn, 1) := of_decide_eq_true (List.all_eq_true.mp tL_1_ok (461, .ireturn, 1) (List.mem_of_getElem? (i := 1) rfl))
set_option maxRecDepth 100000 in
theorem dL_law_462 : decode cL_law 462 = .ok (.goto 1529, 3) := of_decide_eq_true (List.all_eq_true.mp tL_1_ok (462, .goto 1529, 3) (List.mem_of_getElem? (i := 2) rfl))
set_option maxRecDepth 100000 in
theorem dL_law_465 : decode cL_law 465 = .ok (.aload_n 1, 1) := of_decide_eq_true (List.all_eq_true.mp tL_1_ok (465, .aload_n 1, 1) (List.mem_of_getElem? (i := 3) rfl))
set_option maxRecDepth 100000 in
theorem dL_law_466 : decode cL_law 466 = .ok (.aload_n 0, 1) := of_decide_eq_true (List.all_eq_true.mp tL_1_ok (466, .aload_n 0, 1) (List.mem_of_getElem? (i := 4) rfl))
set_option maxRecDepth 100000 in
theorem dL_law_467 : decode cL_law 467 = .ok (.iload 4, 2) := of_decide_eq_true (List.all_eq_true.mp tL_1_ok (467, .iload 4, 2) (List.mem_of_getElem? (i := 5) rfl))
set_option maxRecDepth 100000 in
theorem dL_law_469 : decode cL_law 469 = .ok (.iconst 1, 1) := of_decide_eq_true (List.all_eq_true.mp tL_1_ok (469, .iconst 1, 1) (List.mem_of_getElem? (i := 6) rfl))
set_option maxRecDepth 100000 in
theorem dL_law_470 : decode cL_law 470 = .ok (.iadd, 1) := of_decide_eq_true (List.all_eq_true.mp tL_1_ok (470, .iadd, 1) (List.mem_of_getElem? (i := 7) rfl))
set_option maxRecDepth 100000 in
theorem dL_law_471 : decode cL_law 471 = .ok (.iaload, 1) := of_decide_eq_true (List.all_eq_true.mp tL_1_ok (471, .iaload, 1) (List.mem_of_getElem? (i := 8) rfl))
set_option maxRecDepth 100000 in
theorem dL_law_472 : decode cL_law 472 = .ok (.aload_n 0, 1) := of_decide_eq_true (List.all_eq_true.mp tL_1_ok (472, .aload_n 0, 1) (List.mem_of_getElem? (i := 9) rfl))
set_option maxRecDepth 100000 in
theorem dL_law_473 : decode cL_law 473 = .ok (.iload 4, 2) := of_decide_eq_true (List.all_eq_true.mp tL_1_ok (473, .iload 4, 2) (List.mem_of_getElem? (i := 10) rfl))
set_option maxRecDepth 100000 in
theorem dL_law_475 : decode cL_law 475 = .ok (.iconst 2, 1) := of_decide_eq_true (List.all_eq_true.mp tL_1_ok (475, .iconst 2, 1) (List.mem_of_getElem? (i := 11) rfl))
set_option maxRecDepth 100000 in
theorem dL_law_476 : decode cL_law 476 = .ok (.iadd, 1) := of_decide_eq_true (List.all_eq_true.mp tL_1_ok (476, .iadd, 1) (List.mem_of_getElem? (i := 12) rfl))
set_option maxRecDepth 100000 in
theorem dL_law_477 : decode cL_law 477 = .ok (.iaload, 1) := of_decide_eq_true (List.all_eq_true.mp tL_1_ok (477, .iaload, 1) (List.mem_of_getElem? (i := 13) rfl))
set_option maxRecDepth 100000 in
theorem dL_law_478 : decode cL_law 478 = .ok (.aload_n 3, 1) := of_decide_eq_true (List.all_eq_true.mp tL_1_ok (478, .aload_n 3, 1) (List.mem_of_getElem? (i := 14) rfl))
set_option maxRecDepth 100000 in
theorem dL_law_479 : decode cL_law 479 = .ok (.invokestatic 142, 3) := of_decide_eq_true (List.all_eq_true.mp tL_1_ok (479, .invokestatic 142, 3) (List.mem_of_getElem? (i := 15) rfl))
set_option maxRecDepth 100000 in
theorem dL_law_482 : decode cL_law 482 = .ok (.istore 5, 2) := of_decide_eq_true (List.all_eq_true.mp tL_1_ok (482, .istore 5, 2) (List.mem_of_getElem? (i := 16) rfl))
set_option maxRecDepth 100000 in
theorem dL_law_484 : decode cL_law 484 = .ok (.aload_n 2, 1) := of_decide_eq_true (List.all_eq_true.mp tL_1_ok (484, .aload_n 2, 1) (List.mem_of_getElem? (i := 17) rfl))
set_option maxRecDepth 100000 in
theorem dL_law_485 : decode cL_law 485 = .ok (.aload_n 0, 1) := of_decide_eq_true (List.all_eq_true.mp tL_1_ok (485, .aload_n 0, 1) (List.mem_of_getElem? (i := 18) rfl))
set_option maxRecDepth 100000 in
theorem dL_law_486 : decode cL_law 486 = .ok (.iload 4, 2) := of_decide_eq_true (List.all_eq_true.mp tL_1_ok (486, .iload 4, 2) (List.mem_of_getElem? (i := 19) rfl))
set_option maxRecDepth 100000 in
theorem dL_law_488 : decode cL_law 488 = .ok (.iconst 1, 1) := of_decide_eq_true (List.all_eq_true.mp tL_1_ok (488, .iconst 1, 1) (List.mem_of_getElem? (i := 20) rfl))
set_option maxRecDepth 100000 in
theorem dL_law_489 : decode cL_law 489 = .ok (.iadd, 1) := of_decide_eq_true (List.all_eq_true.mp tL_1_ok (489, .iadd, 1) (List.mem_of_getElem? (i := 21) rfl))
set_option maxRecDepth 100000 in
theorem dL_law_490 : decode cL_law 490 = .ok (.iaload, 1) := of_decide_eq_true (List.all_eq_true.mp tL_1_ok (490, .iaload, 1) (List.mem_of_getElem? (i := 22) rfl))
set_option maxRecDepth 100000 in
theorem dL_law_491 : decode cL_law 491 = .ok (.aload_n 0, 1) := of_decide_eq_true (List.all_eq_true.mp tL_1_ok (491, .aload_n 0, 1) (List.mem_of_getElem? (i := 23) rfl))
set_option maxRecDepth 100000 in
theorem dL_law_492 : decode cL_law 492 = .ok (.iload 4, 2) := of_decide_eq_true (List.all_eq_true.mp tL_1_ok (492, .iload 4, 2) (List.mem_of_getElem? (i := 24) rfl))
set_option maxRecDepth 100000 in
theorem dL_law_494 : decode cL_law 494 = .ok (.iconst 2, 1) := of_decide_eq_true (List.all_eq_true.mp tL_1_ok (494, .iconst 2, 1) (List.mem_of_getElem? (i := 25) rfl))
set_option maxRecDepth 100000 in
theorem dL_law_495 : decode cL_law 495 = .ok (.iadd, 1) := of_decide_eq_true (List.all_eq_true.mp tL_1_ok (495, .iadd, 1) (List.mem_of_getElem? (i := 26) rfl))
set_option maxRecDepth 100000 in
theorem dL_law_496 : decode cL_law 496 = .ok (.iaload, 1) := of_decide_eq_true (List.all_eq_true.mp tL_1_ok (496, .iaload, 1) (List.mem_of_getElem? (i := 27) rfl))
set_option maxRecDepth 100000 in
theorem dL_law_497 : decode cL_law 497 = .ok (.invokevirtual 145, 3) := of_decide_eq_true (List.all_eq_true.mp tL_1_ok (497, .invokevirtual 145, 3) (List.mem_of_getElem? (i := 28) rfl))
set_option maxRecDepth 100000 in
theorem dL_law_500 : decode cL_law 500 = .ok (.istore 6, 2) := of_decide_eq_true (List.all_eq_true.mp tL_1_ok (500, .istore 6, 2) (List.mem_of_getElem? (i := 29) rfl))
set_option maxRecDepth 100000 in
theorem dL_law_502 : decode cL_law 502 = .ok (.aload_n 2, 1) := of_decide_eq_true (List.all_eq_true.mp tL_1_ok (502, .aload_n 2, 1) (List.mem_of_getElem? (i := 30) rfl))
set_option maxRecDepth 100000 in
theorem dL_law_503 : decode cL_law 503 = .ok (.invokevirtual 118, 3) := of_decide_eq_true (List.all_eq_true.mp tL_1_ok (503, .invokevirtual 118, 3) (List.mem_of_getElem? (i := 31) rfl))
set_option maxRecDepth 100000 in
theorem dL_law_506 : decode cL_law 506 = .ok (.iload 5, 2) := of_decide_eq_true (List.all_eq_true.mp tL_1_ok (506, .iload 5, 2) (List.mem_of_getElem? (i := 32) rfl))
set_option maxRecDepth 100000 in
theorem dL_law_508 : decode cL_law 508 = .ok (.if_icmp .eq 5, 3) := of_decide_eq_true (List.all_eq_true.mp tL_1_ok (508, .if_icmp .eq 5, 3) (List.mem_of_getElem? (i := 33) rfl))
set_option maxRecDepth 100000 in
theorem dL_law_511 : decode cL_law 511 = .ok (.iconst 0, 1) := of_decide_eq_true (List.all_eq_true.mp tL_1_ok (511, .iconst 0, 1) (List.mem_of_getElem? (i := 34) rfl))
set_option maxRecDepth 100000 in
theorem dL_law_512 : decode cL_law 512 = .ok (.ireturn, 1) := of_decide_eq_true (List.all_eq_true.mp tL_1_ok (512, .ireturn, 1) (List.mem_of_getElem? (i := 35) rfl))
set_option maxRecDepth 100000 in
theorem dL_law_513 : decode cL_law 513 = .ok (.iload 5, 2) := of_decide_eq_true (List.all_eq_true.mp tL_1_ok (513, .iload 5, 2) (List.mem_of_getElem? (i := 36) rfl))
set_option maxRecDepth 100000 in
theorem dL_law_515 : decode cL_law 515 = .ok (.ifCond .ne 15, 3) := of_decide_eq_true (List.all_eq_true.mp tL_1_ok (515, .ifCond .ne 15, 3) (List.mem_of_getElem? (i := 37) rfl))
set_option maxRecDepth 100000 in
theorem dL_law_518 : decode cL_law 518 = .ok (.aload_n 3, 1) := of_decide_eq_true (List.all_eq_true.mp tL_1_ok (518, .aload_n 3, 1) (List.mem_of_getElem? (i := 38) rfl))
set_option maxRecDepth 100000 in
theorem dL_law_519 : decode cL_law 519 = .ok (.iconst 0, 1) := of_decide_eq_true (List.all_eq_true.mp tL_1_ok (519, .iconst 0, 1) (List.mem_of_getElem? (i := 39) rfl))
set_option maxRecDepth 100000 in
theorem dL_law_520 : decode cL_law 520 = .ok (.laload, 1) := of_decide_eq_true (List.all_eq_true.mp tL_1_ok (520, .laload, 1) (List.mem_of_getElem? (i := 40) rfl))
set_option maxRecDepth 100000 in
theorem dL_law_521 : decode cL_law 521 = .ok (.iload 6, 2) := of_decide_eq_true (List.all_eq_true.mp tL_1_ok (521, .iload 6, 2) (List.mem_of_getElem? (i := 41) rfl))
set_option maxRecDepth 100000 in
theorem dL_law_523 : decode cL_law 523 = .ok (.i2l, 1) := of_decide_eq_true (List.all_eq_true.mp tL_1_ok (523, .i2l, 1) (List.mem_of_getElem? (i := 42) rfl))
set_option maxRecDepth 100000 in
theorem dL_law_524 : decode cL_law 524 = .ok (.lcmp, 1) := of_decide_eq_true (List.all_eq_true.mp tL_1_ok (524, .lcmp, 1) (List.mem_of_getElem? (i := 43) rfl))
set_option maxRecDepth 100000 in
theorem dL_law_525 : decode cL_law 525 = .ok (.ifCond .eq 5, 3) := of_decide_eq_true (List.all_eq_true.mp tL_1_ok (525, .ifCond .eq 5, 3) (List.mem_of_getElem? (i := 44) rfl))
set_option maxRecDepth 100000 in
theorem dL_law_528 : decode cL_law 528 = .ok (.iconst 0, 1) := of_decide_eq_true (List.all_eq_true.mp tL_1_ok (528, .iconst 0, 1) (List.mem_of_getElem? (i := 45) rfl))
set_option maxRecDepth 100000 in
theorem dL_law_529 : decode cL_law 529 = .ok (.ireturn, 1) := of_decide_eq_true (List.all_eq_true.mp tL_1_ok (529, .ireturn, 1) (List.mem_of_getElem? (i := 46) rfl))
set_option maxRecDepth 100000 in
theorem dL_law_530 : decode cL_law 530 = .ok (.goto 1461, 3) := of_decide_eq_true (List.all_eq_true.mp tL_1_ok (530, .goto 1461, 3) (List.mem_of_getElem? (i := 47) rfl))
set_option maxRecDepth 100000 in
theorem dL_law_533 : decode cL_law 533 = .ok (.aload_n 1, 1) := of_decide_eq_true (List.all_eq_true.mp tL_1_ok (533, .aload_n 1, 1) (List.mem_of_getElem? (i := 48) rfl))
set_option maxRecDepth 100000 in
theorem dL_law_534 : decode cL_law 534 = .ok (.aload_n 0, 1) := of_decide_eq_true (List.all_eq_true.mp tL_1_ok (534, .aload_n 0, 1) (List.mem_of_getElem? (i := 49) rfl))
set_option maxRecDepth 100000 in
theorem dL_law_535 : decode cL_law 535 = .ok (.iload 4, 2) := of_decide_eq_true (List.all_eq_true.mp tL_1_ok (535, .iload 4, 2) (List.mem_of_getElem? (i := 50) rfl))
set_option maxRecDepth 100000 in
theorem dL_law_537 : decode cL_law 537 = .ok (.iconst 1, 1) := of_decide_eq_true (List.all_eq_true.mp tL_1_ok (537, .iconst 1, 1) (List.mem_of_getElem? (i := 51) rfl))
set_option maxRecDepth 100000 in
theorem dL_law_538 : decode cL_law 538 = .ok (.iadd, 1) := of_decide_eq_true (List.all_eq_true.mp tL_1_ok (538, .iadd, 1) (List.mem_of_getElem? (i := 52) rfl))
set_option maxRecDepth 100000 in
theorem dL_law_539 : decode cL_law 539 = .ok (.iaload, 1) := of_decide_eq_true (List.all_eq_true.mp tL_1_ok (539, .iaload, 1) (List.mem_of_getElem? (i := 53) rfl))
set_option maxRecDepth 100000 in
theorem dL_law_540 : decode cL_law 540 = .ok (.aload_n 0, 1) := of_decide_eq_true (List.all_eq_true.mp tL_1_ok (540, .aload_n 0, 1) (List.mem_of_getElem? (i := 54) rfl))
set_option maxRecDepth 100000 in
theorem dL_law_541 : decode cL_law 541 = .ok (.iload 4, 2) := of_decide_eq_true (List.all_eq_true.mp tL_1_ok (541, .iload 4, 2) (List.mem_of_getElem? (i := 55) rfl))
set_option maxRecDepth 100000 in
theorem dL_law_543 : decode cL_law 543 = .ok (.iconst 2, 1) := of_decide_eq_true (List.all_eq_true.mp tL_1_ok (543, .iconst 2, 1) (List.mem_of_getElem? (i := 56) rfl))
set_option maxRecDepth 100000 in
theorem dL_law_544 : decode cL_law 544 = .ok (.iadd, 1) := of_decide_eq_true (List.all_eq_true.mp tL_1_ok (544, .iadd, 1) (List.mem_of_getElem? (i := 57) rfl))
set_option maxRecDepth 100000 in
theorem dL_law_545 : decode cL_law 545 = .ok (.iaload, 1) := of_decide_eq_true (List.all_eq_true.mp tL_1_ok (545, .iaload, 1) (List.mem_of_getElem? (i := 58) rfl))
set_option maxRecDepth 100000 in
theorem dL_law_546 : decode cL_law 546 = .ok (.aload_n 0, 1) := of_decide_eq_true (List.all_eq_true.mp tL_1_ok (546, .aload_n 0, 1) (List.mem_of_getElem? (i := 59) rfl))
set_option maxRecDepth 100000 in
theorem dL_law_547 : decode cL_law 547 = .ok (.iload 4, 2) := of_decide_eq_true (List.all_eq_true.mp tL_1_ok (547, .iload 4, 2) (List.mem_of_getElem? (i := 60) rfl))
set_option maxRecDepth 100000 in
theorem dL_law_549 : decode cL_law 549 = .ok (.iconst 3, 1) := of_decide_eq_true (List.all_eq_true.mp tL_1_ok (549, .iconst 3, 1) (List.mem_of_getElem? (i := 61) rfl))
set_option maxRecDepth 100000 in
theorem dL_law_550 : decode cL_law 550 = .ok (.iadd, 1) := of_decide_eq_true (List.all_eq_true.mp tL_1_ok (550, .iadd, 1) (List.mem_of_getElem? (i := 62) rfl))
set_option maxRecDepth 100000 in
theorem dL_law_551 : decode cL_law 551 = .ok (.iaload, 1) := of_decide_eq_true (List.all_eq_true.mp tL_1_ok (551, .iaload, 1) (List.mem_of_getElem? (i := 63) rfl))
set_option maxRecDepth 100000 in
theorem dL_law_552 : decode cL_law 552 = .ok (.aload_n 3, 1) := of_decide_eq_true (List.all_eq_true.mp tL_1_ok (552, .aload_n 3, 1) (List.mem_of_getElem? (i := 64) rfl))
set_option maxRecDepth 100000 in
theorem dL_law_553 : decode cL_law 553 = .ok (.invokestatic 146, 3) := of_decide_eq_true (List.all_eq_true.mp tL_1_ok (553, .invokestatic 146, 3) (List.mem_of_getElem? (i := 65) rfl))
set_option maxRecDepth 100000 in
theorem dL_law_556 : decode cL_law 556 = .ok (.istore 5, 2) := of_decide_eq_true (List.all_eq_true.mp tL_1_ok (556, .istore 5, 2) (List.mem_of_getElem? (i := 66) rfl))
set_option maxRecDepth 100000 in
theorem dL_law_558 : decode cL_law 558 = .ok (.aload_n 2, 1) := of_decide_eq_true (List.all_eq_true.mp tL_1_ok (558, .aload_n 2, 1) (List.mem_of_getElem? (i := 67) rfl))
set_option maxRecDepth 100000 in
theorem dL_law_559 : decode cL_law 559 = .ok (.aload_n 0, 1) := of_decide_eq_true (List.all_eq_true.mp tL_1_ok (559, .aload_n 0, 1) (List.mem_of_getElem? (i := 68) rfl))
set_option maxRecDepth 100000 in
theorem dL_law_560 : decode cL_law 560 = .ok (.iload 4, 2) := of_decide_eq_true (List.all_eq_true.mp tL_1_ok (560, .iload 4, 2) (List.mem_of_getElem? (i := 69) rfl))
set_option maxRecDepth 100000 in
theorem dL_law_562 : decode cL_law 562 = .ok (.iconst 1, 1) := of_decide_eq_true (List.all_eq_true.mp tL_1_ok (562, .iconst 1, 1) (List.mem_of_getElem? (i := 70) rfl))
set_option maxRecDepth 100000 in
theorem dL_law_563 : decode cL_law 563 = .ok (.iadd, 1) := of_decide_eq_true (List.all_eq_true.mp tL_1_ok (563, .iadd, 1) (List.mem_of_getElem? (i := 71) rfl))
set_option maxRecDepth 100000 in
theorem dL_law_564 : decode cL_law 564 = .ok (.iaload, 1) := of_decide_eq_true (List.all_eq_true.mp tL_1_ok (564, .iaload, 1) (List.mem_of_getElem? (i := 72) rfl))
set_option maxRecDepth 100000 in
theorem dL_law_565 : decode cL_law 565 = .ok (.aload_n 0, 1) := of_decide_eq_true (List.all_eq_true.mp tL_1_ok (565, .aload_n 0, 1) (List.mem_of_getElem? (i := 73) rfl))
set_option maxRecDepth 100000 in
theorem dL_law_566 : decode cL_law 566 = .ok (.iload 4, 2) := of_decide_eq_true (List.all_eq_true.mp tL_1_ok (566, .iload 4, 2) (List.mem_of_getElem? (i := 74) rfl))
set_option maxRecDepth 100000 in
theorem dL_law_568 : decode cL_law 568 = .ok (.iconst 2, 1) := of_decide_eq_true (List.all_eq_true.mp tL_1_ok (568, .iconst 2, 1) (List.mem_of_getElem? (i := 75) rfl))
set_option maxRecDepth 100000 in
theorem dL_law_569 : decode cL_law 569 = .ok (.iadd, 1) := of_decide_eq_true (List.all_eq_true.mp tL_1_ok (569, .iadd, 1) (List.mem_of_getElem? (i := 76) rfl))
set_option maxRecDepth 100000 in
theorem dL_law_570 : decode cL_law 570 = .ok (.iaload, 1) := of_decide_eq_true (List.all_eq_true.mp tL_1_ok (570, .iaload, 1) (List.mem_of_getElem? (i := 77) rfl))
set_option maxRecDepth 100000 in
theorem dL_law_571 : decode cL_law 571 = .ok (.aload_n 0, 1) := of_decide_eq_true (List.all_eq_true.mp tL_1_ok (571, .aload_n 0, 1) (List.mem_of_getElem? (i := 78) rfl))
set_option maxRecDepth 100000 in
theorem dL_law_572 : decode cL_law 572 = .ok (.iload 4, 2) := of_decide_eq_true (List.all_eq_true.mp tL_1_ok (572, .iload 4, 2) (List.mem_of_getElem? (i := 79) rfl))
set_option maxRecDepth 100000 in
theorem dL_law_574 : decode cL_law 574 = .ok (.iconst 3, 1) := of_decide_eq_true (List.all_eq_true.mp tL_1_ok (574, .iconst 3, 1) (List.mem_of_getElem? (i := 80) rfl))
set_option maxRecDepth 100000 in
theorem dL_law_575 : decode cL_law 575 = .ok (.iadd, 1) := of_decide_eq_true (List.all_eq_true.mp tL_1_ok (575, .iadd, 1) (List.mem_of_getElem? (i := 81) rfl))
set_option maxRecDepth 100000 in
theorem dL_law_576 : decode cL_law 576 = .ok (.iaload, 1) := of_decide_eq_true (List.all_eq_true.mp tL_1_ok (576, .iaload, 1) (List.mem_of_getElem? (i := 82) rfl))
set_option maxRecDepth 100000 in
theorem dL_law_577 : decode cL_law 577 = .ok (.invokevirtual 149, 3) := of_decide_eq_true (List.all_eq_true.mp tL_1_ok (577, .invokevirtual 149, 3) (List.mem_of_getElem? (i := 83) rfl))
set_option maxRecDepth 100000 in
theorem dL_law_580 : decode cL_law 580 = .ok (.istore 6, 2) := of_decide_eq_true (List.all_eq_true.mp tL_1_ok (580, .istore 6, 2) (List.mem_of_getElem? (i := 84) rfl))
set_option maxRecDepth 100000 in
theorem dL_law_582 : decode cL_law 582 = .ok (.aload_n 2, 1) := of_decide_eq_true (List.all_eq_true.mp tL_1_ok (582, .aload_n 2, 1) (List.mem_of_getElem? (i := 85) rfl))
set_option maxRecDepth 100000 in
theorem dL_law_583 : decode cL_law 583 = .ok (.invokevirtual 118, 3) := of_decide_eq_true (List.all_eq_true.mp tL_1_ok (583, .invokevirtual 118, 3) (List.mem_of_getElem? (i := 86) rfl))
set_option maxRecDepth 100000 in
theorem dL_law_586 : decode cL_law 586 = .ok (.iload 5, 2) := of_decide_eq_true (List.all_eq_true.mp tL_1_ok (586, .iload 5, 2) (List.mem_of_getElem? (i := 87) rfl))
set_option maxRecDepth 100000 in
theorem dL_law_588 : decode cL_law 588 = .ok (.if_icmp .eq 5, 3) := of_decide_eq_true (List.all_eq_true.mp tL_1_ok (588, .if_icmp .eq 5, 3) (List.mem_of_getElem? (i := 88) rfl))
set_option maxRecDepth 100000 in
theorem dL_law_591 : decode cL_law 591 = .ok (.iconst 0, 1) := of_decide_eq_true (List.all_eq_true.mp tL_1_ok (591, .iconst 0, 1) (List.mem_of_getElem? (i := 89) rfl))
set_option maxRecDepth 100000 in
theorem dL_law_592 : decode cL_law 592 = .ok (.ireturn, 1) := of_decide_eq_true (List.all_eq_true.mp tL_1_ok (592, .ireturn, 1) (List.mem_of_getElem? (i := 90) rfl))
set_option maxRecDepth 100000 in
theorem dL_law_593 : decode cL_law 593 = .ok (.iload 5, 2) := of_decide_eq_true (List.all_eq_true.mp tL_1_ok (593, .iload 5, 2) (List.mem_of_getElem? (i := 91) rfl))
set_option maxRecDepth 100000 in
theorem dL_law_595 : decode cL_law 595 = .ok (.ifCond .ne 15, 3) := of_decide_eq_true (List.all_eq_true.mp tL_1_ok (595, .ifCond .ne 15, 3) (List.mem_of_getElem? (i := 92) rfl))
set_option maxRecDepth 100000 in
theorem dL_law_598 : decode cL_law 598 = .ok (.aload_n 3, 1) := of_decide_eq_true (List.all_eq_true.mp tL_1_ok (598, .aload_n 3, 1) (List.mem_of_getElem? (i := 93) rfl))
set_option maxRecDepth 100000 in
theorem dL_law_599 : decode cL_law 599 = .ok (.iconst 0, 1) := of_decide_eq_true (List.all_eq_true.mp tL_1_ok (599, .iconst 0, 1) (List.mem_of_getElem? (i := 94) rfl))
set_option maxRecDepth 100000 in
theorem dL_law_600 : decode cL_law 600 = .ok (.laload, 1) := of_decide_eq_true (List.all_eq_true.mp tL_1_ok (600, .laload, 1) (List.mem_of_getElem? (i := 95) rfl))
set_option maxRecDepth 100000 in
theorem dL_law_601 : decode cL_law 601 = .ok (.iload 6, 2) := of_decide_eq_true (List.all_eq_true.mp tL_1_ok (601, .iload 6, 2) (List.mem_of_getElem? (i := 96) rfl))
set_option maxRecDepth 100000 in
theorem dL_law_603 : decode cL_law 603 = .ok (.i2l, 1) := of_decide_eq_true (List.all_eq_true.mp tL_1_ok (603, .i2l, 1) (List.mem_of_getElem? (i := 97) rfl))
set_option maxRecDepth 100000 in
theorem dL_law_604 : decode cL_law 604 = .ok (.lcmp, 1) := of_decide_eq_true (List.all_eq_true.mp tL_1_ok (604, .lcmp, 1) (List.mem_of_getElem? (i := 98) rfl))
set_option maxRecDepth 100000 in
theorem dL_law_605 : decode cL_law 605 = .ok (.ifCond .eq 5, 3) := of_decide_eq_true (List.all_eq_true.mp tL_1_ok (605, .ifCond .eq 5, 3) (List.mem_of_getElem? (i := 99) rfl))
set_option maxRecDepth 100000 in
theorem dL_law_608 : decode cL_law 608 = .ok (.iconst 0, 1) := of_decide_eq_true (List.all_eq_true.mp tL_1_ok (608, .iconst 0, 1) (List.mem_of_getElem? (i := 100) rfl))
set_option maxRecDepth 100000 in
theorem dL_law_609 : decode cL_law 609 = .ok (.ireturn, 1) := of_decide_eq_true (List.all_eq_true.mp tL_1_ok (609, .ireturn, 1) (List.mem_of_getElem? (i := 101) rfl))
set_option maxRecDepth 100000 in
theorem dL_law_610 : decode cL_law 610 = .ok (.goto 1381, 3) := of_decide_eq_true (List.all_eq_true.mp tL_1_ok (610, .goto 1381, 3) (List.mem_of_getElem? (i := 102) rfl))
set_option maxRecDepth 100000 in
theorem dL_law_613 : decode cL_law 613 = .ok (.aload_n 1, 1) := of_decide_eq_true (List.all_eq_true.mp tL_1_ok (613, .aload_n 1, 1) (List.mem_of_getElem? (i := 103) rfl))
set_option maxRecDepth 100000 in
theorem dL_law_614 : decode cL_law 614 = .ok (.aload_n 0, 1) := of_decide_eq_true (List.all_eq_true.mp tL_1_ok (614, .aload_n 0, 1) (List.mem_of_getElem? (i := 104) rfl))
set_option maxRecDepth 100000 in
theorem dL_law_615 : decode cL_law 615 = .ok (.iload 4, 2) := of_decide_eq_true (List.all_eq_true.mp tL_1_ok (615, .iload 4, 2) (List.mem_of_getElem? (i := 105) rfl))
set_option maxRecDepth 100000 in
theorem dL_law_617 : decode cL_law 617 = .ok (.iconst 1, 1) := of_decide_eq_true (List.all_eq_true.mp tL_1_ok (617, .iconst 1, 1) (List.mem_of_getElem? (i := 106) rfl))
set_option maxRecDepth 100000 in
theorem dL_law_618 : decode cL_law 618 = .ok (.iadd, 1) := of_decide_eq_true (List.all_eq_true.mp tL_1_ok (618, .iadd, 1) (List.mem_of_getElem? (i := 107) rfl))
set_option maxRecDepth 100000 in
theorem dL_law_619 : decode cL_law 619 = .ok (.iaload, 1) := of_decide_eq_true (List.all_eq_true.mp tL_1_ok (619, .iaload, 1) (List.mem_of_getElem? (i := 108) rfl))
set_option maxRecDepth 100000 in
theorem dL_law_620 : decode cL_law 620 = .ok (.aload_n 0, 1) := of_decide_eq_true (List.all_eq_true.mp tL_1_ok (620, .aload_n 0, 1) (List.mem_of_getElem? (i := 109) rfl))
set_option maxRecDepth 100000 in
theorem dL_law_621 : decode cL_law 621 = .ok (.iload 4, 2) := of_decide_eq_true (List.all_eq_true.mp tL_1_ok (621, .iload 4, 2) (List.mem_of_getElem? (i := 110) rfl))
set_option maxRecDepth 100000 in
theorem dL_law_623 : decode cL_law 623 = .ok (.iconst 2, 1) := of_decide_eq_true (List.all_eq_true.mp tL_1_ok (623, .iconst 2, 1) (List.mem_of_getElem? (i := 111) rfl))
set_option maxRecDepth 100000 in
theorem dL_law_624 : decode cL_law 624 = .ok (.iadd, 1) := of_decide_eq_true (List.all_eq_true.mp tL_1_ok (624, .iadd, 1) (List.mem_of_getElem? (i := 112) rfl))
set_option maxRecDepth 100000 in
theorem dL_law_625 : decode cL_law 625 = .ok (.iaload, 1) := of_decide_eq_true (List.all_eq_true.mp tL_1_ok (625, .iaload, 1) (List.mem_of_getElem? (i := 113) rfl))
set_option maxRecDepth 100000 in
theorem dL_law_626 : decode cL_law 626 = .ok (.aload_n 3, 1) := of_decide_eq_true (List.all_eq_true.mp tL_1_ok (626, .aload_n 3, 1) (List.mem_of_getElem? (i := 114) rfl))
set_option maxRecDepth 100000 in
theorem dL_law_627 : decode cL_law 627 = .ok (.invokestatic 150, 3) := of_decide_eq_true (List.all_eq_true.mp tL_1_ok (627, .invokestatic 150, 3) (List.mem_of_getElem? (i := 115) rfl))
set_option maxRecDepth 100000 in
theorem dL_law_630 : decode cL_law 630 = .ok (.istore 5, 2) := of_decide_eq_true (List.all_eq_true.mp tL_1_ok (630, .istore 5, 2) (List.mem_of_getElem? (i := 116) rfl))
set_option maxRecDepth 100000 in
theorem dL_law_632 : decode cL_law 632 = .ok (.aload_n 2, 1) := of_decide_eq_true (List.all_eq_true.mp tL_1_ok (632, .aload_n 2, 1) (List.mem_of_getElem? (i := 117) rfl))
set_option maxRecDepth 100000 in
theorem dL_law_633 : decode cL_law 633 = .ok (.aload_n 0, 1) := of_decide_eq_true (List.all_eq_true.mp tL_1_ok (633, .aload_n 0, 1) (List.mem_of_getElem? (i := 118) rfl))
set_option maxRecDepth 100000 in
theorem dL_law_634 : decode cL_law 634 = .ok (.iload 4, 2) := of_decide_eq_true (List.all_eq_true.mp tL_1_ok (634, .iload 4, 2) (List.mem_of_getElem? (i := 119) rfl))
set_option maxRecDepth 100000 in
theorem dL_law_636 : decode cL_law 636 = .ok (.iconst 1, 1) := of_decide_eq_true (List.all_eq_true.mp tL_1_ok (636, .iconst 1, 1) (List.mem_of_getElem? (i := 120) rfl))
set_option maxRecDepth 100000 in
theorem dL_law_637 : decode cL_law 637 = .ok (.iadd, 1) := of_decide_eq_true (List.all_eq_true.mp tL_1_ok (637, .iadd, 1) (List.mem_of_getElem? (i := 121) rfl))
set_option maxRecDepth 100000 in
theorem dL_law_638 : decode cL_law 638 = .ok (.iaload, 1) := of_decide_eq_true (List.all_eq_true.mp tL_1_ok (638, .iaload, 1) (List.mem_of_getElem? (i := 122) rfl))
set_option maxRecDepth 100000 in
theorem dL_law_639 : decode cL_law 639 = .ok (.aload_n 0, 1) := of_decide_eq_true (List.all_eq_true.mp tL_1_ok (639, .aload_n 0, 1) (List.mem_of_getElem? (i := 123) rfl))
set_option maxRecDepth 100000 in
theorem dL_law_640 : decode cL_law 640 = .ok (.iload 4, 2) := of_decide_eq_true (List.all_eq_true.mp tL_1_ok (640, .iload 4, 2) (List.mem_of_getElem? (i := 124) rfl))
set_option maxRecDepth 100000 in
theorem dL_law_642 : decode cL_law 642 = .ok (.iconst 2, 1) := of_decide_eq_true (List.all_eq_true.mp tL_1_ok (642, .iconst 2, 1) (List.mem_of_getElem? (i := 125) rfl))
set_option maxRecDepth 100000 in
theorem dL_law_643 : decode cL_law 643 = .ok (.iadd, 1) := of_decide_eq_true (List.all_eq_true.mp tL_1_ok (643, .iadd, 1) (List.mem_of_getElem? (i := 126) rfl))
set_option maxRecDepth 100000 in
theorem dL_law_644 : decode cL_law 644 = .ok (.iaload, 1) := of_decide_eq_true (List.all_eq_true.mp tL_1_ok (644, .iaload, 1) (List.mem_of_getElem? (i := 127) rfl))
set_option maxRecDepth 100000 in
theorem dL_law_645 : decode cL_law 645 = .ok (.invokevirtual 152, 3) := of_decide_eq_true (List.all_eq_true.mp tL_1_ok (645, .invokevirtual 152, 3) (List.mem_of_getElem? (i := 128) rfl))
set_option maxRecDepth 100000 in
theorem dL_law_648 : decode cL_law 648 = .ok (.lstore 6, 2) := of_decide_eq_true (List.all_eq_true.mp tL_1_ok (648, .lstore 6, 2) (List.mem_of_getElem? (i := 129) rfl))
set_option maxRecDepth 100000 in
theorem dL_law_650 : decode cL_law 650 = .ok (.aload_n 2, 1) := of_decide_eq_true (List.all_eq_true.mp tL_1_ok (650, .aload_n 2, 1) (List.mem_of_getElem? (i := 130) rfl))
set_option maxRecDepth 100000 in
theorem dL_law_651 : decode cL_law 651 = .ok (.invokevirtual 118, 3) := of_decide_eq_true (List.all_eq_true.mp tL_1_ok (651, .invokevirtual 118, 3) (List.mem_of_getElem? (i := 131) rfl))
set_option maxRecDepth 100000 in
theorem dL_law_654 : decode cL_law 654 = .ok (.iload 5, 2) := of_decide_eq_true (List.all_eq_true.mp tL_1_ok (654, .iload 5, 2) (List.mem_of_getElem? (i := 132) rfl))
set_option maxRecDepth 100000 in
theorem dL_law_656 : decode cL_law 656 = .ok (.if_icmp .eq 5, 3) := of_decide_eq_true (List.all_eq_true.mp tL_1_ok (656, .if_icmp .eq 5, 3) (List.mem_of_getElem? (i := 133) rfl))
set_option maxRecDepth 100000 in
theorem dL_law_659 : decode cL_law 659 = .ok (.iconst 0, 1) := of_decide_eq_true (List.all_eq_true.mp tL_1_ok (659, .iconst 0, 1) (List.mem_of_getElem? (i := 134) rfl))
set_option maxRecDepth 100000 in
theorem dL_law_660 : decode cL_law 660 = .ok (.ireturn, 1) := of_decide_eq_true (List.all_eq_true.mp tL_1_ok (660, .ireturn, 1) (List.mem_of_getElem? (i := 135) rfl))
set_option maxRecDepth 100000 in
theorem dL_law_661 : decode cL_law 661 = .ok (.iload 5, 2) := of_decide_eq_true (List.all_eq_true.mp tL_1_ok (661, .iload 5, 2) (List.mem_of_getElem? (i := 136) rfl))
set_option maxRecDepth 100000 in
theorem dL_law_663 : decode cL_law 663 = .ok (.ifCond .ne 14, 3) := of_decide_eq_true (List.all_eq_true.mp tL_1_ok (663, .ifCond .ne 14, 3) (List.mem_of_getElem? (i := 137) rfl))
set_option maxRecDepth 100000 in
theorem dL_law_666 : decode cL_law 666 = .ok (.aload_n 3, 1) := of_decide_eq_true (List.all_eq_true.mp tL_1_ok (666, .aload_n 3, 1) (List.mem_of_getElem? (i := 138) rfl))
set_option maxRecDepth 100000 in
theorem dL_law_667 : decode cL_law 667 = .ok (.iconst 0, 1) := of_decide_eq_true (List.all_eq_true.mp tL_1_ok (667, .iconst 0, 1) (List.mem_of_getElem? (i := 139) rfl))
set_option maxRecDepth 100000 in
theorem dL_law_668 : decode cL_law 668 = .ok (.laload, 1) := of_decide_eq_true (List.all_eq_true.mp tL_1_ok (668, .laload, 1) (List.mem_of_getElem? (i := 140) rfl))
set_option maxRecDepth 100000 in
theorem dL_law_669 : decode cL_law 669 = .ok (.lload 6, 2) := of_decide_eq_true (List.all_eq_true.mp tL_1_ok (669, .lload 6, 2) (List.mem_of_getElem? (i := 141) rfl))
set_option maxRecDepth 100000 in
theorem dL_law_671 : decode cL_law 671 = .ok (.lcmp, 1) := of_decide_eq_true (List.all_eq_true.mp tL_1_ok (671, .lcmp, 1) (List.mem_of_getElem? (i := 142) rfl))
set_option maxRecDepth 100000 in
theorem dL_law_672 : decode cL_law 672 = .ok (.ifCond .eq 5, 3) := of_decide_eq_true (List.all_eq_true.mp tL_1_ok (672, .ifCond .eq 5, 3) (List.mem_of_getElem? (i := 143) rfl))
set_option maxRecDepth 100000 in
theorem dL_law_675 : decode cL_law 675 = .ok (.iconst 0, 1) := of_decide_eq_true (List.all_eq_true.mp tL_1_ok (675, .iconst 0, 1) (List.mem_of_getElem? (i := 144) rfl))
set_option maxRecDepth 100000 in
theorem dL_law_676 : decode cL_law 676 = .ok (.ireturn, 1) := of_decide_eq_true (List.all_eq_true.mp tL_1_ok (676, .ireturn, 1) (List.mem_of_getElem? (i := 145) rfl))
set_option maxRecDepth 100000 in
theorem dL_law_677 : decode cL_law 677 = .ok (.goto 1314, 3) := of_decide_eq_true (List.all_eq_true.mp tL_1_ok (677, .goto 1314, 3) (List.mem_of_getElem? (i := 146) rfl))
set_option maxRecDepth 100000 in
theorem dL_law_680 : decode cL_law 680 = .ok (.aload_n 1, 1) := of_decide_eq_true (List.all_eq_true.mp tL_1_ok (680, .aload_n 1, 1) (List.mem_of_getElem? (i := 147) rfl))
set_option maxRecDepth 100000 in
theorem dL_law_681 : decode cL_law 681 = .ok (.aload_n 0, 1) := of_decide_eq_true (List.all_eq_true.mp tL_1_ok (681, .aload_n 0, 1) (List.mem_of_getElem? (i := 148) rfl))
set_option maxRecDepth 100000 in
theorem dL_law_682 : decode cL_law 682 = .ok (.iload 4, 2) := of_decide_eq_true (List.all_eq_true.mp tL_1_ok (682, .iload 4, 2) (List.mem_of_getElem? (i := 149) rfl))
set_option maxRecDepth 100000 in
theorem dL_law_684 : decode cL_law 684 = .ok (.iconst 1, 1) := of_decide_eq_true (List.all_eq_true.mp tL_1_ok (684, .iconst 1, 1) (List.mem_of_getElem? (i := 150) rfl))
set_option maxRecDepth 100000 in
theorem dL_law_685 : decode cL_law 685 = .ok (.iadd, 1) := of_decide_eq_true (List.all_eq_true.mp tL_1_ok (685, .iadd, 1) (List.mem_of_getElem? (i := 151) rfl))
set_option maxRecDepth 100000 in
theorem dL_law_686 : decode cL_law 686 = .ok (.iaload, 1) := of_decide_eq_true (List.all_eq_true.mp tL_1_ok (686, .iaload, 1) (List.mem_of_getElem? (i := 152) rfl))
set_option maxRecDepth 100000 in
theorem dL_law_687 : decode cL_law 687 = .ok (.aload_n 3, 1) := of_decide_eq_true (List.all_eq_true.mp tL_1_ok (687, .aload_n 3, 1) (List.mem_of_getElem? (i := 153) rfl))
set_option maxRecDepth 100000 in
theorem dL_law_688 : decode cL_law 688 = .ok (.invokestatic 153, 3) := of_decide_eq_true (List.all_eq_true.mp tL_1_ok (688, .invokestatic 153, 3) (List.mem_of_getElem? (i := 154) rfl))
set_option maxRecDepth 100000 in
theorem dL_law_691 : decode cL_law 691 = .ok (.istore 5, 2) := of_decide_eq_true (List.all_eq_true.mp tL_1_ok (691, .istore 5, 2) (List.mem_of_getElem? (i := 155) rfl))
set_option maxRecDepth 100000 in
theorem dL_law_693 : decode cL_law 693 = .ok (.aload_n 2, 1) := of_decide_eq_true (List.all_eq_true.mp tL_1_ok (693, .aload_n 2, 1) (List.mem_of_getElem? (i := 156) rfl))
set_option maxRecDepth 100000 in
theorem dL_law_694 : decode cL_law 694 = .ok (.aload_n 0, 1) := of_decide_eq_true (List.all_eq_true.mp tL_1_ok (694, .aload_n 0, 1) (List.mem_of_getElem? (i := 157) rfl))
set_option maxRecDepth 100000 in
theorem dL_law_695 : decode cL_law 695 = .ok (.iload 4, 2) := of_decide_eq_true (List.all_eq_true.mp tL_1_ok (695, .iload 4, 2) (List.mem_of_getElem? (i := 158) rfl))
set_option maxRecDepth 100000 in
theorem dL_law_697 : decode cL_law 697 = .ok (.iconst 1, 1) := of_decide_eq_true (List.all_eq_true.mp tL_1_ok (697, .iconst 1, 1) (List.mem_of_getElem? (i := 159) rfl))
set_option maxRecDepth 100000 in
theorem dL_law_698 : decode cL_law 698 = .ok (.iadd, 1) := of_decide_eq_true (List.all_eq_true.mp tL_1_ok (698, .iadd, 1) (List.mem_of_getElem? (i := 160) rfl))
set_option maxRecDepth 100000 in
theorem dL_law_699 : decode cL_law 699 = .ok (.iaload, 1) := of_decide_eq_true (List.all_eq_true.mp tL_1_ok (699, .iaload, 1) (List.mem_of_getElem? (i := 161) rfl))
set_option maxRecDepth 100000 in
theorem dL_law_700 : decode cL_law 700 = .ok (.invokevirtual 155, 3) := of_decide_eq_true (List.all_eq_true.mp tL_1_ok (700, .invokevirtual 155, 3) (List.mem_of_getElem? (i := 162) rfl))
set_option maxRecDepth 100000 in
theorem dL_law_703 : decode cL_law 703 = .ok (.istore 6, 2) := of_decide_eq_true (List.all_eq_true.mp tL_1_ok (703, .istore 6, 2) (List.mem_of_getElem? (i := 163) rfl))
set_option maxRecDepth 100000 in
theorem dL_law_705 : decode cL_law 705 = .ok (.aload_n 2, 1) := of_decide_eq_true (List.all_eq_true.mp tL_1_ok (705, .aload_n 2, 1) (List.mem_of_getElem? (i := 164) rfl))
set_option maxRecDepth 100000 in
theorem dL_law_706 : decode cL_law 706 = .ok (.invokevirtual 118, 3) := of_decide_eq_true (List.all_eq_true.mp tL_1_ok (706, .invokevirtual 118, 3) (List.mem_of_getElem? (i := 165) rfl))
set_option maxRecDepth 100000 in
theorem dL_law_709 : decode cL_law 709 = .ok (.iload 5, 2) := of_decide_eq_true (List.all_eq_true.mp tL_1_ok (709, .iload 5, 2) (List.mem_of_getElem? (i := 166) rfl))
set_option maxRecDepth 100000 in
theorem dL_law_711 : decode cL_law 711 = .ok (.if_icmp .eq 5, 3) := of_decide_eq_true (List.all_eq_true.mp tL_1_ok (711, .if_icmp .eq 5, 3) (List.mem_of_getElem? (i := 167) rfl))
set_option maxRecDepth 100000 in
theorem dL_law_714 : decode cL_law 714 = .ok (.iconst 0, 1) := of_decide_eq_true (List.all_eq_true.mp tL_1_ok (714, .iconst 0, 1) (List.mem_of_getElem? (i := 168) rfl))
set_option maxRecDepth 100000 in
theorem dL_law_715 : decode cL_law 715 = .ok (.ireturn, 1) := of_decide_eq_true (List.all_eq_true.mp tL_1_ok (715, .ireturn, 1) (List.mem_of_getElem? (i := 169) rfl))
set_option maxRecDepth 100000 in
theorem dL_law_716 : decode cL_law 716 = .ok (.iload 5, 2) := of_decide_eq_true (List.all_eq_true.mp tL_1_ok (716, .iload 5, 2) (List.mem_of_getElem? (i := 170) rfl))
set_option maxRecDepth 100000 in
theorem dL_law_718 : decode cL_law 718 = .ok (.ifCond .ne 15, 3) := of_decide_eq_true (List.all_eq_true.mp tL_1_ok (718, .ifCond .ne 15, 3) (List.mem_of_getElem? (i := 171) rfl))
set_option maxRecDepth 100000 in
theorem dL_law_721 : decode cL_law 721 = .ok (.aload_n 3, 1) := of_decide_eq_true (List.all_eq_true.mp tL_1_ok (721, .aload_n 3, 1) (List.mem_of_getElem? (i := 172) rfl))
set_option maxRecDepth 100000 in
theorem dL_law_722 : decode cL_law 722 = .ok (.iconst 0, 1) := of_decide_eq_true (List.all_eq_true.mp tL_1_ok (722, .iconst 0, 1) (List.mem_of_getElem? (i := 173) rfl))
set_option maxRecDepth 100000 in
theorem dL_law_723 : decode cL_law 723 = .ok (.laload, 1) := of_decide_eq_true (List.all_eq_true.mp tL_1_ok (723, .laload, 1) (List.mem_of_getElem? (i := 174) rfl))
set_option maxRecDepth 100000 in
theorem dL_law_724 : decode cL_law 724 = .ok (.iload 6, 2) := of_decide_eq_true (List.all_eq_true.mp tL_1_ok (724, .iload 6, 2) (List.mem_of_getElem? (i := 175) rfl))
set_option maxRecDepth 100000 in
theorem dL_law_726 : decode cL_law 726 = .ok (.i2l, 1) := of_decide_eq_true (List.all_eq_true.mp tL_1_ok (726, .i2l, 1) (List.mem_of_getElem? (i := 176) rfl))
set_option maxRecDepth 100000 in
theorem dL_law_727 : decode cL_law 727 = .ok (.lcmp, 1) := of_decide_eq_true (List.all_eq_true.mp tL_1_ok (727, .lcmp, 1) (List.mem_of_getElem? (i := 177) rfl))
set_option maxRecDepth 100000 in
theorem dL_law_728 : decode cL_law 728 = .ok (.ifCond .eq 5, 3) := of_decide_eq_true (List.all_eq_true.mp tL_1_ok (728, .ifCond .eq 5, 3) (List.mem_of_getElem? (i := 178) rfl))
set_option maxRecDepth 100000 in
theorem dL_law_731 : decode cL_law 731 = .ok (.iconst 0, 1) := of_decide_eq_true (List.all_eq_true.mp tL_1_ok (731, .iconst 0, 1) (List.mem_of_getElem? (i := 179) rfl))
set_option maxRecDepth 100000 in
theorem dL_law_732 : decode cL_law 732 = .ok (.ireturn, 1) := of_decide_eq_true (List.all_eq_true.mp tL_1_ok (732, .ireturn, 1) (List.mem_of_getElem? (i := 180) rfl))
set_option maxRecDepth 100000 in
theorem dL_law_733 : decode cL_law 733 = .ok (.goto 1258, 3) := of_decide_eq_true (List.all_eq_true.mp tL_1_ok (733, .goto 1258, 3) (List.mem_of_getElem? (i := 181) rfl))
set_option maxRecDepth 100000 in
theorem dL_law_736 : decode cL_law 736 = .ok (.aload_n 1, 1) := of_decide_eq_true (List.all_eq_true.mp tL_1_ok (736, .aload_n 1, 1) (List.mem_of_getElem? (i := 182) rfl))
set_option maxRecDepth 100000 in
theorem dL_law_737 : decode cL_law 737 = .ok (.aload_n 0, 1) := of_decide_eq_true (List.all_eq_true.mp tL_1_ok (737, .aload_n 0, 1) (List.mem_of_getElem? (i := 183) rfl))
set_option maxRecDepth 100000 in
theorem dL_law_738 : decode cL_law 738 = .ok (.iload 4, 2) := of_decide_eq_true (List.all_eq_true.mp tL_1_ok (738, .iload 4, 2) (List.mem_of_getElem? (i := 184) rfl))
set_option maxRecDepth 100000 in
theorem dL_law_740 : decode cL_law 740 = .ok (.iconst 1, 1) := of_decide_eq_true (List.all_eq_true.mp tL_1_ok (740, .iconst 1, 1) (List.mem_of_getElem? (i := 185) rfl))
set_option maxRecDepth 100000 in
theorem dL_law_741 : decode cL_law 741 = .ok (.iadd, 1) := of_decide_eq_true (List.all_eq_true.mp tL_1_ok (741, .iadd, 1) (List.mem_of_getElem? (i := 186) rfl))
set_option maxRecDepth 100000 in
theorem dL_law_742 : decode cL_law 742 = .ok (.iaload, 1) := of_decide_eq_true (List.all_eq_true.mp tL_1_ok (742, .iaload, 1) (List.mem_of_getElem? (i := 187) rfl))
set_option maxRecDepth 100000 in
theorem dL_law_743 : decode cL_law 743 = .ok (.aload_n 0, 1) := of_decide_eq_true (List.all_eq_true.mp tL_1_ok (743, .aload_n 0, 1) (List.mem_of_getElem? (i := 188) rfl))
set_option maxRecDepth 100000 in
theorem dL_law_744 : decode cL_law 744 = .ok (.iload 4, 2) := of_decide_eq_true (List.all_eq_true.mp tL_1_ok (744, .iload 4, 2) (List.mem_of_getElem? (i := 189) rfl))
set_option maxRecDepth 100000 in
theorem dL_law_746 : decode cL_law 746 = .ok (.iconst 2, 1) := of_decide_eq_true (List.all_eq_true.mp tL_1_ok (746, .iconst 2, 1) (List.mem_of_getElem? (i := 190) rfl))
set_option maxRecDepth 100000 in
theorem dL_law_747 : decode cL_law 747 = .ok (.iadd, 1) := of_decide_eq_true (List.all_eq_true.mp tL_1_ok (747, .iadd, 1) (List.mem_of_getElem? (i := 191) rfl))
set_option maxRecDepth 100000 in
theorem dL_law_748 : decode cL_law 748 = .ok (.iaload, 1) := of_decide_eq_true (List.all_eq_true.mp tL_1_ok (748, .iaload, 1) (List.mem_of_getElem? (i := 192) rfl))
set_option maxRecDepth 100000 in
theorem dL_law_749 : decode cL_law 749 = .ok (.ifCond .eq 7, 3) := of_decide_eq_true (List.all_eq_true.mp tL_1_ok (749, .ifCond .eq 7, 3) (List.mem_of_getElem? (i := 193) rfl))
set_option maxRecDepth 100000 in
theorem dL_law_752 : decode cL_law 752 = .ok (.iconst 1, 1) := of_decide_eq_true (List.all_eq_true.mp tL_1_ok (752, .iconst 1, 1) (List.mem_of_getElem? (i := 194) rfl))
set_option maxRecDepth 100000 in
theorem dL_law_753 : decode cL_law 753 = .ok (.goto 4, 3) := of_decide_eq_true (List.all_eq_true.mp tL_1_ok (753, .goto 4, 3) (List.mem_of_getElem? (i := 195) rfl))
set_option maxRecDepth 100000 in
theorem dL_law_756 : decode cL_law 756 = .ok (.iconst 0, 1) := of_decide_eq_true (List.all_eq_true.mp tL_1_ok (756, .iconst 0, 1) (List.mem_of_getElem? (i := 196) rfl))
set_option maxRecDepth 100000 in
theorem dL_law_757 : decode cL_law 757 = .ok (.aload_n 3, 1) := of_decide_eq_true (List.all_eq_true.mp tL_1_ok (757, .aload_n 3, 1) (List.mem_of_getElem? (i := 197) rfl))
set_option maxRecDepth 100000 in
theorem dL_law_758 : decode cL_law 758 = .ok (.invokestatic 156, 3) := of_decide_eq_true (List.all_eq_true.mp tL_1_ok (758, .invokestatic 156, 3) (List.mem_of_getElem? (i := 198) rfl))
set_option maxRecDepth 100000 in
theorem dL_law_761 : decode cL_law 761 = .ok (.istore 5, 2) := of_decide_eq_true (List.all_eq_true.mp tL_1_ok (761, .istore 5, 2) (List.mem_of_getElem? (i := 199) rfl))
