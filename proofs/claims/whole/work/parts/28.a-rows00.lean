def tL_0 : List (Nat × Instr × Nat) := [(0, .new 8, 3), (3, .dup, 1), (4, .invokespecial 108, 3), (7, .astore_n 1, 1), (8, .new 109, 3), (11, .dup, 1), (12, .invokespecial 111, 3), (15, .astore_n 2, 1), (16, .iconst 1, 1), (17, .newarray .long, 2), (19, .astore_n 3, 1), (20, .iconst 0, 1), (21, .istore 4, 2), (23, .iload 4, 2), (25, .aload_n 0, 1), (26, .arraylength, 1), (27, .iconst 4, 1), (28, .isub, 1), (29, .if_icmp .gt 1968, 3), (32, .aload_n 0, 1), (33, .iload 4, 2), (35, .iaload, 1), (36, .bipush 31, 2), (38, .iand, 1), (39, .tableswitch 1952 0 29 #[133, 189, 202, 215, 259, 315, 371, 426, 494, 574, 641, 697, 781, 849, 905, 961, 1017, 1101, 1169, 1236, 1280, 1336, 1392, 1460, 1516, 1572, 1640, 1740, 1840, 1896], 133), (172, .aload_n 1, 1), (173, .aload_n 0, 1), (174, .iload 4, 2), (176, .iconst 1, 1), (177, .iadd, 1), (178, .iaload, 1), (179, .aload_n 3, 1), (180, .invokestatic 112, 3), (183, .istore 5, 2), (185, .aload_n 2, 1), (186, .aload_n 0, 1), (187, .iload 4, 2), (189, .iconst 1, 1), (190, .iadd, 1), (191, .iaload, 1), (192, .invokevirtual 117, 3), (195, .istore 6, 2), (197, .aload_n 2, 1), (198, .invokevirtual 118, 3), (201, .iload 5, 2), (203, .if_icmp .eq 5, 3), (206, .iconst 0, 1), (207, .ireturn, 1), (208, .iload 5, 2), (210, .ifCond .ne 15, 3), (213, .aload_n 3, 1), (214, .iconst 0, 1), (215, .laload, 1), (216, .iload 6, 2), (218, .i2l, 1), (219, .lcmp, 1), (220, .ifCond .eq 5, 3), (223, .iconst 0, 1), (224, .ireturn, 1), (225, .goto 1766, 3), (228, .aload_n 1, 1), (229, .invokevirtual 121, 3), (232, .aload_n 2, 1), (233, .invokevirtual 124, 3), (236, .if_icmp .eq 1755, 3), (239, .iconst 0, 1), (240, .ireturn, 1), (241, .aload_n 1, 1), (242, .invokevirtual 125, 3), (245, .aload_n 2, 1), (246, .invokevirtual 128, 3), (249, .if_icmp .eq 1742, 3), (252, .iconst 0, 1), (253, .ireturn, 1), (254, .aload_n 1, 1), (255, .aload_n 3, 1), (256, .invokestatic 129, 3), (259, .istore 5, 2), (261, .aload_n 2, 1), (262, .invokevirtual 132, 3), (265, .istore 6, 2), (267, .aload_n 2, 1), (268, .invokevirtual 118, 3), (271, .iload 5, 2), (273, .if_icmp .eq 5, 3), (276, .iconst 0, 1), (277, .ireturn, 1), (278, .iload 5, 2), (280, .ifCond .ne 15, 3), (283, .aload_n 3, 1), (284, .iconst 0, 1), (285, .laload, 1), (286, .iload 6, 2), (288, .i2l, 1), (289, .lcmp, 1), (290, .ifCond .eq 5, 3), (293, .iconst 0, 1), (294, .ireturn, 1), (295, .goto 1696, 3), (298, .aload_n 1, 1), (299, .aload_n 0, 1), (300, .iload 4, 2), (302, .iconst 1, 1), (303, .iadd, 1), (304, .iaload, 1), (305, .aload_n 3, 1), (306, .invokestatic 133, 3), (309, .istore 5, 2), (311, .aload_n 2, 1), (312, .aload_n 0, 1), (313, .iload 4, 2), (315, .iconst 1, 1), (316, .iadd, 1), (317, .iaload, 1), (318, .invokevirtual 135, 3), (321, .istore 6, 2), (323, .aload_n 2, 1), (324, .invokevirtual 118, 3), (327, .iload 5, 2), (329, .if_icmp .eq 5, 3), (332, .iconst 0, 1), (333, .ireturn, 1), (334, .iload 5, 2), (336, .ifCond .ne 15, 3), (339, .aload_n 3, 1), (340, .iconst 0, 1), (341, .laload, 1), (342, .iload 6, 2), (344, .i2l, 1), (345, .lcmp, 1), (346, .ifCond .eq 5, 3), (349, .iconst 0, 1), (350, .ireturn, 1), (351, .goto 1640, 3), (354, .aload_n 1, 1), (355, .aload_n 0, 1), (356, .iload 4, 2), (358, .iconst 1, 1), (359, .iadd, 1), (360, .iaload, 1), (361, .aload_n 3, 1), (362, .invokestatic 136, 3), (365, .istore 5, 2), (367, .aload_n 2, 1), (368, .aload_n 0, 1), (369, .iload 4, 2), (371, .iconst 1, 1), (372, .iadd, 1), (373, .iaload, 1), (374, .invokevirtual 138, 3), (377, .istore 6, 2), (379, .aload_n 2, 1), (380, .invokevirtual 118, 3), (383, .iload 5, 2), (385, .if_icmp .eq 5, 3), (388, .iconst 0, 1), (389, .ireturn, 1), (390, .iload 5, 2), (392, .ifCond .ne 15, 3), (395, .aload_n 3, 1), (396, .iconst 0, 1), (397, .laload, 1), (398, .iload 6, 2), (400, .i2l, 1), (401, .lcmp, 1), (402, .ifCond .eq 5, 3), (405, .iconst 0, 1), (406, .ireturn, 1), (407, .goto 1584, 3), (410, .aload_n 1, 1), (411, .aload_n 0, 1), (412, .iload 4, 2), (414, .iconst 1, 1), (415, .iadd, 1), (416, .iaload, 1), (417, .aload_n 3, 1), (418, .invokestatic 139, 3), (421, .istore 5, 2), (423, .aload_n 2, 1), (424, .aload_n 0, 1), (425, .iload 4, 2), (427, .iconst 1, 1), (428, .iadd, 1), (429, .iaload, 1), (430, .invokevirtual 141, 3), (433, .lstore 6, 2), (435, .aload_n 2, 1), (436, .invokevirtual 118, 3), (439, .iload 5, 2), (441, .if_icmp .eq 5, 3), (444, .iconst 0, 1), (445, .ireturn, 1), (446, .iload 5, 2), (448, .ifCond .ne 14, 3), (451, .aload_n 3, 1), (452, .iconst 0, 1), (453, .laload, 1), (454, .lload 6, 2), (456, .lcmp, 1), (457, .ifCond .eq 5, 3)]
set_option maxRecDepth 100000 in
theorem tL_0_ok : tL_0.all (fun q => decide (decode cL_law q.1 = .ok (q.2.1, q.2.2))) = true := by decide +kernel
set_option maxRecDepth 100000 in
theorem dL_law_0 : decode cL_law 0 = .ok (.new 8, 3) := of_decide_eq_true (List.all_eq_true.mp tL_0_ok (0, .new 8, 3) (List.mem_of_getElem? (i := 0) rfl))
set_option maxRecDepth 100000 in
theorem dL_law_3 : decode cL_law 3 = .ok (.dup, 1) := of_decide_eq_true (List.all_eq_true.mp tL_0_ok (3, .dup, 1) (List.mem_of_getElem? (i := 1) rfl))
set_option maxRecDepth 100000 in
theorem dL_law_4 : decode cL_law 4 = .ok (.invokespecial 108, 3) := of_decide_eq_true (List.all_eq_true.mp tL_0_ok (4, .invokespecial 108, 3) (List.mem_of_getElem? (i := 2) rfl))
set_option maxRecDepth 100000 in
theorem dL_law_7 : decode cL_law 7 = .ok (.astore_n 1, 1) := of_decide_eq_true (List.all_eq_true.mp tL_0_ok (7, .astore_n 1, 1) (List.mem_of_getElem? (i := 3) rfl))
set_option maxRecDepth 100000 in
theorem dL_law_8 : decode cL_law 8 = .ok (.new 109, 3) := of_decide_eq_true (List.all_eq_true.mp tL_0_ok (8, .new 109, 3) (List.mem_of_getElem? (i := 4) rfl))
set_option maxRecDepth 100000 in
theorem dL_law_11 : decode cL_law 11 = .ok (.dup, 1) := of_decide_eq_true (List.all_eq_true.mp tL_0_ok (11, .dup, 1) (List.mem_of_getElem? (i := 5) rfl))
set_option maxRecDepth 100000 in
theorem dL_law_12 : decode cL_law 12 = .ok (.invokespecial 111, 3) := of_decide_eq_true (List.all_eq_true.mp tL_0_ok (12, .invokespecial 111, 3) (List.mem_of_getElem? (i := 6) rfl))
set_option maxRecDepth 100000 in
theorem dL_law_15 : decode cL_law 15 = .ok (.astore_n 2, 1) := of_decide_eq_true (List.all_eq_true.mp tL_0_ok (15, .astore_n 2, 1) (List.mem_of_getElem? (i := 7) rfl))
set_option maxRecDepth 100000 in
theorem dL_law_16 : decode cL_law 16 = .ok (.iconst 1, 1) := of_decide_eq_true (List.all_eq_true.mp tL_0_ok (16, .iconst 1, 1) (List.mem_of_getElem? (i := 8) rfl))
set_option maxRecDepth 100000 in
theorem dL_law_17 : decode cL_law 17 = .ok (.newarray .long, 2) := of_decide_eq_true (List.all_eq_true.mp tL_0_ok (17, .newarray .long, 2) (List.mem_of_getElem? (i := 9) rfl))
set_option maxRecDepth 100000 in
theorem dL_law_19 : decode cL_law 19 = .ok (.astore_n 3, 1) := of_decide_eq_true (List.all_eq_true.mp tL_0_ok (19, .astore_n 3, 1) (List.mem_of_getElem? (i := 10) rfl))
set_option maxRecDepth 100000 in
theorem dL_law_20 : decode cL_law 20 = .ok (.iconst 0, 1) := of_decide_eq_true (List.all_eq_true.mp tL_0_ok (20, .iconst 0, 1) (List.mem_of_getElem? (i := 11) rfl))
set_option maxRecDepth 100000 in
theorem dL_law_21 : decode cL_law 21 = .ok (.istore 4, 2) := of_decide_eq_true (List.all_eq_true.mp tL_0_ok (21, .istore 4, 2) (List.mem_of_getElem? (i := 12) rfl))
set_option maxRecDepth 100000 in
theorem dL_law_23 : decode cL_law 23 = .ok (.iload 4, 2) := of_decide_eq_true (List.all_eq_true.mp tL_0_ok (23, .iload 4, 2) (List.mem_of_getElem? (i := 13) rfl))
set_option maxRecDepth 100000 in
theorem dL_law_25 : decode cL_law 25 = .ok (.aload_n 0, 1) := of_decide_eq_true (List.all_eq_true.mp tL_0_ok (25, .aload_n 0, 1) (List.mem_of_getElem? (i := 14) rfl))
set_option maxRecDepth 100000 in
theorem dL_law_26 : decode cL_law 26 = .ok (.arraylength, 1) := of_decide_eq_true (List.all_eq_true.mp tL_0_ok (26, .arraylength, 1) (List.mem_of_getElem? (i := 15) rfl))
set_option maxRecDepth 100000 in
theorem dL_law_27 : decode cL_law 27 = .ok (.iconst 4, 1) := of_decide_eq_true (List.all_eq_true.mp tL_0_ok (27, .iconst 4, 1) (List.mem_of_getElem? (i := 16) rfl))
set_option maxRecDepth 100000 in
theorem dL_law_28 : decode cL_law 28 = .ok (.isub, 1) := of_decide_eq_true (List.all_eq_true.mp tL_0_ok (28, .isub, 1) (List.mem_of_getElem? (i := 17) rfl))
set_option maxRecDepth 100000 in
theorem dL_law_29 : decode cL_law 29 = .ok (.if_icmp .gt 1968, 3) := of_decide_eq_true (List.all_eq_true.mp tL_0_ok (29, .if_icmp .gt 1968, 3) (List.mem_of_getElem? (i := 18) rfl))
set_option maxRecDepth 100000 in
theorem dL_law_32 : decode cL_law 32 = .ok (.aload_n 0, 1) := of_decide_eq_true (List.all_eq_true.mp tL_0_ok (32, .aload_n 0, 1) (List.mem_of_getElem? (i := 19) rfl))
set_option maxRecDepth 100000 in
theorem dL_law_33 : decode cL_law 33 = .ok (.iload 4, 2) := of_decide_eq_true (List.all_eq_true.mp tL_0_ok (33, .iload 4, 2) (List.mem_of_getElem? (i := 20) rfl))
set_option maxRecDepth 100000 in
theorem dL_law_35 : decode cL_law 35 = .ok (.iaload, 1) := of_decide_eq_true (List.all_eq_true.mp tL_0_ok (35, .iaload, 1) (List.mem_of_getElem? (i := 21) rfl))
set_option maxRecDepth 100000 in
theorem dL_law_36 : decode cL_law 36 = .ok (.bipush 31, 2) := of_decide_eq_true (List.all_eq_true.mp tL_0_ok (36, .bipush 31, 2) (List.mem_of_getElem? (i := 22) rfl))
set_option maxRecDepth 100000 in
theorem dL_law_38 : decode cL_law 38 = .ok (.iand, 1) := of_decide_eq_true (List.all_eq_true.mp tL_0_ok (38, .iand, 1) (List.mem_of_getElem? (i := 23) rfl))
set_option maxRecDepth 100000 in
theorem dL_law_39 : decode cL_law 39 = .ok (.tableswitch 1952 0 29 #[133, 189, 202, 215, 259, 315, 371, 426, 494, 574, 641, 697, 781, 849, 905, 961, 1017, 1101, 1169, 1236, 1280, 1336, 1392, 1460, 1516, 1572, 1640, 1740, 1840, 1896], 133) := of_decide_eq_true (List.all_eq_true.mp tL_0_ok (39, .tableswitch 1952 0 29 #[133, 189, 202, 215, 259, 315, 371, 426, 494, 574, 641, 697, 781, 849, 905, 961, 1017, 1101, 1169, 1236, 1280, 1336, 1392, 1460, 1516, 1572, 1640, 1740, 1840, 1896], 133) (List.mem_of_getElem? (i := 24) rfl))
set_option maxRecDepth 100000 in
theorem dL_law_172 : decode cL_law 172 = .ok (.aload_n 1, 1) := of_decide_eq_true (List.all_eq_true.mp tL_0_ok (172, .aload_n 1, 1) (List.mem_of_getElem? (i := 25) rfl))
set_option maxRecDepth 100000 in
theorem dL_law_173 : decode cL_law 173 = .ok (.aload_n 0, 1) := of_decide_eq_true (List.all_eq_true.mp tL_0_ok (173, .aload_n 0, 1) (List.mem_of_getElem? (i := 26) rfl))
set_option maxRecDepth 100000 in
theorem dL_law_174 : decode cL_law 174 = .ok (.iload 4, 2) := of_decide_eq_true (List.all_eq_true.mp tL_0_ok (174, .iload 4, 2) (List.mem_of_getElem? (i := 27) rfl))
set_option maxRecDepth 100000 in
theorem dL_law_176 : decode cL_law 176 = .ok (.iconst 1, 1) := of_decide_eq_true (List.all_eq_true.mp tL_0_ok (176, .iconst 1, 1) (List.mem_of_getElem? (i := 28) rfl))
set_option maxRecDepth 100000 in
theorem dL_law_177 : decode cL_law 177 = .ok (.iadd, 1) := of_decide_eq_true (List.all_eq_true.mp tL_0_ok (177, .iadd, 1) (List.mem_of_getElem? (i := 29) rfl))
set_option maxRecDepth 100000 in
theorem dL_law_178 : decode cL_law 178 = .ok (.iaload, 1) := of_decide_eq_true (List.all_eq_true.mp tL_0_ok (178, .iaload, 1) (List.mem_of_getElem? (i := 30) rfl))
set_option maxRecDepth 100000 in
theorem dL_law_179 : decode cL_law 179 = .ok (.aload_n 3, 1) := of_decide_eq_true (List.all_eq_true.mp tL_0_ok (179, .aload_n 3, 1) (List.mem_of_getElem? (i := 31) rfl))
set_option maxRecDepth 100000 in
theorem dL_law_180 : decode cL_law 180 = .ok (.invokestatic 112, 3) := of_decide_eq_true (List.all_eq_true.mp tL_0_ok (180, .invokestatic 112, 3) (List.mem_of_getElem? (i := 32) rfl))
set_option maxRecDepth 100000 in
theorem dL_law_183 : decode cL_law 183 = .ok (.istore 5, 2) := of_decide_eq_true (List.all_eq_true.mp tL_0_ok (183, .istore 5, 2) (List.mem_of_getElem? (i := 33) rfl))
set_option maxRecDepth 100000 in
theorem dL_law_185 : decode cL_law 185 = .ok (.aload_n 2, 1) := of_decide_eq_true (List.all_eq_true.mp tL_0_ok (185, .aload_n 2, 1) (List.mem_of_getElem? (i := 34) rfl))
set_option maxRecDepth 100000 in
theorem dL_law_186 : decode cL_law 186 = .ok (.aload_n 0, 1) := of_decide_eq_true (List.all_eq_true.mp tL_0_ok (186, .aload_n 0, 1) (List.mem_of_getElem? (i := 35) rfl))
set_option maxRecDepth 100000 in
theorem dL_law_187 : decode cL_law 187 = .ok (.iload 4, 2) := of_decide_eq_true (List.all_eq_true.mp tL_0_ok (187, .iload 4, 2) (List.mem_of_getElem? (i := 36) rfl))
set_option maxRecDepth 100000 in
theorem dL_law_189 : decode cL_law 189 = .ok (.iconst 1, 1) := of_decide_eq_true (List.all_eq_true.mp tL_0_ok (189, .iconst 1, 1) (List.mem_of_getElem? (i := 37) rfl))
set_option maxRecDepth 100000 in
theorem dL_law_190 : decode cL_law 190 = .ok (.iadd, 1) := of_decide_eq_true (List.all_eq_true.mp tL_0_ok (190, .iadd, 1) (List.mem_of_getElem? (i := 38) rfl))
set_option maxRecDepth 100000 in
theorem dL_law_191 : decode cL_law 191 = .ok (.iaload, 1) := of_decide_eq_true (List.all_eq_true.mp tL_0_ok (191, .iaload, 1) (List.mem_of_getElem? (i := 39) rfl))
set_option maxRecDepth 100000 in
theorem dL_law_192 : decode cL_law 192 = .ok (.invokevirtual 117, 3) := of_decide_eq_true (List.all_eq_true.mp tL_0_ok (192, .invokevirtual 117, 3) (List.mem_of_getElem? (i := 40) rfl))
set_option maxRecDepth 100000 in
theorem dL_law_195 : decode cL_law 195 = .ok (.istore 6, 2) := of_decide_eq_true (List.all_eq_true.mp tL_0_ok (195, .istore 6, 2) (List.mem_of_getElem? (i := 41) rfl))
set_option maxRecDepth 100000 in
theorem dL_law_197 : decode cL_law 197 = .ok (.aload_n 2, 1) := of_decide_eq_true (List.all_eq_true.mp tL_0_ok (197, .aload_n 2, 1) (List.mem_of_getElem? (i := 42) rfl))
set_option maxRecDepth 100000 in
theorem dL_law_198 : decode cL_law 198 = .ok (.invokevirtual 118, 3) := of_decide_eq_true (List.all_eq_true.mp tL_0_ok (198, .invokevirtual 118, 3) (List.mem_of_getElem? (i := 43) rfl))
set_option maxRecDepth 100000 in
theorem dL_law_201 : decode cL_law 201 = .ok (.iload 5, 2) := of_decide_eq_true (List.all_eq_true.mp tL_0_ok (201, .iload 5, 2) (List.mem_of_getElem? (i := 44) rfl))
set_option maxRecDepth 100000 in
theorem dL_law_203 : decode cL_law 203 = .ok (.if_icmp .eq 5, 3) := of_decide_eq_true (List.all_eq_true.mp tL_0_ok (203, .if_icmp .eq 5, 3) (List.mem_of_getElem? (i := 45) rfl))
set_option maxRecDepth 100000 in
theorem dL_law_206 : decode cL_law 206 = .ok (.iconst 0, 1) := of_decide_eq_true (List.all_eq_true.mp tL_0_ok (206, .iconst 0, 1) (List.mem_of_getElem? (i := 46) rfl))
set_option maxRecDepth 100000 in
theorem dL_law_207 : decode cL_law 207 = .ok (.ireturn, 1) := of_decide_eq_true (List.all_eq_true.mp tL_0_ok (207, .ireturn, 1) (List.mem_of_getElem? (i := 47) rfl))
set_option maxRecDepth 100000 in
theorem dL_law_208 : decode cL_law 208 = .ok (.iload 5, 2) := of_decide_eq_true (List.all_eq_true.mp tL_0_ok (208, .iload 5, 2) (List.mem_of_getElem? (i := 48) rfl))
set_option maxRecDepth 100000 in
theorem dL_law_210 : decode cL_law 210 = .ok (.ifCond .ne 15, 3) := of_decide_eq_true (List.all_eq_true.mp tL_0_ok (210, .ifCond .ne 15, 3) (List.mem_of_getElem? (i := 49) rfl))
set_option maxRecDepth 100000 in
theorem dL_law_213 : decode cL_law 213 = .ok (.aload_n 3, 1) := of_decide_eq_true (List.all_eq_true.mp tL_0_ok (213, .aload_n 3, 1) (List.mem_of_getElem? (i := 50) rfl))
set_option maxRecDepth 100000 in
theorem dL_law_214 : decode cL_law 214 = .ok (.iconst 0, 1) := of_decide_eq_true (List.all_eq_true.mp tL_0_ok (214, .iconst 0, 1) (List.mem_of_getElem? (i := 51) rfl))
set_option maxRecDepth 100000 in
theorem dL_law_215 : decode cL_law 215 = .ok (.laload, 1) := of_decide_eq_true (List.all_eq_true.mp tL_0_ok (215, .laload, 1) (List.mem_of_getElem? (i := 52) rfl))
set_option maxRecDepth 100000 in
theorem dL_law_216 : decode cL_law 216 = .ok (.iload 6, 2) := of_decide_eq_true (List.all_eq_true.mp tL_0_ok (216, .iload 6, 2) (List.mem_of_getElem? (i := 53) rfl))
set_option maxRecDepth 100000 in
theorem dL_law_218 : decode cL_law 218 = .ok (.i2l, 1) := of_decide_eq_true (List.all_eq_true.mp tL_0_ok (218, .i2l, 1) (List.mem_of_getElem? (i := 54) rfl))
set_option maxRecDepth 100000 in
theorem dL_law_219 : decode cL_law 219 = .ok (.lcmp, 1) := of_decide_eq_true (List.all_eq_true.mp tL_0_ok (219, .lcmp, 1) (List.mem_of_getElem? (i := 55) rfl))
set_option maxRecDepth 100000 in
theorem dL_law_220 : decode cL_law 220 = .ok (.ifCond .eq 5, 3) := of_decide_eq_true (List.all_eq_true.mp tL_0_ok (220, .ifCond .eq 5, 3) (List.mem_of_getElem? (i := 56) rfl))
set_option maxRecDepth 100000 in
theorem dL_law_223 : decode cL_law 223 = .ok (.iconst 0, 1) := of_decide_eq_true (List.all_eq_true.mp tL_0_ok (223, .iconst 0, 1) (List.mem_of_getElem? (i := 57) rfl))
set_option maxRecDepth 100000 in
theorem dL_law_224 : decode cL_law 224 = .ok (.ireturn, 1) := of_decide_eq_true (List.all_eq_true.mp tL_0_ok (224, .ireturn, 1) (List.mem_of_getElem? (i := 58) rfl))
set_option maxRecDepth 100000 in
theorem dL_law_225 : decode cL_law 225 = .ok (.goto 1766, 3) := of_decide_eq_true (List.all_eq_true.mp tL_0_ok (225, .goto 1766, 3) (List.mem_of_getElem? (i := 59) rfl))
set_option maxRecDepth 100000 in
theorem dL_law_228 : decode cL_law 228 = .ok (.aload_n 1, 1) := of_decide_eq_true (List.all_eq_true.mp tL_0_ok (228, .aload_n 1, 1) (List.mem_of_getElem? (i := 60) rfl))
set_option maxRecDepth 100000 in
theorem dL_law_229 : decode cL_law 229 = .ok (.invokevirtual 121, 3) := of_decide_eq_true (List.all_eq_true.mp tL_0_ok (229, .invokevirtual 121, 3) (List.mem_of_getElem? (i := 61) rfl))
set_option maxRecDepth 100000 in
theorem dL_law_232 : decode cL_law 232 = .ok (.aload_n 2, 1) := of_decide_eq_true (List.all_eq_true.mp tL_0_ok (232, .aload_n 2, 1) (List.mem_of_getElem? (i := 62) rfl))
set_option maxRecDepth 100000 in
theorem dL_law_233 : decode cL_law 233 = .ok (.invokevirtual 124, 3) := of_decide_eq_true (List.all_eq_true.mp tL_0_ok (233, .invokevirtual 124, 3) (List.mem_of_getElem? (i := 63) rfl))
set_option maxRecDepth 100000 in
theorem dL_law_236 : decode cL_law 236 = .ok (.if_icmp .eq 1755, 3) := of_decide_eq_true (List.all_eq_true.mp tL_0_ok (236, .if_icmp .eq 1755, 3) (List.mem_of_getElem? (i := 64) rfl))
set_option maxRecDepth 100000 in
theorem dL_law_239 : decode cL_law 239 = .ok (.iconst 0, 1) := of_decide_eq_true (List.all_eq_true.mp tL_0_ok (239, .iconst 0, 1) (List.mem_of_getElem? (i := 65) rfl))
set_option maxRecDepth 100000 in
theorem dL_law_240 : decode cL_law 240 = .ok (.ireturn, 1) := of_decide_eq_true (List.all_eq_true.mp tL_0_ok (240, .ireturn, 1) (List.mem_of_getElem? (i := 66) rfl))
set_option maxRecDepth 100000 in
theorem dL_law_241 : decode cL_law 241 = .ok (.aload_n 1, 1) := of_decide_eq_true (List.all_eq_true.mp tL_0_ok (241, .aload_n 1, 1) (List.mem_of_getElem? (i := 67) rfl))
set_option maxRecDepth 100000 in
theorem dL_law_242 : decode cL_law 242 = .ok (.invokevirtual 125, 3) := of_decide_eq_true (List.all_eq_true.mp tL_0_ok (242, .invokevirtual 125, 3) (List.mem_of_getElem? (i := 68) rfl))
set_option maxRecDepth 100000 in
theorem dL_law_245 : decode cL_law 245 = .ok (.aload_n 2, 1) := of_decide_eq_true (List.all_eq_true.mp tL_0_ok (245, .aload_n 2, 1) (List.mem_of_getElem? (i := 69) rfl))
set_option maxRecDepth 100000 in
theorem dL_law_246 : decode cL_law 246 = .ok (.invokevirtual 128, 3) := of_decide_eq_true (List.all_eq_true.mp tL_0_ok (246, .invokevirtual 128, 3) (List.mem_of_getElem? (i := 70) rfl))
set_option maxRecDepth 100000 in
theorem dL_law_249 : decode cL_law 249 = .ok (.if_icmp .eq 1742, 3) := of_decide_eq_true (List.all_eq_true.mp tL_0_ok (249, .if_icmp .eq 1742, 3) (List.mem_of_getElem? (i := 71) rfl))
set_option maxRecDepth 100000 in
theorem dL_law_252 : decode cL_law 252 = .ok (.iconst 0, 1) := of_decide_eq_true (List.all_eq_true.mp tL_0_ok (252, .iconst 0, 1) (List.mem_of_getElem? (i := 72) rfl))
set_option maxRecDepth 100000 in
theorem dL_law_253 : decode cL_law 253 = .ok (.ireturn, 1) := of_decide_eq_true (List.all_eq_true.mp tL_0_ok (253, .ireturn, 1) (List.mem_of_getElem? (i := 73) rfl))
set_option maxRecDepth 100000 in
theorem dL_law_254 : decode cL_law 254 = .ok (.aload_n 1, 1) := of_decide_eq_true (List.all_eq_true.mp tL_0_ok (254, .aload_n 1, 1) (List.mem_of_getElem? (i := 74) rfl))
set_option maxRecDepth 100000 in
theorem dL_law_255 : decode cL_law 255 = .ok (.aload_n 3, 1) := of_decide_eq_true (List.all_eq_true.mp tL_0_ok (255, .aload_n 3, 1) (List.mem_of_getElem? (i := 75) rfl))
set_option maxRecDepth 100000 in
theorem dL_law_256 : decode cL_law 256 = .ok (.invokestatic 129, 3) := of_decide_eq_true (List.all_eq_true.mp tL_0_ok (256, .invokestatic 129, 3) (List.mem_of_getElem? (i := 76) rfl))
set_option maxRecDepth 100000 in
theorem dL_law_259 : decode cL_law 259 = .ok (.istore 5, 2) := of_decide_eq_true (List.all_eq_true.mp tL_0_ok (259, .istore 5, 2) (List.mem_of_getElem? (i := 77) rfl))
set_option maxRecDepth 100000 in
theorem dL_law_261 : decode cL_law 261 = .ok (.aload_n 2, 1) := of_decide_eq_true (List.all_eq_true.mp tL_0_ok (261, .aload_n 2, 1) (List.mem_of_getElem? (i := 78) rfl))
set_option maxRecDepth 100000 in
theorem dL_law_262 : decode cL_law 262 = .ok (.invokevirtual 132, 3) := of_decide_eq_true (List.all_eq_true.mp tL_0_ok (262, .invokevirtual 132, 3) (List.mem_of_getElem? (i := 79) rfl))
set_option maxRecDepth 100000 in
theorem dL_law_265 : decode cL_law 265 = .ok (.istore 6, 2) := of_decide_eq_true (List.all_eq_true.mp tL_0_ok (265, .istore 6, 2) (List.mem_of_getElem? (i := 80) rfl))
set_option maxRecDepth 100000 in
theorem dL_law_267 : decode cL_law 267 = .ok (.aload_n 2, 1) := of_decide_eq_true (List.all_eq_true.mp tL_0_ok (267, .aload_n 2, 1) (List.mem_of_getElem? (i := 81) rfl))
set_option maxRecDepth 100000 in
theorem dL_law_268 : decode cL_law 268 = .ok (.invokevirtual 118, 3) := of_decide_eq_true (List.all_eq_true.mp tL_0_ok (268, .invokevirtual 118, 3) (List.mem_of_getElem? (i := 82) rfl))
set_option maxRecDepth 100000 in
theorem dL_law_271 : decode cL_law 271 = .ok (.iload 5, 2) := of_decide_eq_true (List.all_eq_true.mp tL_0_ok (271, .iload 5, 2) (List.mem_of_getElem? (i := 83) rfl))
set_option maxRecDepth 100000 in
theorem dL_law_273 : decode cL_law 273 = .ok (.if_icmp .eq 5, 3) := of_decide_eq_true (List.all_eq_true.mp tL_0_ok (273, .if_icmp .eq 5, 3) (List.mem_of_getElem? (i := 84) rfl))
set_option maxRecDepth 100000 in
theorem dL_law_276 : decode cL_law 276 = .ok (.iconst 0, 1) := of_decide_eq_true (List.all_eq_true.mp tL_0_ok (276, .iconst 0, 1) (List.mem_of_getElem? (i := 85) rfl))
set_option maxRecDepth 100000 in
theorem dL_law_277 : decode cL_law 277 = .ok (.ireturn, 1) := of_decide_eq_true (List.all_eq_true.mp tL_0_ok (277, .ireturn, 1) (List.mem_of_getElem? (i := 86) rfl))
set_option maxRecDepth 100000 in
theorem dL_law_278 : decode cL_law 278 = .ok (.iload 5, 2) := of_decide_eq_true (List.all_eq_true.mp tL_0_ok (278, .iload 5, 2) (List.mem_of_getElem? (i := 87) rfl))
set_option maxRecDepth 100000 in
theorem dL_law_280 : decode cL_law 280 = .ok (.ifCond .ne 15, 3) := of_decide_eq_true (List.all_eq_true.mp tL_0_ok (280, .ifCond .ne 15, 3) (List.mem_of_getElem? (i := 88) rfl))
set_option maxRecDepth 100000 in
theorem dL_law_283 : decode cL_law 283 = .ok (.aload_n 3, 1) := of_decide_eq_true (List.all_eq_true.mp tL_0_ok (283, .aload_n 3, 1) (List.mem_of_getElem? (i := 89) rfl))
set_option maxRecDepth 100000 in
theorem dL_law_284 : decode cL_law 284 = .ok (.iconst 0, 1) := of_decide_eq_true (List.all_eq_true.mp tL_0_ok (284, .iconst 0, 1) (List.mem_of_getElem? (i := 90) rfl))
set_option maxRecDepth 100000 in
theorem dL_law_285 : decode cL_law 285 = .ok (.laload, 1) := of_decide_eq_true (List.all_eq_true.mp tL_0_ok (285, .laload, 1) (List.mem_of_getElem? (i := 91) rfl))
set_option maxRecDepth 100000 in
theorem dL_law_286 : decode cL_law 286 = .ok (.iload 6, 2) := of_decide_eq_true (List.all_eq_true.mp tL_0_ok (286, .iload 6, 2) (List.mem_of_getElem? (i := 92) rfl))
set_option maxRecDepth 100000 in
theorem dL_law_288 : decode cL_law 288 = .ok (.i2l, 1) := of_decide_eq_true (List.all_eq_true.mp tL_0_ok (288, .i2l, 1) (List.mem_of_getElem? (i := 93) rfl))
set_option maxRecDepth 100000 in
theorem dL_law_289 : decode cL_law 289 = .ok (.lcmp, 1) := of_decide_eq_true (List.all_eq_true.mp tL_0_ok (289, .lcmp, 1) (List.mem_of_getElem? (i := 94) rfl))
set_option maxRecDepth 100000 in
theorem dL_law_290 : decode cL_law 290 = .ok (.ifCond .eq 5, 3) := of_decide_eq_true (List.all_eq_true.mp tL_0_ok (290, .ifCond .eq 5, 3) (List.mem_of_getElem? (i := 95) rfl))
set_option maxRecDepth 100000 in
theorem dL_law_293 : decode cL_law 293 = .ok (.iconst 0, 1) := of_decide_eq_true (List.all_eq_true.mp tL_0_ok (293, .iconst 0, 1) (List.mem_of_getElem? (i := 96) rfl))
set_option maxRecDepth 100000 in
theorem dL_law_294 : decode cL_law 294 = .ok (.ireturn, 1) := of_decide_eq_true (List.all_eq_true.mp tL_0_ok (294, .ireturn, 1) (List.mem_of_getElem? (i := 97) rfl))
set_option maxRecDepth 100000 in
theorem dL_law_295 : decode cL_law 295 = .ok (.goto 1696, 3) := of_decide_eq_true (List.all_eq_true.mp tL_0_ok (295, .goto 1696, 3) (List.mem_of_getElem? (i := 98) rfl))
set_option maxRecDepth 100000 in
theorem dL_law_298 : decode cL_law 298 = .ok (.aload_n 1, 1) := of_decide_eq_true (List.all_eq_true.mp tL_0_ok (298, .aload_n 1, 1) (List.mem_of_getElem? (i := 99) rfl))
set_option maxRecDepth 100000 in
theorem dL_law_299 : decode cL_law 299 = .ok (.aload_n 0, 1) := of_decide_eq_true (List.all_eq_true.mp tL_0_ok (299, .aload_n 0, 1) (List.mem_of_getElem? (i := 100) rfl))
set_option maxRecDepth 100000 in
theorem dL_law_300 : decode cL_law 300 = .ok (.iload 4, 2) := of_decide_eq_true (List.all_eq_true.mp tL_0_ok (300, .iload 4, 2) (List.mem_of_getElem? (i := 101) rfl))
set_option maxRecDepth 100000 in
theorem dL_law_302 : decode cL_law 302 = .ok (.iconst 1, 1) := of_decide_eq_true (List.all_eq_true.mp tL_0_ok (302, .iconst 1, 1) (List.mem_of_getElem? (i := 102) rfl))
set_option maxRecDepth 100000 in
theorem dL_law_303 : decode cL_law 303 = .ok (.iadd, 1) := of_decide_eq_true (List.all_eq_true.mp tL_0_ok (303, .iadd, 1) (List.mem_of_getElem? (i := 103) rfl))
set_option maxRecDepth 100000 in
theorem dL_law_304 : decode cL_law 304 = .ok (.iaload, 1) := of_decide_eq_true (List.all_eq_true.mp tL_0_ok (304, .iaload, 1) (List.mem_of_getElem? (i := 104) rfl))
set_option maxRecDepth 100000 in
theorem dL_law_305 : decode cL_law 305 = .ok (.aload_n 3, 1) := of_decide_eq_true (List.all_eq_true.mp tL_0_ok (305, .aload_n 3, 1) (List.mem_of_getElem? (i := 105) rfl))
set_option maxRecDepth 100000 in
theorem dL_law_306 : decode cL_law 306 = .ok (.invokestatic 133, 3) := of_decide_eq_true (List.all_eq_true.mp tL_0_ok (306, .invokestatic 133, 3) (List.mem_of_getElem? (i := 106) rfl))
set_option maxRecDepth 100000 in
theorem dL_law_309 : decode cL_law 309 = .ok (.istore 5, 2) := of_decide_eq_true (List.all_eq_true.mp tL_0_ok (309, .istore 5, 2) (List.mem_of_getElem? (i := 107) rfl))
set_option maxRecDepth 100000 in
theorem dL_law_311 : decode cL_law 311 = .ok (.aload_n 2, 1) := of_decide_eq_true (List.all_eq_true.mp tL_0_ok (311, .aload_n 2, 1) (List.mem_of_getElem? (i := 108) rfl))
set_option maxRecDepth 100000 in
theorem dL_law_312 : decode cL_law 312 = .ok (.aload_n 0, 1) := of_decide_eq_true (List.all_eq_true.mp tL_0_ok (312, .aload_n 0, 1) (List.mem_of_getElem? (i := 109) rfl))
set_option maxRecDepth 100000 in
theorem dL_law_313 : decode cL_law 313 = .ok (.iload 4, 2) := of_decide_eq_true (List.all_eq_true.mp tL_0_ok (313, .iload 4, 2) (List.mem_of_getElem? (i := 110) rfl))
set_option maxRecDepth 100000 in
theorem dL_law_315 : decode cL_law 315 = .ok (.iconst 1, 1) := of_decide_eq_true (List.all_eq_true.mp tL_0_ok (315, .iconst 1, 1) (List.mem_of_getElem? (i := 111) rfl))
set_option maxRecDepth 100000 in
theorem dL_law_316 : decode cL_law 316 = .ok (.iadd, 1) := of_decide_eq_true (List.all_eq_true.mp tL_0_ok (316, .iadd, 1) (List.mem_of_getElem? (i := 112) rfl))
set_option maxRecDepth 100000 in
theorem dL_law_317 : decode cL_law 317 = .ok (.iaload, 1) := of_decide_eq_true (List.all_eq_true.mp tL_0_ok (317, .iaload, 1) (List.mem_of_getElem? (i := 113) rfl))
set_option maxRecDepth 100000 in
theorem dL_law_318 : decode cL_law 318 = .ok (.invokevirtual 135, 3) := of_decide_eq_true (List.all_eq_true.mp tL_0_ok (318, .invokevirtual 135, 3) (List.mem_of_getElem? (i := 114) rfl))
set_option maxRecDepth 100000 in
theorem dL_law_321 : decode cL_law 321 = .ok (.istore 6, 2) := of_decide_eq_true (List.all_eq_true.mp tL_0_ok (321, .istore 6, 2) (List.mem_of_getElem? (i := 115) rfl))
set_option maxRecDepth 100000 in
theorem dL_law_323 : decode cL_law 323 = .ok (.aload_n 2, 1) := of_decide_eq_true (List.all_eq_true.mp tL_0_ok (323, .aload_n 2, 1) (List.mem_of_getElem? (i := 116) rfl))
set_option maxRecDepth 100000 in
theorem dL_law_324 : decode cL_law 324 = .ok (.invokevirtual 118, 3) := of_decide_eq_true (List.all_eq_true.mp tL_0_ok (324, .invokevirtual 118, 3) (List.mem_of_getElem? (i := 117) rfl))
set_option maxRecDepth 100000 in
theorem dL_law_327 : decode cL_law 327 = .ok (.iload 5, 2) := of_decide_eq_true (List.all_eq_true.mp tL_0_ok (327, .iload 5, 2) (List.mem_of_getElem? (i := 118) rfl))
set_option maxRecDepth 100000 in
theorem dL_law_329 : decode cL_law 329 = .ok (.if_icmp .eq 5, 3) := of_decide_eq_true (List.all_eq_true.mp tL_0_ok (329, .if_icmp .eq 5, 3) (List.mem_of_getElem? (i := 119) rfl))
set_option maxRecDepth 100000 in
theorem dL_law_332 : decode cL_law 332 = .ok (.iconst 0, 1) := of_decide_eq_true (List.all_eq_true.mp tL_0_ok (332, .iconst 0, 1) (List.mem_of_getElem? (i := 120) rfl))
set_option maxRecDepth 100000 in
theorem dL_law_333 : decode cL_law 333 = .ok (.ireturn, 1) := of_decide_eq_true (List.all_eq_true.mp tL_0_ok (333, .ireturn, 1) (List.mem_of_getElem? (i := 121) rfl))
set_option maxRecDepth 100000 in
theorem dL_law_334 : decode cL_law 334 = .ok (.iload 5, 2) := of_decide_eq_true (List.all_eq_true.mp tL_0_ok (334, .iload 5, 2) (List.mem_of_getElem? (i := 122) rfl))
set_option maxRecDepth 100000 in
theorem dL_law_336 : decode cL_law 336 = .ok (.ifCond .ne 15, 3) := of_decide_eq_true (List.all_eq_true.mp tL_0_ok (336, .ifCond .ne 15, 3) (List.mem_of_getElem? (i := 123) rfl))
set_option maxRecDepth 100000 in
theorem dL_law_339 : decode cL_law 339 = .ok (.aload_n 3, 1) := of_decide_eq_true (List.all_eq_true.mp tL_0_ok (339, .aload_n 3, 1) (List.mem_of_getElem? (i := 124) rfl))
set_option maxRecDepth 100000 in
theorem dL_law_340 : decode cL_law 340 = .ok (.iconst 0, 1) := of_decide_eq_true (List.all_eq_true.mp tL_0_ok (340, .iconst 0, 1) (List.mem_of_getElem? (i := 125) rfl))
set_option maxRecDepth 100000 in
theorem dL_law_341 : decode cL_law 341 = .ok (.laload, 1) := of_decide_eq_true (List.all_eq_true.mp tL_0_ok (341, .laload, 1) (List.mem_of_getElem? (i := 126) rfl))
set_option maxRecDepth 100000 in
theorem dL_law_342 : decode cL_law 342 = .ok (.iload 6, 2) := of_decide_eq_true (List.all_eq_true.mp tL_0_ok (342, .iload 6, 2) (List.mem_of_getElem? (i := 127) rfl))
set_option maxRecDepth 100000 in
theorem dL_law_344 : decode cL_law 344 = .ok (.i2l, 1) := of_decide_eq_true (List.all_eq_true.mp tL_0_ok (344, .i2l, 1) (List.mem_of_getElem? (i := 128) rfl))
set_option maxRecDepth 100000 in
theorem dL_law_345 : decode cL_law 345 = .ok (.lcmp, 1) := of_decide_eq_true (List.all_eq_true.mp tL_0_ok (345, .lcmp, 1) (List.mem_of_getElem? (i := 129) rfl))
set_option maxRecDepth 100000 in
theorem dL_law_346 : decode cL_law 346 = .ok (.ifCond .eq 5, 3) := of_decide_eq_true (List.all_eq_true.mp tL_0_ok (346, .ifCond .eq 5, 3) (List.mem_of_getElem? (i := 130) rfl))
set_option maxRecDepth 100000 in
theorem dL_law_349 : decode cL_law 349 = .ok (.iconst 0, 1) := of_decide_eq_true (List.all_eq_true.mp tL_0_ok (349, .iconst 0, 1) (List.mem_of_getElem? (i := 131) rfl))
set_option maxRecDepth 100000 in
theorem dL_law_350 : decode cL_law 350 = .ok (.ireturn, 1) := of_decide_eq_true (List.all_eq_true.mp tL_0_ok (350, .ireturn, 1) (List.mem_of_getElem? (i := 132) rfl))
set_option maxRecDepth 100000 in
theorem dL_law_351 : decode cL_law 351 = .ok (.goto 1640, 3) := of_decide_eq_true (List.all_eq_true.mp tL_0_ok (351, .goto 1640, 3) (List.mem_of_getElem? (i := 133) rfl))
set_option maxRecDepth 100000 in
theorem dL_law_354 : decode cL_law 354 = .ok (.aload_n 1, 1) := of_decide_eq_true (List.all_eq_true.mp tL_0_ok (354, .aload_n 1, 1) (List.mem_of_getElem? (i := 134) rfl))
set_option maxRecDepth 100000 in
theorem dL_law_355 : decode cL_law 355 = .ok (.aload_n 0, 1) := of_decide_eq_true (List.all_eq_true.mp tL_0_ok (355, .aload_n 0, 1) (List.mem_of_getElem? (i := 135) rfl))
set_option maxRecDepth 100000 in
theorem dL_law_356 : decode cL_law 356 = .ok (.iload 4, 2) := of_decide_eq_true (List.all_eq_true.mp tL_0_ok (356, .iload 4, 2) (List.mem_of_getElem? (i := 136) rfl))
set_option maxRecDepth 100000 in
theorem dL_law_358 : decode cL_law 358 = .ok (.iconst 1, 1) := of_decide_eq_true (List.all_eq_true.mp tL_0_ok (358, .iconst 1, 1) (List.mem_of_getElem? (i := 137) rfl))
set_option maxRecDepth 100000 in
theorem dL_law_359 : decode cL_law 359 = .ok (.iadd, 1) := of_decide_eq_true (List.all_eq_true.mp tL_0_ok (359, .iadd, 1) (List.mem_of_getElem? (i := 138) rfl))
set_option maxRecDepth 100000 in
theorem dL_law_360 : decode cL_law 360 = .ok (.iaload, 1) := of_decide_eq_true (List.all_eq_true.mp tL_0_ok (360, .iaload, 1) (List.mem_of_getElem? (i := 139) rfl))
set_option maxRecDepth 100000 in
theorem dL_law_361 : decode cL_law 361 = .ok (.aload_n 3, 1) := of_decide_eq_true (List.all_eq_true.mp tL_0_ok (361, .aload_n 3, 1) (List.mem_of_getElem? (i := 140) rfl))
set_option maxRecDepth 100000 in
theorem dL_law_362 : decode cL_law 362 = .ok (.invokestatic 136, 3) := of_decide_eq_true (List.all_eq_true.mp tL_0_ok (362, .invokestatic 136, 3) (List.mem_of_getElem? (i := 141) rfl))
set_option maxRecDepth 100000 in
theorem dL_law_365 : decode cL_law 365 = .ok (.istore 5, 2) := of_decide_eq_true (List.all_eq_true.mp tL_0_ok (365, .istore 5, 2) (List.mem_of_getElem? (i := 142) rfl))
set_option maxRecDepth 100000 in
theorem dL_law_367 : decode cL_law 367 = .ok (.aload_n 2, 1) := of_decide_eq_true (List.all_eq_true.mp tL_0_ok (367, .aload_n 2, 1) (List.mem_of_getElem? (i := 143) rfl))
set_option maxRecDepth 100000 in
theorem dL_law_368 : decode cL_law 368 = .ok (.aload_n 0, 1) := of_decide_eq_true (List.all_eq_true.mp tL_0_ok (368, .aload_n 0, 1) (List.mem_of_getElem? (i := 144) rfl))
set_option maxRecDepth 100000 in
theorem dL_law_369 : decode cL_law 369 = .ok (.iload 4, 2) := of_decide_eq_true (List.all_eq_true.mp tL_0_ok (369, .iload 4, 2) (List.mem_of_getElem? (i := 145) rfl))
set_option maxRecDepth 100000 in
theorem dL_law_371 : decode cL_law 371 = .ok (.iconst 1, 1) := of_decide_eq_true (List.all_eq_true.mp tL_0_ok (371, .iconst 1, 1) (List.mem_of_getElem? (i := 146) rfl))
set_option maxRecDepth 100000 in
theorem dL_law_372 : decode cL_law 372 = .ok (.iadd, 1) := of_decide_eq_true (List.all_eq_true.mp tL_0_ok (372, .iadd, 1) (List.mem_of_getElem? (i := 147) rfl))
set_option maxRecDepth 100000 in
theorem dL_law_373 : decode cL_law 373 = .ok (.iaload, 1) := of_decide_eq_true (List.all_eq_true.mp tL_0_ok (373, .iaload, 1) (List.mem_of_getElem? (i := 148) rfl))
set_option maxRecDepth 100000 in
theorem dL_law_374 : decode cL_law 374 = .ok (.invokevirtual 138, 3) := of_decide_eq_true (List.all_eq_true.mp tL_0_ok (374, .invokevirtual 138, 3) (List.mem_of_getElem? (i := 149) rfl))
set_option maxRecDepth 100000 in
theorem dL_law_377 : decode cL_law 377 = .ok (.istore 6, 2) := of_decide_eq_true (List.all_eq_true.mp tL_0_ok (377, .istore 6, 2) (List.mem_of_getElem? (i := 150) rfl))
set_option maxRecDepth 100000 in
theorem dL_law_379 : decode cL_law 379 = .ok (.aload_n 2, 1) := of_decide_eq_true (List.all_eq_true.mp tL_0_ok (379, .aload_n 2, 1) (List.mem_of_getElem? (i := 151) rfl))
set_option maxRecDepth 100000 in
theorem dL_law_380 : decode cL_law 380 = .ok (.invokevirtual 118, 3) := of_decide_eq_true (List.all_eq_true.mp tL_0_ok (380, .invokevirtual 118, 3) (List.mem_of_getElem? (i := 152) rfl))
set_option maxRecDepth 100000 in
theorem dL_law_383 : decode cL_law 383 = .ok (.iload 5, 2) := of_decide_eq_true (List.all_eq_true.mp tL_0_ok (383, .iload 5, 2) (List.mem_of_getElem? (i := 153) rfl))
set_option maxRecDepth 100000 in
theorem dL_law_385 : decode cL_law 385 = .ok (.if_icmp .eq 5, 3) := of_decide_eq_true (List.all_eq_true.mp tL_0_ok (385, .if_icmp .eq 5, 3) (List.mem_of_getElem? (i := 154) rfl))
set_option maxRecDepth 100000 in
theorem dL_law_388 : decode cL_law 388 = .ok (.iconst 0, 1) := of_decide_eq_true (List.all_eq_true.mp tL_0_ok (388, .iconst 0, 1) (List.mem_of_getElem? (i := 155) rfl))
set_option maxRecDepth 100000 in
theorem dL_law_389 : decode cL_law 389 = .ok (.ireturn, 1) := of_decide_eq_true (List.all_eq_true.mp tL_0_ok (389, .ireturn, 1) (List.mem_of_getElem? (i := 156) rfl))
set_option maxRecDepth 100000 in
theorem dL_law_390 : decode cL_law 390 = .ok (.iload 5, 2) := of_decide_eq_true (List.all_eq_true.mp tL_0_ok (390, .iload 5, 2) (List.mem_of_getElem? (i := 157) rfl))
set_option maxRecDepth 100000 in
theorem dL_law_392 : decode cL_law 392 = .ok (.ifCond .ne 15, 3) := of_decide_eq_true (List.all_eq_true.mp tL_0_ok (392, .ifCond .ne 15, 3) (List.mem_of_getElem? (i := 158) rfl))
set_option maxRecDepth 100000 in
theorem dL_law_395 : decode cL_law 395 = .ok (.aload_n 3, 1) := of_decide_eq_true (List.all_eq_true.mp tL_0_ok (395, .aload_n 3, 1) (List.mem_of_getElem? (i := 159) rfl))
set_option maxRecDepth 100000 in
theorem dL_law_396 : decode cL_law 396 = .ok (.iconst 0, 1) := of_decide_eq_true (List.all_eq_true.mp tL_0_ok (396, .iconst 0, 1) (List.mem_of_getElem? (i := 160) rfl))
set_option maxRecDepth 100000 in
theorem dL_law_397 : decode cL_law 397 = .ok (.laload, 1) := of_decide_eq_true (List.all_eq_true.mp tL_0_ok (397, .laload, 1) (List.mem_of_getElem? (i := 161) rfl))
set_option maxRecDepth 100000 in
theorem dL_law_398 : decode cL_law 398 = .ok (.iload 6, 2) := of_decide_eq_true (List.all_eq_true.mp tL_0_ok (398, .iload 6, 2) (List.mem_of_getElem? (i := 162) rfl))
set_option maxRecDepth 100000 in
theorem dL_law_400 : decode cL_law 400 = .ok (.i2l, 1) := of_decide_eq_true (List.all_eq_true.mp tL_0_ok (400, .i2l, 1) (List.mem_of_getElem? (i := 163) rfl))
set_option maxRecDepth 100000 in
theorem dL_law_401 : decode cL_law 401 = .ok (.lcmp, 1) := of_decide_eq_true (List.all_eq_true.mp tL_0_ok (401, .lcmp, 1) (List.mem_of_getElem? (i := 164) rfl))
set_option maxRecDepth 100000 in
theorem dL_law_402 : decode cL_law 402 = .ok (.ifCond .eq 5, 3) := of_decide_eq_true (List.all_eq_true.mp tL_0_ok (402, .ifCond .eq 5, 3) (List.mem_of_getElem? (i := 165) rfl))
set_option maxRecDepth 100000 in
theorem dL_law_405 : decode cL_law 405 = .ok (.iconst 0, 1) := of_decide_eq_true (List.all_eq_true.mp tL_0_ok (405, .iconst 0, 1) (List.mem_of_getElem? (i := 166) rfl))
set_option maxRecDepth 100000 in
theorem dL_law_406 : decode cL_law 406 = .ok (.ireturn, 1) := of_decide_eq_true (List.all_eq_true.mp tL_0_ok (406, .ireturn, 1) (List.mem_of_getElem? (i := 167) rfl))
set_option maxRecDepth 100000 in
theorem dL_law_407 : decode cL_law 407 = .ok (.goto 1584, 3) := of_decide_eq_true (List.all_eq_true.mp tL_0_ok (407, .goto 1584, 3) (List.mem_of_getElem? (i := 168) rfl))
set_option maxRecDepth 100000 in
theorem dL_law_410 : decode cL_law 410 = .ok (.aload_n 1, 1) := of_decide_eq_true (List.all_eq_true.mp tL_0_ok (410, .aload_n 1, 1) (List.mem_of_getElem? (i := 169) rfl))
set_option maxRecDepth 100000 in
theorem dL_law_411 : decode cL_law 411 = .ok (.aload_n 0, 1) := of_decide_eq_true (List.all_eq_true.mp tL_0_ok (411, .aload_n 0, 1) (List.mem_of_getElem? (i := 170) rfl))
set_option maxRecDepth 100000 in
theorem dL_law_412 : decode cL_law 412 = .ok (.iload 4, 2) := of_decide_eq_true (List.all_eq_true.mp tL_0_ok (412, .iload 4, 2) (List.mem_of_getElem? (i := 171) rfl))
set_option maxRecDepth 100000 in
theorem dL_law_414 : decode cL_law 414 = .ok (.iconst 1, 1) := of_decide_eq_true (List.all_eq_true.mp tL_0_ok (414, .iconst 1, 1) (List.mem_of_getElem? (i := 172) rfl))
set_option maxRecDepth 100000 in
theorem dL_law_415 : decode cL_law 415 = .ok (.iadd, 1) := of_decide_eq_true (List.all_eq_true.mp tL_0_ok (415, .iadd, 1) (List.mem_of_getElem? (i := 173) rfl))
set_option maxRecDepth 100000 in
theorem dL_law_416 : decode cL_law 416 = .ok (.iaload, 1) := of_decide_eq_true (List.all_eq_true.mp tL_0_ok (416, .iaload, 1) (List.mem_of_getElem? (i := 174) rfl))
set_option maxRecDepth 100000 in
theorem dL_law_417 : decode cL_law 417 = .ok (.aload_n 3, 1) := of_decide_eq_true (List.all_eq_true.mp tL_0_ok (417, .aload_n 3, 1) (List.mem_of_getElem? (i := 175) rfl))
set_option maxRecDepth 100000 in
theorem dL_law_418 : decode cL_law 418 = .ok (.invokestatic 139, 3) := of_decide_eq_true (List.all_eq_true.mp tL_0_ok (418, .invokestatic 139, 3) (List.mem_of_getElem? (i := 176) rfl))
set_option maxRecDepth 100000 in
theorem dL_law_421 : decode cL_law 421 = .ok (.istore 5, 2) := of_decide_eq_true (List.all_eq_true.mp tL_0_ok (421, .istore 5, 2) (List.mem_of_getElem? (i := 177) rfl))
set_option maxRecDepth 100000 in
theorem dL_law_423 : decode cL_law 423 = .ok (.aload_n 2, 1) := of_decide_eq_true (List.all_eq_true.mp tL_0_ok (423, .aload_n 2, 1) (List.mem_of_getElem? (i := 178) rfl))
set_option maxRecDepth 100000 in
theorem dL_law_424 : decode cL_law 424 = .ok (.aload_n 0, 1) := of_decide_eq_true (List.all_eq_true.mp tL_0_ok (424, .aload_n 0, 1) (List.mem_of_getElem? (i := 179) rfl))
set_option maxRecDepth 100000 in
theorem dL_law_425 : decode cL_law 425 = .ok (.iload 4, 2) := of_decide_eq_true (List.all_eq_true.mp tL_0_ok (425, .iload 4, 2) (List.mem_of_getElem? (i := 180) rfl))
set_option maxRecDepth 100000 in
theorem dL_law_427 : decode cL_law 427 = .ok (.iconst 1, 1) := of_decide_eq_true (List.all_eq_true.mp tL_0_ok (427, .iconst 1, 1) (List.mem_of_getElem? (i := 181) rfl))
set_option maxRecDepth 100000 in
theorem dL_law_428 : decode cL_law 428 = .ok (.iadd, 1) := of_decide_eq_true (List.all_eq_true.mp tL_0_ok (428, .iadd, 1) (List.mem_of_getElem? (i := 182) rfl))
set_option maxRecDepth 100000 in
theorem dL_law_429 : decode cL_law 429 = .ok (.iaload, 1) := of_decide_eq_true (List.all_eq_true.mp tL_0_ok (429, .iaload, 1) (List.mem_of_getElem? (i := 183) rfl))
set_option maxRecDepth 100000 in
theorem dL_law_430 : decode cL_law 430 = .ok (.invokevirtual 141, 3) := of_decide_eq_true (List.all_eq_true.mp tL_0_ok (430, .invokevirtual 141, 3) (List.mem_of_getElem? (i := 184) rfl))
set_option maxRecDepth 100000 in
theorem dL_law_433 : decode cL_law 433 = .ok (.lstore 6, 2) := of_decide_eq_true (List.all_eq_true.mp tL_0_ok (433, .lstore 6, 2) (List.mem_of_getElem? (i := 185) rfl))
set_option maxRecDepth 100000 in
theorem dL_law_435 : decode cL_law 435 = .ok (.aload_n 2, 1) := of_decide_eq_true (List.all_eq_true.mp tL_0_ok (435, .aload_n 2, 1) (List.mem_of_getElem? (i := 186) rfl))
set_option maxRecDepth 100000 in
theorem dL_law_436 : decode cL_law 436 = .ok (.invokevirtual 118, 3) := of_decide_eq_true (List.all_eq_true.mp tL_0_ok (436, .invokevirtual 118, 3) (List.mem_of_getElem? (i := 187) rfl))
set_option maxRecDepth 100000 in
theorem dL_law_439 : decode cL_law 439 = .ok (.iload 5, 2) := of_decide_eq_true (List.all_eq_true.mp tL_0_ok (439, .iload 5, 2) (List.mem_of_getElem? (i := 188) rfl))
set_option maxRecDepth 100000 in
theorem dL_law_441 : decode cL_law 441 = .ok (.if_icmp .eq 5, 3) := of_decide_eq_true (List.all_eq_true.mp tL_0_ok (441, .if_icmp .eq 5, 3) (List.mem_of_getElem? (i := 189) rfl))
set_option maxRecDepth 100000 in
theorem dL_law_444 : decode cL_law 444 = .ok (.iconst 0, 1) := of_decide_eq_true (List.all_eq_true.mp tL_0_ok (444, .iconst 0, 1) (List.mem_of_getElem? (i := 190) rfl))
set_option maxRecDepth 100000 in
theorem dL_law_445 : decode cL_law 445 = .ok (.ireturn, 1) := of_decide_eq_true (List.all_eq_true.mp tL_0_ok (445, .ireturn, 1) (List.mem_of_getElem? (i := 191) rfl))
set_option maxRecDepth 100000 in
theorem dL_law_446 : decode cL_law 446 = .ok (.iload 5, 2) := of_decide_eq_true (List.all_eq_true.mp tL_0_ok (446, .iload 5, 2) (List.mem_of_getElem? (i := 192) rfl))
set_option maxRecDepth 100000 in
theorem dL_law_448 : decode cL_law 448 = .ok (.ifCond .ne 14, 3) := of_decide_eq_true (List.all_eq_true.mp tL_0_ok (448, .ifCond .ne 14, 3) (List.mem_of_getElem? (i := 193) rfl))
set_option maxRecDepth 100000 in
theorem dL_law_451 : decode cL_law 451 = .ok (.aload_n 3, 1) := of_decide_eq_true (List.all_eq_true.mp tL_0_ok (451, .aload_n 3, 1) (List.mem_of_getElem? (i := 194) rfl))
set_option maxRecDepth 100000 in
theorem dL_law_452 : decode cL_law 452 = .ok (.iconst 0, 1) := of_decide_eq_true (List.all_eq_true.mp tL_0_ok (452, .iconst 0, 1) (List.mem_of_getElem? (i := 195) rfl))
set_option maxRecDepth 100000 in
theorem dL_law_453 : decode cL_law 453 = .ok (.laload, 1) := of_decide_eq_true (List.all_eq_true.mp tL_0_ok (453, .laload, 1) (List.mem_of_getElem? (i := 196) rfl))
set_option maxRecDepth 100000 in
theorem dL_law_454 : decode cL_law 454 = .ok (.lload 6, 2) := of_decide_eq_true (List.all_eq_true.mp tL_0_ok (454, .lload 6, 2) (List.mem_of_getElem? (i := 197) rfl))
set_option maxRecDepth 100000 in
theorem dL_law_456 : decode cL_law 456 = .ok (.lcmp, 1) := of_decide_eq_true (List.all_eq_true.mp tL_0_ok (456, .lcmp, 1) (List.mem_of_getElem? (i := 198) rfl))
set_option maxRecDepth 100000 in
theorem dL_law_457 : decode cL_law 457 = .ok (.ifCond .eq 5, 3) := of_decide_eq_true (List.all_eq_true.mp tL_0_ok (457, .ifCond .eq 5, 3) (List.mem_of_getElem? (i := 199) rfl))
