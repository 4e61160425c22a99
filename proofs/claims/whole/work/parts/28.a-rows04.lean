def tL_11 : List (Nat × Instr × Nat) := [(1330, .istore 5, 2), (1332, .aload_n 2, 1), (1333, .aload_n 0, 1), (1334, .iload 4, 2), (1336, .iconst 1, 1), (1337, .iadd, 1), (1338, .iaload, 1), (1339, .invokevirtual 186, 3), (1342, .istore 6, 2), (1344, .aload_n 2, 1), (1345, .invokevirtual 118, 3), (1348, .iload 5, 2), (1350, .if_icmp .eq 5, 3), (1353, .iconst 0, 1), (1354, .ireturn, 1), (1355, .iload 5, 2), (1357, .ifCond .ne 15, 3), (1360, .aload_n 3, 1), (1361, .iconst 0, 1), (1362, .laload, 1), (1363, .iload 6, 2), (1365, .i2l, 1), (1366, .lcmp, 1), (1367, .ifCond .eq 5, 3), (1370, .iconst 0, 1), (1371, .ireturn, 1), (1372, .goto 619, 3), (1375, .aload_n 1, 1), (1376, .aload_n 0, 1), (1377, .iload 4, 2)]
set_option maxRecDepth 100000 in
theorem tL_11_ok : tL_11.all (fun q => decide (decode cL_law q.1 = .ok (q.2.1, q.2.2))) = true := by decide +kernel
set_option maxRecDepth 100000 in
theorem dL_law_1330 : decode cL_law 1330 = .ok (.istore 5, 2) := of_decide_eq_true (List.all_eq_true.mp tL_11_ok (1330, .istore 5, 2) (List.mem_of_getElem? (i := 0) rfl))
set_option maxRecDepth 100000 in
theorem dL_law_1332 : decode cL_law 1332 = .ok (.aload_n 2, 1) := of_decide_eq_true (List.all_eq_true.mp tL_11_ok (1332, .aload_n 2, 1) (List.mem_of_getElem? (i := 1) rfl))
set_option maxRecDepth 100000 in
theorem dL_law_1333 : decode cL_law 1333 = .ok (.aload_n 0, 1) := of_decide_eq_true (List.all_eq_true.mp tL_11_ok (1333, .aload_n 0, 1) (List.mem_of_getElem? (i := 2) rfl))
set_option maxRecDepth 100000 in
theorem dL_law_1334 : decode cL_law 1334 = .ok (.iload 4, 2) := of_decide_eq_true (List.all_eq_true.mp tL_11_ok (1334, .iload 4, 2) (List.mem_of_getElem? (i := 3) rfl))
set_option maxRecDepth 100000 in
theorem dL_law_1336 : decode cL_law 1336 = .ok (.iconst 1, 1) := of_decide_eq_true (List.all_eq_true.mp tL_11_ok (1336, .iconst 1, 1) (List.mem_of_getElem? (i := 4) rfl))
set_option maxRecDepth 100000 in
theorem dL_law_1337 : decode cL_law 1337 = .ok (.iadd, 1) := of_decide_eq_true (List.all_eq_true.mp tL_11_ok (1337, .iadd, 1) (List.mem_of_getElem? (i := 5) rfl))
set_option maxRecDepth 100000 in
theorem dL_law_1338 : decode cL_law 1338 = .ok (.iaload, 1) := of_decide_eq_true (List.all_eq_true.mp tL_11_ok (1338, .iaload, 1) (List.mem_of_getElem? (i := 6) rfl))
set_option maxRecDepth 100000 in
theorem dL_law_1339 : decode cL_law 1339 = .ok (.invokevirtual 186, 3) := of_decide_eq_true (List.all_eq_true.mp tL_11_ok (1339, .invokevirtual 186, 3) (List.mem_of_getElem? (i := 7) rfl))
set_option maxRecDepth 100000 in
theorem dL_law_1342 : decode cL_law 1342 = .ok (.istore 6, 2) := of_decide_eq_true (List.all_eq_true.mp tL_11_ok (1342, .istore 6, 2) (List.mem_of_getElem? (i := 8) rfl))
set_option maxRecDepth 100000 in
theorem dL_law_1344 : decode cL_law 1344 = .ok (.aload_n 2, 1) := of_decide_eq_true (List.all_eq_true.mp tL_11_ok (1344, .aload_n 2, 1) (List.mem_of_getElem? (i := 9) rfl))
set_option maxRecDepth 100000 in
theorem dL_law_1345 : decode cL_law 1345 = .ok (.invokevirtual 118, 3) := of_decide_eq_true (List.all_eq_true.mp tL_11_ok (1345, .invokevirtual 118, 3) (List.mem_of_getElem? (i := 10) rfl))
set_option maxRecDepth 100000 in
theorem dL_law_1348 : decode cL_law 1348 = .ok (.iload 5, 2) := of_decide_eq_true (List.all_eq_true.mp tL_11_ok (1348, .iload 5, 2) (List.mem_of_getElem? (i := 11) rfl))
set_option maxRecDepth 100000 in
theorem dL_law_1350 : decode cL_law 1350 = .ok (.if_icmp .eq 5, 3) := of_decide_eq_true (List.all_eq_true.mp tL_11_ok (1350, .if_icmp .eq 5, 3) (List.mem_of_getElem? (i := 12) rfl))
set_option maxRecDepth 100000 in
theorem dL_law_1353 : decode cL_law 1353 = .ok (.iconst 0, 1) := of_decide_eq_true (List.all_eq_true.mp tL_11_ok (1353, .iconst 0, 1) (List.mem_of_getElem? (i := 13) rfl))
set_option maxRecDepth 100000 in
theorem dL_law_1354 : decode cL_law 1354 = .ok (.ireturn, 1) := of_decide_eq_true (List.all_eq_true.mp tL_11_ok (1354, .ireturn, 1) (List.mem_of_getElem? (i := 14) rfl))
set_option maxRecDepth 100000 in
theorem dL_law_1355 : decode cL_law 1355 = .ok (.iload 5, 2) := of_decide_eq_true (List.all_eq_true.mp tL_11_ok (1355, .iload 5, 2) (List.mem_of_getElem? (i := 15) rfl))
set_option maxRecDepth 100000 in
theorem dL_law_1357 : decode cL_law 1357 = .ok (.ifCond .ne 15, 3) := of_decide_eq_true (List.all_eq_true.mp tL_11_ok (1357, .ifCond .ne 15, 3) (List.mem_of_getElem? (i := 16) rfl))
set_option maxRecDepth 100000 in
theorem dL_law_1360 : decode cL_law 1360 = .ok (.aload_n 3, 1) := of_decide_eq_true (List.all_eq_true.mp tL_11_ok (1360, .aload_n 3, 1) (List.mem_of_getElem? (i := 17) rfl))
set_option maxRecDepth 100000 in
theorem dL_law_1361 : decode cL_law 1361 = .ok (.iconst 0, 1) := of_decide_eq_true (List.all_eq_true.mp tL_11_ok (1361, .iconst 0, 1) (List.mem_of_getElem? (i := 18) rfl))
set_option maxRecDepth 100000 in
theorem dL_law_1362 : decode cL_law 1362 = .ok (.laload, 1) := of_decide_eq_true (List.all_eq_true.mp tL_11_ok (1362, .laload, 1) (List.mem_of_getElem? (i := 19) rfl))
set_option maxRecDepth 100000 in
theorem dL_law_1363 : decode cL_law 1363 = .ok (.iload 6, 2) := of_decide_eq_true (List.all_eq_true.mp tL_11_ok (1363, .iload 6, 2) (List.mem_of_getElem? (i := 20) rfl))
set_option maxRecDepth 100000 in
theorem dL_law_1365 : decode cL_law 1365 = .ok (.i2l, 1) := of_decide_eq_true (List.all_eq_true.mp tL_11_ok (1365, .i2l, 1) (List.mem_of_getElem? (i := 21) rfl))
set_option maxRecDepth 100000 in
theorem dL_law_1366 : decode cL_law 1366 = .ok (.lcmp, 1) := of_decide_eq_true (List.all_eq_true.mp tL_11_ok (1366, .lcmp, 1) (List.mem_of_getElem? (i := 22) rfl))
set_option maxRecDepth 100000 in
theorem dL_law_1367 : decode cL_law 1367 = .ok (.ifCond .eq 5, 3) := of_decide_eq_true (List.all_eq_true.mp tL_11_ok (1367, .ifCond .eq 5, 3) (List.mem_of_getElem? (i := 23) rfl))
set_option maxRecDepth 100000 in
theorem dL_law_1370 : decode cL_law 1370 = .ok (.iconst 0, 1) := of_decide_eq_true (List.all_eq_true.mp tL_11_ok (1370, .iconst 0, 1) (List.mem_of_getElem? (i := 24) rfl))
set_option maxRecDepth 100000 in
theorem dL_law_1371 : decode cL_law 1371 = .ok (.ireturn, 1) := of_decide_eq_true (List.all_eq_true.mp tL_11_ok (1371, .ireturn, 1) (List.mem_of_getElem? (i := 25) rfl))
set_option maxRecDepth 100000 in
theorem dL_law_1372 : decode cL_law 1372 = .ok (.goto 619, 3) := of_decide_eq_true (List.all_eq_true.mp tL_11_ok (1372, .goto 619, 3) (List.mem_of_getElem? (i := 26) rfl))
set_option maxRecDepth 100000 in
theorem dL_law_1375 : decode cL_law 1375 = .ok (.aload_n 1, 1) := of_decide_eq_true (List.all_eq_true.mp tL_11_ok (1375, .aload_n 1, 1) (List.mem_of_getElem? (i := 27) rfl))
set_option maxRecDepth 100000 in
theorem dL_law_1376 : decode cL_law 1376 = .ok (.aload_n 0, 1) := of_decide_eq_true (List.all_eq_true.mp tL_11_ok (1376, .aload_n 0, 1) (List.mem_of_getElem? (i := 28) rfl))
set_option maxRecDepth 100000 in
theorem dL_law_1377 : decode cL_law 1377 = .ok (.iload 4, 2) := of_decide_eq_true (List.all_eq_true.mp tL_11_ok (1377, .iload 4, 2) (List.mem_of_getElem? (i := 29) rfl))
def tL_12 : List (Nat × Instr × Nat) := [(1379, .iconst 1, 1), (1380, .iadd, 1), (1381, .iaload, 1), (1382, .aload_n 3, 1), (1383, .invokestatic 187, 3), (1386, .istore 5, 2), (1388, .aload_n 2, 1), (1389, .aload_n 0, 1), (1390, .iload 4, 2), (1392, .iconst 1, 1), (1393, .iadd, 1), (1394, .iaload, 1), (1395, .invokevirtual 189, 3), (1398, .istore 6, 2), (1400, .aload_n 2, 1), (1401, .invokevirtual 118, 3), (1404, .iload 5, 2), (1406, .if_icmp .eq 5, 3), (1409, .iconst 0, 1), (1410, .ireturn, 1), (1411, .iload 5, 2), (1413, .ifCond .ne 15, 3), (1416, .aload_n 3, 1), (1417, .iconst 0, 1), (1418, .laload, 1), (1419, .iload 6, 2), (1421, .i2l, 1), (1422, .lcmp, 1), (1423, .ifCond .eq 5, 3), (1426, .iconst 0, 1)]
set_option maxRecDepth 100000 in
theorem tL_12_ok : tL_12.all (fun q => decide (decode cL_law q.1 = .ok (q.2.1, q.2.2))) = true := by decide +kernel
set_option maxRecDepth 100000 in
theorem dL_law_1379 : decode cL_law 1379 = .ok (.iconst 1, 1) := of_decide_eq_true (List.all_eq_true.mp tL_12_ok (1379, .iconst 1, 1) (List.mem_of_getElem? (i := 0) rfl))
set_option maxRecDepth 100000 in
theorem dL_law_1380 : decode cL_law 1380 = .ok (.iadd, 1) := of_decide_eq_true (List.all_eq_true.mp tL_12_ok (1380, .iadd, 1) (List.mem_of_getElem? (i := 1) rfl))
set_option maxRecDepth 100000 in
theorem dL_law_1381 : decode cL_law 1381 = .ok (.iaload, 1) := of_decide_eq_true (List.all_eq_true.mp tL_12_ok (1381, .iaload, 1) (List.mem_of_getElem? (i := 2) rfl))
set_option maxRecDepth 100000 in
theorem dL_law_1382 : decode cL_law 1382 = .ok (.aload_n 3, 1) := of_decide_eq_true (List.all_eq_true.mp tL_12_ok (1382, .aload_n 3, 1) (List.mem_of_getElem? (i := 3) rfl))
set_option maxRecDepth 100000 in
theorem dL_law_1383 : decode cL_law 1383 = .ok (.invokestatic 187, 3) := of_decide_eq_true (List.all_eq_true.mp tL_12_ok (1383, .invokestatic 187, 3) (List.mem_of_getElem? (i := 4) rfl))
set_option maxRecDepth 100000 in
theorem dL_law_1386 : decode cL_law 1386 = .ok (.istore 5, 2) := of_decide_eq_true (List.all_eq_true.mp tL_12_ok (1386, .istore 5, 2) (List.mem_of_getElem? (i := 5) rfl))
set_option maxRecDepth 100000 in
theorem dL_law_1388 : decode cL_law 1388 = .ok (.aload_n 2, 1) := of_decide_eq_true (List.all_eq_true.mp tL_12_ok (1388, .aload_n 2, 1) (List.mem_of_getElem? (i := 6) rfl))
set_option maxRecDepth 100000 in
theorem dL_law_1389 : decode cL_law 1389 = .ok (.aload_n 0, 1) := of_decide_eq_true (List.all_eq_true.mp tL_12_ok (1389, .aload_n 0, 1) (List.mem_of_getElem? (i := 7) rfl))
set_option maxRecDepth 100000 in
theorem dL_law_1390 : decode cL_law 1390 = .ok (.iload 4, 2) := of_decide_eq_true (List.all_eq_true.mp tL_12_ok (1390, .iload 4, 2) (List.mem_of_getElem? (i := 8) rfl))
set_option maxRecDepth 100000 in
theorem dL_law_1392 : decode cL_law 1392 = .ok (.iconst 1, 1) := of_decide_eq_true (List.all_eq_true.mp tL_12_ok (1392, .iconst 1, 1) (List.mem_of_getElem? (i := 9) rfl))
set_option maxRecDepth 100000 in
theorem dL_law_1393 : decode cL_law 1393 = .ok (.iadd, 1) := of_decide_eq_true (List.all_eq_true.mp tL_12_ok (1393, .iadd, 1) (List.mem_of_getElem? (i := 10) rfl))
set_option maxRecDepth 100000 in
theorem dL_law_1394 : decode cL_law 1394 = .ok (.iaload, 1) := of_decide_eq_true (List.all_eq_true.mp tL_12_ok (1394, .iaload, 1) (List.mem_of_getElem? (i := 11) rfl))
set_option maxRecDepth 100000 in
theorem dL_law_1395 : decode cL_law 1395 = .ok (.invokevirtual 189, 3) := of_decide_eq_true (List.all_eq_true.mp tL_12_ok (1395, .invokevirtual 189, 3) (List.mem_of_getElem? (i := 12) rfl))
set_option maxRecDepth 100000 in
theorem dL_law_1398 : decode cL_law 1398 = .ok (.istore 6, 2) := of_decide_eq_true (List.all_eq_true.mp tL_12_ok (1398, .istore 6, 2) (List.mem_of_getElem? (i := 13) rfl))
set_option maxRecDepth 100000 in
theorem dL_law_1400 : decode cL_law 1400 = .ok (.aload_n 2, 1) := of_decide_eq_true (List.all_eq_true.mp tL_12_ok (1400, .aload_n 2, 1) (List.mem_of_getElem? (i := 14) rfl))
set_option maxRecDepth 100000 in
theorem dL_law_1401 : decode cL_law 1401 = .ok (.invokevirtual 118, 3) := of_decide_eq_true (List.all_eq_true.mp tL_12_ok (1401, .invokevirtual 118, 3) (List.mem_of_getElem? (i := 15) rfl))
set_option maxRecDepth 100000 in
theorem dL_law_1404 : decode cL_law 1404 = .ok (.iload 5, 2) := of_decide_eq_true (List.all_eq_true.mp tL_12_ok (1404, .iload 5, 2) (List.mem_of_getElem? (i := 16) rfl))
set_option maxRecDepth 100000 in
theorem dL_law_1406 : decode cL_law 1406 = .ok (.if_icmp .eq 5, 3) := of_decide_eq_true (List.all_eq_true.mp tL_12_ok (1406, .if_icmp .eq 5, 3) (List.mem_of_getElem? (i := 17) rfl))
set_option maxRecDepth 100000 in
theorem dL_law_1409 : decode cL_law 1409 = .ok (.iconst 0, 1) := of_decide_eq_true (List.all_eq_true.mp tL_12_ok (1409, .iconst 0, 1) (List.mem_of_getElem? (i := 18) rfl))
set_option maxRecDepth 100000 in
theorem dL_law_1410 : decode cL_law 1410 = .ok (.ireturn, 1) := of_decide_eq_true (List.all_eq_true.mp tL_12_ok (1410, .ireturn, 1) (List.mem_of_getElem? (i := 19) rfl))
set_option maxRecDepth 100000 in
theorem dL_law_1411 : decode cL_law 1411 = .ok (.iload 5, 2) := of_decide_eq_true (List.all_eq_true.mp tL_12_ok (1411, .iload 5, 2) (List.mem_of_getElem? (i := 20) rfl))
set_option maxRecDepth 100000 in
theorem dL_law_1413 : decode cL_law 1413 = .ok (.ifCond .ne 15, 3) := of_decide_eq_true (List.all_eq_true.mp tL_12_ok (1413, .ifCond .ne 15, 3) (List.mem_of_getElem? (i := 21) rfl))
set_option maxRecDepth 100000 in
theorem dL_law_1416 : decode cL_law 1416 = .ok (.aload_n 3, 1) := of_decide_eq_true (List.all_eq_true.mp tL_12_ok (1416, .aload_n 3, 1) (List.mem_of_getElem? (i := 22) rfl))
set_option maxRecDepth 100000 in
theorem dL_law_1417 : decode cL_law 1417 = .ok (.iconst 0, 1) := of_decide_eq_true (List.all_eq_true.mp tL_12_ok (1417, .iconst 0, 1) (List.mem_of_getElem? (i := 23) rfl))
set_option maxRecDepth 100000 in
theorem dL_law_1418 : decode cL_law 1418 = .ok (.laload, 1) := of_decide_eq_true (List.all_eq_true.mp tL_12_ok (1418, .laload, 1) (List.mem_of_getElem? (i := 24) rfl))
set_option maxRecDepth 100000 in
theorem dL_law_1419 : decode cL_law 1419 = .ok (.iload 6, 2) := of_decide_eq_true (List.all_eq_true.mp tL_12_ok (1419, .iload 6, 2) (List.mem_of_getElem? (i := 25) rfl))
set_option maxRecDepth 100000 in
theorem dL_law_1421 : decode cL_law 1421 = .ok (.i2l, 1) := of_decide_eq_true (List.all_eq_true.mp tL_12_ok (1421, .i2l, 1) (List.mem_of_getElem? (i := 26) rfl))
set_option maxRecDepth 100000 in
theorem dL_law_1422 : decode cL_law 1422 = .ok (.lcmp, 1) := of_decide_eq_true (List.all_eq_true.mp tL_12_ok (1422, .lcmp, 1) (List.mem_of_getElem? (i := 27) rfl))
set_option maxRecDepth 100000 in
theorem dL_law_1423 : decode cL_law 1423 = .ok (.ifCond .eq 5, 3) := of_decide_eq_true (List.all_eq_true.mp tL_12_ok (1423, .ifCond .eq 5, 3) (List.mem_of_getElem? (i := 28) rfl))
set_option maxRecDepth 100000 in
theorem dL_law_1426 : decode cL_law 1426 = .ok (.iconst 0, 1) := of_decide_eq_true (List.all_eq_true.mp tL_12_ok (1426, .iconst 0, 1) (List.mem_of_getElem? (i := 29) rfl))
def tL_13 : List (Nat × Instr × Nat) := [(1427, .ireturn, 1), (1428, .goto 563, 3), (1431, .aload_n 1, 1), (1432, .aload_n 0, 1), (1433, .iload 4, 2), (1435, .iconst 1, 1), (1436, .iadd, 1), (1437, .iaload, 1), (1438, .aload_n 0, 1), (1439, .iload 4, 2), (1441, .iconst 2, 1), (1442, .iadd, 1), (1443, .iaload, 1), (1444, .aload_n 3, 1), (1445, .invokestatic 190, 3), (1448, .istore 5, 2), (1450, .aload_n 2, 1), (1451, .aload_n 0, 1), (1452, .iload 4, 2), (1454, .iconst 1, 1), (1455, .iadd, 1), (1456, .iaload, 1), (1457, .aload_n 0, 1), (1458, .iload 4, 2), (1460, .iconst 2, 1), (1461, .iadd, 1), (1462, .iaload, 1), (1463, .invokevirtual 192, 3), (1466, .istore 6, 2), (1468, .aload_n 2, 1)]
set_option maxRecDepth 100000 in
theorem tL_13_ok : tL_13.all (fun q => decide (decode cL_law q.1 = .ok (q.2.1, q.2.2))) = true := by decide +kernel
set_option maxRecDepth 100000 in
theorem dL_law_1427 : decode cL_law 1427 = .ok (.ireturn, 1) := of_decide_eq_true (List.all_eq_true.mp tL_13_ok (1427, .ireturn, 1) (List.mem_of_getElem? (i := 0) rfl))
set_option maxRecDepth 100000 in
theorem dL_law_1428 : decode cL_law 1428 = .ok (.goto 563, 3) := of_decide_eq_true (List.all_eq_true.mp tL_13_ok (1428, .goto 563, 3) (List.mem_of_getElem? (i := 1) rfl))
set_option maxRecDepth 100000 in
theorem dL_law_1431 : decode cL_law 1431 = .ok (.aload_n 1, 1) := of_decide_eq_true (List.all_eq_true.mp tL_13_ok (1431, .aload_n 1, 1) (List.mem_of_getElem? (i := 2) rfl))
set_option maxRecDepth 100000 in
theorem dL_law_1432 : decode cL_law 1432 = .ok (.aload_n 0, 1) := of_decide_eq_true (List.all_eq_true.mp tL_13_ok (1432, .aload_n 0, 1) (List.mem_of_getElem? (i := 3) rfl))
set_option maxRecDepth 100000 in
theorem dL_law_1433 : decode cL_law 1433 = .ok (.iload 4, 2) := of_decide_eq_true (List.all_eq_true.mp tL_13_ok (1433, .iload 4, 2) (List.mem_of_getElem? (i := 4) rfl))
set_option maxRecDepth 100000 in
theorem dL_law_1435 : decode cL_law 1435 = .ok (.iconst 1, 1) := of_decide_eq_true (List.all_eq_true.mp tL_13_ok (1435, .iconst 1, 1) (List.mem_of_getElem? (i := 5) rfl))
set_option maxRecDepth 100000 in
theorem dL_law_1436 : decode cL_law 1436 = .ok (.iadd, 1) := of_decide_eq_true (List.all_eq_true.mp tL_13_ok (1436, .iadd, 1) (List.mem_of_getElem? (i := 6) rfl))
set_option maxRecDepth 100000 in
theorem dL_law_1437 : decode cL_law 1437 = .ok (.iaload, 1) := of_decide_eq_true (List.all_eq_true.mp tL_13_ok (1437, .iaload, 1) (List.mem_of_getElem? (i := 7) rfl))
set_option maxRecDepth 100000 in
theorem dL_law_1438 : decode cL_law 1438 = .ok (.aload_n 0, 1) := of_decide_eq_true (List.all_eq_true.mp tL_13_ok (1438, .aload_n 0, 1) (List.mem_of_getElem? (i := 8) rfl))
set_option maxRecDepth 100000 in
theorem dL_law_1439 : decode cL_law 1439 = .ok (.iload 4, 2) := of_decide_eq_true (List.all_eq_true.mp tL_13_ok (1439, .iload 4, 2) (List.mem_of_getElem? (i := 9) rfl))
set_option maxRecDepth 100000 in
theorem dL_law_1441 : decode cL_law 1441 = .ok (.iconst 2, 1) := of_decide_eq_true (List.all_eq_true.mp tL_13_ok (1441, .iconst 2, 1) (List.mem_of_getElem? (i := 10) rfl))
set_option maxRecDepth 100000 in
theorem dL_law_1442 : decode cL_law 1442 = .ok (.iadd, 1) := of_decide_eq_true (List.all_eq_true.mp tL_13_ok (1442, .iadd, 1) (List.mem_of_getElem? (i := 11) rfl))
set_option maxRecDepth 100000 in
theorem dL_law_1443 : decode cL_law 1443 = .ok (.iaload, 1) := of_decide_eq_true (List.all_eq_true.mp tL_13_ok (1443, .iaload, 1) (List.mem_of_getElem? (i := 12) rfl))
set_option maxRecDepth 100000 in
theorem dL_law_1444 : decode cL_law 1444 = .ok (.aload_n 3, 1) := of_decide_eq_true (List.all_eq_true.mp tL_13_ok (1444, .aload_n 3, 1) (List.mem_of_getElem? (i := 13) rfl))
set_option maxRecDepth 100000 in
theorem dL_law_1445 : decode cL_law 1445 = .ok (.invokestatic 190, 3) := of_decide_eq_true (List.all_eq_true.mp tL_13_ok (1445, .invokestatic 190, 3) (List.mem_of_getElem? (i := 14) rfl))
set_option maxRecDepth 100000 in
theorem dL_law_1448 : decode cL_law 1448 = .ok (.istore 5, 2) := of_decide_eq_true (List.all_eq_true.mp tL_13_ok (1448, .istore 5, 2) (List.mem_of_getElem? (i := 15) rfl))
set_option maxRecDepth 100000 in
theorem dL_law_1450 : decode cL_law 1450 = .ok (.aload_n 2, 1) := of_decide_eq_true (List.all_eq_true.mp tL_13_ok (1450, .aload_n 2, 1) (List.mem_of_getElem? (i := 16) rfl))
set_option maxRecDepth 100000 in
theorem dL_law_1451 : decode cL_law 1451 = .ok (.aload_n 0, 1) := of_decide_eq_true (List.all_eq_true.mp tL_13_ok (1451, .aload_n 0, 1) (List.mem_of_getElem? (i := 17) rfl))
set_option maxRecDepth 100000 in
theorem dL_law_1452 : decode cL_law 1452 = .ok (.iload 4, 2) := of_decide_eq_true (List.all_eq_true.mp tL_13_ok (1452, .iload 4, 2) (List.mem_of_getElem? (i := 18) rfl))
set_option maxRecDepth 100000 in
theorem dL_law_1454 : decode cL_law 1454 = .ok (.iconst 1, 1) := of_decide_eq_true (List.all_eq_true.mp tL_13_ok (1454, .iconst 1, 1) (List.mem_of_getElem? (i := 19) rfl))
set_option maxRecDepth 100000 in
theorem dL_law_1455 : decode cL_law 1455 = .ok (.iadd, 1) := of_decide_eq_true (List.all_eq_true.mp tL_13_ok (1455, .iadd, 1) (List.mem_of_getElem? (i := 20) rfl))
set_option maxRecDepth 100000 in
theorem dL_law_1456 : decode cL_law 1456 = .ok (.iaload, 1) := of_decide_eq_true (List.all_eq_true.mp tL_13_ok (1456, .iaload, 1) (List.mem_of_getElem? (i := 21) rfl))
set_option maxRecDepth 100000 in
theorem dL_law_1457 : decode cL_law 1457 = .ok (.aload_n 0, 1) := of_decide_eq_true (List.all_eq_true.mp tL_13_ok (1457, .aload_n 0, 1) (List.mem_of_getElem? (i := 22) rfl))
set_option maxRecDepth 100000 in
theorem dL_law_1458 : decode cL_law 1458 = .ok (.iload 4, 2) := of_decide_eq_true (List.all_eq_true.mp tL_13_ok (1458, .iload 4, 2) (List.mem_of_getElem? (i := 23) rfl))
set_option maxRecDepth 100000 in
theorem dL_law_1460 : decode cL_law 1460 = .ok (.iconst 2, 1) := of_decide_eq_true (List.all_eq_true.mp tL_13_ok (1460, .iconst 2, 1) (List.mem_of_getElem? (i := 24) rfl))
set_option maxRecDepth 100000 in
theorem dL_law_1461 : decode cL_law 1461 = .ok (.iadd, 1) := of_decide_eq_true (List.all_eq_true.mp tL_13_ok (1461, .iadd, 1) (List.mem_of_getElem? (i := 25) rfl))
set_option maxRecDepth 100000 in
theorem dL_law_1462 : decode cL_law 1462 = .ok (.iaload, 1) := of_decide_eq_true (List.all_eq_true.mp tL_13_ok (1462, .iaload, 1) (List.mem_of_getElem? (i := 26) rfl))
set_option maxRecDepth 100000 in
theorem dL_law_1463 : decode cL_law 1463 = .ok (.invokevirtual 192, 3) := of_decide_eq_true (List.all_eq_true.mp tL_13_ok (1463, .invokevirtual 192, 3) (List.mem_of_getElem? (i := 27) rfl))
set_option maxRecDepth 100000 in
theorem dL_law_1466 : decode cL_law 1466 = .ok (.istore 6, 2) := of_decide_eq_true (List.all_eq_true.mp tL_13_ok (1466, .istore 6, 2) (List.mem_of_getElem? (i := 28) rfl))
set_option maxRecDepth 100000 in
theorem dL_law_1468 : decode cL_law 1468 = .ok (.aload_n 2, 1) := of_decide_eq_true (List.all_eq_true.mp tL_13_ok (1468, .aload_n 2, 1) (List.mem_of_getElem? (i := 29) rfl))
def tL_14 : List (Nat × Instr × Nat) := [(1469, .invokevirtual 118, 3), (1472, .iload 5, 2), (1474, .if_icmp .eq 5, 3), (1477, .iconst 0, 1), (1478, .ireturn, 1), (1479, .iload 5, 2), (1481, .ifCond .ne 15, 3), (1484, .aload_n 3, 1), (1485, .iconst 0, 1), (1486, .laload, 1), (1487, .iload 6, 2), (1489, .i2l, 1), (1490, .lcmp, 1), (1491, .ifCond .eq 5, 3), (1494, .iconst 0, 1), (1495, .ireturn, 1), (1496, .goto 495, 3), (1499, .aload_n 1, 1), (1500, .aload_n 0, 1), (1501, .iload 4, 2), (1503, .iconst 1, 1), (1504, .iadd, 1), (1505, .iaload, 1), (1506, .aload_n 3, 1), (1507, .invokestatic 193, 3), (1510, .istore 5, 2), (1512, .aload_n 2, 1), (1513, .aload_n 0, 1), (1514, .iload 4, 2), (1516, .iconst 1, 1)]
set_option maxRecDepth 100000 in
theorem tL_14_ok : tL_14.all (fun q => decide (decode cL_law q.1 = .ok (q.2.1, q.2.2))) = true := by decide +kernel
set_option maxRecDepth 100000 in
theorem dL_law_1469 : decode cL_law 1469 = .ok (.invokevirtual 118, 3) := of_decide_eq_true (List.all_eq_true.mp tL_14_ok (1469, .invokevirtual 118, 3) (List.mem_of_getElem? (i := 0) rfl))
set_option maxRecDepth 100000 in
theorem dL_law_1472 : decode cL_law 1472 = .ok (.iload 5, 2) := of_decide_eq_true (List.all_eq_true.mp tL_14_ok (1472, .iload 5, 2) (List.mem_of_getElem? (i := 1) rfl))
set_option maxRecDepth 100000 in
theorem dL_law_1474 : decode cL_law 1474 = .ok (.if_icmp .eq 5, 3) := of_decide_eq_true (List.all_eq_true.mp tL_14_ok (1474, .if_icmp .eq 5, 3) (List.mem_of_getElem? (i := 2) rfl))
set_option maxRecDepth 100000 in
theorem dL_law_1477 : decode cL_law 1477 = .ok (.iconst 0, 1) := of_decide_eq_true (List.all_eq_true.mp tL_14_ok (1477, .iconst 0, 1) (List.mem_of_getElem? (i := 3) rfl))
set_option maxRecDepth 100000 in
theorem dL_law_1478 : decode cL_law 1478 = .ok (.ireturn, 1) := of_decide_eq_true (List.all_eq_true.mp tL_14_ok (1478, .ireturn, 1) (List.mem_of_getElem? (i := 4) rfl))
set_option maxRecDepth 100000 in
theorem dL_law_1479 : decode cL_law 1479 = .ok (.iload 5, 2) := of_decide_eq_true (List.all_eq_true.mp tL_14_ok (1479, .iload 5, 2) (List.mem_of_getElem? (i := 5) rfl))
set_option maxRecDepth 100000 in
theorem dL_law_1481 : decode cL_law 1481 = .ok (.ifCond .ne 15, 3) := of_decide_eq_true (List.all_eq_true.mp tL_14_ok (1481, .ifCond .ne 15, 3) (List.mem_of_getElem? (i := 6) rfl))
set_option maxRecDepth 100000 in
theorem dL_law_1484 : decode cL_law 1484 = .ok (.aload_n 3, 1) := of_decide_eq_true (List.all_eq_true.mp tL_14_ok (1484, .aload_n 3, 1) (List.mem_of_getElem? (i := 7) rfl))
set_option maxRecDepth 100000 in
theorem dL_law_1485 : decode cL_law 1485 = .ok (.iconst 0, 1) := of_decide_eq_true (List.all_eq_true.mp tL_14_ok (1485, .iconst 0, 1) (List.mem_of_getElem? (i := 8) rfl))
set_option maxRecDepth 100000 in
theorem dL_law_1486 : decode cL_law 1486 = .ok (.laload, 1) := of_decide_eq_true (List.all_eq_true.mp tL_14_ok (1486, .laload, 1) (List.mem_of_getElem? (i := 9) rfl))
set_option maxRecDepth 100000 in
theorem dL_law_1487 : decode cL_law 1487 = .ok (.iload 6, 2) := of_decide_eq_true (List.all_eq_true.mp tL_14_ok (1487, .iload 6, 2) (List.mem_of_getElem? (i := 10) rfl))
set_option maxRecDepth 100000 in
theorem dL_law_1489 : decode cL_law 1489 = .ok (.i2l, 1) := of_decide_eq_true (List.all_eq_true.mp tL_14_ok (1489, .i2l, 1) (List.mem_of_getElem? (i := 11) rfl))
set_option maxRecDepth 100000 in
theorem dL_law_1490 : decode cL_law 1490 = .ok (.lcmp, 1) := of_decide_eq_true (List.all_eq_true.mp tL_14_ok (1490, .lcmp, 1) (List.mem_of_getElem? (i := 12) rfl))
set_option maxRecDepth 100000 in
theorem dL_law_1491 : decode cL_law 1491 = .ok (.ifCond .eq 5, 3) := of_decide_eq_true (List.all_eq_true.mp tL_14_ok (1491, .ifCond .eq 5, 3) (List.mem_of_getElem? (i := 13) rfl))
set_option maxRecDepth 100000 in
theorem dL_law_1494 : decode cL_law 1494 = .ok (.iconst 0, 1) := of_decide_eq_true (List.all_eq_true.mp tL_14_ok (1494, .iconst 0, 1) (List.mem_of_getElem? (i := 14) rfl))
set_option maxRecDepth 100000 in
theorem dL_law_1495 : decode cL_law 1495 = .ok (.ireturn, 1) := of_decide_eq_true (List.all_eq_true.mp tL_14_ok (1495, .ireturn, 1) (List.mem_of_getElem? (i := 15) rfl))
set_option maxRecDepth 100000 in
theorem dL_law_1496 : decode cL_law 1496 = .ok (.goto 495, 3) := of_decide_eq_true (List.all_eq_true.mp tL_14_ok (1496, .goto 495, 3) (List.mem_of_getElem? (i := 16) rfl))
set_option maxRecDepth 100000 in
theorem dL_law_1499 : decode cL_law 1499 = .ok (.aload_n 1, 1) := of_decide_eq_true (List.all_eq_true.mp tL_14_ok (1499, .aload_n 1, 1) (List.mem_of_getElem? (i := 17) rfl))
set_option maxRecDepth 100000 in
theorem dL_law_1500 : decode cL_law 1500 = .ok (.aload_n 0, 1) := of_decide_eq_true (List.all_eq_true.mp tL_14_ok (1500, .aload_n 0, 1) (List.mem_of_getElem? (i := 18) rfl))
set_option maxRecDepth 100000 in
theorem dL_law_1501 : decode cL_law 1501 = .ok (.iload 4, 2) := of_decide_eq_true (List.all_eq_true.mp tL_14_ok (1501, .iload 4, 2) (List.mem_of_getElem? (i := 19) rfl))
set_option maxRecDepth 100000 in
theorem dL_law_1503 : decode cL_law 1503 = .ok (.iconst 1, 1) := of_decide_eq_true (List.all_eq_true.mp tL_14_ok (1503, .iconst 1, 1) (List.mem_of_getElem? (i := 20) rfl))
set_option maxRecDepth 100000 in
theorem dL_law_1504 : decode cL_law 1504 = .ok (.iadd, 1) := of_decide_eq_true (List.all_eq_true.mp tL_14_ok (1504, .iadd, 1) (List.mem_of_getElem? (i := 21) rfl))
set_option maxRecDepth 100000 in
theorem dL_law_1505 : decode cL_law 1505 = .ok (.iaload, 1) := of_decide_eq_true (List.all_eq_true.mp tL_14_ok (1505, .iaload, 1) (List.mem_of_getElem? (i := 22) rfl))
set_option maxRecDepth 100000 in
theorem dL_law_1506 : decode cL_law 1506 = .ok (.aload_n 3, 1) := of_decide_eq_true (List.all_eq_true.mp tL_14_ok (1506, .aload_n 3, 1) (List.mem_of_getElem? (i := 23) rfl))
set_option maxRecDepth 100000 in
theorem dL_law_1507 : decode cL_law 1507 = .ok (.invokestatic 193, 3) := of_decide_eq_true (List.all_eq_true.mp tL_14_ok (1507, .invokestatic 193, 3) (List.mem_of_getElem? (i := 24) rfl))
set_option maxRecDepth 100000 in
theorem dL_law_1510 : decode cL_law 1510 = .ok (.istore 5, 2) := of_decide_eq_true (List.all_eq_true.mp tL_14_ok (1510, .istore 5, 2) (List.mem_of_getElem? (i := 25) rfl))
set_option maxRecDepth 100000 in
theorem dL_law_1512 : decode cL_law 1512 = .ok (.aload_n 2, 1) := of_decide_eq_true (List.all_eq_true.mp tL_14_ok (1512, .aload_n 2, 1) (List.mem_of_getElem? (i := 26) rfl))
set_option maxRecDepth 100000 in
theorem dL_law_1513 : decode cL_law 1513 = .ok (.aload_n 0, 1) := of_decide_eq_true (List.all_eq_true.mp tL_14_ok (1513, .aload_n 0, 1) (List.mem_of_getElem? (i := 27) rfl))
set_option maxRecDepth 100000 in
theorem dL_law_1514 : decode cL_law 1514 = .ok (.iload 4, 2) := of_decide_eq_true (List.all_eq_true.mp tL_14_ok (1514, .iload 4, 2) (List.mem_of_getElem? (i := 28) rfl))
set_option maxRecDepth 100000 in
theorem dL_law_1516 : decode cL_law 1516 = .ok (.iconst 1, 1) := of_decide_eq_true (List.all_eq_true.mp tL_14_ok (1516, .iconst 1, 1) (List.mem_of_getElem? (i := 29) rfl))
def tL_15 : List (Nat × Instr × Nat) := [(1517, .iadd, 1), (1518, .iaload, 1), (1519, .invokevirtual 195, 3), (1522, .istore 6, 2), (1524, .aload_n 2, 1), (1525, .invokevirtual 118, 3), (1528, .iload 5, 2), (1530, .if_icmp .eq 5, 3), (1533, .iconst 0, 1), (1534, .ireturn, 1), (1535, .iload 5, 2), (1537, .ifCond .ne 15, 3), (1540, .aload_n 3, 1), (1541, .iconst 0, 1), (1542, .laload, 1), (1543, .iload 6, 2), (1545, .i2l, 1), (1546, .lcmp, 1), (1547, .ifCond .eq 5, 3), (1550, .iconst 0, 1), (1551, .ireturn, 1), (1552, .goto 439, 3), (1555, .aload_n 1, 1), (1556, .aload_n 0, 1), (1557, .iload 4, 2), (1559, .iconst 1, 1), (1560, .iadd, 1), (1561, .iaload, 1), (1562, .aload_n 3, 1), (1563, .invokestatic 196, 3)]
set_option maxRecDepth 100000 in
theorem tL_15_ok : tL_15.all (fun q => decide (decode cL_law q.1 = .ok (q.2.1, q.2.2))) = true := by decide +kernel
set_option maxRecDepth 100000 in
theorem dL_law_1517 : decode cL_law 1517 = .ok (.iadd, 1) := of_decide_eq_true (List.all_eq_true.mp tL_15_ok (1517, .iadd, 1) (List.mem_of_getElem? (i := 0) rfl))
set_option maxRecDepth 100000 in
theorem dL_law_1518 : decode cL_law 1518 = .ok (.iaload, 1) := of_decide_eq_true (List.all_eq_true.mp tL_15_ok (1518, .iaload, 1) (List.mem_of_getElem? (i := 1) rfl))
set_option maxRecDepth 100000 in
theorem dL_law_1519 : decode cL_law 1519 = .ok (.invokevirtual 195, 3) := of_decide_eq_true (List.all_eq_true.mp tL_15_ok (1519, .invokevirtual 195, 3) (List.mem_of_getElem? (i := 2) rfl))
set_option maxRecDepth 100000 in
theorem dL_law_1522 : decode cL_law 1522 = .ok (.istore 6, 2) := of_decide_eq_true (List.all_eq_true.mp tL_15_ok (1522, .istore 6, 2) (List.mem_of_getElem? (i := 3) rfl))
set_option maxRecDepth 100000 in
theorem dL_law_1524 : decode cL_law 1524 = .ok (.aload_n 2, 1) := of_decide_eq_true (List.all_eq_true.mp tL_15_ok (1524, .aload_n 2, 1) (List.mem_of_getElem? (i := 4) rfl))
set_option maxRecDepth 100000 in
theorem dL_law_1525 : decode cL_law 1525 = .ok (.invokevirtual 118, 3) := of_decide_eq_true (List.all_eq_true.mp tL_15_ok (1525, .invokevirtual 118, 3) (List.mem_of_getElem? (i := 5) rfl))
set_option maxRecDepth 100000 in
theorem dL_law_1528 : decode cL_law 1528 = .ok (.iload 5, 2) := of_decide_eq_true (List.all_eq_true.mp tL_15_ok (1528, .iload 5, 2) (List.mem_of_getElem? (i := 6) rfl))
set_option maxRecDepth 100000 in
theorem dL_law_1530 : decode cL_law 1530 = .ok (.if_icmp .eq 5, 3) := of_decide_eq_true (List.all_eq_true.mp tL_15_ok (1530, .if_icmp .eq 5, 3) (List.mem_of_getElem? (i := 7) rfl))
set_option maxRecDepth 100000 in
theorem dL_law_1533 : decode cL_law 1533 = .ok (.iconst 0, 1) := of_decide_eq_true (List.all_eq_true.mp tL_15_ok (1533, .iconst 0, 1) (List.mem_of_getElem? (i := 8) rfl))
set_option maxRecDepth 100000 in
theorem dL_law_1534 : decode cL_law 1534 = .ok (.ireturn, 1) := of_decide_eq_true (List.all_eq_true.mp tL_15_ok (1534, .ireturn, 1) (List.mem_of_getElem? (i := 9) rfl))
set_option maxRecDepth 100000 in
theorem dL_law_1535 : decode cL_law 1535 = .ok (.iload 5, 2) := of_decide_eq_true (List.all_eq_true.mp tL_15_ok (1535, .iload 5, 2) (List.mem_of_getElem? (i := 10) rfl))
set_option maxRecDepth 100000 in
theorem dL_law_1537 : decode cL_law 1537 = .ok (.ifCond .ne 15, 3) := of_decide_eq_true (List.all_eq_true.mp tL_15_ok (1537, .ifCond .ne 15, 3) (List.mem_of_getElem? (i := 11) rfl))
set_option maxRecDepth 100000 in
theorem dL_law_1540 : decode cL_law 1540 = .ok (.aload_n 3, 1) := of_decide_eq_true (List.all_eq_true.mp tL_15_ok (1540, .aload_n 3, 1) (List.mem_of_getElem? (i := 12) rfl))
set_option maxRecDepth 100000 in
theorem dL_law_1541 : decode cL_law 1541 = .ok (.iconst 0, 1) := of_decide_eq_true (List.all_eq_true.mp tL_15_ok (1541, .iconst 0, 1) (List.mem_of_getElem? (i := 13) rfl))
set_option maxRecDepth 100000 in
theorem dL_law_1542 : decode cL_law 1542 = .ok (.laload, 1) := of_decide_eq_true (List.all_eq_true.mp tL_15_ok (1542, .laload, 1) (List.mem_of_getElem? (i := 14) rfl))
set_option maxRecDepth 100000 in
theorem dL_law_1543 : decode cL_law 1543 = .ok (.iload 6, 2) := of_decide_eq_true (List.all_eq_true.mp tL_15_ok (1543, .iload 6, 2) (List.mem_of_getElem? (i := 15) rfl))
set_option maxRecDepth 100000 in
theorem dL_law_1545 : decode cL_law 1545 = .ok (.i2l, 1) := of_decide_eq_true (List.all_eq_true.mp tL_15_ok (1545, .i2l, 1) (List.mem_of_getElem? (i := 16) rfl))
set_option maxRecDepth 100000 in
theorem dL_law_1546 : decode cL_law 1546 = .ok (.lcmp, 1) := of_decide_eq_true (List.all_eq_true.mp tL_15_ok (1546, .lcmp, 1) (List.mem_of_getElem? (i := 17) rfl))
set_option maxRecDepth 100000 in
theorem dL_law_1547 : decode cL_law 1547 = .ok (.ifCond .eq 5, 3) := of_decide_eq_true (List.all_eq_true.mp tL_15_ok (1547, .ifCond .eq 5, 3) (List.mem_of_getElem? (i := 18) rfl))
set_option maxRecDepth 100000 in
theorem dL_law_1550 : decode cL_law 1550 = .ok (.iconst 0, 1) := of_decide_eq_true (List.all_eq_true.mp tL_15_ok (1550, .iconst 0, 1) (List.mem_of_getElem? (i := 19) rfl))
set_option maxRecDepth 100000 in
theorem dL_law_1551 : decode cL_law 1551 = .ok (.ireturn, 1) := of_decide_eq_true (List.all_eq_true.mp tL_15_ok (1551, .ireturn, 1) (List.mem_of_getElem? (i := 20) rfl))
set_option maxRecDepth 100000 in
theorem dL_law_1552 : decode cL_law 1552 = .ok (.goto 439, 3) := of_decide_eq_true (List.all_eq_true.mp tL_15_ok (1552, .goto 439, 3) (List.mem_of_getElem? (i := 21) rfl))
set_option maxRecDepth 100000 in
theorem dL_law_1555 : decode cL_law 1555 = .ok (.aload_n 1, 1) := of_decide_eq_true (List.all_eq_true.mp tL_15_ok (1555, .aload_n 1, 1) (List.mem_of_getElem? (i := 22) rfl))
set_option maxRecDepth 100000 in
theorem dL_law_1556 : decode cL_law 1556 = .ok (.aload_n 0, 1) := of_decide_eq_true (List.all_eq_true.mp tL_15_ok (1556, .aload_n 0, 1) (List.mem_of_getElem? (i := 23) rfl))
set_option maxRecDepth 100000 in
theorem dL_law_1557 : decode cL_law 1557 = .ok (.iload 4, 2) := of_decide_eq_true (List.all_eq_true.mp tL_15_ok (1557, .iload 4, 2) (List.mem_of_getElem? (i := 24) rfl))
set_option maxRecDepth 100000 in
theorem dL_law_1559 : decode cL_law 1559 = .ok (.iconst 1, 1) := of_decide_eq_true (List.all_eq_true.mp tL_15_ok (1559, .iconst 1, 1) (List.mem_of_getElem? (i := 25) rfl))
set_option maxRecDepth 100000 in
theorem dL_law_1560 : decode cL_law 1560 = .ok (.iadd, 1) := of_decide_eq_true (List.all_eq_true.mp tL_15_ok (1560, .iadd, 1) (List.mem_of_getElem? (i := 26) rfl))
set_option maxRecDepth 100000 in
theorem dL_law_1561 : decode cL_law 1561 = .ok (.iaload, 1) := of_decide_eq_true (List.all_eq_true.mp tL_15_ok (1561, .iaload, 1) (List.mem_of_getElem? (i := 27) rfl))
set_option maxRecDepth 100000 in
theorem dL_law_1562 : decode cL_law 1562 = .ok (.aload_n 3, 1) := of_decide_eq_true (List.all_eq_true.mp tL_15_ok (1562, .aload_n 3, 1) (List.mem_of_getElem? (i := 28) rfl))
set_option maxRecDepth 100000 in
theorem dL_law_1563 : decode cL_law 1563 = .ok (.invokestatic 196, 3) := of_decide_eq_true (List.all_eq_true.mp tL_15_ok (1563, .invokestatic 196, 3) (List.mem_of_getElem? (i := 29) rfl))
def tL_16 : List (Nat × Instr × Nat) := [(1566, .istore 5, 2), (1568, .aload_n 2, 1), (1569, .aload_n 0, 1), (1570, .iload 4, 2), (1572, .iconst 1, 1), (1573, .iadd, 1), (1574, .iaload, 1), (1575, .invokevirtual 198, 3), (1578, .istore 6, 2), (1580, .aload_n 2, 1), (1581, .invokevirtual 118, 3), (1584, .iload 5, 2), (1586, .if_icmp .eq 5, 3), (1589, .iconst 0, 1), (1590, .ireturn, 1), (1591, .iload 5, 2), (1593, .ifCond .ne 15, 3), (1596, .aload_n 3, 1), (1597, .iconst 0, 1), (1598, .laload, 1), (1599, .iload 6, 2), (1601, .i2l, 1), (1602, .lcmp, 1), (1603, .ifCond .eq 5, 3), (1606, .iconst 0, 1), (1607, .ireturn, 1), (1608, .goto 383, 3), (1611, .aload_n 1, 1), (1612, .aload_n 0, 1), (1613, .iload 4, 2)]
set_option maxRecDepth 100000 in
theorem tL_16_ok : tL_16.all (fun q => decide (decode cL_law q.1 = .ok (q.2.1, q.2.2))) = true := by decide +kernel
set_option maxRecDepth 100000 in
theorem dL_law_1566 : decode cL_law 1566 = .ok (.istore 5, 2) := of_decide_eq_true (List.all_eq_true.mp tL_16_ok (1566, .istore 5, 2) (List.mem_of_getElem? (i := 0) rfl))
set_option maxRecDepth 100000 in
theorem dL_law_1568 : decode cL_law 1568 = .ok (.aload_n 2, 1) := of_decide_eq_true (List.all_eq_true.mp tL_16_ok (1568, .aload_n 2, 1) (List.mem_of_getElem? (i := 1) rfl))
set_option maxRecDepth 100000 in
theorem dL_law_1569 : decode cL_law 1569 = .ok (.aload_n 0, 1) := of_decide_eq_true (List.all_eq_true.mp tL_16_ok (1569, .aload_n 0, 1) (List.mem_of_getElem? (i := 2) rfl))
set_option maxRecDepth 100000 in
theorem dL_law_1570 : decode cL_law 1570 = .ok (.iload 4, 2) := of_decide_eq_true (List.all_eq_true.mp tL_16_ok (1570, .iload 4, 2) (List.mem_of_getElem? (i := 3) rfl))
set_option maxRecDepth 100000 in
theorem dL_law_1572 : decode cL_law 1572 = .ok (.iconst 1, 1) := of_decide_eq_true (List.all_eq_true.mp tL_16_ok (1572, .iconst 1, 1) (List.mem_of_getElem? (i := 4) rfl))
set_option maxRecDepth 100000 in
theorem dL_law_1573 : decode cL_law 1573 = .ok (.iadd, 1) := of_decide_eq_true (List.all_eq_true.mp tL_16_ok (1573, .iadd, 1) (List.mem_of_getElem? (i := 5) rfl))
set_option maxRecDepth 100000 in
theorem dL_law_1574 : decode cL_law 1574 = .ok (.iaload, 1) := of_decide_eq_true (List.all_eq_true.mp tL_16_ok (1574, .iaload, 1) (List.mem_of_getElem? (i := 6) rfl))
set_option maxRecDepth 100000 in
theorem dL_law_1575 : decode cL_law 1575 = .ok (.invokevirtual 198, 3) := of_decide_eq_true (List.all_eq_true.mp tL_16_ok (1575, .invokevirtual 198, 3) (List.mem_of_getElem? (i := 7) rfl))
set_option maxRecDepth 100000 in
theorem dL_law_1578 : decode cL_law 1578 = .ok (.istore 6, 2) := of_decide_eq_true (List.all_eq_true.mp tL_16_ok (1578, .istore 6, 2) (List.mem_of_getElem? (i := 8) rfl))
set_option maxRecDepth 100000 in
theorem dL_law_1580 : decode cL_law 1580 = .ok (.aload_n 2, 1) := of_decide_eq_true (List.all_eq_true.mp tL_16_ok (1580, .aload_n 2, 1) (List.mem_of_getElem? (i := 9) rfl))
set_option maxRecDepth 100000 in
theorem dL_law_1581 : decode cL_law 1581 = .ok (.invokevirtual 118, 3) := of_decide_eq_true (List.all_eq_true.mp tL_16_ok (1581, .invokevirtual 118, 3) (List.mem_of_getElem? (i := 10) rfl))
set_option maxRecDepth 100000 in
theorem dL_law_1584 : decode cL_law 1584 = .ok (.iload 5, 2) := of_decide_eq_true (List.all_eq_true.mp tL_16_ok (1584, .iload 5, 2) (List.mem_of_getElem? (i := 11) rfl))
set_option maxRecDepth 100000 in
theorem dL_law_1586 : decode cL_law 1586 = .ok (.if_icmp .eq 5, 3) := of_decide_eq_true (List.all_eq_true.mp tL_16_ok (1586, .if_icmp .eq 5, 3) (List.mem_of_getElem? (i := 12) rfl))
set_option maxRecDepth 100000 in
theorem dL_law_1589 : decode cL_law 1589 = .ok (.iconst 0, 1) := of_decide_eq_true (List.all_eq_true.mp tL_16_ok (1589, .iconst 0, 1) (List.mem_of_getElem? (i := 13) rfl))
set_option maxRecDepth 100000 in
theorem dL_law_1590 : decode cL_law 1590 = .ok (.ireturn, 1) := of_decide_eq_true (List.all_eq_true.mp tL_16_ok (1590, .ireturn, 1) (List.mem_of_getElem? (i := 14) rfl))
set_option maxRecDepth 100000 in
theorem dL_law_1591 : decode cL_law 1591 = .ok (.iload 5, 2) := of_decide_eq_true (List.all_eq_true.mp tL_16_ok (1591, .iload 5, 2) (List.mem_of_getElem? (i := 15) rfl))
set_option maxRecDepth 100000 in
theorem dL_law_1593 : decode cL_law 1593 = .ok (.ifCond .ne 15, 3) := of_decide_eq_true (List.all_eq_true.mp tL_16_ok (1593, .ifCond .ne 15, 3) (List.mem_of_getElem? (i := 16) rfl))
set_option maxRecDepth 100000 in
theorem dL_law_1596 : decode cL_law 1596 = .ok (.aload_n 3, 1) := of_decide_eq_true (List.all_eq_true.mp tL_16_ok (1596, .aload_n 3, 1) (List.mem_of_getElem? (i := 17) rfl))
set_option maxRecDepth 100000 in
theorem dL_law_1597 : decode cL_law 1597 = .ok (.iconst 0, 1) := of_decide_eq_true (List.all_eq_true.mp tL_16_ok (1597, .iconst 0, 1) (List.mem_of_getElem? (i := 18) rfl))
set_option maxRecDepth 100000 in
theorem dL_law_1598 : decode cL_law 1598 = .ok (.laload, 1) := of_decide_eq_true (List.all_eq_true.mp tL_16_ok (1598, .laload, 1) (List.mem_of_getElem? (i := 19) rfl))
set_option maxRecDepth 100000 in
theorem dL_law_1599 : decode cL_law 1599 = .ok (.iload 6, 2) := of_decide_eq_true (List.all_eq_true.mp tL_16_ok (1599, .iload 6, 2) (List.mem_of_getElem? (i := 20) rfl))
set_option maxRecDepth 100000 in
theorem dL_law_1601 : decode cL_law 1601 = .ok (.i2l, 1) := of_decide_eq_true (List.all_eq_true.mp tL_16_ok (1601, .i2l, 1) (List.mem_of_getElem? (i := 21) rfl))
set_option maxRecDepth 100000 in
theorem dL_law_1602 : decode cL_law 1602 = .ok (.lcmp, 1) := of_decide_eq_true (List.all_eq_true.mp tL_16_ok (1602, .lcmp, 1) (List.mem_of_getElem? (i := 22) rfl))
set_option maxRecDepth 100000 in
theorem dL_law_1603 : decode cL_law 1603 = .ok (.ifCond .eq 5, 3) := of_decide_eq_true (List.all_eq_true.mp tL_16_ok (1603, .ifCond .eq 5, 3) (List.mem_of_getElem? (i := 23) rfl))
set_option maxRecDepth 100000 in
theorem dL_law_1606 : decode cL_law 1606 = .ok (.iconst 0, 1) := of_decide_eq_true (List.all_eq_true.mp tL_16_ok (1606, .iconst 0, 1) (List.mem_of_getElem? (i := 24) rfl))
set_option maxRecDepth 100000 in
theorem dL_law_1607 : decode cL_law 1607 = .ok (.ireturn, 1) := of_decide_eq_true (List.all_eq_true.mp tL_16_ok (1607, .ireturn, 1) (List.mem_of_getElem? (i := 25) rfl))
set_option maxRecDepth 100000 in
theorem dL_law_1608 : decode cL_law 1608 = .ok (.goto 383, 3) := of_decide_eq_true (List.all_eq_true.mp tL_16_ok (1608, .goto 383, 3) (List.mem_of_getElem? (i := 26) rfl))
set_option maxRecDepth 100000 in
theorem dL_law_1611 : decode cL_law 1611 = .ok (.aload_n 1, 1) := of_decide_eq_true (List.all_eq_true.mp tL_16_ok (1611, .aload_n 1, 1) (List.mem_of_getElem? (i := 27) rfl))
set_option maxRecDepth 100000 in
theorem dL_law_1612 : decode cL_law 1612 = .ok (.aload_n 0, 1) := of_decide_eq_true (List.all_eq_true.mp tL_16_ok (1612, .aload_n 0, 1) (List.mem_of_getElem? (i := 28) rfl))
set_option maxRecDepth 100000 in
theorem dL_law_1613 : decode cL_law 1613 = .ok (.iload 4, 2) := of_decide_eq_true (List.all_eq_true.mp tL_16_ok (1613, .iload 4, 2) (List.mem_of_getElem? (i := 29) rfl))
