section TB
variable {p : Program} {l : Launch} {e : Env} {R : Room} {s : State} {m : MethodId} {args : Array Value} {below : List Frame} {meth : Method} {c : Code} {H : Heap} {locs : List Loc} {cells slots : Nat} {Q : State → Prop}
variable {ls : Array Slot} {rest : List Value} {g : GT} {A : Nat → Prop} {ws : va_W} {nL : Nat} {ret : Option FieldType}
set_option maxHeartbeats 4000000 in
theorem tb_window_132 {q : Nat} (C : Cx p s m args meth c cX7_init nL ret wsX7_init RX7 g A) (hw : Wd g A s.heap (ws ++ [(q, aI g 257 (fun j => if j < 132 then sV 10 j else 0))]) H locs) (kk : ∀ (H1 : Heap) (locs1 : List Loc), Wd g A s.heap (ws ++ [(q, aI g 257 (fun j => if j < 165 then sV 10 j else 0))]) H1 locs1 → W p l e R s m args below meth c H1 locs1 cells slots Q (F0 m 1597 ls (.ref q :: rest))) : W p l e R s m args below meth c H locs cells slots Q (F0 m 1334 ls (.ref q :: rest)) := by
  obtain ⟨hx, hb, hml, hown, hts, -⟩ := id C
  refine lv_dup hx hb dX7_init_1334 rfl ?_
  refine lv_sipush (v := nI 132) hx hb dX7_init_1335 (by decide) ?_
  refine lv_sipush (v := nI 1822) hx hb dX7_init_1338 (by decide) ?_
  refine r_tst (i := 132) (h := fun j => sV 10 j) C hw (by decide) (by decide) (by decide +kernel) dX7_init_1341 (fun H locs hw => ?_)
  refine lv_dup hx hb dX7_init_1342 rfl ?_
  refine lv_sipush (v := nI 133) hx hb dX7_init_1343 (by decide) ?_
  refine lv_sipush (v := nI 1739) hx hb dX7_init_1346 (by decide) ?_
  refine r_tst (i := 133) (h := fun j => sV 10 j) C hw (by decide) (by decide) (by decide +kernel) dX7_init_1349 (fun H locs hw => ?_)
  refine lv_dup hx hb dX7_init_1350 rfl ?_
  refine lv_sipush (v := nI 134) hx hb dX7_init_1351 (by decide) ?_
  refine lv_sipush (v := nI 1644) hx hb dX7_init_1354 (by decide) ?_
  refine r_tst (i := 134) (h := fun j => sV 10 j) C hw (by decide) (by decide) (by decide +kernel) dX7_init_1357 (fun H locs hw => ?_)
  refine lv_dup hx hb dX7_init_1358 rfl ?_
  refine lv_sipush (v := nI 135) hx hb dX7_init_1359 (by decide) ?_
  refine lv_sipush (v := nI 1535) hx hb dX7_init_1362 (by decide) ?_
  refine r_tst (i := 135) (h := fun j => sV 10 j) C hw (by decide) (by decide) (by decide +kernel) dX7_init_1365 (fun H locs hw => ?_)
  refine lv_dup hx hb dX7_init_1366 rfl ?_
  refine lv_sipush (v := nI 136) hx hb dX7_init_1367 (by decide) ?_
  refine lv_sipush (v := nI 1414) hx hb dX7_init_1370 (by decide) ?_
  refine r_tst (i := 136) (h := fun j => sV 10 j) C hw (by decide) (by decide) (by decide +kernel) dX7_init_1373 (fun H locs hw => ?_)
  refine lv_dup hx hb dX7_init_1374 rfl ?_
  refine lv_sipush (v := nI 137) hx hb dX7_init_1375 (by decide) ?_
  refine lv_sipush (v := nI 1280) hx hb dX7_init_1378 (by decide) ?_
  refine r_tst (i := 137) (h := fun j => sV 10 j) C hw (by decide) (by decide) (by decide +kernel) dX7_init_1381 (fun H locs hw => ?_)
  refine lv_dup hx hb dX7_init_1382 rfl ?_
  refine lv_sipush (v := nI 138) hx hb dX7_init_1383 (by decide) ?_
  refine lv_sipush (v := nI 1131) hx hb dX7_init_1386 (by decide) ?_
  refine r_tst (i := 138) (h := fun j => sV 10 j) C hw (by decide) (by decide) (by decide +kernel) dX7_init_1389 (fun H locs hw => ?_)
  refine lv_dup hx hb dX7_init_1390 rfl ?_
  refine lv_sipush (v := nI 139) hx hb dX7_init_1391 (by decide) ?_
  refine lv_sipush (v := nI 970) hx hb dX7_init_1394 (by decide) ?_
  refine r_tst (i := 139) (h := fun j => sV 10 j) C hw (by decide) (by decide) (by decide +kernel) dX7_init_1397 (fun H locs hw => ?_)
  refine lv_dup hx hb dX7_init_1398 rfl ?_
  refine lv_sipush (v := nI 140) hx hb dX7_init_1399 (by decide) ?_
  refine lv_sipush (v := nI 794) hx hb dX7_init_1402 (by decide) ?_
  refine r_tst (i := 140) (h := fun j => sV 10 j) C hw (by decide) (by decide) (by decide +kernel) dX7_init_1405 (fun H locs hw => ?_)
  refine lv_dup hx hb dX7_init_1406 rfl ?_
  refine lv_sipush (v := nI 141) hx hb dX7_init_1407 (by decide) ?_
  refine lv_sipush (v := nI 605) hx hb dX7_init_1410 (by decide) ?_
  refine r_tst (i := 141) (h := fun j => sV 10 j) C hw (by decide) (by decide) (by decide +kernel) dX7_init_1413 (fun H locs hw => ?_)
  refine lv_dup hx hb dX7_init_1414 rfl ?_
  refine lv_sipush (v := nI 142) hx hb dX7_init_1415 (by decide) ?_
  refine lv_sipush (v := nI 402) hx hb dX7_init_1418 (by decide) ?_
  refine r_tst (i := 142) (h := fun j => sV 10 j) C hw (by decide) (by decide) (by decide +kernel) dX7_init_1421 (fun H locs hw => ?_)
  refine lv_dup hx hb dX7_init_1422 rfl ?_
  refine lv_sipush (v := nI 143) hx hb dX7_init_1423 (by decide) ?_
  refine lv_sipush (v := nI 185) hx hb dX7_init_1426 (by decide) ?_
  refine r_tst (i := 143) (h := fun j => sV 10 j) C hw (by decide) (by decide) (by decide +kernel) dX7_init_1429 (fun H locs hw => ?_)
  refine lv_dup hx hb dX7_init_1430 rfl ?_
  refine lv_sipush (v := nI 144) hx hb dX7_init_1431 (by decide) ?_
  refine lv_bipush (v := (-45)) hx hb dX7_init_1434 (by decide) ?_
  refine r_tst (i := 144) (h := fun j => sV 10 j) C hw (by decide) (by decide) (by decide +kernel) dX7_init_1436 (fun H locs hw => ?_)
  refine lv_dup hx hb dX7_init_1437 rfl ?_
  refine lv_sipush (v := nI 145) hx hb dX7_init_1438 (by decide) ?_
  refine lv_sipush (v := (-288)) hx hb dX7_init_1441 (by decide) ?_
  refine r_tst (i := 145) (h := fun j => sV 10 j) C hw (by decide) (by decide) (by decide +kernel) dX7_init_1444 (fun H locs hw => ?_)
  refine lv_dup hx hb dX7_init_1445 rfl ?_
  refine lv_sipush (v := nI 146) hx hb dX7_init_1446 (by decide) ?_
  refine lv_sipush (v := (-545)) hx hb dX7_init_1449 (by decide) ?_
  refine r_tst (i := 146) (h := fun j => sV 10 j) C hw (by decide) (by decide) (by decide +kernel) dX7_init_1452 (fun H locs hw => ?_)
  refine lv_dup hx hb dX7_init_1453 rfl ?_
  refine lv_sipush (v := nI 147) hx hb dX7_init_1454 (by decide) ?_
  refine lv_sipush (v := (-814)) hx hb dX7_init_1457 (by decide) ?_
  refine r_tst (i := 147) (h := fun j => sV 10 j) C hw (by decide) (by decide) (by decide +kernel) dX7_init_1460 (fun H locs hw => ?_)
  refine lv_dup hx hb dX7_init_1461 rfl ?_
  refine lv_sipush (v := nI 148) hx hb dX7_init_1462 (by decide) ?_
  refine lv_sipush (v := (-1095)) hx hb dX7_init_1465 (by decide) ?_
  refine r_tst (i := 148) (h := fun j => sV 10 j) C hw (by decide) (by decide) (by decide +kernel) dX7_init_1468 (fun H locs hw => ?_)
  refine lv_dup hx hb dX7_init_1469 rfl ?_
  refine lv_sipush (v := nI 149) hx hb dX7_init_1470 (by decide) ?_
  refine lv_sipush (v := (-1388)) hx hb dX7_init_1473 (by decide) ?_
  refine r_tst (i := 149) (h := fun j => sV 10 j) C hw (by decide) (by decide) (by decide +kernel) dX7_init_1476 (fun H locs hw => ?_)
  refine lv_dup hx hb dX7_init_1477 rfl ?_
  refine lv_sipush (v := nI 150) hx hb dX7_init_1478 (by decide) ?_
  refine lv_sipush (v := (-1692)) hx hb dX7_init_1481 (by decide) ?_
  refine r_tst (i := 150) (h := fun j => sV 10 j) C hw (by decide) (by decide) (by decide +kernel) dX7_init_1484 (fun H locs hw => ?_)
  refine lv_dup hx hb dX7_init_1485 rfl ?_
  refine lv_sipush (v := nI 151) hx hb dX7_init_1486 (by decide) ?_
  refine lv_sipush (v := (-2006)) hx hb dX7_init_1489 (by decide) ?_
  refine r_tst (i := 151) (h := fun j => sV 10 j) C hw (by decide) (by decide) (by decide +kernel) dX7_init_1492 (fun H locs hw => ?_)
  refine lv_dup hx hb dX7_init_1493 rfl ?_
  refine lv_sipush (v := nI 152) hx hb dX7_init_1494 (by decide) ?_
  refine lv_sipush (v := (-2330)) hx hb dX7_init_1497 (by decide) ?_
  refine r_tst (i := 152) (h := fun j => sV 10 j) C hw (by decide) (by decide) (by decide +kernel) dX7_init_1500 (fun H locs hw => ?_)
  refine lv_dup hx hb dX7_init_1501 rfl ?_
  refine lv_sipush (v := nI 153) hx hb dX7_init_1502 (by decide) ?_
  refine lv_sipush (v := (-2663)) hx hb dX7_init_1505 (by decide) ?_
  refine r_tst (i := 153) (h := fun j => sV 10 j) C hw (by decide) (by decide) (by decide +kernel) dX7_init_1508 (fun H locs hw => ?_)
  refine lv_dup hx hb dX7_init_1509 rfl ?_
  refine lv_sipush (v := nI 154) hx hb dX7_init_1510 (by decide) ?_
  refine lv_sipush (v := (-3004)) hx hb dX7_init_1513 (by decide) ?_
  refine r_tst (i := 154) (h := fun j => sV 10 j) C hw (by decide) (by decide) (by decide +kernel) dX7_init_1516 (fun H locs hw => ?_)
  refine lv_dup hx hb dX7_init_1517 rfl ?_
  refine lv_sipush (v := nI 155) hx hb dX7_init_1518 (by decide) ?_
  refine lv_sipush (v := (-3351)) hx hb dX7_init_1521 (by decide) ?_
  refine r_tst (i := 155) (h := fun j => sV 10 j) C hw (by decide) (by decide) (by decide +kernel) dX7_init_1524 (fun H locs hw => ?_)
  refine lv_dup hx hb dX7_init_1525 rfl ?_
  refine lv_sipush (v := nI 156) hx hb dX7_init_1526 (by decide) ?_
  refine lv_sipush (v := (-3705)) hx hb dX7_init_1529 (by decide) ?_
  refine r_tst (i := 156) (h := fun j => sV 10 j) C hw (by decide) (by decide) (by decide +kernel) dX7_init_1532 (fun H locs hw => ?_)
  refine lv_dup hx hb dX7_init_1533 rfl ?_
  refine lv_sipush (v := nI 157) hx hb dX7_init_1534 (by decide) ?_
  refine lv_sipush (v := (-4063)) hx hb dX7_init_1537 (by decide) ?_
  refine r_tst (i := 157) (h := fun j => sV 10 j) C hw (by decide) (by decide) (by decide +kernel) dX7_init_1540 (fun H locs hw => ?_)
  refine lv_dup hx hb dX7_init_1541 rfl ?_
  refine lv_sipush (v := nI 158) hx hb dX7_init_1542 (by decide) ?_
  refine lv_sipush (v := (-4425)) hx hb dX7_init_1545 (by decide) ?_
  refine r_tst (i := 158) (h := fun j => sV 10 j) C hw (by decide) (by decide) (by decide +kernel) dX7_init_1548 (fun H locs hw => ?_)
  refine lv_dup hx hb dX7_init_1549 rfl ?_
  refine lv_sipush (v := nI 159) hx hb dX7_init_1550 (by decide) ?_
  refine lv_sipush (v := (-4788)) hx hb dX7_init_1553 (by decide) ?_
  refine r_tst (i := 159) (h := fun j => sV 10 j) C hw (by decide) (by decide) (by decide +kernel) dX7_init_1556 (fun H locs hw => ?_)
  refine lv_dup hx hb dX7_init_1557 rfl ?_
  refine lv_sipush (v := nI 160) hx hb dX7_init_1558 (by decide) ?_
  refine lv_sipush (v := (-5153)) hx hb dX7_init_1561 (by decide) ?_
  refine r_tst (i := 160) (h := fun j => sV 10 j) C hw (by decide) (by decide) (by decide +kernel) dX7_init_1564 (fun H locs hw => ?_)
  refine lv_dup hx hb dX7_init_1565 rfl ?_
  refine lv_sipush (v := nI 161) hx hb dX7_init_1566 (by decide) ?_
  refine lv_sipush (v := (-5517)) hx hb dX7_init_1569 (by decide) ?_
  refine r_tst (i := 161) (h := fun j => sV 10 j) C hw (by decide) (by decide) (by decide +kernel) dX7_init_1572 (fun H locs hw => ?_)
  refine lv_dup hx hb dX7_init_1573 rfl ?_
  refine lv_sipush (v := nI 162) hx hb dX7_init_1574 (by decide) ?_
  refine lv_sipush (v := (-5879)) hx hb dX7_init_1577 (by decide) ?_
  refine r_tst (i := 162) (h := fun j => sV 10 j) C hw (by decide) (by decide) (by decide +kernel) dX7_init_1580 (fun H locs hw => ?_)
  refine lv_dup hx hb dX7_init_1581 rfl ?_
  refine lv_sipush (v := nI 163) hx hb dX7_init_1582 (by decide) ?_
  refine lv_sipush (v := (-6237)) hx hb dX7_init_1585 (by decide) ?_
  refine r_tst (i := 163) (h := fun j => sV 10 j) C hw (by decide) (by decide) (by decide +kernel) dX7_init_1588 (fun H locs hw => ?_)
  refine lv_dup hx hb dX7_init_1589 rfl ?_
  refine lv_sipush (v := nI 164) hx hb dX7_init_1590 (by decide) ?_
  refine lv_sipush (v := (-6589)) hx hb dX7_init_1593 (by decide) ?_
  refine r_tst (i := 164) (h := fun j => sV 10 j) C hw (by decide) (by decide) (by decide +kernel) dX7_init_1596 (fun H locs hw => ?_)
  exact kk _ _ hw
set_option maxHeartbeats 4000000 in
theorem tb_window_165 {q : Nat} (C : Cx p s m args meth c cX7_init nL ret wsX7_init RX7 g A) (hw : Wd g A s.heap (ws ++ [(q, aI g 257 (fun j => if j < 165 then sV 10 j else 0))]) H locs) (kk : ∀ (H1 : Heap) (locs1 : List Loc), Wd g A s.heap (ws ++ [(q, aI g 257 (fun j => if j < 198 then sV 10 j else 0))]) H1 locs1 → W p l e R s m args below meth c H1 locs1 cells slots Q (F0 m 1861 ls (.ref q :: rest))) : W p l e R s m args below meth c H locs cells slots Q (F0 m 1597 ls (.ref q :: rest)) := by
  obtain ⟨hx, hb, hml, hown, hts, -⟩ := id C
  refine lv_dup hx hb dX7_init_1597 rfl ?_
  refine lv_sipush (v := nI 165) hx hb dX7_init_1598 (by decide) ?_
  refine lv_sipush (v := (-6935)) hx hb dX7_init_1601 (by decide) ?_
  refine r_tst (i := 165) (h := fun j => sV 10 j) C hw (by decide) (by decide) (by decide +kernel) dX7_init_1604 (fun H locs hw => ?_)
  refine lv_dup hx hb dX7_init_1605 rfl ?_
  refine lv_sipush (v := nI 166) hx hb dX7_init_1606 (by decide) ?_
  refine lv_sipush (v := (-7271)) hx hb dX7_init_1609 (by decide) ?_
  refine r_tst (i := 166) (h := fun j => sV 10 j) C hw (by decide) (by decide) (by decide +kernel) dX7_init_1612 (fun H locs hw => ?_)
  refine lv_dup hx hb dX7_init_1613 rfl ?_
  refine lv_sipush (v := nI 167) hx hb dX7_init_1614 (by decide) ?_
  refine lv_sipush (v := (-7597)) hx hb dX7_init_1617 (by decide) ?_
  refine r_tst (i := 167) (h := fun j => sV 10 j) C hw (by decide) (by decide) (by decide +kernel) dX7_init_1620 (fun H locs hw => ?_)
  refine lv_dup hx hb dX7_init_1621 rfl ?_
  refine lv_sipush (v := nI 168) hx hb dX7_init_1622 (by decide) ?_
  refine lv_sipush (v := (-7910)) hx hb dX7_init_1625 (by decide) ?_
  refine r_tst (i := 168) (h := fun j => sV 10 j) C hw (by decide) (by decide) (by decide +kernel) dX7_init_1628 (fun H locs hw => ?_)
  refine lv_dup hx hb dX7_init_1629 rfl ?_
  refine lv_sipush (v := nI 169) hx hb dX7_init_1630 (by decide) ?_
  refine lv_sipush (v := (-8209)) hx hb dX7_init_1633 (by decide) ?_
  refine r_tst (i := 169) (h := fun j => sV 10 j) C hw (by decide) (by decide) (by decide +kernel) dX7_init_1636 (fun H locs hw => ?_)
  refine lv_dup hx hb dX7_init_1637 rfl ?_
  refine lv_sipush (v := nI 170) hx hb dX7_init_1638 (by decide) ?_
  refine lv_sipush (v := (-8491)) hx hb dX7_init_1641 (by decide) ?_
  refine r_tst (i := 170) (h := fun j => sV 10 j) C hw (by decide) (by decide) (by decide +kernel) dX7_init_1644 (fun H locs hw => ?_)
  refine lv_dup hx hb dX7_init_1645 rfl ?_
  refine lv_sipush (v := nI 171) hx hb dX7_init_1646 (by decide) ?_
  refine lv_sipush (v := (-8755)) hx hb dX7_init_1649 (by decide) ?_
  refine r_tst (i := 171) (h := fun j => sV 10 j) C hw (by decide) (by decide) (by decide +kernel) dX7_init_1652 (fun H locs hw => ?_)
  refine lv_dup hx hb dX7_init_1653 rfl ?_
  refine lv_sipush (v := nI 172) hx hb dX7_init_1654 (by decide) ?_
  refine lv_sipush (v := (-8998)) hx hb dX7_init_1657 (by decide) ?_
  refine r_tst (i := 172) (h := fun j => sV 10 j) C hw (by decide) (by decide) (by decide +kernel) dX7_init_1660 (fun H locs hw => ?_)
  refine lv_dup hx hb dX7_init_1661 rfl ?_
  refine lv_sipush (v := nI 173) hx hb dX7_init_1662 (by decide) ?_
  refine lv_sipush (v := (-9219)) hx hb dX7_init_1665 (by decide) ?_
  refine r_tst (i := 173) (h := fun j => sV 10 j) C hw (by decide) (by decide) (by decide +kernel) dX7_init_1668 (fun H locs hw => ?_)
  refine lv_dup hx hb dX7_init_1669 rfl ?_
  refine lv_sipush (v := nI 174) hx hb dX7_init_1670 (by decide) ?_
  refine lv_sipush (v := (-9416)) hx hb dX7_init_1673 (by decide) ?_
  refine r_tst (i := 174) (h := fun j => sV 10 j) C hw (by decide) (by decide) (by decide +kernel) dX7_init_1676 (fun H locs hw => ?_)
  refine lv_dup hx hb dX7_init_1677 rfl ?_
  refine lv_sipush (v := nI 175) hx hb dX7_init_1678 (by decide) ?_
  refine lv_sipush (v := (-9585)) hx hb dX7_init_1681 (by decide) ?_
  refine r_tst (i := 175) (h := fun j => sV 10 j) C hw (by decide) (by decide) (by decide +kernel) dX7_init_1684 (fun H locs hw => ?_)
  refine lv_dup hx hb dX7_init_1685 rfl ?_
  refine lv_sipush (v := nI 176) hx hb dX7_init_1686 (by decide) ?_
  refine lv_sipush (v := (-9727)) hx hb dX7_init_1689 (by decide) ?_
  refine r_tst (i := 176) (h := fun j => sV 10 j) C hw (by decide) (by decide) (by decide +kernel) dX7_init_1692 (fun H locs hw => ?_)
  refine lv_dup hx hb dX7_init_1693 rfl ?_
  refine lv_sipush (v := nI 177) hx hb dX7_init_1694 (by decide) ?_
  refine lv_sipush (v := (-9838)) hx hb dX7_init_1697 (by decide) ?_
  refine r_tst (i := 177) (h := fun j => sV 10 j) C hw (by decide) (by decide) (by decide +kernel) dX7_init_1700 (fun H locs hw => ?_)
  refine lv_dup hx hb dX7_init_1701 rfl ?_
  refine lv_sipush (v := nI 178) hx hb dX7_init_1702 (by decide) ?_
  refine lv_sipush (v := (-9916)) hx hb dX7_init_1705 (by decide) ?_
  refine r_tst (i := 178) (h := fun j => sV 10 j) C hw (by decide) (by decide) (by decide +kernel) dX7_init_1708 (fun H locs hw => ?_)
  refine lv_dup hx hb dX7_init_1709 rfl ?_
  refine lv_sipush (v := nI 179) hx hb dX7_init_1710 (by decide) ?_
  refine lv_sipush (v := (-9959)) hx hb dX7_init_1713 (by decide) ?_
  refine r_tst (i := 179) (h := fun j => sV 10 j) C hw (by decide) (by decide) (by decide +kernel) dX7_init_1716 (fun H locs hw => ?_)
  refine lv_dup hx hb dX7_init_1717 rfl ?_
  refine lv_sipush (v := nI 180) hx hb dX7_init_1718 (by decide) ?_
  refine lv_sipush (v := (-9966)) hx hb dX7_init_1721 (by decide) ?_
  refine r_tst (i := 180) (h := fun j => sV 10 j) C hw (by decide) (by decide) (by decide +kernel) dX7_init_1724 (fun H locs hw => ?_)
  refine lv_dup hx hb dX7_init_1725 rfl ?_
  refine lv_sipush (v := nI 181) hx hb dX7_init_1726 (by decide) ?_
  refine lv_sipush (v := (-9935)) hx hb dX7_init_1729 (by decide) ?_
  refine r_tst (i := 181) (h := fun j => sV 10 j) C hw (by decide) (by decide) (by decide +kernel) dX7_init_1732 (fun H locs hw => ?_)
  refine lv_dup hx hb dX7_init_1733 rfl ?_
  refine lv_sipush (v := nI 182) hx hb dX7_init_1734 (by decide) ?_
  refine lv_sipush (v := (-9863)) hx hb dX7_init_1737 (by decide) ?_
  refine r_tst (i := 182) (h := fun j => sV 10 j) C hw (by decide) (by decide) (by decide +kernel) dX7_init_1740 (fun H locs hw => ?_)
  refine lv_dup hx hb dX7_init_1741 rfl ?_
  refine lv_sipush (v := nI 183) hx hb dX7_init_1742 (by decide) ?_
  refine lv_sipush (v := (-9750)) hx hb dX7_init_1745 (by decide) ?_
  refine r_tst (i := 183) (h := fun j => sV 10 j) C hw (by decide) (by decide) (by decide +kernel) dX7_init_1748 (fun H locs hw => ?_)
  refine lv_dup hx hb dX7_init_1749 rfl ?_
  refine lv_sipush (v := nI 184) hx hb dX7_init_1750 (by decide) ?_
  refine lv_sipush (v := (-9592)) hx hb dX7_init_1753 (by decide) ?_
  refine r_tst (i := 184) (h := fun j => sV 10 j) C hw (by decide) (by decide) (by decide +kernel) dX7_init_1756 (fun H locs hw => ?_)
  refine lv_dup hx hb dX7_init_1757 rfl ?_
  refine lv_sipush (v := nI 185) hx hb dX7_init_1758 (by decide) ?_
  refine lv_sipush (v := (-9389)) hx hb dX7_init_1761 (by decide) ?_
  refine r_tst (i := 185) (h := fun j => sV 10 j) C hw (by decide) (by decide) (by decide +kernel) dX7_init_1764 (fun H locs hw => ?_)
  refine lv_dup hx hb dX7_init_1765 rfl ?_
  refine lv_sipush (v := nI 186) hx hb dX7_init_1766 (by decide) ?_
  refine lv_sipush (v := (-9139)) hx hb dX7_init_1769 (by decide) ?_
  refine r_tst (i := 186) (h := fun j => sV 10 j) C hw (by decide) (by decide) (by decide +kernel) dX7_init_1772 (fun H locs hw => ?_)
  refine lv_dup hx hb dX7_init_1773 rfl ?_
  refine lv_sipush (v := nI 187) hx hb dX7_init_1774 (by decide) ?_
  refine lv_sipush (v := (-8840)) hx hb dX7_init_1777 (by decide) ?_
  refine r_tst (i := 187) (h := fun j => sV 10 j) C hw (by decide) (by decide) (by decide +kernel) dX7_init_1780 (fun H locs hw => ?_)
  refine lv_dup hx hb dX7_init_1781 rfl ?_
  refine lv_sipush (v := nI 188) hx hb dX7_init_1782 (by decide) ?_
  refine lv_sipush (v := (-8492)) hx hb dX7_init_1785 (by decide) ?_
  refine r_tst (i := 188) (h := fun j => sV 10 j) C hw (by decide) (by decide) (by decide +kernel) dX7_init_1788 (fun H locs hw => ?_)
  refine lv_dup hx hb dX7_init_1789 rfl ?_
  refine lv_sipush (v := nI 189) hx hb dX7_init_1790 (by decide) ?_
  refine lv_sipush (v := (-8092)) hx hb dX7_init_1793 (by decide) ?_
  refine r_tst (i := 189) (h := fun j => sV 10 j) C hw (by decide) (by decide) (by decide +kernel) dX7_init_1796 (fun H locs hw => ?_)
  refine lv_dup hx hb dX7_init_1797 rfl ?_
  refine lv_sipush (v := nI 190) hx hb dX7_init_1798 (by decide) ?_
  refine lv_sipush (v := (-7640)) hx hb dX7_init_1801 (by decide) ?_
  refine r_tst (i := 190) (h := fun j => sV 10 j) C hw (by decide) (by decide) (by decide +kernel) dX7_init_1804 (fun H locs hw => ?_)
  refine lv_dup hx hb dX7_init_1805 rfl ?_
  refine lv_sipush (v := nI 191) hx hb dX7_init_1806 (by decide) ?_
  refine lv_sipush (v := (-7134)) hx hb dX7_init_1809 (by decide) ?_
  refine r_tst (i := 191) (h := fun j => sV 10 j) C hw (by decide) (by decide) (by decide +kernel) dX7_init_1812 (fun H locs hw => ?_)
  refine lv_dup hx hb dX7_init_1813 rfl ?_
  refine lv_sipush (v := nI 192) hx hb dX7_init_1814 (by decide) ?_
  refine lv_sipush (v := nI 6574) hx hb dX7_init_1817 (by decide) ?_
  refine r_tst (i := 192) (h := fun j => sV 10 j) C hw (by decide) (by decide) (by decide +kernel) dX7_init_1820 (fun H locs hw => ?_)
  refine lv_dup hx hb dX7_init_1821 rfl ?_
  refine lv_sipush (v := nI 193) hx hb dX7_init_1822 (by decide) ?_
  refine lv_sipush (v := nI 5959) hx hb dX7_init_1825 (by decide) ?_
  refine r_tst (i := 193) (h := fun j => sV 10 j) C hw (by decide) (by decide) (by decide +kernel) dX7_init_1828 (fun H locs hw => ?_)
  refine lv_dup hx hb dX7_init_1829 rfl ?_
  refine lv_sipush (v := nI 194) hx hb dX7_init_1830 (by decide) ?_
  refine lv_sipush (v := nI 5288) hx hb dX7_init_1833 (by decide) ?_
  refine r_tst (i := 194) (h := fun j => sV 10 j) C hw (by decide) (by decide) (by decide +kernel) dX7_init_1836 (fun H locs hw => ?_)
  refine lv_dup hx hb dX7_init_1837 rfl ?_
  refine lv_sipush (v := nI 195) hx hb dX7_init_1838 (by decide) ?_
  refine lv_sipush (v := nI 4561) hx hb dX7_init_1841 (by decide) ?_
  refine r_tst (i := 195) (h := fun j => sV 10 j) C hw (by decide) (by decide) (by decide +kernel) dX7_init_1844 (fun H locs hw => ?_)
  refine lv_dup hx hb dX7_init_1845 rfl ?_
  refine lv_sipush (v := nI 196) hx hb dX7_init_1846 (by decide) ?_
  refine lv_sipush (v := nI 3776) hx hb dX7_init_1849 (by decide) ?_
  refine r_tst (i := 196) (h := fun j => sV 10 j) C hw (by decide) (by decide) (by decide +kernel) dX7_init_1852 (fun H locs hw => ?_)
  refine lv_dup hx hb dX7_init_1853 rfl ?_
  refine lv_sipush (v := nI 197) hx hb dX7_init_1854 (by decide) ?_
  refine lv_sipush (v := nI 2935) hx hb dX7_init_1857 (by decide) ?_
  refine r_tst (i := 197) (h := fun j => sV 10 j) C hw (by decide) (by decide) (by decide +kernel) dX7_init_1860 (fun H locs hw => ?_)
  exact kk _ _ hw
set_option maxHeartbeats 4000000 in
theorem tb_window_198 {q : Nat} (C : Cx p s m args meth c cX7_init nL ret wsX7_init RX7 g A) (hw : Wd g A s.heap (ws ++ [(q, aI g 257 (fun j => if j < 198 then sV 10 j else 0))]) H locs) (kk : ∀ (H1 : Heap) (locs1 : List Loc), Wd g A s.heap (ws ++ [(q, aI g 257 (fun j => if j < 231 then sV 10 j else 0))]) H1 locs1 → W p l e R s m args below meth c H1 locs1 cells slots Q (F0 m 2115 ls (.ref q :: rest))) : W p l e R s m args below meth c H locs cells slots Q (F0 m 1861 ls (.ref q :: rest)) := by
  obtain ⟨hx, hb, hml, hown, hts, -⟩ := id C
  refine lv_dup hx hb dX7_init_1861 rfl ?_
  refine lv_sipush (v := nI 198) hx hb dX7_init_1862 (by decide) ?_
  refine lv_sipush (v := nI 2037) hx hb dX7_init_1865 (by decide) ?_
  refine r_tst (i := 198) (h := fun j => sV 10 j) C hw (by decide) (by decide) (by decide +kernel) dX7_init_1868 (fun H locs hw => ?_)
  refine lv_dup hx hb dX7_init_1869 rfl ?_
  refine lv_sipush (v := nI 199) hx hb dX7_init_1870 (by decide) ?_
  refine lv_sipush (v := nI 1082) hx hb dX7_init_1873 (by decide) ?_
  refine r_tst (i := 199) (h := fun j => sV 10 j) C hw (by decide) (by decide) (by decide +kernel) dX7_init_1876 (fun H locs hw => ?_)
  refine lv_dup hx hb dX7_init_1877 rfl ?_
  refine lv_sipush (v := nI 200) hx hb dX7_init_1878 (by decide) ?_
  refine lv_bipush (v := nI 70) hx hb dX7_init_1881 (by decide) ?_
  refine r_tst (i := 200) (h := fun j => sV 10 j) C hw (by decide) (by decide) (by decide +kernel) dX7_init_1883 (fun H locs hw => ?_)
  refine lv_dup hx hb dX7_init_1884 rfl ?_
  refine lv_sipush (v := nI 201) hx hb dX7_init_1885 (by decide) ?_
  refine lv_sipush (v := (-998)) hx hb dX7_init_1888 (by decide) ?_
  refine r_tst (i := 201) (h := fun j => sV 10 j) C hw (by decide) (by decide) (by decide +kernel) dX7_init_1891 (fun H locs hw => ?_)
  refine lv_dup hx hb dX7_init_1892 rfl ?_
  refine lv_sipush (v := nI 202) hx hb dX7_init_1893 (by decide) ?_
  refine lv_sipush (v := (-2122)) hx hb dX7_init_1896 (by decide) ?_
  refine r_tst (i := 202) (h := fun j => sV 10 j) C hw (by decide) (by decide) (by decide +kernel) dX7_init_1899 (fun H locs hw => ?_)
  refine lv_dup hx hb dX7_init_1900 rfl ?_
  refine lv_sipush (v := nI 203) hx hb dX7_init_1901 (by decide) ?_
  refine lv_sipush (v := (-3300)) hx hb dX7_init_1904 (by decide) ?_
  refine r_tst (i := 203) (h := fun j => sV 10 j) C hw (by decide) (by decide) (by decide +kernel) dX7_init_1907 (fun H locs hw => ?_)
  refine lv_dup hx hb dX7_init_1908 rfl ?_
  refine lv_sipush (v := nI 204) hx hb dX7_init_1909 (by decide) ?_
  refine lv_sipush (v := (-4533)) hx hb dX7_init_1912 (by decide) ?_
  refine r_tst (i := 204) (h := fun j => sV 10 j) C hw (by decide) (by decide) (by decide +kernel) dX7_init_1915 (fun H locs hw => ?_)
  refine lv_dup hx hb dX7_init_1916 rfl ?_
  refine lv_sipush (v := nI 205) hx hb dX7_init_1917 (by decide) ?_
  refine lv_sipush (v := (-5818)) hx hb dX7_init_1920 (by decide) ?_
  refine r_tst (i := 205) (h := fun j => sV 10 j) C hw (by decide) (by decide) (by decide +kernel) dX7_init_1923 (fun H locs hw => ?_)
  refine lv_dup hx hb dX7_init_1924 rfl ?_
  refine lv_sipush (v := nI 206) hx hb dX7_init_1925 (by decide) ?_
  refine lv_sipush (v := (-7154)) hx hb dX7_init_1928 (by decide) ?_
  refine r_tst (i := 206) (h := fun j => sV 10 j) C hw (by decide) (by decide) (by decide +kernel) dX7_init_1931 (fun H locs hw => ?_)
  refine lv_dup hx hb dX7_init_1932 rfl ?_
  refine lv_sipush (v := nI 207) hx hb dX7_init_1933 (by decide) ?_
  refine lv_sipush (v := (-8540)) hx hb dX7_init_1936 (by decide) ?_
  refine r_tst (i := 207) (h := fun j => sV 10 j) C hw (by decide) (by decide) (by decide +kernel) dX7_init_1939 (fun H locs hw => ?_)
  refine lv_dup hx hb dX7_init_1940 rfl ?_
  refine lv_sipush (v := nI 208) hx hb dX7_init_1941 (by decide) ?_
  refine lv_sipush (v := (-9975)) hx hb dX7_init_1944 (by decide) ?_
  refine r_tst (i := 208) (h := fun j => sV 10 j) C hw (by decide) (by decide) (by decide +kernel) dX7_init_1947 (fun H locs hw => ?_)
  refine lv_dup hx hb dX7_init_1948 rfl ?_
  refine lv_sipush (v := nI 209) hx hb dX7_init_1949 (by decide) ?_
  refine lv_sipush (v := (-11455)) hx hb dX7_init_1952 (by decide) ?_
  refine r_tst (i := 209) (h := fun j => sV 10 j) C hw (by decide) (by decide) (by decide +kernel) dX7_init_1955 (fun H locs hw => ?_)
  refine lv_dup hx hb dX7_init_1956 rfl ?_
  refine lv_sipush (v := nI 210) hx hb dX7_init_1957 (by decide) ?_
  refine lv_sipush (v := (-12980)) hx hb dX7_init_1960 (by decide) ?_
  refine r_tst (i := 210) (h := fun j => sV 10 j) C hw (by decide) (by decide) (by decide +kernel) dX7_init_1963 (fun H locs hw => ?_)
  refine lv_dup hx hb dX7_init_1964 rfl ?_
  refine lv_sipush (v := nI 211) hx hb dX7_init_1965 (by decide) ?_
  refine lv_sipush (v := (-14548)) hx hb dX7_init_1968 (by decide) ?_
  refine r_tst (i := 211) (h := fun j => sV 10 j) C hw (by decide) (by decide) (by decide +kernel) dX7_init_1971 (fun H locs hw => ?_)
  refine lv_dup hx hb dX7_init_1972 rfl ?_
  refine lv_sipush (v := nI 212) hx hb dX7_init_1973 (by decide) ?_
  refine lv_sipush (v := (-16155)) hx hb dX7_init_1976 (by decide) ?_
  refine r_tst (i := 212) (h := fun j => sV 10 j) C hw (by decide) (by decide) (by decide +kernel) dX7_init_1979 (fun H locs hw => ?_)
  refine lv_dup hx hb dX7_init_1980 rfl ?_
  refine lv_sipush (v := nI 213) hx hb dX7_init_1981 (by decide) ?_
  refine lv_sipush (v := (-17799)) hx hb dX7_init_1984 (by decide) ?_
  refine r_tst (i := 213) (h := fun j => sV 10 j) C hw (by decide) (by decide) (by decide +kernel) dX7_init_1987 (fun H locs hw => ?_)
  refine lv_dup hx hb dX7_init_1988 rfl ?_
  refine lv_sipush (v := nI 214) hx hb dX7_init_1989 (by decide) ?_
  refine lv_sipush (v := (-19478)) hx hb dX7_init_1992 (by decide) ?_
  refine r_tst (i := 214) (h := fun j => sV 10 j) C hw (by decide) (by decide) (by decide +kernel) dX7_init_1995 (fun H locs hw => ?_)
  refine lv_dup hx hb dX7_init_1996 rfl ?_
  refine lv_sipush (v := nI 215) hx hb dX7_init_1997 (by decide) ?_
  refine lv_sipush (v := (-21189)) hx hb dX7_init_2000 (by decide) ?_
  refine r_tst (i := 215) (h := fun j => sV 10 j) C hw (by decide) (by decide) (by decide +kernel) dX7_init_2003 (fun H locs hw => ?_)
  refine lv_dup hx hb dX7_init_2004 rfl ?_
  refine lv_sipush (v := nI 216) hx hb dX7_init_2005 (by decide) ?_
  refine lv_sipush (v := (-22929)) hx hb dX7_init_2008 (by decide) ?_
  refine r_tst (i := 216) (h := fun j => sV 10 j) C hw (by decide) (by decide) (by decide +kernel) dX7_init_2011 (fun H locs hw => ?_)
  refine lv_dup hx hb dX7_init_2012 rfl ?_
  refine lv_sipush (v := nI 217) hx hb dX7_init_2013 (by decide) ?_
  refine lv_sipush (v := (-24694)) hx hb dX7_init_2016 (by decide) ?_
  refine r_tst (i := 217) (h := fun j => sV 10 j) C hw (by decide) (by decide) (by decide +kernel) dX7_init_2019 (fun H locs hw => ?_)
  refine lv_dup hx hb dX7_init_2020 rfl ?_
  refine lv_sipush (v := nI 218) hx hb dX7_init_2021 (by decide) ?_
  refine lv_sipush (v := (-26482)) hx hb dX7_init_2024 (by decide) ?_
  refine r_tst (i := 218) (h := fun j => sV 10 j) C hw (by decide) (by decide) (by decide +kernel) dX7_init_2027 (fun H locs hw => ?_)
  refine lv_dup hx hb dX7_init_2028 rfl ?_
  refine lv_sipush (v := nI 219) hx hb dX7_init_2029 (by decide) ?_
  refine lv_sipush (v := (-28289)) hx hb dX7_init_2032 (by decide) ?_
  refine r_tst (i := 219) (h := fun j => sV 10 j) C hw (by decide) (by decide) (by decide +kernel) dX7_init_2035 (fun H locs hw => ?_)
  refine lv_dup hx hb dX7_init_2036 rfl ?_
  refine lv_sipush (v := nI 220) hx hb dX7_init_2037 (by decide) ?_
  refine lv_sipush (v := (-30112)) hx hb dX7_init_2040 (by decide) ?_
  refine r_tst (i := 220) (h := fun j => sV 10 j) C hw (by decide) (by decide) (by decide +kernel) dX7_init_2043 (fun H locs hw => ?_)
  refine lv_dup hx hb dX7_init_2044 rfl ?_
  refine lv_sipush (v := nI 221) hx hb dX7_init_2045 (by decide) ?_
  refine lv_sipush (v := (-31947)) hx hb dX7_init_2048 (by decide) ?_
  refine r_tst (i := 221) (h := fun j => sV 10 j) C hw (by decide) (by decide) (by decide +kernel) dX7_init_2051 (fun H locs hw => ?_)
  refine lv_dup hx hb dX7_init_2052 rfl ?_
  refine lv_sipush (v := nI 222) hx hb dX7_init_2053 (by decide) ?_
  refine lv_ldc (v := (-33791)) hx hb hown (hts (.constant RX7 61 (-33791)) (by decide +kernel)) dX7_init_2056 ?_
  refine r_tst (i := 222) (h := fun j => sV 10 j) C hw (by decide) (by decide) (by decide +kernel) dX7_init_2058 (fun H locs hw => ?_)
  refine lv_dup hx hb dX7_init_2059 rfl ?_
  refine lv_sipush (v := nI 223) hx hb dX7_init_2060 (by decide) ?_
  refine lv_ldc (v := (-35640)) hx hb hown (hts (.constant RX7 62 (-35640)) (by decide +kernel)) dX7_init_2063 ?_
  refine r_tst (i := 223) (h := fun j => sV 10 j) C hw (by decide) (by decide) (by decide +kernel) dX7_init_2065 (fun H locs hw => ?_)
  refine lv_dup hx hb dX7_init_2066 rfl ?_
  refine lv_sipush (v := nI 224) hx hb dX7_init_2067 (by decide) ?_
  refine lv_ldc (v := (-37489)) hx hb hown (hts (.constant RX7 63 (-37489)) (by decide +kernel)) dX7_init_2070 ?_
  refine r_tst (i := 224) (h := fun j => sV 10 j) C hw (by decide) (by decide) (by decide +kernel) dX7_init_2072 (fun H locs hw => ?_)
  refine lv_dup hx hb dX7_init_2073 rfl ?_
  refine lv_sipush (v := nI 225) hx hb dX7_init_2074 (by decide) ?_
  refine lv_ldc (v := (-39336)) hx hb hown (hts (.constant RX7 64 (-39336)) (by decide +kernel)) dX7_init_2077 ?_
  refine r_tst (i := 225) (h := fun j => sV 10 j) C hw (by decide) (by decide) (by decide +kernel) dX7_init_2079 (fun H locs hw => ?_)
  refine lv_dup hx hb dX7_init_2080 rfl ?_
  refine lv_sipush (v := nI 226) hx hb dX7_init_2081 (by decide) ?_
  refine lv_ldc (v := (-41176)) hx hb hown (hts (.constant RX7 65 (-41176)) (by decide +kernel)) dX7_init_2084 ?_
  refine r_tst (i := 226) (h := fun j => sV 10 j) C hw (by decide) (by decide) (by decide +kernel) dX7_init_2086 (fun H locs hw => ?_)
  refine lv_dup hx hb dX7_init_2087 rfl ?_
  refine lv_sipush (v := nI 227) hx hb dX7_init_2088 (by decide) ?_
  refine lv_ldc (v := (-43006)) hx hb hown (hts (.constant RX7 66 (-43006)) (by decide +kernel)) dX7_init_2091 ?_
  refine r_tst (i := 227) (h := fun j => sV 10 j) C hw (by decide) (by decide) (by decide +kernel) dX7_init_2093 (fun H locs hw => ?_)
  refine lv_dup hx hb dX7_init_2094 rfl ?_
  refine lv_sipush (v := nI 228) hx hb dX7_init_2095 (by decide) ?_
  refine lv_ldc (v := (-44821)) hx hb hown (hts (.constant RX7 67 (-44821)) (by decide +kernel)) dX7_init_2098 ?_
  refine r_tst (i := 228) (h := fun j => sV 10 j) C hw (by decide) (by decide) (by decide +kernel) dX7_init_2100 (fun H locs hw => ?_)
  refine lv_dup hx hb dX7_init_2101 rfl ?_
  refine lv_sipush (v := nI 229) hx hb dX7_init_2102 (by decide) ?_
  refine lv_ldc (v := (-46617)) hx hb hown (hts (.constant RX7 68 (-46617)) (by decide +kernel)) dX7_init_2105 ?_
  refine r_tst (i := 229) (h := fun j => sV 10 j) C hw (by decide) (by decide) (by decide +kernel) dX7_init_2107 (fun H locs hw => ?_)
  refine lv_dup hx hb dX7_init_2108 rfl ?_
  refine lv_sipush (v := nI 230) hx hb dX7_init_2109 (by decide) ?_
  refine lv_ldc (v := (-48390)) hx hb hown (hts (.constant RX7 69 (-48390)) (by decide +kernel)) dX7_init_2112 ?_
  refine r_tst (i := 230) (h := fun j => sV 10 j) C hw (by decide) (by decide) (by decide +kernel) dX7_init_2114 (fun H locs hw => ?_)
  exact kk _ _ hw
end TB
