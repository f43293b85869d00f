/-! the law's walk: committed committedByLog rowsOf scan filter filterColumns ratio join -/
section
variable {Q : PE} {K : KT} {P : PT} {J I : IT} {c cs ns Lg : Nat} {i : Int} {xs : Int → Int}
theorem walk_committed (h : LI c Lg xs K P J I cs ns) (c6 : 6 * c ≤ i) (hi : (0 ≤ i ∧ i + 6 ≤ Lg) ∧ Lg ≤ 3072) (nx : ∀ K P J I cs ns, (cs ≤ 603072 ∧ ns ≤ 7207018) → LI (c + 1) Lg xs K P J I cs ns → VL Q K P J I cs ns 3229 (Lw i) []) : VL Q K P J I cs ns 1391 (Lw i) [] := by
  refine VE.aload_n (o := 1000) (pc' := 1392) d_Law_law_1391 rfl rfl ?_
  refine VL.arg (i := i) (pc' := 1398) d_Law_law_1392 d_Law_law_1393 d_Law_law_1395 d_Law_law_1396 d_Law_law_1397 rfl rfl rfl h.1 (by decide) hi ?_
  refine VL.arg (i := i) (pc' := 1404) d_Law_law_1398 d_Law_law_1399 d_Law_law_1401 d_Law_law_1402 d_Law_law_1403 rfl rfl rfl h.1 (by decide) hi ?_
  refine VL.arg (i := i) (pc' := 1410) d_Law_law_1404 d_Law_law_1405 d_Law_law_1407 d_Law_law_1408 d_Law_law_1409 rfl rfl rfl h.1 (by decide) hi ?_
  refine VE.aload_n (o := 50) (pc' := 1411) d_Law_law_1410 rfl rfl ?_
  obtain ⟨hc, Qc, sp, hq⟩ := case_committed (p1 := xs (i + 1)) (p2 := xs (i + 2)) (p3 := xs (i + 3)) h (by omega)
  refine VE.callSWE (k := 5) (pc' := 1414) d_Law_law_1411 rfl sp.lim rfl rfl cd_Law_committed kw_initialized_RowForgeLaw (by decide) (by decide) (by decide +kernel) rfl st_Law_committed lk_Law_213 rfl rfl rfl (by show cs + (603072 - cs) ≤ 603072; omega) (by show ns + (7207018 - ns) ≤ 7207018; omega) (fun k9 n9 r K1 P1 J1 I1 hz => ?_)
  obtain ⟨hk9, k0, n0, kk0, nn0, hz⟩ := hz
  have hk : k9 ≤ 603072 - cs ∧ n9 ≤ 7207018 - ns := hk9
  refine VE.wf (fun wf => ?_)
  obtain ⟨kc, er, hL1, Q2, sp2, hq2⟩ := hq r K1 P1 J1 I1 k0 n0 hz wf
  subst er
  refine VE.istore (pc' := 1416) d_Law_law_1414 rfl rfl ?_
  refine VE.pick [0, 1, 2, 3, 4, 5] ?_
  refine VE.aload_n (o := 100) (pc' := 1417) d_Law_law_1416 rfl rfl ?_
  refine VL.arg (i := i) (pc' := 1423) d_Law_law_1417 d_Law_law_1418 d_Law_law_1420 d_Law_law_1421 d_Law_law_1422 rfl rfl rfl hL1 (by decide) hi ?_
  refine VL.arg (i := i) (pc' := 1429) d_Law_law_1423 d_Law_law_1424 d_Law_law_1426 d_Law_law_1427 d_Law_law_1428 rfl rfl rfl hL1 (by decide) hi ?_
  refine VL.arg (i := i) (pc' := 1435) d_Law_law_1429 d_Law_law_1430 d_Law_law_1432 d_Law_law_1433 d_Law_law_1434 rfl rfl rfl hL1 (by decide) hi ?_
  refine VE.callV (ci := 11) (T := T11) (N := 94) (pc' := 1438) d_Law_law_1435 rfl sp2 rfl mv_Model_committed.1 mv_Model_committed.2.1 rfl mv_Model_committed.2.2.1 mv_Model_committed.2.2.2 lk_Law_215 rfl (hL1.1.1.k rfl) rfl rfl rfl (by show cs + k9 + 0 ≤ 603072; omega) (by show ns + n9 + 0 ≤ 7207018; omega) (fun r2 K2 P2 J2 I2 hz2 => ?_)
  obtain ⟨b, er2, -, -, h93, hb, hN⟩ := hq2 _ _ _ _ _ hz2
  injection er2 with er2
  subst er2
  exact law_tail d_Law_law_1438 d_Law_law_1440 d_Law_law_1441 d_Law_law_1444 d_Law_law_1446 d_Law_law_1451 d_Law_law_1453 d_Law_law_1456 d_Law_law_1457 d_Law_law_1458 d_Law_law_1459 d_Law_law_1461 d_Law_law_1462 d_Law_law_1463 d_Law_law_1468 (by decide) hN.1 h93 hb (by show cs + k9 ≤ 603072 ∧ ns + n9 ≤ 7207018; omega) (nx _ _ _ _ (cs + k9) (ns + n9) (by omega) (hN.mono (by omega) (by omega)))
theorem walk_committedByLog (h : LI c Lg xs K P J I cs ns) (c6 : 6 * c ≤ i) (hi : (0 ≤ i ∧ i + 6 ≤ Lg) ∧ Lg ≤ 3072) (nx : ∀ K P J I cs ns, (cs ≤ 603072 ∧ ns ≤ 7207018) → LI (c + 1) Lg xs K P J I cs ns → VL Q K P J I cs ns 3229 (Lw i) []) : VL Q K P J I cs ns 1471 (Lw i) [] := by
  refine VE.aload_n (o := 1000) (pc' := 1472) d_Law_law_1471 rfl rfl ?_
  refine VL.arg (i := i) (pc' := 1478) d_Law_law_1472 d_Law_law_1473 d_Law_law_1475 d_Law_law_1476 d_Law_law_1477 rfl rfl rfl h.1 (by decide) hi ?_
  refine VL.arg (i := i) (pc' := 1484) d_Law_law_1478 d_Law_law_1479 d_Law_law_1481 d_Law_law_1482 d_Law_law_1483 rfl rfl rfl h.1 (by decide) hi ?_
  refine VL.arg (i := i) (pc' := 1490) d_Law_law_1484 d_Law_law_1485 d_Law_law_1487 d_Law_law_1488 d_Law_law_1489 rfl rfl rfl h.1 (by decide) hi ?_
  refine VE.aload_n (o := 50) (pc' := 1491) d_Law_law_1490 rfl rfl ?_
  obtain ⟨hc, Qc, sp, hq⟩ := case_committedByLog (p1 := xs (i + 1)) (p2 := xs (i + 2)) (p3 := xs (i + 3)) h (by omega)
  refine VE.callSWE (k := 5) (pc' := 1494) d_Law_law_1491 rfl sp.lim rfl rfl cd_Law_committedByLog kw_initialized_RowForgeLaw (by decide) (by decide) (by decide +kernel) rfl st_Law_committedByLog lk_Law_216 rfl rfl rfl (by show cs + (603072 - cs) ≤ 603072; omega) (by show ns + (7207018 - ns) ≤ 7207018; omega) (fun k9 n9 r K1 P1 J1 I1 hz => ?_)
  obtain ⟨hk9, k0, n0, kk0, nn0, hz⟩ := hz
  have hk : k9 ≤ 603072 - cs ∧ n9 ≤ 7207018 - ns := hk9
  refine VE.wf (fun wf => ?_)
  obtain ⟨kc, er, hL1, Q2, sp2, hq2⟩ := hq r K1 P1 J1 I1 k0 n0 hz wf
  subst er
  refine VE.istore (pc' := 1496) d_Law_law_1494 rfl rfl ?_
  refine VE.pick [0, 1, 2, 3, 4, 5] ?_
  refine VE.aload_n (o := 100) (pc' := 1497) d_Law_law_1496 rfl rfl ?_
  refine VL.arg (i := i) (pc' := 1503) d_Law_law_1497 d_Law_law_1498 d_Law_law_1500 d_Law_law_1501 d_Law_law_1502 rfl rfl rfl hL1 (by decide) hi ?_
  refine VL.arg (i := i) (pc' := 1509) d_Law_law_1503 d_Law_law_1504 d_Law_law_1506 d_Law_law_1507 d_Law_law_1508 rfl rfl rfl hL1 (by decide) hi ?_
  refine VL.arg (i := i) (pc' := 1515) d_Law_law_1509 d_Law_law_1510 d_Law_law_1512 d_Law_law_1513 d_Law_law_1514 rfl rfl rfl hL1 (by decide) hi ?_
  refine VE.callV (ci := 11) (T := T11) (N := 94) (pc' := 1518) d_Law_law_1515 rfl sp2 rfl mv_Model_committedByLog.1 mv_Model_committedByLog.2.1 rfl mv_Model_committedByLog.2.2.1 mv_Model_committedByLog.2.2.2 lk_Law_218 rfl (hL1.1.1.k rfl) rfl rfl rfl (by show cs + k9 + 0 ≤ 603072; omega) (by show ns + n9 + 0 ≤ 7207018; omega) (fun r2 K2 P2 J2 I2 hz2 => ?_)
  obtain ⟨b, er2, -, -, h93, hb, hN⟩ := hq2 _ _ _ _ _ hz2
  injection er2 with er2
  subst er2
  exact law_tail d_Law_law_1518 d_Law_law_1520 d_Law_law_1521 d_Law_law_1524 d_Law_law_1526 d_Law_law_1531 d_Law_law_1533 d_Law_law_1536 d_Law_law_1537 d_Law_law_1538 d_Law_law_1539 d_Law_law_1541 d_Law_law_1542 d_Law_law_1543 d_Law_law_1548 (by decide) hN.1 h93 hb (by show cs + k9 ≤ 603072 ∧ ns + n9 ≤ 7207018; omega) (nx _ _ _ _ (cs + k9) (ns + n9) (by omega) (hN.mono (by omega) (by omega)))
theorem walk_rowsOf (h : LI c Lg xs K P J I cs ns) (c6 : 6 * c ≤ i) (hi : (0 ≤ i ∧ i + 6 ≤ Lg) ∧ Lg ≤ 3072) (nx : ∀ K P J I cs ns, (cs ≤ 603072 ∧ ns ≤ 7207018) → LI (c + 1) Lg xs K P J I cs ns → VL Q K P J I cs ns 3229 (Lw i) []) : VL Q K P J I cs ns 1551 (Lw i) [] := by
  refine VE.aload_n (o := 1000) (pc' := 1552) d_Law_law_1551 rfl rfl ?_
  refine VL.arg (i := i) (pc' := 1558) d_Law_law_1552 d_Law_law_1553 d_Law_law_1555 d_Law_law_1556 d_Law_law_1557 rfl rfl rfl h.1 (by decide) hi ?_
  refine VE.aload_n (o := 50) (pc' := 1559) d_Law_law_1558 rfl rfl ?_
  obtain ⟨hc, Qc, sp, hq⟩ := case_rowsOf (p1 := xs (i + 1)) h (by omega)
  refine VE.callSWE (k := 3) (pc' := 1562) d_Law_law_1559 rfl sp.lim rfl rfl cd_Law_rowsOf kw_initialized_RowForgeLaw (by decide) (by decide) (by decide +kernel) rfl st_Law_rowsOf lk_Law_219 rfl rfl rfl (by show cs + (603072 - cs) ≤ 603072; omega) (by show ns + (7207018 - ns) ≤ 7207018; omega) (fun k9 n9 r K1 P1 J1 I1 hz => ?_)
  obtain ⟨hk9, k0, n0, kk0, nn0, hz⟩ := hz
  have hk : k9 ≤ 603072 - cs ∧ n9 ≤ 7207018 - ns := hk9
  refine VE.wf (fun wf => ?_)
  obtain ⟨kc, er, hL1, Q2, sp2, hq2⟩ := hq r K1 P1 J1 I1 k0 n0 hz wf
  subst er
  refine VE.istore (pc' := 1564) d_Law_law_1562 rfl rfl ?_
  refine VE.pick [0, 1, 2, 3, 4, 5] ?_
  refine VE.aload_n (o := 100) (pc' := 1565) d_Law_law_1564 rfl rfl ?_
  refine VL.arg (i := i) (pc' := 1571) d_Law_law_1565 d_Law_law_1566 d_Law_law_1568 d_Law_law_1569 d_Law_law_1570 rfl rfl rfl hL1 (by decide) hi ?_
  refine VE.callV (ci := 11) (T := T11) (N := 94) (pc' := 1574) d_Law_law_1571 rfl sp2 rfl mv_Model_rowsOf.1 mv_Model_rowsOf.2.1 rfl mv_Model_rowsOf.2.2.1 mv_Model_rowsOf.2.2.2 lk_Law_221 rfl (hL1.1.1.k rfl) rfl rfl rfl (by show cs + k9 + 0 ≤ 603072; omega) (by show ns + n9 + 0 ≤ 7207018; omega) (fun r2 K2 P2 J2 I2 hz2 => ?_)
  obtain ⟨b, er2, -, -, h93, hb, hN⟩ := hq2 _ _ _ _ _ hz2
  injection er2 with er2
  subst er2
  exact law_tail d_Law_law_1574 d_Law_law_1576 d_Law_law_1577 d_Law_law_1580 d_Law_law_1582 d_Law_law_1587 d_Law_law_1589 d_Law_law_1592 d_Law_law_1593 d_Law_law_1594 d_Law_law_1595 d_Law_law_1597 d_Law_law_1598 d_Law_law_1599 d_Law_law_1604 (by decide) hN.1 h93 hb (by show cs + k9 ≤ 603072 ∧ ns + n9 ≤ 7207018; omega) (nx _ _ _ _ (cs + k9) (ns + n9) (by omega) (hN.mono (by omega) (by omega)))
theorem walk_scan (h : LI c Lg xs K P J I cs ns) (c6 : 6 * c ≤ i) (hi : (0 ≤ i ∧ i + 6 ≤ Lg) ∧ Lg ≤ 3072) (nx : ∀ K P J I cs ns, (cs ≤ 603072 ∧ ns ≤ 7207018) → LI (c + 1) Lg xs K P J I cs ns → VL Q K P J I cs ns 3229 (Lw i) []) : VL Q K P J I cs ns 1607 (Lw i) [] := by
  refine VE.aload_n (o := 1000) (pc' := 1608) d_Law_law_1607 rfl rfl ?_
  refine VL.arg (i := i) (pc' := 1614) d_Law_law_1608 d_Law_law_1609 d_Law_law_1611 d_Law_law_1612 d_Law_law_1613 rfl rfl rfl h.1 (by decide) hi ?_
  refine VE.aload_n (o := 50) (pc' := 1615) d_Law_law_1614 rfl rfl ?_
  obtain ⟨hc, Qc, sp, hq⟩ := case_scan (p1 := xs (i + 1)) h (by omega)
  refine VE.callSWE (k := 3) (pc' := 1618) d_Law_law_1615 rfl sp.lim rfl rfl cd_Law_scan kw_initialized_RowForgeLaw (by decide) (by decide) (by decide +kernel) rfl st_Law_scan lk_Law_222 rfl rfl rfl (by show cs + (603072 - cs) ≤ 603072; omega) (by show ns + (7207018 - ns) ≤ 7207018; omega) (fun k9 n9 r K1 P1 J1 I1 hz => ?_)
  obtain ⟨hk9, k0, n0, kk0, nn0, hz⟩ := hz
  have hk : k9 ≤ 603072 - cs ∧ n9 ≤ 7207018 - ns := hk9
  refine VE.wf (fun wf => ?_)
  obtain ⟨kc, er, hL1, Q2, sp2, hq2⟩ := hq r K1 P1 J1 I1 k0 n0 hz wf
  subst er
  refine VE.istore (pc' := 1620) d_Law_law_1618 rfl rfl ?_
  refine VE.pick [0, 1, 2, 3, 4, 5] ?_
  refine VE.aload_n (o := 100) (pc' := 1621) d_Law_law_1620 rfl rfl ?_
  refine VL.arg (i := i) (pc' := 1627) d_Law_law_1621 d_Law_law_1622 d_Law_law_1624 d_Law_law_1625 d_Law_law_1626 rfl rfl rfl hL1 (by decide) hi ?_
  refine VE.callV (ci := 11) (T := T11) (N := 94) (pc' := 1630) d_Law_law_1627 rfl sp2 rfl mv_Model_scan.1 mv_Model_scan.2.1 rfl mv_Model_scan.2.2.1 mv_Model_scan.2.2.2 lk_Law_224 rfl (hL1.1.1.k rfl) rfl rfl rfl (by show cs + k9 + 0 ≤ 603072; omega) (by show ns + n9 + 0 ≤ 7207018; omega) (fun r2 K2 P2 J2 I2 hz2 => ?_)
  obtain ⟨b, er2, -, -, h93, hb, hN⟩ := hq2 _ _ _ _ _ hz2
  injection er2 with er2
  subst er2
  exact law_tail d_Law_law_1630 d_Law_law_1632 d_Law_law_1633 d_Law_law_1636 d_Law_law_1638 d_Law_law_1643 d_Law_law_1645 d_Law_law_1648 d_Law_law_1649 d_Law_law_1650 d_Law_law_1651 d_Law_law_1653 d_Law_law_1654 d_Law_law_1655 d_Law_law_1660 (by decide) hN.1 h93 hb (by show cs + k9 ≤ 603072 ∧ ns + n9 ≤ 7207018; omega) (nx _ _ _ _ (cs + k9) (ns + n9) (by omega) (hN.mono (by omega) (by omega)))
theorem walk_filter (h : LI c Lg xs K P J I cs ns) (c6 : 6 * c ≤ i) (hi : (0 ≤ i ∧ i + 6 ≤ Lg) ∧ Lg ≤ 3072) (nx : ∀ K P J I cs ns, (cs ≤ 603072 ∧ ns ≤ 7207018) → LI (c + 1) Lg xs K P J I cs ns → VL Q K P J I cs ns 3229 (Lw i) []) : VL Q K P J I cs ns 1663 (Lw i) [] := by
  refine VE.aload_n (o := 1000) (pc' := 1664) d_Law_law_1663 rfl rfl ?_
  refine VL.arg (i := i) (pc' := 1670) d_Law_law_1664 d_Law_law_1665 d_Law_law_1667 d_Law_law_1668 d_Law_law_1669 rfl rfl rfl h.1 (by decide) hi ?_
  refine VL.arg (i := i) (pc' := 1676) d_Law_law_1670 d_Law_law_1671 d_Law_law_1673 d_Law_law_1674 d_Law_law_1675 rfl rfl rfl h.1 (by decide) hi ?_
  refine VL.arg (i := i) (pc' := 1682) d_Law_law_1676 d_Law_law_1677 d_Law_law_1679 d_Law_law_1680 d_Law_law_1681 rfl rfl rfl h.1 (by decide) hi ?_
  refine VL.arg (i := i) (pc' := 1688) d_Law_law_1682 d_Law_law_1683 d_Law_law_1685 d_Law_law_1686 d_Law_law_1687 rfl rfl rfl h.1 (by decide) hi ?_
  refine VL.barg (pc' := 1696) d_Law_law_1688 d_Law_law_1691 d_Law_law_1692 d_Law_law_1695 rfl ?_
  refine VE.aload_n (o := 50) (pc' := 1697) d_Law_law_1696 rfl rfl ?_
  obtain ⟨hc, Qc, sp, hq⟩ := case_filter (p1 := xs (i + 1)) (p2 := xs (i + 2)) (p3 := xs (i + 3)) (p4 := bz (xs (i + 4))) h (by omega) bz_01
  refine VE.callSWE (k := 6) (pc' := 1700) d_Law_law_1697 rfl sp.lim rfl rfl cd_Law_filter kw_initialized_RowForgeLaw (by decide) (by decide) (by decide +kernel) rfl st_Law_filter lk_Law_225 rfl rfl rfl (by show cs + (603072 - cs) ≤ 603072; omega) (by show ns + (7207018 - ns) ≤ 7207018; omega) (fun k9 n9 r K1 P1 J1 I1 hz => ?_)
  obtain ⟨hk9, k0, n0, kk0, nn0, hz⟩ := hz
  have hk : k9 ≤ 603072 - cs ∧ n9 ≤ 7207018 - ns := hk9
  refine VE.wf (fun wf => ?_)
  obtain ⟨kc, er, hL1, Q2, sp2, hq2⟩ := hq r K1 P1 J1 I1 k0 n0 hz wf
  subst er
  refine VE.istore (pc' := 1702) d_Law_law_1700 rfl rfl ?_
  refine VE.pick [0, 1, 2, 3, 4, 5] ?_
  refine VE.aload_n (o := 100) (pc' := 1703) d_Law_law_1702 rfl rfl ?_
  refine VL.arg (i := i) (pc' := 1709) d_Law_law_1703 d_Law_law_1704 d_Law_law_1706 d_Law_law_1707 d_Law_law_1708 rfl rfl rfl hL1 (by decide) hi ?_
  refine VL.arg (i := i) (pc' := 1715) d_Law_law_1709 d_Law_law_1710 d_Law_law_1712 d_Law_law_1713 d_Law_law_1714 rfl rfl rfl hL1 (by decide) hi ?_
  refine VL.arg (i := i) (pc' := 1721) d_Law_law_1715 d_Law_law_1716 d_Law_law_1718 d_Law_law_1719 d_Law_law_1720 rfl rfl rfl hL1 (by decide) hi ?_
  refine VL.arg (i := i) (pc' := 1727) d_Law_law_1721 d_Law_law_1722 d_Law_law_1724 d_Law_law_1725 d_Law_law_1726 rfl rfl rfl hL1 (by decide) hi ?_
  refine VL.barg (pc' := 1735) d_Law_law_1727 d_Law_law_1730 d_Law_law_1731 d_Law_law_1734 rfl ?_
  refine VE.callV (ci := 11) (T := T11) (N := 94) (pc' := 1738) d_Law_law_1735 rfl sp2 rfl mv_Model_filter.1 mv_Model_filter.2.1 rfl mv_Model_filter.2.2.1 mv_Model_filter.2.2.2 lk_Law_228 rfl (hL1.1.1.k rfl) rfl rfl rfl (by show cs + k9 + 0 ≤ 603072; omega) (by show ns + n9 + 0 ≤ 7207018; omega) (fun r2 K2 P2 J2 I2 hz2 => ?_)
  obtain ⟨b, er2, -, -, h93, hb, hN⟩ := hq2 _ _ _ _ _ hz2
  injection er2 with er2
  subst er2
  exact law_tail d_Law_law_1738 d_Law_law_1740 d_Law_law_1741 d_Law_law_1744 d_Law_law_1746 d_Law_law_1751 d_Law_law_1753 d_Law_law_1756 d_Law_law_1757 d_Law_law_1758 d_Law_law_1759 d_Law_law_1761 d_Law_law_1762 d_Law_law_1763 d_Law_law_1768 (by decide) hN.1 h93 hb (by show cs + k9 ≤ 603072 ∧ ns + n9 ≤ 7207018; omega) (nx _ _ _ _ (cs + k9) (ns + n9) (by omega) (hN.mono (by omega) (by omega)))
theorem walk_filterColumns (h : LI c Lg xs K P J I cs ns) (c6 : 6 * c ≤ i) (hi : (0 ≤ i ∧ i + 6 ≤ Lg) ∧ Lg ≤ 3072) (nx : ∀ K P J I cs ns, (cs ≤ 603072 ∧ ns ≤ 7207018) → LI (c + 1) Lg xs K P J I cs ns → VL Q K P J I cs ns 3229 (Lw i) []) : VL Q K P J I cs ns 1771 (Lw i) [] := by
  refine VE.aload_n (o := 1000) (pc' := 1772) d_Law_law_1771 rfl rfl ?_
  refine VL.arg (i := i) (pc' := 1778) d_Law_law_1772 d_Law_law_1773 d_Law_law_1775 d_Law_law_1776 d_Law_law_1777 rfl rfl rfl h.1 (by decide) hi ?_
  refine VL.arg (i := i) (pc' := 1784) d_Law_law_1778 d_Law_law_1779 d_Law_law_1781 d_Law_law_1782 d_Law_law_1783 rfl rfl rfl h.1 (by decide) hi ?_
  refine VL.arg (i := i) (pc' := 1790) d_Law_law_1784 d_Law_law_1785 d_Law_law_1787 d_Law_law_1788 d_Law_law_1789 rfl rfl rfl h.1 (by decide) hi ?_
  refine VL.arg (i := i) (pc' := 1796) d_Law_law_1790 d_Law_law_1791 d_Law_law_1793 d_Law_law_1794 d_Law_law_1795 rfl rfl rfl h.1 (by decide) hi ?_
  refine VL.barg (pc' := 1804) d_Law_law_1796 d_Law_law_1799 d_Law_law_1800 d_Law_law_1803 rfl ?_
  refine VE.aload_n (o := 50) (pc' := 1805) d_Law_law_1804 rfl rfl ?_
  obtain ⟨hc, Qc, sp, hq⟩ := case_filterColumns (p1 := xs (i + 1)) (p2 := xs (i + 2)) (p3 := xs (i + 3)) (p4 := bz (xs (i + 4))) h (by omega) bz_01
  refine VE.callSWE (k := 6) (pc' := 1808) d_Law_law_1805 rfl sp.lim rfl rfl cd_Law_filterColumns kw_initialized_RowForgeLaw (by decide) (by decide) (by decide +kernel) rfl st_Law_filterColumns lk_Law_229 rfl rfl rfl (by show cs + (603072 - cs) ≤ 603072; omega) (by show ns + (7207018 - ns) ≤ 7207018; omega) (fun k9 n9 r K1 P1 J1 I1 hz => ?_)
  obtain ⟨hk9, k0, n0, kk0, nn0, hz⟩ := hz
  have hk : k9 ≤ 603072 - cs ∧ n9 ≤ 7207018 - ns := hk9
  refine VE.wf (fun wf => ?_)
  obtain ⟨kc, er, hL1, Q2, sp2, hq2⟩ := hq r K1 P1 J1 I1 k0 n0 hz wf
  subst er
  refine VE.istore (pc' := 1810) d_Law_law_1808 rfl rfl ?_
  refine VE.pick [0, 1, 2, 3, 4, 5] ?_
  refine VE.aload_n (o := 100) (pc' := 1811) d_Law_law_1810 rfl rfl ?_
  refine VL.arg (i := i) (pc' := 1817) d_Law_law_1811 d_Law_law_1812 d_Law_law_1814 d_Law_law_1815 d_Law_law_1816 rfl rfl rfl hL1 (by decide) hi ?_
  refine VL.arg (i := i) (pc' := 1823) d_Law_law_1817 d_Law_law_1818 d_Law_law_1820 d_Law_law_1821 d_Law_law_1822 rfl rfl rfl hL1 (by decide) hi ?_
  refine VL.arg (i := i) (pc' := 1829) d_Law_law_1823 d_Law_law_1824 d_Law_law_1826 d_Law_law_1827 d_Law_law_1828 rfl rfl rfl hL1 (by decide) hi ?_
  refine VL.arg (i := i) (pc' := 1835) d_Law_law_1829 d_Law_law_1830 d_Law_law_1832 d_Law_law_1833 d_Law_law_1834 rfl rfl rfl hL1 (by decide) hi ?_
  refine VL.barg (pc' := 1843) d_Law_law_1835 d_Law_law_1838 d_Law_law_1839 d_Law_law_1842 rfl ?_
  refine VE.callV (ci := 11) (T := T11) (N := 94) (pc' := 1846) d_Law_law_1843 rfl sp2 rfl mv_Model_filterColumns.1 mv_Model_filterColumns.2.1 rfl mv_Model_filterColumns.2.2.1 mv_Model_filterColumns.2.2.2 lk_Law_231 rfl (hL1.1.1.k rfl) rfl rfl rfl (by show cs + k9 + 0 ≤ 603072; omega) (by show ns + n9 + 0 ≤ 7207018; omega) (fun r2 K2 P2 J2 I2 hz2 => ?_)
  obtain ⟨b, er2, -, -, h93, hb, hN⟩ := hq2 _ _ _ _ _ hz2
  injection er2 with er2
  subst er2
  exact law_tail d_Law_law_1846 d_Law_law_1848 d_Law_law_1849 d_Law_law_1852 d_Law_law_1854 d_Law_law_1859 d_Law_law_1861 d_Law_law_1864 d_Law_law_1865 d_Law_law_1866 d_Law_law_1867 d_Law_law_1869 d_Law_law_1870 d_Law_law_1871 d_Law_law_1876 (by decide) hN.1 h93 hb (by show cs + k9 ≤ 603072 ∧ ns + n9 ≤ 7207018; omega) (nx _ _ _ _ (cs + k9) (ns + n9) (by omega) (hN.mono (by omega) (by omega)))
theorem walk_ratio (h : LI c Lg xs K P J I cs ns) (c6 : 6 * c ≤ i) (hi : (0 ≤ i ∧ i + 6 ≤ Lg) ∧ Lg ≤ 3072) (nx : ∀ K P J I cs ns, (cs ≤ 603072 ∧ ns ≤ 7207018) → LI (c + 1) Lg xs K P J I cs ns → VL Q K P J I cs ns 3229 (Lw i) []) : VL Q K P J I cs ns 1879 (Lw i) [] := by
  refine VE.aload_n (o := 1000) (pc' := 1880) d_Law_law_1879 rfl rfl ?_
  refine VL.arg (i := i) (pc' := 1886) d_Law_law_1880 d_Law_law_1881 d_Law_law_1883 d_Law_law_1884 d_Law_law_1885 rfl rfl rfl h.1 (by decide) hi ?_
  refine VL.arg (i := i) (pc' := 1892) d_Law_law_1886 d_Law_law_1887 d_Law_law_1889 d_Law_law_1890 d_Law_law_1891 rfl rfl rfl h.1 (by decide) hi ?_
  refine VL.arg (i := i) (pc' := 1898) d_Law_law_1892 d_Law_law_1893 d_Law_law_1895 d_Law_law_1896 d_Law_law_1897 rfl rfl rfl h.1 (by decide) hi ?_
  refine VE.aload_n (o := 50) (pc' := 1899) d_Law_law_1898 rfl rfl ?_
  obtain ⟨hc, Qc, sp, hq⟩ := case_ratio (p1 := xs (i + 1)) (p2 := xs (i + 2)) (p3 := xs (i + 3)) h (by omega)
  refine VE.callSWE (k := 5) (pc' := 1902) d_Law_law_1899 rfl sp.lim rfl rfl cd_Law_ratio kw_initialized_RowForgeLaw (by decide) (by decide) (by decide +kernel) rfl st_Law_ratio lk_Law_232 rfl rfl rfl (by show cs + (603072 - cs) ≤ 603072; omega) (by show ns + (7207018 - ns) ≤ 7207018; omega) (fun k9 n9 r K1 P1 J1 I1 hz => ?_)
  obtain ⟨hk9, k0, n0, kk0, nn0, hz⟩ := hz
  have hk : k9 ≤ 603072 - cs ∧ n9 ≤ 7207018 - ns := hk9
  refine VE.wf (fun wf => ?_)
  obtain ⟨kc, er, hL1, Q2, sp2, hq2⟩ := hq r K1 P1 J1 I1 k0 n0 hz wf
  subst er
  refine VE.istore (pc' := 1904) d_Law_law_1902 rfl rfl ?_
  refine VE.pick [0, 1, 2, 3, 4, 5] ?_
  refine VE.aload_n (o := 100) (pc' := 1905) d_Law_law_1904 rfl rfl ?_
  refine VL.arg (i := i) (pc' := 1911) d_Law_law_1905 d_Law_law_1906 d_Law_law_1908 d_Law_law_1909 d_Law_law_1910 rfl rfl rfl hL1 (by decide) hi ?_
  refine VL.arg (i := i) (pc' := 1917) d_Law_law_1911 d_Law_law_1912 d_Law_law_1914 d_Law_law_1915 d_Law_law_1916 rfl rfl rfl hL1 (by decide) hi ?_
  refine VL.arg (i := i) (pc' := 1923) d_Law_law_1917 d_Law_law_1918 d_Law_law_1920 d_Law_law_1921 d_Law_law_1922 rfl rfl rfl hL1 (by decide) hi ?_
  refine VE.callV (ci := 11) (T := T11) (N := 94) (pc' := 1926) d_Law_law_1923 rfl sp2 rfl mv_Model_ratio.1 mv_Model_ratio.2.1 rfl mv_Model_ratio.2.2.1 mv_Model_ratio.2.2.2 lk_Law_234 rfl (hL1.1.1.k rfl) rfl rfl rfl (by show cs + k9 + 0 ≤ 603072; omega) (by show ns + n9 + 0 ≤ 7207018; omega) (fun r2 K2 P2 J2 I2 hz2 => ?_)
  obtain ⟨b, er2, -, -, h93, hb, hN⟩ := hq2 _ _ _ _ _ hz2
  injection er2 with er2
  subst er2
  exact law_tail d_Law_law_1926 d_Law_law_1928 d_Law_law_1929 d_Law_law_1932 d_Law_law_1934 d_Law_law_1939 d_Law_law_1941 d_Law_law_1944 d_Law_law_1945 d_Law_law_1946 d_Law_law_1947 d_Law_law_1949 d_Law_law_1950 d_Law_law_1951 d_Law_law_1956 (by decide) hN.1 h93 hb (by show cs + k9 ≤ 603072 ∧ ns + n9 ≤ 7207018; omega) (nx _ _ _ _ (cs + k9) (ns + n9) (by omega) (hN.mono (by omega) (by omega)))
theorem walk_join (h : LI c Lg xs K P J I cs ns) (c6 : 6 * c ≤ i) (hi : (0 ≤ i ∧ i + 6 ≤ Lg) ∧ Lg ≤ 3072) (nx : ∀ K P J I cs ns, (cs ≤ 603072 ∧ ns ≤ 7207018) → LI (c + 1) Lg xs K P J I cs ns → VL Q K P J I cs ns 3229 (Lw i) []) : VL Q K P J I cs ns 1959 (Lw i) [] := by
  refine VE.aload_n (o := 1000) (pc' := 1960) d_Law_law_1959 rfl rfl ?_
  refine VL.arg (i := i) (pc' := 1966) d_Law_law_1960 d_Law_law_1961 d_Law_law_1963 d_Law_law_1964 d_Law_law_1965 rfl rfl rfl h.1 (by decide) hi ?_
  refine VL.arg (i := i) (pc' := 1972) d_Law_law_1966 d_Law_law_1967 d_Law_law_1969 d_Law_law_1970 d_Law_law_1971 rfl rfl rfl h.1 (by decide) hi ?_
  refine VL.arg (i := i) (pc' := 1978) d_Law_law_1972 d_Law_law_1973 d_Law_law_1975 d_Law_law_1976 d_Law_law_1977 rfl rfl rfl h.1 (by decide) hi ?_
  refine VE.aload_n (o := 50) (pc' := 1979) d_Law_law_1978 rfl rfl ?_
  obtain ⟨hc, Qc, sp, hq⟩ := case_join (p1 := xs (i + 1)) (p2 := xs (i + 2)) (p3 := xs (i + 3)) h (by omega)
  refine VE.callSWE (k := 5) (pc' := 1982) d_Law_law_1979 rfl sp.lim rfl rfl cd_Law_join kw_initialized_RowForgeLaw (by decide) (by decide) (by decide +kernel) rfl st_Law_join lk_Law_235 rfl rfl rfl (by show cs + (603072 - cs) ≤ 603072; omega) (by show ns + (7207018 - ns) ≤ 7207018; omega) (fun k9 n9 r K1 P1 J1 I1 hz => ?_)
  obtain ⟨hk9, k0, n0, kk0, nn0, hz⟩ := hz
  have hk : k9 ≤ 603072 - cs ∧ n9 ≤ 7207018 - ns := hk9
  refine VE.wf (fun wf => ?_)
  obtain ⟨kc, er, hL1, Q2, sp2, hq2⟩ := hq r K1 P1 J1 I1 k0 n0 hz wf
  subst er
  refine VE.istore (pc' := 1984) d_Law_law_1982 rfl rfl ?_
  refine VE.pick [0, 1, 2, 3, 4, 5] ?_
  refine VE.aload_n (o := 100) (pc' := 1985) d_Law_law_1984 rfl rfl ?_
  refine VL.arg (i := i) (pc' := 1991) d_Law_law_1985 d_Law_law_1986 d_Law_law_1988 d_Law_law_1989 d_Law_law_1990 rfl rfl rfl hL1 (by decide) hi ?_
  refine VL.arg (i := i) (pc' := 1997) d_Law_law_1991 d_Law_law_1992 d_Law_law_1994 d_Law_law_1995 d_Law_law_1996 rfl rfl rfl hL1 (by decide) hi ?_
  refine VL.arg (i := i) (pc' := 2003) d_Law_law_1997 d_Law_law_1998 d_Law_law_2000 d_Law_law_2001 d_Law_law_2002 rfl rfl rfl hL1 (by decide) hi ?_
  refine VE.callV (ci := 11) (T := T11) (N := 94) (pc' := 2006) d_Law_law_2003 rfl sp2 rfl mv_Model_join.1 mv_Model_join.2.1 rfl mv_Model_join.2.2.1 mv_Model_join.2.2.2 lk_Law_237 rfl (hL1.1.1.k rfl) rfl rfl rfl (by show cs + k9 + 0 ≤ 603072; omega) (by show ns + n9 + 0 ≤ 7207018; omega) (fun r2 K2 P2 J2 I2 hz2 => ?_)
  obtain ⟨b, er2, -, -, h93, hb, hN⟩ := hq2 _ _ _ _ _ hz2
  injection er2 with er2
  subst er2
  exact law_tail d_Law_law_2006 d_Law_law_2008 d_Law_law_2009 d_Law_law_2012 d_Law_law_2014 d_Law_law_2019 d_Law_law_2021 d_Law_law_2024 d_Law_law_2025 d_Law_law_2026 d_Law_law_2027 d_Law_law_2029 d_Law_law_2030 d_Law_law_2031 d_Law_law_2036 (by decide) hN.1 h93 hb (by show cs + k9 ≤ 603072 ∧ ns + n9 ≤ 7207018; omega) (nx _ _ _ _ (cs + k9) (ns + n9) (by omega) (hN.mono (by omega) (by omega)))
end
