/-! TOTAL: written by vcg.py -/
set_option maxRecDepth 4000 in
set_option maxHeartbeats 8000000 in
theorem s_MO_each_47 {n : Nat} {L : Int32} (hn : 8589934592 ≤ n) {x1 : Int64} {x3 : Int64} {x5 : Int32} {x6 : Int32} {s0 : Int32} {t : mz_St}  (ci : HI L t) (i0 : ((mz_gI t 0 34).toInt = 1 ∧ (mz_gI t 0 48).toInt ≤ 3010 ∨ 2 ≤ (mz_gI t 0 34).toInt ∧ (mz_gI t 0 48).toInt ≤ 2700 + 310 * (mz_gI t 0 34).toInt)) (i1 : ((mz_gI t 0 34).toInt = 1 ∧ (mz_gI t 0 51).toInt ≤ 6010 ∨ 2 ≤ (mz_gI t 0 34).toInt ∧ (mz_gI t 0 51).toInt ≤ 2700 + 3310 * (mz_gI t 0 34).toInt)) (i2 : 1 ≤ (mz_gI t 0 34).toInt) (i3 : 0 ≤ s0.toInt) (i4 : s0.toInt ≤ 3100) (i5 : 0 ≤ x5.toInt) (i6 : 0 ≤ x6.toInt) (i7 : (((mz_gI t 0 34).toInt ≤ 1 ∧ x5.toInt ≤ 0) ∨ (2 ≤ (mz_gI t 0 34).toInt ∧ x5.toInt ≤ 2390 + 310 * (mz_gI t 0 34).toInt))) (i8 : (((mz_gI t 0 34).toInt ≤ 1 ∧ x6.toInt ≤ 0) ∨ (2 ≤ (mz_gI t 0 34).toInt ∧ x6.toInt ≤ 3310 * (mz_gI t 0 34).toInt - 610))) : Tp (f_MO_each_47 n x1 x3 x5 x6 s0 t) (fun r => HI L r ∧ (0 < (mz_gI r 0 6).toInt ∨ (((mz_gI r 0 34).toInt ≤ 1 ∧ (mz_gI r 0 48).toInt ≤ 0) ∨ (2 ≤ (mz_gI r 0 34).toInt ∧ (mz_gI r 0 48).toInt ≤ 2390 + 310 * (mz_gI r 0 34).toInt))) ∧ (0 < (mz_gI r 0 6).toInt ∨ (((mz_gI r 0 34).toInt ≤ 1 ∧ (mz_gI r 0 51).toInt ≤ 0) ∨ (2 ≤ (mz_gI r 0 34).toInt ∧ (mz_gI r 0 51).toInt ≤ 3310 * (mz_gI r 0 34).toInt - 610))) ∧ (0 < (mz_gI r 0 6).toInt ∨ (mz_gI t 0 8).toInt ≤ (mz_gI r 0 8).toInt)) := by
  unfold f_MO_each_47
  have b1440 := FX_0_34 (HI_FX ci)
  have b1441 := FX_0_48 (HI_FX ci)
  have b1442 := FX_0_51 (HI_FX ci)
  have b1443 := FX_0_8 (HI_FX ci)
  refine Tp_if (fun h1444 => ?_) (fun h1444 => ?_)
  · have g1445 := ti_q h1444
    have b1446 := HI_g2 ci (c := 0) (p := 62) rfl
    have l1447 : (0 : Int32).toInt = 0 := rfl
    have l1450 : ((1 : Int32)).toInt = 1 := rfl
    have i1451 := ti_rg (mz_gI t 0 63)
    refine Tp_bi (s_MO_failL hn ci (by omega) (t := t) (x1 := (1 : Int32)) (x2 := mz_gI t 0 63)) (fun q1448 h1449 => ?_)
    obtain ⟨ci1452, E1453, p1454, p1455⟩ := h1449
    have b1456 := HI_g29 ci1452 (c := 0) (p := 6) rfl
    have b1457 := FX_0_8 (HI_FX ci1452)
    have b1458 := HI_g29 ci (c := 0) (p := 6) rfl
    have b1459 := HI_g23 ci1452 (c := 0) (p := 60) rfl
    have e1460 : (mz_gI q1448 0 60).toInt = (mz_gI t 0 60).toInt := by rw [E1453 _ _ (by simp)]
    have b1461 := HI_g23 ci (c := 0) (p := 60) rfl
    refine Tp_so ?_
    have b1462 := FX_0_34 (HI_FX ci1452)
    have e1463 : (mz_gI q1448 0 34).toInt = (mz_gI t 0 34).toInt := by rw [E1453 _ _ (by simp)]
    have b1464 := FX_0_48 (HI_FX ci1452)
    have e1465 : (mz_gI q1448 0 48).toInt = (mz_gI t 0 48).toInt := by rw [E1453 _ _ (by simp)]
    have b1466 := FX_0_51 (HI_FX ci1452)
    have e1467 : (mz_gI q1448 0 51).toInt = (mz_gI t 0 51).toInt := by rw [E1453 _ _ (by simp)]
    refine ⟨ci1452, ?_, ?_, ?_⟩
    · (try dsimp only) <;> first | omega | assumption
    · (try dsimp only) <;> first | omega | assumption
    · (try dsimp only) <;> first | omega | assumption
  · have g1468 := ti_nq h1444
    have b1469 := HI_g2 ci (c := 0) (p := 62) rfl
    have l1470 : (0 : Int32).toInt = 0 := rfl
    have l1471 : ((1 : Int32)).toInt = 1 := rfl
    first | (have a1472 : ((mz_gI t 0 34) - (1 : Int32)).toInt = (mz_gI t 0 34).toInt - ((1 : Int32)).toInt := ti_sub (by omega) (by omega)) | (have a1473 := ti_rg ((mz_gI t 0 34) - (1 : Int32)))
    refine Tp_gd (ti_ix (by omega) (by omega)) ?_
    refine Tp_bi (s_MO_bracketEnd hn ci (by omega) (by omega) (t := t) (x1 := (mz_gI t 0 34) - (1 : Int32))) (fun q1474 h1475 => ?_)
    obtain ⟨ci1476, E1477, p1478⟩ := h1475
    have b1479 := FX_25 (HI_FX ci) ((mz_gI t 0 34) - (1 : Int32)).toNatClampNeg
    have z1480 := HI_at ci ((mz_gI t 0 34) - (1 : Int32)).toNatClampNeg
    have b1481 := FX_24 (HI_FX ci) ((mz_gI t 0 34) - (1 : Int32)).toNatClampNeg
    have z1482 := HI_at ci ((mz_gI t 0 34) - (1 : Int32)).toNatClampNeg
    have b1483 := HI_g29 ci1476 (c := 0) (p := 6) rfl
    have b1484 := FX_0_8 (HI_FX ci1476)
    refine Tp_if (fun h1485 => ?_) (fun h1485 => ?_)
    · have g1486 := ti_e h1485
      have i1487 := ti_rg q1474.1
      refine Tp_gd (ti_ix (by omega) (by omega)) ?_
      refine Tp_le (fun t1488 E1489 => ?_)
      have b1491 := FX_23 (HI_FX ci1476) ((mz_gI t 0 34) - (1 : Int32)).toNatClampNeg
      have z1492 := HI_at ci1476 ((mz_gI t 0 34) - (1 : Int32)).toNatClampNeg
      have e1493 : (mz_gI q1474.2 23 ((mz_gI t 0 34) - (1 : Int32)).toNatClampNeg).toInt = (mz_gI t 23 ((mz_gI t 0 34) - (1 : Int32)).toNatClampNeg).toInt := by rw [E1477 _ _ (by simp)]
      have b1494 := FX_23 (HI_FX ci) ((mz_gI t 0 34) - (1 : Int32)).toNatClampNeg
      have z1495 := HI_at ci ((mz_gI t 0 34) - (1 : Int32)).toNatClampNeg
      have b1496 := FX_24 (HI_FX ci1476) ((mz_gI t 0 34) - (1 : Int32)).toNatClampNeg
      have z1497 := HI_at ci1476 ((mz_gI t 0 34) - (1 : Int32)).toNatClampNeg
      have e1498 : (mz_gI q1474.2 24 ((mz_gI t 0 34) - (1 : Int32)).toNatClampNeg).toInt = (mz_gI t 24 ((mz_gI t 0 34) - (1 : Int32)).toNatClampNeg).toInt := by rw [E1477 _ _ (by simp)]
      have ci1490 := HI_f25 ci1476 E1489 (by omega) (by omega)
      refine Tp_if (fun h1499 => ?_) (fun h1499 => ?_)
      · have g1500 := ti_e h1499
        have b1501 := FX_0_34 (HI_FX ci1490)
        have e1502 : (mz_gI t1488 0 34).toInt = (mz_gI q1474.2 0 34).toInt := by rw [E1489, gI_oth _ _ (by simp)]
        have b1503 := FX_0_34 (HI_FX ci1476)
        have e1504 : (mz_gI q1474.2 0 34).toInt = (mz_gI t 0 34).toInt := by rw [E1477 _ _ (by simp)]
        have l1505 : ((12 : Int32)).toInt = 12 := rfl
        refine Tp_gd (ti_ix (by omega) (by omega)) ?_
        refine Tp_le (fun t1506 E1507 => ?_)
        have ci1508 := HI_pL ci1490 E1507
        have b1509 := FX_0_34 (HI_FX ci1508)
        have e1510 : (mz_gI t1506 0 34).toInt = (mz_gI t1488 0 34).toInt := by rw [E1507]; rfl
        refine Tp_gd (ti_ix (by omega) (by omega)) ?_
        refine Tp_le (fun t1511 E1512 => ?_)
        have ci1513 := HI_pL ci1508 E1512
        have l1516 : ((3 : Int32)).toInt = 3 := rfl
        first | (have a1517 : (q1474.1 - (1 : Int32)).toInt = (q1474.1).toInt - ((1 : Int32)).toInt := ti_sub (by omega) (by omega)) | (have a1518 := ti_rg (q1474.1 - (1 : Int32)))
        have i1519 := ti_rg s0
        have i1520 := ti_rg x5
        have i1521 := ti_rg x6
        have b1522 := FX_0_34 (HI_FX ci1513)
        have e1523 : (mz_gI t1511 0 34).toInt = (mz_gI t1506 0 34).toInt := by rw [E1512]; rfl
        refine Tp_bi (s_MO_beginFrame hn ci1513 (by omega) (by omega) (by omega) (by omega) (by omega) (by omega) (by omega) (by omega) (by omega) (by omega) (by omega) (t := t1511) (x1 := (3 : Int32)) (x2 := mz_gI t 25 ((mz_gI t 0 34) - (1 : Int32)).toNatClampNeg) (x3 := q1474.1 - (1 : Int32)) (x4 := s0) (x5 := x5) (x6 := x6)) (fun q1514 h1515 => ?_)
        obtain ⟨ci1524, p1525, p1526, p1527, p1528, p1529⟩ := h1515
        have b1530 := FX_0_48 (HI_FX ci1513)
        have e1531 : (mz_gI t1511 0 48).toInt = (mz_gI t1506 0 48).toInt := by rw [E1512]; rfl
        have b1532 := FX_0_48 (HI_FX ci1508)
        have e1533 : (mz_gI t1506 0 48).toInt = (mz_gI t1488 0 48).toInt := by rw [E1507]; rfl
        have b1534 := FX_0_48 (HI_FX ci1490)
        have e1535 : (mz_gI t1488 0 48).toInt = (mz_gI q1474.2 0 48).toInt := by rw [E1489, gI_oth _ _ (by simp)]
        have b1536 := FX_0_48 (HI_FX ci1476)
        have e1537 : (mz_gI q1474.2 0 48).toInt = (mz_gI t 0 48).toInt := by rw [E1477 _ _ (by simp)]
        have b1538 := FX_0_51 (HI_FX ci1513)
        have e1539 : (mz_gI t1511 0 51).toInt = (mz_gI t1506 0 51).toInt := by rw [E1512]; rfl
        have b1540 := FX_0_51 (HI_FX ci1508)
        have e1541 : (mz_gI t1506 0 51).toInt = (mz_gI t1488 0 51).toInt := by rw [E1507]; rfl
        have b1542 := FX_0_51 (HI_FX ci1490)
        have e1543 : (mz_gI t1488 0 51).toInt = (mz_gI q1474.2 0 51).toInt := by rw [E1489, gI_oth _ _ (by simp)]
        have b1544 := FX_0_51 (HI_FX ci1476)
        have e1545 : (mz_gI q1474.2 0 51).toInt = (mz_gI t 0 51).toInt := by rw [E1477 _ _ (by simp)]
        have b1546 := HI_g29 ci1513 (c := 0) (p := 6) rfl
        have e1547 : (mz_gI t1511 0 6).toInt = (mz_gI t1506 0 6).toInt := by rw [E1512]; rfl
        have b1548 := HI_g29 ci1508 (c := 0) (p := 6) rfl
        have e1549 : (mz_gI t1506 0 6).toInt = (mz_gI t1488 0 6).toInt := by rw [E1507]; rfl
        have b1550 := HI_g29 ci1490 (c := 0) (p := 6) rfl
        have e1551 : (mz_gI t1488 0 6).toInt = (mz_gI q1474.2 0 6).toInt := by rw [E1489, gI_oth _ _ (by simp)]
        have b1552 := FX_0_8 (HI_FX ci1513)
        have e1553 : (mz_gI t1511 0 8).toInt = (mz_gI t1506 0 8).toInt := by rw [E1512]; rfl
        have b1554 := FX_0_8 (HI_FX ci1508)
        have e1555 : (mz_gI t1506 0 8).toInt = (mz_gI t1488 0 8).toInt := by rw [E1507]; rfl
        have b1556 := FX_0_8 (HI_FX ci1490)
        have e1557 : (mz_gI t1488 0 8).toInt = (mz_gI q1474.2 0 8).toInt := by rw [E1489, gI_oth _ _ (by simp)]
        have b1558 := FX_0_34 (HI_FX ci1524)
        have b1559 := FX_0_48 (HI_FX ci1524)
        have b1560 := FX_0_51 (HI_FX ci1524)
        have b1561 := HI_g29 ci1524 (c := 0) (p := 6) rfl
        have b1562 := FX_0_8 (HI_FX ci1524)
        refine Tp_so ?_
        have b1563 := HI_g29 ci (c := 0) (p := 6) rfl
        refine ⟨ci1524, ?_, ?_, ?_⟩
        · (try dsimp only) <;> first | omega | assumption
        · (try dsimp only) <;> first | omega | assumption
        · (try dsimp only) <;> first | omega | assumption
      · have g1564 := ti_ne h1499
        have b1565 := FX_0_34 (HI_FX ci1490)
        have e1566 : (mz_gI t1488 0 34).toInt = (mz_gI q1474.2 0 34).toInt := by rw [E1489, gI_oth _ _ (by simp)]
        have b1567 := FX_0_34 (HI_FX ci1476)
        have e1568 : (mz_gI q1474.2 0 34).toInt = (mz_gI t 0 34).toInt := by rw [E1477 _ _ (by simp)]
        have l1569 : ((12 : Int32)).toInt = 12 := rfl
        have l1572 : ((6 : Int32)).toInt = 6 := rfl
        have i1573 := ti_rg (mz_gI t1488 0 63)
        have e1574 : (mz_gI t1488 0 63).toInt = (mz_gI q1474.2 0 63).toInt := by rw [E1489, gI_oth _ _ (by simp)]
        have i1575 := ti_rg (mz_gI q1474.2 0 63)
        have e1576 : (mz_gI q1474.2 0 63).toInt = (mz_gI t 0 63).toInt := by rw [E1477 _ _ (by simp)]
        have i1577 := ti_rg (mz_gI t 0 63)
        refine Tp_bi (s_MO_failL hn ci1490 (by omega) (t := t1488) (x1 := (6 : Int32)) (x2 := mz_gI t1488 0 63)) (fun q1570 h1571 => ?_)
        obtain ⟨ci1578, E1579, p1580, p1581⟩ := h1571
        have b1582 := FX_0_8 (HI_FX ci1490)
        have e1583 : (mz_gI t1488 0 8).toInt = (mz_gI q1474.2 0 8).toInt := by rw [E1489, gI_oth _ _ (by simp)]
        have b1584 := HI_g29 ci1578 (c := 0) (p := 6) rfl
        have b1585 := FX_0_8 (HI_FX ci1578)
        have b1586 := HI_g29 ci1490 (c := 0) (p := 6) rfl
        have e1587 : (mz_gI t1488 0 6).toInt = (mz_gI q1474.2 0 6).toInt := by rw [E1489, gI_oth _ _ (by simp)]
        have b1588 := HI_g23 ci1578 (c := 0) (p := 60) rfl
        have e1589 : (mz_gI q1570 0 60).toInt = (mz_gI t1488 0 60).toInt := by rw [E1579 _ _ (by simp)]
        have b1590 := HI_g23 ci1490 (c := 0) (p := 60) rfl
        have e1591 : (mz_gI t1488 0 60).toInt = (mz_gI q1474.2 0 60).toInt := by rw [E1489, gI_oth _ _ (by simp)]
        have b1592 := HI_g23 ci1476 (c := 0) (p := 60) rfl
        have e1593 : (mz_gI q1474.2 0 60).toInt = (mz_gI t 0 60).toInt := by rw [E1477 _ _ (by simp)]
        have b1594 := HI_g23 ci (c := 0) (p := 60) rfl
        refine Tp_so ?_
        have b1595 := HI_g29 ci (c := 0) (p := 6) rfl
        have b1596 := FX_0_34 (HI_FX ci1578)
        have e1597 : (mz_gI q1570 0 34).toInt = (mz_gI t1488 0 34).toInt := by rw [E1579 _ _ (by simp)]
        have b1598 := FX_0_48 (HI_FX ci1578)
        have e1599 : (mz_gI q1570 0 48).toInt = (mz_gI t1488 0 48).toInt := by rw [E1579 _ _ (by simp)]
        have b1600 := FX_0_48 (HI_FX ci1490)
        have e1601 : (mz_gI t1488 0 48).toInt = (mz_gI q1474.2 0 48).toInt := by rw [E1489, gI_oth _ _ (by simp)]
        have b1602 := FX_0_48 (HI_FX ci1476)
        have e1603 : (mz_gI q1474.2 0 48).toInt = (mz_gI t 0 48).toInt := by rw [E1477 _ _ (by simp)]
        have b1604 := FX_0_51 (HI_FX ci1578)
        have e1605 : (mz_gI q1570 0 51).toInt = (mz_gI t1488 0 51).toInt := by rw [E1579 _ _ (by simp)]
        have b1606 := FX_0_51 (HI_FX ci1490)
        have e1607 : (mz_gI t1488 0 51).toInt = (mz_gI q1474.2 0 51).toInt := by rw [E1489, gI_oth _ _ (by simp)]
        have b1608 := FX_0_51 (HI_FX ci1476)
        have e1609 : (mz_gI q1474.2 0 51).toInt = (mz_gI t 0 51).toInt := by rw [E1477 _ _ (by simp)]
        refine ⟨ci1578, ?_, ?_, ?_⟩
        · (try dsimp only) <;> first | omega | assumption
        · (try dsimp only) <;> first | omega | assumption
        · (try dsimp only) <;> first | omega | assumption
    · have g1610 := ti_ne h1485
      have i1611 := ti_rg q1474.1
      refine Tp_so ?_
      have b1612 := HI_g29 ci (c := 0) (p := 6) rfl
      have b1613 := FX_0_34 (HI_FX ci1476)
      have e1614 : (mz_gI q1474.2 0 34).toInt = (mz_gI t 0 34).toInt := by rw [E1477 _ _ (by simp)]
      have b1615 := FX_0_48 (HI_FX ci1476)
      have e1616 : (mz_gI q1474.2 0 48).toInt = (mz_gI t 0 48).toInt := by rw [E1477 _ _ (by simp)]
      have b1617 := FX_0_51 (HI_FX ci1476)
      have e1618 : (mz_gI q1474.2 0 51).toInt = (mz_gI t 0 51).toInt := by rw [E1477 _ _ (by simp)]
      refine ⟨ci1476, ?_, ?_, ?_⟩
      · (try dsimp only) <;> first | omega | assumption
      · (try dsimp only) <;> first | omega | assumption
      · (try dsimp only) <;> first | omega | assumption
set_option maxRecDepth 4000 in
set_option maxHeartbeats 8000000 in
theorem s_MO_each {n : Nat} {L : Int32} (hn : 8589934592 ≤ n) {t : mz_St}  (ci : HI L t) (i0 : (((mz_gI t 0 34).toInt ≤ 1 ∧ (mz_gI t 0 48).toInt ≤ 0) ∨ (2 ≤ (mz_gI t 0 34).toInt ∧ (mz_gI t 0 48).toInt ≤ 2390 + 310 * (mz_gI t 0 34).toInt))) (i1 : (((mz_gI t 0 34).toInt ≤ 1 ∧ (mz_gI t 0 51).toInt ≤ 0) ∨ (2 ≤ (mz_gI t 0 34).toInt ∧ (mz_gI t 0 51).toInt ≤ 3310 * (mz_gI t 0 34).toInt - 610))) (i2 : 1 ≤ (mz_gI t 0 34).toInt) (i3 : (¬ (mz_gI t 0 34).toInt = 1 ∨ (mz_gI t 0 60).toInt ≤ 3000)) (i4 : ((mz_gI t 0 34).toInt ≤ 1 ∨ (mz_gI t 0 60).toInt ≤ 300)) (i5 : (mz_gI t 0 61).toInt ≤ (mz_gI t 0 60).toInt) : Tp (f_MO_each n t) (fun r => HI L r ∧ (0 < (mz_gI r 0 6).toInt ∨ (((mz_gI r 0 34).toInt ≤ 1 ∧ (mz_gI r 0 48).toInt ≤ 0) ∨ (2 ≤ (mz_gI r 0 34).toInt ∧ (mz_gI r 0 48).toInt ≤ 2390 + 310 * (mz_gI r 0 34).toInt))) ∧ (0 < (mz_gI r 0 6).toInt ∨ (((mz_gI r 0 34).toInt ≤ 1 ∧ (mz_gI r 0 51).toInt ≤ 0) ∨ (2 ≤ (mz_gI r 0 34).toInt ∧ (mz_gI r 0 51).toInt ≤ 3310 * (mz_gI r 0 34).toInt - 610))) ∧ (0 < (mz_gI r 0 6).toInt ∨ (mz_gI t 0 8).toInt ≤ (mz_gI r 0 8).toInt)) := by
  unfold f_MO_each
  have b1619 := FX_0_34 (HI_FX ci)
  have b1620 := FX_0_48 (HI_FX ci)
  have b1621 := FX_0_51 (HI_FX ci)
  have b1622 := HI_g23 ci (c := 0) (p := 60) rfl
  have b1623 := HI_g24 ci (c := 0) (p := 61) rfl
  have b1624 := FX_0_8 (HI_FX ci)
  refine Tp_bi (s_MO_word hn (HI_MI ci)  (t := t)) (fun q1625 h1626 => ?_)
  obtain ⟨mi1633, p1628, p1629, p1630, p1631, p1632⟩ := h1626
  have ci1627 := HI_tr ci mi1633
  have b1634 := HI_g23 ci1627 (c := 0) (p := 60) rfl
  have b1635 := HI_g24 ci1627 (c := 0) (p := 61) rfl
  have b1636 := HI_g2 ci1627 (c := 0) (p := 62) rfl
  have b1637 := HI_g2 ci (c := 0) (p := 62) rfl
  have l1640 : ((44 : Int32)).toInt = 44 := rfl
  refine Tp_bi (s_MO_sign hn (HI_MI ci1627) (by omega) (by omega) (t := q1625) (x1 := (44 : Int32))) (fun q1638 h1639 => ?_)
  obtain ⟨mi1647, p1642, p1643, p1644, p1645, p1646⟩ := h1639
  have ci1641 := HI_tr ci1627 mi1647
  have b1648 := HI_g23 ci1641 (c := 0) (p := 60) rfl
  have b1649 := HI_g24 ci1641 (c := 0) (p := 61) rfl
  have b1650 := HI_g2 ci1641 (c := 0) (p := 62) rfl
  refine Tp_if (fun h1651 => ?_) (fun h1651 => ?_)
  · have g1652 := ti_q h1651
    have l1653 : (0 : Int32).toInt = 0 := rfl
    have b1654 := FX_0_48 (HI_FX ci1641)
    have e1655 : (mz_gI q1638 0 48).toInt = (mz_gI q1625 0 48).toInt := MI_13 mi1647 rfl
    have b1656 := FX_0_48 (HI_FX ci1627)
    have e1657 : (mz_gI q1625 0 48).toInt = (mz_gI t 0 48).toInt := MI_13 mi1633 rfl
    have b1658 := FX_0_51 (HI_FX ci1641)
    have e1659 : (mz_gI q1638 0 51).toInt = (mz_gI q1625 0 51).toInt := MI_13 mi1647 rfl
    have b1660 := FX_0_51 (HI_FX ci1627)
    have e1661 : (mz_gI q1625 0 51).toInt = (mz_gI t 0 51).toInt := MI_13 mi1633 rfl
    have l1662 : ((0 : Int32)).toInt = 0 := rfl
    have b1663 := FX_0_34 (HI_FX ci1641)
    have e1664 : (mz_gI q1638 0 34).toInt = (mz_gI q1625 0 34).toInt := MI_13 mi1647 rfl
    have b1665 := FX_0_34 (HI_FX ci1627)
    have e1666 : (mz_gI q1625 0 34).toInt = (mz_gI t 0 34).toInt := MI_13 mi1633 rfl
    refine Tp_mo (s_MO_each_47 hn ci1641 (by omega) (by omega) (by omega) (by omega) (by omega) (by omega) (by omega) (by omega) (by omega) (t := q1638) (x1 := mz_gL q1625 0 65) (x3 := mz_gL q1625 0 66) (x5 := mz_gI q1638 0 48) (x6 := mz_gI q1638 0 51) (s0 := (0 : Int32))) (fun q1667 h1668 => ?_)
    obtain ⟨ci1669, p1670, p1671, p1672⟩ := h1668
    have b1673 := FX_0_8 (HI_FX ci1641)
    have e1674 : (mz_gI q1638 0 8).toInt = (mz_gI q1625 0 8).toInt := MI_13 mi1647 rfl
    have b1675 := FX_0_8 (HI_FX ci1627)
    have e1676 : (mz_gI q1625 0 8).toInt = (mz_gI t 0 8).toInt := MI_13 mi1633 rfl
    have b1677 := HI_g29 ci1669 (c := 0) (p := 6) rfl
    have b1678 := HI_g29 ci1641 (c := 0) (p := 6) rfl
    have b1679 := FX_0_8 (HI_FX ci1669)
    have b1680 := FX_0_34 (HI_FX ci1669)
    have b1681 := FX_0_48 (HI_FX ci1669)
    have b1682 := FX_0_51 (HI_FX ci1669)
    have b1683 := HI_g29 ci (c := 0) (p := 6) rfl
    refine ⟨ci1669, ?_, ?_, ?_⟩
    · (try dsimp only) <;> first | omega | assumption
    · (try dsimp only) <;> first | omega | assumption
    · (try dsimp only) <;> first | omega | assumption
  · have g1684 := ti_nq h1651
    have l1685 : (0 : Int32).toInt = 0 := rfl
    have b1688 := FX_0_48 (HI_FX ci1641)
    have e1689 : (mz_gI q1638 0 48).toInt = (mz_gI q1625 0 48).toInt := MI_13 mi1647 rfl
    have b1690 := FX_0_48 (HI_FX ci1627)
    have e1691 : (mz_gI q1625 0 48).toInt = (mz_gI t 0 48).toInt := MI_13 mi1633 rfl
    have b1692 := FX_0_51 (HI_FX ci1641)
    have e1693 : (mz_gI q1638 0 51).toInt = (mz_gI q1625 0 51).toInt := MI_13 mi1647 rfl
    have b1694 := FX_0_51 (HI_FX ci1627)
    have e1695 : (mz_gI q1625 0 51).toInt = (mz_gI t 0 51).toInt := MI_13 mi1633 rfl
    refine Tp_bi (s_MO_readTexts hn (HI_NI ci1641) (by omega) (by omega) (t := q1638)) (fun q1686 h1687 => ?_)
    obtain ⟨mi1702, p1697, p1698, p1699, p1700, p1701⟩ := h1687
    have ci1696 := HI_trN ci1641 mi1702
    have b1703 := FX_0_48 (HI_FX ci1696)
    have b1704 := FX_0_51 (HI_FX ci1696)
    have b1705 := HI_g24 ci1696 (c := 0) (p := 61) rfl
    have b1706 := HI_g2 ci1696 (c := 0) (p := 62) rfl
    have i1707 := ti_rg q1686.1
    have b1708 := FX_0_34 (HI_FX ci1696)
    have e1709 : (mz_gI q1686.2 0 34).toInt = (mz_gI q1638 0 34).toInt := NI_13 mi1702 rfl
    have b1710 := FX_0_34 (HI_FX ci1641)
    have e1711 : (mz_gI q1638 0 34).toInt = (mz_gI q1625 0 34).toInt := MI_13 mi1647 rfl
    have b1712 := FX_0_34 (HI_FX ci1627)
    have e1713 : (mz_gI q1625 0 34).toInt = (mz_gI t 0 34).toInt := MI_13 mi1633 rfl
    refine Tp_mo (s_MO_each_47 hn ci1696 (by omega) (by omega) (by omega) (by omega) (by omega) (by omega) (by omega) (by omega) (by omega) (t := q1686.2) (x1 := mz_gL q1625 0 65) (x3 := mz_gL q1625 0 66) (x5 := mz_gI q1638 0 48) (x6 := mz_gI q1638 0 51) (s0 := q1686.1)) (fun q1714 h1715 => ?_)
    obtain ⟨ci1716, p1717, p1718, p1719⟩ := h1715
    have b1720 := FX_0_8 (HI_FX ci1696)
    have e1721 : (mz_gI q1686.2 0 8).toInt = (mz_gI q1638 0 8).toInt := NI_13 mi1702 rfl
    have b1722 := FX_0_8 (HI_FX ci1641)
    have e1723 : (mz_gI q1638 0 8).toInt = (mz_gI q1625 0 8).toInt := MI_13 mi1647 rfl
    have b1724 := FX_0_8 (HI_FX ci1627)
    have e1725 : (mz_gI q1625 0 8).toInt = (mz_gI t 0 8).toInt := MI_13 mi1633 rfl
    have b1726 := HI_g29 ci1716 (c := 0) (p := 6) rfl
    have b1727 := HI_g29 ci1696 (c := 0) (p := 6) rfl
    have e1728 : (mz_gI q1686.2 0 6).toInt = (mz_gI q1638 0 6).toInt := NI_13 mi1702 rfl
    have b1729 := HI_g29 ci1641 (c := 0) (p := 6) rfl
    have b1730 := FX_0_8 (HI_FX ci1716)
    have b1731 := FX_0_34 (HI_FX ci1716)
    have b1732 := FX_0_48 (HI_FX ci1716)
    have b1733 := FX_0_51 (HI_FX ci1716)
    have b1734 := HI_g29 ci (c := 0) (p := 6) rfl
    refine ⟨ci1716, ?_, ?_, ?_⟩
    · (try dsimp only) <;> first | omega | assumption
    · (try dsimp only) <;> first | omega | assumption
    · (try dsimp only) <;> first | omega | assumption
set_option maxRecDepth 4000 in
set_option maxHeartbeats 8000000 in
theorem s_MO_call_247 {n : Nat} {L : Int32} (hn : 8589934592 ≤ n) {x1 : Int32} {x2 : Int32} {x3 : Int32} {t : mz_St}  (ci : HI L t) (i0 : 1 ≤ (mz_gI t 0 34).toInt) (i1 : 0 ≤ x1.toInt) (i2 : x1.toInt ≤ 15) (i3 : 0 ≤ x2.toInt) (i4 : 0 ≤ x3.toInt) (i5 : (((mz_gI t 0 34).toInt ≤ 1 ∧ x2.toInt ≤ 0) ∨ (2 ≤ (mz_gI t 0 34).toInt ∧ x2.toInt ≤ 2390 + 310 * (mz_gI t 0 34).toInt))) (i6 : (((mz_gI t 0 34).toInt ≤ 1 ∧ x3.toInt ≤ 0) ∨ (2 ≤ (mz_gI t 0 34).toInt ∧ x3.toInt ≤ 3310 * (mz_gI t 0 34).toInt - 610))) (i7 : ((mz_gI t 0 34).toInt = 1 ∧ (mz_gI t 0 51).toInt ≤ 6010 ∨ 2 ≤ (mz_gI t 0 34).toInt ∧ (mz_gI t 0 51).toInt ≤ 2700 + 3310 * (mz_gI t 0 34).toInt)) : Tp (f_MO_call_247 n x1 x2 x3 t) (fun r => HI L r ∧ (0 < (mz_gI r 0 6).toInt ∨ (((mz_gI r 0 34).toInt ≤ 1 ∧ (mz_gI r 0 48).toInt ≤ 0) ∨ (2 ≤ (mz_gI r 0 34).toInt ∧ (mz_gI r 0 48).toInt ≤ 2390 + 310 * (mz_gI r 0 34).toInt))) ∧ (0 < (mz_gI r 0 6).toInt ∨ (((mz_gI r 0 34).toInt ≤ 1 ∧ (mz_gI r 0 51).toInt ≤ 0) ∨ (2 ≤ (mz_gI r 0 34).toInt ∧ (mz_gI r 0 51).toInt ≤ 3310 * (mz_gI r 0 34).toInt - 610))) ∧ (0 < (mz_gI r 0 6).toInt ∨ (mz_gI t 0 8).toInt ≤ (mz_gI r 0 8).toInt)) := by
  unfold f_MO_call_247
  have b1735 := FX_0_34 (HI_FX ci)
  have b1736 := FX_0_51 (HI_FX ci)
  have b1737 := FX_0_8 (HI_FX ci)
  refine Tp_if (fun h1738 => ?_) (fun h1738 => ?_)
  · have g1739 := ti_q h1738
    have b1740 := HI_g2 ci (c := 0) (p := 62) rfl
    have l1741 : (0 : Int32).toInt = 0 := rfl
    have l1744 : ((1 : Int32)).toInt = 1 := rfl
    have i1745 := ti_rg (mz_gI t 0 63)
    refine Tp_bi (s_MO_failL hn ci (by omega) (t := t) (x1 := (1 : Int32)) (x2 := mz_gI t 0 63)) (fun q1742 h1743 => ?_)
    obtain ⟨ci1746, E1747, p1748, p1749⟩ := h1743
    have b1750 := HI_g29 ci1746 (c := 0) (p := 6) rfl
    have b1751 := FX_0_8 (HI_FX ci1746)
    have b1752 := HI_g29 ci (c := 0) (p := 6) rfl
    have b1753 := HI_g23 ci1746 (c := 0) (p := 60) rfl
    have e1754 : (mz_gI q1742 0 60).toInt = (mz_gI t 0 60).toInt := by rw [E1747 _ _ (by simp)]
    have b1755 := HI_g23 ci (c := 0) (p := 60) rfl
    refine Tp_so ?_
    have b1756 := FX_0_34 (HI_FX ci1746)
    have e1757 : (mz_gI q1742 0 34).toInt = (mz_gI t 0 34).toInt := by rw [E1747 _ _ (by simp)]
    have b1758 := FX_0_48 (HI_FX ci1746)
    have e1759 : (mz_gI q1742 0 48).toInt = (mz_gI t 0 48).toInt := by rw [E1747 _ _ (by simp)]
    have b1760 := FX_0_48 (HI_FX ci)
    have b1761 := FX_0_51 (HI_FX ci1746)
    have e1762 : (mz_gI q1742 0 51).toInt = (mz_gI t 0 51).toInt := by rw [E1747 _ _ (by simp)]
    refine ⟨ci1746, ?_, ?_, ?_⟩
    · (try dsimp only) <;> first | omega | assumption
    · (try dsimp only) <;> first | omega | assumption
    · (try dsimp only) <;> first | omega | assumption
  · have g1763 := ti_nq h1738
    have b1764 := HI_g2 ci (c := 0) (p := 62) rfl
    have l1765 : (0 : Int32).toInt = 0 := rfl
    have i1766 := ti_rg x1
    refine Tp_gd (ti_ix (by omega) (by omega)) ?_
    have i1769 := ti_rg x2
    have b1770 := FX_10 (HI_FX ci) x1.toNatClampNeg
    first | (have a1771 : (x2 + (mz_gI t 10 x1.toNatClampNeg)).toInt = (x2).toInt + (mz_gI t 10 x1.toNatClampNeg).toInt := ti_add (by omega) (by omega)) | (have a1772 := ti_rg (x2 + (mz_gI t 10 x1.toNatClampNeg)))
    refine Tp_le (fun t1767 E1768 => ?_)
    have ci1773 := HI_f48 ci E1768 (by omega) (by omega)
    refine Tp_if (fun h1774 => ?_) (fun h1774 => ?_)
    · have g1775 := ti_e h1774
      have b1776 := FX_0_34 (HI_FX ci1773)
      have e1777 : (mz_gI t1767 0 34).toInt = (mz_gI t 0 34).toInt := by rw [E1768, gI_oth _ _ (by simp)]
      have l1778 : ((12 : Int32)).toInt = 12 := rfl
      refine Tp_gd (ti_ix (by omega) (by omega)) ?_
      refine Tp_le (fun t1779 E1780 => ?_)
      have k1782 := ti_cl (mz_gI t1767 0 34)
      have ci1781 := HI_f28 ci1773 E1780 (by omega) (by omega)
      have b1783 := FX_0_34 (HI_FX ci1781)
      have e1784 : (mz_gI t1779 0 34).toInt = (mz_gI t1767 0 34).toInt := by rw [E1780, gI_oth _ _ (by simp)]
      refine Tp_gd (ti_ix (by omega) (by omega)) ?_
      have i1787 := ti_rg (mz_gI t1779 0 9)
      have e1788 : (mz_gI t1779 0 9).toInt = (mz_gI t1767 0 9).toInt := by rw [E1780, gI_oth _ _ (by simp)]
      have i1789 := ti_rg (mz_gI t1767 0 9)
      have e1790 : (mz_gI t1767 0 9).toInt = (mz_gI t 0 9).toInt := by rw [E1768, gI_oth _ _ (by simp)]
      have i1791 := ti_rg (mz_gI t 0 9)
      refine Tp_le (fun t1785 E1786 => ?_)
      have k1793 := ti_cl (mz_gI t1779 0 34)
      have ci1792 := HI_f29 ci1781 E1786
      refine Tp_gd (ti_ix (by omega) (by omega)) ?_
      refine Tp_gd (ti_ix (by omega) (by omega)) ?_
      have l1796 : ((1 : Int32)).toInt = 1 := rfl
      have b1797 := FX_6 (HI_FX ci1792) x1.toNatClampNeg
      have z1798 := HI_mc ci1792 x1.toNatClampNeg
      have e1799 : (mz_gI t1785 6 x1.toNatClampNeg).toInt = (mz_gI t1779 6 x1.toNatClampNeg).toInt := by rw [E1786, gI_oth _ _ (by simp)]
      have b1800 := FX_6 (HI_FX ci1781) x1.toNatClampNeg
      have z1801 := HI_mc ci1781 x1.toNatClampNeg
      have e1802 : (mz_gI t1779 6 x1.toNatClampNeg).toInt = (mz_gI t1767 6 x1.toNatClampNeg).toInt := by rw [E1780, gI_oth _ _ (by simp)]
      have b1803 := FX_6 (HI_FX ci1773) x1.toNatClampNeg
      have z1804 := HI_mc ci1773 x1.toNatClampNeg
      have e1805 : (mz_gI t1767 6 x1.toNatClampNeg).toInt = (mz_gI t 6 x1.toNatClampNeg).toInt := by rw [E1768, gI_oth _ _ (by simp)]
      have b1806 := FX_6 (HI_FX ci) x1.toNatClampNeg
      have z1807 := HI_mc ci x1.toNatClampNeg
      have b1808 := FX_7 (HI_FX ci1792) x1.toNatClampNeg
      have z1809 := HI_mc ci1792 x1.toNatClampNeg
      have e1810 : (mz_gI t1785 7 x1.toNatClampNeg).toInt = (mz_gI t1779 7 x1.toNatClampNeg).toInt := by rw [E1786, gI_oth _ _ (by simp)]
      have b1811 := FX_7 (HI_FX ci1781) x1.toNatClampNeg
      have z1812 := HI_mc ci1781 x1.toNatClampNeg
      have e1813 : (mz_gI t1779 7 x1.toNatClampNeg).toInt = (mz_gI t1767 7 x1.toNatClampNeg).toInt := by rw [E1780, gI_oth _ _ (by simp)]
      have b1814 := FX_7 (HI_FX ci1773) x1.toNatClampNeg
      have z1815 := HI_mc ci1773 x1.toNatClampNeg
      have e1816 : (mz_gI t1767 7 x1.toNatClampNeg).toInt = (mz_gI t 7 x1.toNatClampNeg).toInt := by rw [E1768, gI_oth _ _ (by simp)]
      have b1817 := FX_7 (HI_FX ci) x1.toNatClampNeg
      have z1818 := HI_mc ci x1.toNatClampNeg
      have i1819 := ti_rg x3
      have b1820 := FX_0_34 (HI_FX ci1792)
      have e1821 : (mz_gI t1785 0 34).toInt = (mz_gI t1779 0 34).toInt := by rw [E1786, gI_oth _ _ (by simp)]
      refine Tp_bi (s_MO_beginFrame hn ci1792 (by omega) (by omega) (by omega) (by omega) (by omega) (by omega) (by omega) (by omega) (by omega) (by omega) (by omega) (t := t1785) (x1 := (1 : Int32)) (x2 := mz_gI t1785 6 x1.toNatClampNeg) (x3 := mz_gI t1785 7 x1.toNatClampNeg) (x4 := (1 : Int32)) (x5 := x2) (x6 := x3)) (fun q1794 h1795 => ?_)
      obtain ⟨ci1822, p1823, p1824, p1825, p1826, p1827⟩ := h1795
      have b1828 := FX_0_48 (HI_FX ci1792)
      have e1829 : (mz_gI t1785 0 48).toInt = (mz_gI t1779 0 48).toInt := by rw [E1786, gI_oth _ _ (by simp)]
      have b1830 := FX_0_48 (HI_FX ci1781)
      have e1831 : (mz_gI t1779 0 48).toInt = (mz_gI t1767 0 48).toInt := by rw [E1780, gI_oth _ _ (by simp)]
      have b1832 := FX_0_48 (HI_FX ci1773)
      have e1833 : (mz_gI t1767 0 48).toInt = (x2 + (mz_gI t 10 x1.toNatClampNeg)).toInt := by rw [E1768, gI_same]
      have b1834 := FX_0_51 (HI_FX ci1792)
      have e1835 : (mz_gI t1785 0 51).toInt = (mz_gI t1779 0 51).toInt := by rw [E1786, gI_oth _ _ (by simp)]
      have b1836 := FX_0_51 (HI_FX ci1781)
      have e1837 : (mz_gI t1779 0 51).toInt = (mz_gI t1767 0 51).toInt := by rw [E1780, gI_oth _ _ (by simp)]
      have b1838 := FX_0_51 (HI_FX ci1773)
      have e1839 : (mz_gI t1767 0 51).toInt = (mz_gI t 0 51).toInt := by rw [E1768, gI_oth _ _ (by simp)]
      have b1840 := HI_g29 ci1792 (c := 0) (p := 6) rfl
      have e1841 : (mz_gI t1785 0 6).toInt = (mz_gI t1779 0 6).toInt := by rw [E1786, gI_oth _ _ (by simp)]
      have b1842 := HI_g29 ci1781 (c := 0) (p := 6) rfl
      have e1843 : (mz_gI t1779 0 6).toInt = (mz_gI t1767 0 6).toInt := by rw [E1780, gI_oth _ _ (by simp)]
      have b1844 := HI_g29 ci1773 (c := 0) (p := 6) rfl
      have e1845 : (mz_gI t1767 0 6).toInt = (mz_gI t 0 6).toInt := by rw [E1768, gI_oth _ _ (by simp)]
      have b1846 := HI_g29 ci (c := 0) (p := 6) rfl
      have b1847 := FX_0_8 (HI_FX ci1792)
      have e1848 : (mz_gI t1785 0 8).toInt = (mz_gI t1779 0 8).toInt := by rw [E1786, gI_oth _ _ (by simp)]
      have b1849 := FX_0_8 (HI_FX ci1781)
      have e1850 : (mz_gI t1779 0 8).toInt = (mz_gI t1767 0 8).toInt := by rw [E1780, gI_oth _ _ (by simp)]
      have b1851 := FX_0_8 (HI_FX ci1773)
      have e1852 : (mz_gI t1767 0 8).toInt = (mz_gI t 0 8).toInt := by rw [E1768, gI_oth _ _ (by simp)]
      have b1853 := FX_0_34 (HI_FX ci1822)
      have b1854 := FX_0_48 (HI_FX ci1822)
      have b1855 := FX_0_51 (HI_FX ci1822)
      have b1856 := HI_g29 ci1822 (c := 0) (p := 6) rfl
      have b1857 := FX_0_8 (HI_FX ci1822)
      refine Tp_gd (ti_ix (by omega) (by omega)) ?_
      refine Tp_gd (ti_ix (by omega) (by omega)) ?_
      have i1860 := ti_rg (mz_gI q1794 9 x1.toNatClampNeg)
      first | (have a1861 : ((mz_gI q1794 9 x1.toNatClampNeg) + (1 : Int32)).toInt = (mz_gI q1794 9 x1.toNatClampNeg).toInt + ((1 : Int32)).toInt := ti_add (by omega) (by omega)) | (have a1862 := ti_rg ((mz_gI q1794 9 x1.toNatClampNeg) + (1 : Int32)))
      refine Tp_le (fun t1858 E1859 => ?_)
      have k1864 := ti_cl x1
      have ci1863 := HI_f9 ci1822 E1859
      have i1867 := ti_rg (mz_gI t1858 0 9)
      have e1868 : (mz_gI t1858 0 9).toInt = (mz_gI q1794 0 9).toInt := by rw [E1859, gI_oth _ _ (by simp)]
      have i1869 := ti_rg (mz_gI q1794 0 9)
      first | (have a1870 : ((mz_gI t1858 0 9) + (1 : Int32)).toInt = (mz_gI t1858 0 9).toInt + ((1 : Int32)).toInt := ti_add (by omega) (by omega)) | (have a1871 := ti_rg ((mz_gI t1858 0 9) + (1 : Int32)))
      refine Tp_le (fun t1865 E1866 => ?_)
      have ci1872 := HI_p0 ci1863 E1866 rfl
      refine Tp_so ?_
      have b1873 := HI_g29 ci1872 (c := 0) (p := 6) rfl
      have e1874 : (mz_gI t1865 0 6).toInt = (mz_gI t1858 0 6).toInt := by rw [E1866, gI_oth _ _ (by simp)]
      have b1875 := HI_g29 ci1863 (c := 0) (p := 6) rfl
      have e1876 : (mz_gI t1858 0 6).toInt = (mz_gI q1794 0 6).toInt := by rw [E1859, gI_oth _ _ (by simp)]
      have b1877 := FX_0_8 (HI_FX ci1872)
      have e1878 : (mz_gI t1865 0 8).toInt = (mz_gI t1858 0 8).toInt := by rw [E1866, gI_oth _ _ (by simp)]
      have b1879 := FX_0_8 (HI_FX ci1863)
      have e1880 : (mz_gI t1858 0 8).toInt = (mz_gI q1794 0 8).toInt := by rw [E1859, gI_oth _ _ (by simp)]
      have b1881 := FX_0_34 (HI_FX ci1872)
      have e1882 : (mz_gI t1865 0 34).toInt = (mz_gI t1858 0 34).toInt := by rw [E1866, gI_oth _ _ (by simp)]
      have b1883 := FX_0_34 (HI_FX ci1863)
      have e1884 : (mz_gI t1858 0 34).toInt = (mz_gI q1794 0 34).toInt := by rw [E1859, gI_oth _ _ (by simp)]
      have b1885 := FX_0_48 (HI_FX ci1872)
      have e1886 : (mz_gI t1865 0 48).toInt = (mz_gI t1858 0 48).toInt := by rw [E1866, gI_oth _ _ (by simp)]
      have b1887 := FX_0_48 (HI_FX ci1863)
      have e1888 : (mz_gI t1858 0 48).toInt = (mz_gI q1794 0 48).toInt := by rw [E1859, gI_oth _ _ (by simp)]
      have b1889 := FX_0_48 (HI_FX ci)
      have b1890 := FX_0_51 (HI_FX ci1872)
      have e1891 : (mz_gI t1865 0 51).toInt = (mz_gI t1858 0 51).toInt := by rw [E1866, gI_oth _ _ (by simp)]
      have b1892 := FX_0_51 (HI_FX ci1863)
      have e1893 : (mz_gI t1858 0 51).toInt = (mz_gI q1794 0 51).toInt := by rw [E1859, gI_oth _ _ (by simp)]
      refine ⟨ci1872, ?_, ?_, ?_⟩
      · (try dsimp only) <;> first | omega | assumption
      · (try dsimp only) <;> first | omega | assumption
      · (try dsimp only) <;> first | omega | assumption
    · have g1894 := ti_ne h1774
      have b1895 := FX_0_34 (HI_FX ci1773)
      have e1896 : (mz_gI t1767 0 34).toInt = (mz_gI t 0 34).toInt := by rw [E1768, gI_oth _ _ (by simp)]
      have l1897 : ((12 : Int32)).toInt = 12 := rfl
      have l1900 : ((6 : Int32)).toInt = 6 := rfl
      have i1901 := ti_rg (mz_gI t1767 0 63)
      have e1902 : (mz_gI t1767 0 63).toInt = (mz_gI t 0 63).toInt := by rw [E1768, gI_oth _ _ (by simp)]
      have i1903 := ti_rg (mz_gI t 0 63)
      refine Tp_bi (s_MO_failL hn ci1773 (by omega) (t := t1767) (x1 := (6 : Int32)) (x2 := mz_gI t1767 0 63)) (fun q1898 h1899 => ?_)
      obtain ⟨ci1904, E1905, p1906, p1907⟩ := h1899
      have b1908 := FX_0_8 (HI_FX ci1773)
      have e1909 : (mz_gI t1767 0 8).toInt = (mz_gI t 0 8).toInt := by rw [E1768, gI_oth _ _ (by simp)]
      have b1910 := HI_g29 ci1904 (c := 0) (p := 6) rfl
      have b1911 := FX_0_8 (HI_FX ci1904)
      have b1912 := HI_g29 ci1773 (c := 0) (p := 6) rfl
      have e1913 : (mz_gI t1767 0 6).toInt = (mz_gI t 0 6).toInt := by rw [E1768, gI_oth _ _ (by simp)]
      have b1914 := HI_g29 ci (c := 0) (p := 6) rfl
      have b1915 := HI_g23 ci1904 (c := 0) (p := 60) rfl
      have e1916 : (mz_gI q1898 0 60).toInt = (mz_gI t1767 0 60).toInt := by rw [E1905 _ _ (by simp)]
      have b1917 := HI_g23 ci1773 (c := 0) (p := 60) rfl
      have e1918 : (mz_gI t1767 0 60).toInt = (mz_gI t 0 60).toInt := by rw [E1768, gI_oth _ _ (by simp)]
      have b1919 := HI_g23 ci (c := 0) (p := 60) rfl
      refine Tp_so ?_
      have b1920 := FX_0_34 (HI_FX ci1904)
      have e1921 : (mz_gI q1898 0 34).toInt = (mz_gI t1767 0 34).toInt := by rw [E1905 _ _ (by simp)]
      have b1922 := FX_0_48 (HI_FX ci1904)
      have e1923 : (mz_gI q1898 0 48).toInt = (mz_gI t1767 0 48).toInt := by rw [E1905 _ _ (by simp)]
      have b1924 := FX_0_48 (HI_FX ci1773)
      have e1925 : (mz_gI t1767 0 48).toInt = (x2 + (mz_gI t 10 x1.toNatClampNeg)).toInt := by rw [E1768, gI_same]
      have b1926 := FX_0_48 (HI_FX ci)
      have b1927 := FX_0_51 (HI_FX ci1904)
      have e1928 : (mz_gI q1898 0 51).toInt = (mz_gI t1767 0 51).toInt := by rw [E1905 _ _ (by simp)]
      have b1929 := FX_0_51 (HI_FX ci1773)
      have e1930 : (mz_gI t1767 0 51).toInt = (mz_gI t 0 51).toInt := by rw [E1768, gI_oth _ _ (by simp)]
      refine ⟨ci1904, ?_, ?_, ?_⟩
      · (try dsimp only) <;> first | omega | assumption
      · (try dsimp only) <;> first | omega | assumption
      · (try dsimp only) <;> first | omega | assumption
