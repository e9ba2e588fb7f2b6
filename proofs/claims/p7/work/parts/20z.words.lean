theorem bi_X0 : ∀ w ∈ u_ws RX0 TX0 5, w ∈ bg := by
  intro w hw
  obtain ⟨k, hk, rfl⟩ := List.mem_map.mp hw
  have hk := List.mem_range.mp hk
  match k, hk with
  | 0, _ => exact bg_1453
  | 1, _ => exact bg_1454
  | 2, _ => exact bg_1455
  | 3, _ => exact bg_1456
  | 4, _ => exact bg_1457
  | n + 5, h => exact absurd h (by omega)
theorem bi_X1 : ∀ w ∈ u_ws RX1 TX1 1, w ∈ bg := by
  intro w hw
  obtain ⟨k, hk, rfl⟩ := List.mem_map.mp hw
  have hk := List.mem_range.mp hk
  match k, hk with
  | 0, _ => exact bg_1458
  | n + 1, h => exact absurd h (by omega)
theorem bi_X2 : ∀ w ∈ u_ws RX2 TX2 5, w ∈ bg := by
  intro w hw
  obtain ⟨k, hk, rfl⟩ := List.mem_map.mp hw
  have hk := List.mem_range.mp hk
  match k, hk with
  | 0, _ => exact bg_1459
  | 1, _ => exact bg_1460
  | 2, _ => exact bg_1461
  | 3, _ => exact bg_1462
  | 4, _ => exact bg_1463
  | n + 5, h => exact absurd h (by omega)
theorem bi_X3 : ∀ w ∈ u_ws RX3 TX3 17, w ∈ bg := by
  intro w hw
  obtain ⟨k, hk, rfl⟩ := List.mem_map.mp hw
  have hk := List.mem_range.mp hk
  match k, hk with
  | 0, _ => exact bg_1464
  | 1, _ => exact bg_1465
  | 2, _ => exact bg_1466
  | 3, _ => exact bg_1467
  | 4, _ => exact bg_1468
  | 5, _ => exact bg_1469
  | 6, _ => exact bg_1470
  | 7, _ => exact bg_1471
  | 8, _ => exact bg_1472
  | 9, _ => exact bg_1473
  | 10, _ => exact bg_1474
  | 11, _ => exact bg_1475
  | 12, _ => exact bg_1476
  | 13, _ => exact bg_1477
  | 14, _ => exact bg_1478
  | 15, _ => exact bg_1479
  | 16, _ => exact bg_1480
  | n + 17, h => exact absurd h (by omega)
theorem bi_X4 : ∀ w ∈ u_ws RX4 TX4 11, w ∈ bg := by
  intro w hw
  obtain ⟨k, hk, rfl⟩ := List.mem_map.mp hw
  have hk := List.mem_range.mp hk
  match k, hk with
  | 0, _ => exact bg_1481
  | 1, _ => exact bg_1482
  | 2, _ => exact bg_1483
  | 3, _ => exact bg_1484
  | 4, _ => exact bg_1485
  | 5, _ => exact bg_1486
  | 6, _ => exact bg_1487
  | 7, _ => exact bg_1488
  | 8, _ => exact bg_1489
  | 9, _ => exact bg_1490
  | 10, _ => exact bg_1491
  | n + 11, h => exact absurd h (by omega)
theorem bi_X5 : ∀ w ∈ u_ws RX5 TX5 12, w ∈ bg := by
  intro w hw
  obtain ⟨k, hk, rfl⟩ := List.mem_map.mp hw
  have hk := List.mem_range.mp hk
  match k, hk with
  | 0, _ => exact bg_1492
  | 1, _ => exact bg_1493
  | 2, _ => exact bg_1494
  | 3, _ => exact bg_1495
  | 4, _ => exact bg_1496
  | 5, _ => exact bg_1497
  | 6, _ => exact bg_1498
  | 7, _ => exact bg_1499
  | 8, _ => exact bg_1500
  | 9, _ => exact bg_1501
  | 10, _ => exact bg_1502
  | 11, _ => exact bg_1503
  | n + 12, h => exact absurd h (by omega)
theorem bi_X6 : ∀ w ∈ u_ws RX6 TX6 11, w ∈ bg := by
  intro w hw
  obtain ⟨k, hk, rfl⟩ := List.mem_map.mp hw
  have hk := List.mem_range.mp hk
  match k, hk with
  | 0, _ => exact bg_1504
  | 1, _ => exact bg_1505
  | 2, _ => exact bg_1506
  | 3, _ => exact bg_1507
  | 4, _ => exact bg_1508
  | 5, _ => exact bg_1509
  | 6, _ => exact bg_1510
  | 7, _ => exact bg_1511
  | 8, _ => exact bg_1512
  | 9, _ => exact bg_1513
  | 10, _ => exact bg_1514
  | n + 11, h => exact absurd h (by omega)
theorem bi_X7 : ∀ w ∈ u_ws RX7 TX7 8, w ∈ bg := by
  intro w hw
  obtain ⟨k, hk, rfl⟩ := List.mem_map.mp hw
  have hk := List.mem_range.mp hk
  match k, hk with
  | 0, _ => exact bg_1515
  | 1, _ => exact bg_1516
  | 2, _ => exact bg_1517
  | 3, _ => exact bg_1518
  | 4, _ => exact bg_1519
  | 5, _ => exact bg_1520
  | 6, _ => exact bg_1521
  | 7, _ => exact bg_1522
  | n + 8, h => exact absurd h (by omega)
theorem bi_X8 : ∀ w ∈ u_ws RX8 TX8 3, w ∈ bg := by
  intro w hw
  obtain ⟨k, hk, rfl⟩ := List.mem_map.mp hw
  have hk := List.mem_range.mp hk
  match k, hk with
  | 0, _ => exact bg_1523
  | 1, _ => exact bg_1524
  | 2, _ => exact bg_1525
  | n + 3, h => exact absurd h (by omega)
theorem bi_X9 : ∀ w ∈ u_ws RX9 TX9 5, w ∈ bg := by
  intro w hw
  obtain ⟨k, hk, rfl⟩ := List.mem_map.mp hw
  have hk := List.mem_range.mp hk
  match k, hk with
  | 0, _ => exact bg_1526
  | 1, _ => exact bg_1527
  | 2, _ => exact bg_1528
  | 3, _ => exact bg_1529
  | 4, _ => exact bg_1530
  | n + 5, h => exact absurd h (by omega)
theorem bi_X10 : ∀ w ∈ u_ws RX10 TX10 2, w ∈ bg := by
  intro w hw
  obtain ⟨k, hk, rfl⟩ := List.mem_map.mp hw
  have hk := List.mem_range.mp hk
  match k, hk with
  | 0, _ => exact bg_1531
  | 1, _ => exact bg_1532
  | n + 2, h => exact absurd h (by omega)
theorem bi_X11 : ∀ w ∈ u_ws RX11 TX11 5, w ∈ bg := by
  intro w hw
  obtain ⟨k, hk, rfl⟩ := List.mem_map.mp hw
  have hk := List.mem_range.mp hk
  match k, hk with
  | 0, _ => exact bg_1533
  | 1, _ => exact bg_1534
  | 2, _ => exact bg_1535
  | 3, _ => exact bg_1536
  | 4, _ => exact bg_1537
  | n + 5, h => exact absurd h (by omega)
theorem bi_X12 : ∀ w ∈ u_ws RX12 TX12 82, w ∈ bg := by
  intro w hw
  obtain ⟨k, hk, rfl⟩ := List.mem_map.mp hw
  have hk := List.mem_range.mp hk
  match k, hk with
  | 0, _ => exact bg_1538
  | 1, _ => exact bg_1539
  | 2, _ => exact bg_1540
  | 3, _ => exact bg_1541
  | 4, _ => exact bg_1542
  | 5, _ => exact bg_1543
  | 6, _ => exact bg_1544
  | 7, _ => exact bg_1545
  | 8, _ => exact bg_1546
  | 9, _ => exact bg_1547
  | 10, _ => exact bg_1548
  | 11, _ => exact bg_1549
  | 12, _ => exact bg_1550
  | 13, _ => exact bg_1551
  | 14, _ => exact bg_1552
  | 15, _ => exact bg_1553
  | 16, _ => exact bg_1554
  | 17, _ => exact bg_1555
  | 18, _ => exact bg_1556
  | 19, _ => exact bg_1557
  | 20, _ => exact bg_1558
  | 21, _ => exact bg_1559
  | 22, _ => exact bg_1560
  | 23, _ => exact bg_1561
  | 24, _ => exact bg_1562
  | 25, _ => exact bg_1563
  | 26, _ => exact bg_1564
  | 27, _ => exact bg_1565
  | 28, _ => exact bg_1566
  | 29, _ => exact bg_1567
  | 30, _ => exact bg_1568
  | 31, _ => exact bg_1569
  | 32, _ => exact bg_1570
  | 33, _ => exact bg_1571
  | 34, _ => exact bg_1572
  | 35, _ => exact bg_1573
  | 36, _ => exact bg_1574
  | 37, _ => exact bg_1575
  | 38, _ => exact bg_1576
  | 39, _ => exact bg_1577
  | 40, _ => exact bg_1578
  | 41, _ => exact bg_1579
  | 42, _ => exact bg_1580
  | 43, _ => exact bg_1581
  | 44, _ => exact bg_1582
  | 45, _ => exact bg_1583
  | 46, _ => exact bg_1584
  | 47, _ => exact bg_1585
  | 48, _ => exact bg_1586
  | 49, _ => exact bg_1587
  | 50, _ => exact bg_1588
  | 51, _ => exact bg_1589
  | 52, _ => exact bg_1590
  | 53, _ => exact bg_1591
  | 54, _ => exact bg_1592
  | 55, _ => exact bg_1593
  | 56, _ => exact bg_1594
  | 57, _ => exact bg_1595
  | 58, _ => exact bg_1596
  | 59, _ => exact bg_1597
  | 60, _ => exact bg_1598
  | 61, _ => exact bg_1599
  | 62, _ => exact bg_1600
  | 63, _ => exact bg_1601
  | 64, _ => exact bg_1602
  | 65, _ => exact bg_1603
  | 66, _ => exact bg_1604
  | 67, _ => exact bg_1605
  | 68, _ => exact bg_1606
  | 69, _ => exact bg_1607
  | 70, _ => exact bg_1608
  | 71, _ => exact bg_1609
  | 72, _ => exact bg_1610
  | 73, _ => exact bg_1611
  | 74, _ => exact bg_1612
  | 75, _ => exact bg_1613
  | 76, _ => exact bg_1614
  | 77, _ => exact bg_1615
  | 78, _ => exact bg_1616
  | 79, _ => exact bg_1617
  | 80, _ => exact bg_1618
  | 81, _ => exact bg_1619
  | n + 82, h => exact absurd h (by omega)
