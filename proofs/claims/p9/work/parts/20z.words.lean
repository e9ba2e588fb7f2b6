theorem bi_X0 : ∀ w ∈ u_ws RX0 TX0 5, w ∈ bg := by
  intro w hw
  obtain ⟨k, hk, rfl⟩ := List.mem_map.mp hw
  have hk := List.mem_range.mp hk
  match k, hk with
  | 0, _ => exact bg_1449
  | 1, _ => exact bg_1450
  | 2, _ => exact bg_1451
  | 3, _ => exact bg_1452
  | 4, _ => exact bg_1453
  | n + 5, h => exact absurd h (by omega)
theorem bi_X1 : ∀ w ∈ u_ws RX1 TX1 1, w ∈ bg := by
  intro w hw
  obtain ⟨k, hk, rfl⟩ := List.mem_map.mp hw
  have hk := List.mem_range.mp hk
  match k, hk with
  | 0, _ => exact bg_1454
  | n + 1, h => exact absurd h (by omega)
theorem bi_X2 : ∀ w ∈ u_ws RX2 TX2 5, w ∈ bg := by
  intro w hw
  obtain ⟨k, hk, rfl⟩ := List.mem_map.mp hw
  have hk := List.mem_range.mp hk
  match k, hk with
  | 0, _ => exact bg_1455
  | 1, _ => exact bg_1456
  | 2, _ => exact bg_1457
  | 3, _ => exact bg_1458
  | 4, _ => exact bg_1459
  | n + 5, h => exact absurd h (by omega)
theorem bi_X3 : ∀ w ∈ u_ws RX3 TX3 17, w ∈ bg := by
  intro w hw
  obtain ⟨k, hk, rfl⟩ := List.mem_map.mp hw
  have hk := List.mem_range.mp hk
  match k, hk with
  | 0, _ => exact bg_1460
  | 1, _ => exact bg_1461
  | 2, _ => exact bg_1462
  | 3, _ => exact bg_1463
  | 4, _ => exact bg_1464
  | 5, _ => exact bg_1465
  | 6, _ => exact bg_1466
  | 7, _ => exact bg_1467
  | 8, _ => exact bg_1468
  | 9, _ => exact bg_1469
  | 10, _ => exact bg_1470
  | 11, _ => exact bg_1471
  | 12, _ => exact bg_1472
  | 13, _ => exact bg_1473
  | 14, _ => exact bg_1474
  | 15, _ => exact bg_1475
  | 16, _ => exact bg_1476
  | n + 17, h => exact absurd h (by omega)
theorem bi_X4 : ∀ w ∈ u_ws RX4 TX4 11, w ∈ bg := by
  intro w hw
  obtain ⟨k, hk, rfl⟩ := List.mem_map.mp hw
  have hk := List.mem_range.mp hk
  match k, hk with
  | 0, _ => exact bg_1477
  | 1, _ => exact bg_1478
  | 2, _ => exact bg_1479
  | 3, _ => exact bg_1480
  | 4, _ => exact bg_1481
  | 5, _ => exact bg_1482
  | 6, _ => exact bg_1483
  | 7, _ => exact bg_1484
  | 8, _ => exact bg_1485
  | 9, _ => exact bg_1486
  | 10, _ => exact bg_1487
  | n + 11, h => exact absurd h (by omega)
theorem bi_X5 : ∀ w ∈ u_ws RX5 TX5 12, w ∈ bg := by
  intro w hw
  obtain ⟨k, hk, rfl⟩ := List.mem_map.mp hw
  have hk := List.mem_range.mp hk
  match k, hk with
  | 0, _ => exact bg_1488
  | 1, _ => exact bg_1489
  | 2, _ => exact bg_1490
  | 3, _ => exact bg_1491
  | 4, _ => exact bg_1492
  | 5, _ => exact bg_1493
  | 6, _ => exact bg_1494
  | 7, _ => exact bg_1495
  | 8, _ => exact bg_1496
  | 9, _ => exact bg_1497
  | 10, _ => exact bg_1498
  | 11, _ => exact bg_1499
  | n + 12, h => exact absurd h (by omega)
theorem bi_X6 : ∀ w ∈ u_ws RX6 TX6 11, w ∈ bg := by
  intro w hw
  obtain ⟨k, hk, rfl⟩ := List.mem_map.mp hw
  have hk := List.mem_range.mp hk
  match k, hk with
  | 0, _ => exact bg_1500
  | 1, _ => exact bg_1501
  | 2, _ => exact bg_1502
  | 3, _ => exact bg_1503
  | 4, _ => exact bg_1504
  | 5, _ => exact bg_1505
  | 6, _ => exact bg_1506
  | 7, _ => exact bg_1507
  | 8, _ => exact bg_1508
  | 9, _ => exact bg_1509
  | 10, _ => exact bg_1510
  | n + 11, h => exact absurd h (by omega)
theorem bi_X7 : ∀ w ∈ u_ws RX7 TX7 8, w ∈ bg := by
  intro w hw
  obtain ⟨k, hk, rfl⟩ := List.mem_map.mp hw
  have hk := List.mem_range.mp hk
  match k, hk with
  | 0, _ => exact bg_1511
  | 1, _ => exact bg_1512
  | 2, _ => exact bg_1513
  | 3, _ => exact bg_1514
  | 4, _ => exact bg_1515
  | 5, _ => exact bg_1516
  | 6, _ => exact bg_1517
  | 7, _ => exact bg_1518
  | n + 8, h => exact absurd h (by omega)
theorem bi_X8 : ∀ w ∈ u_ws RX8 TX8 3, w ∈ bg := by
  intro w hw
  obtain ⟨k, hk, rfl⟩ := List.mem_map.mp hw
  have hk := List.mem_range.mp hk
  match k, hk with
  | 0, _ => exact bg_1519
  | 1, _ => exact bg_1520
  | 2, _ => exact bg_1521
  | n + 3, h => exact absurd h (by omega)
theorem bi_X9 : ∀ w ∈ u_ws RX9 TX9 5, w ∈ bg := by
  intro w hw
  obtain ⟨k, hk, rfl⟩ := List.mem_map.mp hw
  have hk := List.mem_range.mp hk
  match k, hk with
  | 0, _ => exact bg_1522
  | 1, _ => exact bg_1523
  | 2, _ => exact bg_1524
  | 3, _ => exact bg_1525
  | 4, _ => exact bg_1526
  | n + 5, h => exact absurd h (by omega)
theorem bi_X10 : ∀ w ∈ u_ws RX10 TX10 2, w ∈ bg := by
  intro w hw
  obtain ⟨k, hk, rfl⟩ := List.mem_map.mp hw
  have hk := List.mem_range.mp hk
  match k, hk with
  | 0, _ => exact bg_1527
  | 1, _ => exact bg_1528
  | n + 2, h => exact absurd h (by omega)
theorem bi_X11 : ∀ w ∈ u_ws RX11 TX11 5, w ∈ bg := by
  intro w hw
  obtain ⟨k, hk, rfl⟩ := List.mem_map.mp hw
  have hk := List.mem_range.mp hk
  match k, hk with
  | 0, _ => exact bg_1529
  | 1, _ => exact bg_1530
  | 2, _ => exact bg_1531
  | 3, _ => exact bg_1532
  | 4, _ => exact bg_1533
  | n + 5, h => exact absurd h (by omega)
theorem bi_X12 : ∀ w ∈ u_ws RX12 TX12 82, w ∈ bg := by
  intro w hw
  obtain ⟨k, hk, rfl⟩ := List.mem_map.mp hw
  have hk := List.mem_range.mp hk
  match k, hk with
  | 0, _ => exact bg_1534
  | 1, _ => exact bg_1535
  | 2, _ => exact bg_1536
  | 3, _ => exact bg_1537
  | 4, _ => exact bg_1538
  | 5, _ => exact bg_1539
  | 6, _ => exact bg_1540
  | 7, _ => exact bg_1541
  | 8, _ => exact bg_1542
  | 9, _ => exact bg_1543
  | 10, _ => exact bg_1544
  | 11, _ => exact bg_1545
  | 12, _ => exact bg_1546
  | 13, _ => exact bg_1547
  | 14, _ => exact bg_1548
  | 15, _ => exact bg_1549
  | 16, _ => exact bg_1550
  | 17, _ => exact bg_1551
  | 18, _ => exact bg_1552
  | 19, _ => exact bg_1553
  | 20, _ => exact bg_1554
  | 21, _ => exact bg_1555
  | 22, _ => exact bg_1556
  | 23, _ => exact bg_1557
  | 24, _ => exact bg_1558
  | 25, _ => exact bg_1559
  | 26, _ => exact bg_1560
  | 27, _ => exact bg_1561
  | 28, _ => exact bg_1562
  | 29, _ => exact bg_1563
  | 30, _ => exact bg_1564
  | 31, _ => exact bg_1565
  | 32, _ => exact bg_1566
  | 33, _ => exact bg_1567
  | 34, _ => exact bg_1568
  | 35, _ => exact bg_1569
  | 36, _ => exact bg_1570
  | 37, _ => exact bg_1571
  | 38, _ => exact bg_1572
  | 39, _ => exact bg_1573
  | 40, _ => exact bg_1574
  | 41, _ => exact bg_1575
  | 42, _ => exact bg_1576
  | 43, _ => exact bg_1577
  | 44, _ => exact bg_1578
  | 45, _ => exact bg_1579
  | 46, _ => exact bg_1580
  | 47, _ => exact bg_1581
  | 48, _ => exact bg_1582
  | 49, _ => exact bg_1583
  | 50, _ => exact bg_1584
  | 51, _ => exact bg_1585
  | 52, _ => exact bg_1586
  | 53, _ => exact bg_1587
  | 54, _ => exact bg_1588
  | 55, _ => exact bg_1589
  | 56, _ => exact bg_1590
  | 57, _ => exact bg_1591
  | 58, _ => exact bg_1592
  | 59, _ => exact bg_1593
  | 60, _ => exact bg_1594
  | 61, _ => exact bg_1595
  | 62, _ => exact bg_1596
  | 63, _ => exact bg_1597
  | 64, _ => exact bg_1598
  | 65, _ => exact bg_1599
  | 66, _ => exact bg_1600
  | 67, _ => exact bg_1601
  | 68, _ => exact bg_1602
  | 69, _ => exact bg_1603
  | 70, _ => exact bg_1604
  | 71, _ => exact bg_1605
  | 72, _ => exact bg_1606
  | 73, _ => exact bg_1607
  | 74, _ => exact bg_1608
  | 75, _ => exact bg_1609
  | 76, _ => exact bg_1610
  | 77, _ => exact bg_1611
  | 78, _ => exact bg_1612
  | 79, _ => exact bg_1613
  | 80, _ => exact bg_1614
  | 81, _ => exact bg_1615
  | n + 82, h => exact absurd h (by omega)
