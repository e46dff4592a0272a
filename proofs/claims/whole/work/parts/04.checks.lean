/-! the tables are those of the bytecode: decode, links (written by wip/whole/gen5.py) -/
/-- of each method: place of its code, static, place of that word, of selects, of initialized; parameters -/
def ax_mp : List (Nat × Nat × Nat × Nat × Nat × Nat) := [(122, 0, 121, 0, 97, 0), (130, 0, 129, 0, 98, 0), (139, 0, 138, 0, 99, 0), (218, 0, 217, 0, 101, 0), (276, 0, 275, 0, 102, 0), (282, 0, 281, 0, 103, 0), (322, 0, 321, 0, 104, 0), (362, 0, 361, 0, 105, 0), (400, 0, 399, 0, 106, 0), (449, 0, 448, 0, 107, 0), (458, 0, 457, 0, 108, 0), (566, 0, 564, 565, 97, 3), (569, 1, 568, 0, 97, 3), (573, 0, 572, 0, 97, 1), (577, 0, 575, 576, 99, 3), (580, 1, 579, 0, 110, 2), (584, 0, 583, 1, 97, 1), (588, 0, 586, 587, 97, 2), (592, 0, 590, 591, 98, 1), (597, 0, 595, 596, 99, 0), (601, 0, 599, 600, 99, 0), (604, 1, 603, 0, 111, 1), (611, 0, 609, 610, 99, 0), (615, 0, 613, 614, 97, 4), (619, 0, 617, 618, 98, 3), (623, 1, 622, 0, 97, 4), (627, 0, 625, 626, 97, 3), (631, 0, 629, 630, 97, 4), (635, 0, 633, 634, 97, 2), (643, 0, 641, 642, 97, 5), (647, 0, 646, 2, 97, 1), (651, 0, 649, 650, 97, 1), (655, 0, 653, 654, 97, 0), (663, 0, 661, 662, 97, 0), (667, 0, 665, 666, 97, 0), (671, 0, 669, 670, 101, 2), (675, 0, 674, 3, 101, 2), (678, 1, 677, 0, 101, 1), (682, 1, 681, 0, 101, 4), (685, 1, 684, 0, 101, 3), (688, 1, 687, 0, 101, 1), (705, 1, 704, 0, 101, 4), (709, 0, 707, 708, 113, 0), (713, 0, 711, 712, 113, 0), (719, 0, 717, 718, 113, 1), (723, 0, 721, 722, 113, 0), (726, 1, 725, 0, 114, 2), (729, 1, 728, 0, 113, 2), (734, 1, 733, 0, 115, 3), (756, 1, 755, 0, 101, 3), (761, 0, 760, 4, 101, 3), (765, 0, 764, 5, 101, 0), (769, 0, 768, 6, 101, 0), (773, 0, 772, 7, 101, 0), (777, 0, 776, 8, 101, 2), (781, 0, 780, 9, 101, 1), (785, 0, 784, 10, 101, 1), (789, 0, 788, 11, 101, 1), (793, 0, 792, 12, 101, 1), (797, 0, 796, 13, 101, 2), (801, 0, 800, 14, 101, 1), (805, 0, 804, 15, 101, 1), (809, 0, 808, 16, 101, 1), (813, 0, 812, 17, 101, 1), (818, 0, 817, 0, 117, 1), (822, 1, 821, 0, 110, 2), (862, 0, 860, 861, 97, 0), (866, 0, 864, 865, 97, 1), (870, 0, 868, 869, 98, 1), (874, 0, 872, 873, 97, 2), (878, 0, 877, 18, 97, 2), (881, 1, 880, 0, 97, 2), (884, 1, 883, 0, 97, 2), (888, 0, 887, 19, 97, 1), (892, 0, 890, 891, 108, 1), (897, 0, 896, 20, 108, 0), (901, 0, 899, 900, 108, 1), (905, 1, 904, 0, 97, 5), (910, 0, 909, 21, 108, 0), (915, 0, 913, 914, 108, 0), (919, 0, 918, 22, 108, 1), (923, 0, 921, 922, 97, 1), (927, 0, 925, 926, 97, 2), (931, 0, 930, 23, 97, 1), (935, 0, 933, 934, 98, 1), (940, 0, 938, 939, 102, 4), (945, 0, 943, 944, 102, 3), (950, 0, 948, 949, 103, 1), (954, 0, 953, 24, 103, 2), (958, 0, 957, 25, 103, 1), (964, 0, 963, 26, 103, 0), (970, 1, 969, 0, 103, 3), (977, 0, 975, 976, 97, 1), (981, 0, 980, 27, 97, 0), (985, 0, 984, 28, 97, 2), (989, 0, 987, 988, 102, 0), (994, 0, 992, 993, 97, 1), (998, 0, 996, 997, 97, 1), (1002, 0, 1000, 1001, 97, 0), (1006, 0, 1004, 1005, 97, 2), (1011, 0, 1009, 1010, 108, 2), (1015, 0, 1013, 1014, 97, 4), (1020, 0, 1018, 1019, 97, 3), (1024, 0, 1022, 1023, 104, 3), (1028, 0, 1026, 1027, 104, 3), (1033, 0, 1032, 29, 104, 2), (1038, 0, 1036, 1037, 108, 2), (1042, 0, 1040, 1041, 108, 2), (1046, 0, 1044, 1045, 108, 3), (1050, 0, 1048, 1049, 102, 2), (1056, 0, 1055, 30, 104, 0), (1061, 0, 1059, 1060, 104, 2), (1065, 0, 1063, 1064, 97, 4), (1070, 0, 1068, 1069, 97, 1), (1074, 0, 1072, 1073, 97, 2), (1078, 0, 1076, 1077, 108, 1), (1082, 0, 1080, 1081, 108, 2), (1088, 0, 1086, 1087, 97, 3), (1092, 0, 1091, 31, 97, 3), (1096, 0, 1094, 1095, 105, 4), (1100, 0, 1098, 1099, 105, 1), (1105, 0, 1103, 1104, 105, 4), (1109, 0, 1107, 1108, 105, 1), (1114, 0, 1113, 32, 105, 0), (1120, 0, 1118, 1119, 105, 2), (1124, 0, 1122, 1123, 97, 5), (1128, 0, 1126, 1127, 105, 1), (1132, 0, 1130, 1131, 97, 2), (1136, 0, 1134, 1135, 98, 1), (1140, 0, 1138, 1139, 97, 1), (1144, 0, 1143, 33, 97, 0), (1148, 0, 1146, 1147, 106, 2), (1154, 0, 1153, 34, 106, 1), (1158, 0, 1156, 1157, 106, 0), (1162, 0, 1161, 35, 106, 2), (1166, 0, 1165, 36, 106, 1), (1171, 0, 1169, 1170, 97, 1), (1175, 0, 1173, 1174, 97, 1), (1179, 0, 1177, 1178, 106, 1), (1183, 0, 1181, 1182, 97, 3), (1187, 0, 1185, 1186, 107, 3), (1192, 0, 1191, 37, 107, 3), (1198, 0, 1197, 38, 107, 2), (1202, 0, 1200, 1201, 97, 2), (1206, 1, 1205, 0, 97, 1), (1213, 0, 1211, 1212, 97, 1), (1217, 0, 1215, 1216, 97, 1), (1221, 0, 1219, 1220, 98, 1), (1225, 0, 1223, 1224, 99, 1), (1230, 0, 1228, 1229, 97, 1), (1234, 0, 1232, 1233, 97, 1), (1238, 0, 1236, 1237, 98, 0), (1242, 0, 1240, 1241, 97, 0), (1247, 0, 1246, 0, 109, 0), (1406, 0, 1404, 1405, 109, 1), (1409, 1, 1408, 0, 109, 3), (1413, 0, 1412, 39, 109, 1), (1417, 0, 1416, 40, 109, 1), (1421, 0, 1419, 1420, 109, 1), (1425, 0, 1423, 1424, 109, 3), (1429, 0, 1428, 41, 109, 0), (1433, 0, 1431, 1432, 109, 2), (1437, 0, 1436, 42, 109, 1), (1441, 0, 1440, 43, 109, 2), (1445, 0, 1444, 44, 109, 1), (1449, 0, 1448, 45, 109, 1), (1453, 0, 1452, 46, 109, 1), (1457, 0, 1456, 47, 109, 0), (1461, 0, 1459, 1460, 109, 4), (1465, 0, 1464, 48, 109, 3), (1469, 0, 1468, 49, 109, 3), (1473, 0, 1471, 1472, 109, 3), (1477, 0, 1475, 1476, 109, 4), (1481, 0, 1479, 1480, 109, 2), (1485, 0, 1483, 1484, 109, 0), (1489, 0, 1487, 1488, 109, 0), (1493, 0, 1491, 1492, 109, 5), (1497, 0, 1495, 1496, 109, 1), (1501, 0, 1499, 1500, 109, 0), (1505, 0, 1504, 50, 109, 0), (1509, 0, 1508, 51, 109, 1), (1512, 1, 1511, 0, 109, 1), (1515, 1, 1514, 0, 109, 1), (1519, 0, 1518, 52, 109, 2), (1524, 0, 1523, 53, 109, 0), (1528, 0, 1527, 54, 109, 1), (1532, 0, 1531, 55, 109, 0), (1536, 0, 1535, 56, 109, 1), (1540, 0, 1539, 57, 109, 1), (1544, 0, 1543, 58, 109, 1), (1547, 1, 1546, 0, 109, 1), (1551, 0, 1550, 59, 109, 0), (1555, 0, 1554, 60, 109, 1), (1559, 0, 1558, 61, 109, 0), (1563, 0, 1562, 62, 109, 1), (1567, 0, 1566, 63, 109, 1), (1571, 0, 1570, 64, 109, 1), (1575, 0, 1573, 1574, 109, 0), (1579, 0, 1577, 1578, 109, 1), (1583, 0, 1581, 1582, 109, 2), (1587, 0, 1586, 65, 109, 1), (1591, 0, 1590, 66, 109, 1), (1595, 0, 1594, 67, 109, 2), (1599, 0, 1598, 68, 109, 1), (1603, 0, 1601, 1602, 109, 1), (1607, 0, 1605, 1606, 109, 2), (1611, 0, 1610, 69, 109, 2), (1615, 0, 1614, 70, 109, 1), (1619, 0, 1618, 71, 109, 1), (1623, 0, 1622, 72, 109, 1), (1627, 0, 1626, 73, 109, 1), (1631, 0, 1630, 74, 109, 1), (1635, 0, 1634, 75, 109, 2), (1641, 0, 1640, 76, 109, 1), (1645, 0, 1644, 77, 109, 1), (1649, 0, 1648, 78, 109, 1), (1653, 0, 1652, 79, 109, 1), (1658, 0, 1656, 1657, 109, 1), (1662, 0, 1661, 80, 109, 1), (1666, 0, 1665, 81, 109, 0), (1670, 0, 1668, 1669, 109, 1), (1674, 0, 1672, 1673, 109, 1), (1678, 0, 1676, 1677, 109, 0), (1683, 0, 1681, 1682, 109, 2), (1687, 0, 1686, 82, 109, 1), (1691, 0, 1689, 1690, 109, 4), (1696, 0, 1694, 1695, 109, 3), (1700, 0, 1699, 83, 109, 2), (1704, 0, 1703, 84, 109, 4), (1708, 0, 1706, 1707, 109, 4), (1712, 0, 1711, 85, 109, 1), (1716, 0, 1714, 1715, 109, 2), (1720, 0, 1719, 86, 109, 2), (1724, 0, 1723, 87, 109, 2), (1728, 0, 1726, 1727, 109, 1), (1732, 0, 1730, 1731, 109, 3), (1735, 1, 1734, 0, 109, 2), (1739, 0, 1738, 88, 109, 3), (1743, 0, 1741, 1742, 109, 5), (1747, 0, 1745, 1746, 109, 2), (1751, 0, 1750, 89, 109, 1), (1755, 0, 1753, 1754, 109, 1), (1759, 0, 1758, 90, 109, 0), (1763, 0, 1762, 91, 109, 0), (1767, 0, 1765, 1766, 109, 1), (1771, 0, 1770, 92, 109, 0), (1775, 0, 1774, 93, 109, 2), (1779, 0, 1778, 94, 109, 0), (1783, 0, 1781, 1782, 109, 1), (1787, 0, 1785, 1786, 109, 3), (1791, 0, 1789, 1790, 109, 2), (1795, 0, 1794, 95, 109, 1), (1802, 0, 1800, 1801, 109, 1), (1806, 0, 1804, 1805, 109, 1), (1810, 0, 1808, 1809, 109, 0)]
/-- getstatic: own class, index, which (0 1 2 the arrays, 3 COMPACT_STRINGS, 4 SIOOBE_FORMATTER), kind, nest -/
def ax_gst : List (Nat × Nat × Nat × Nat × Nat) := [(1, 38, 0, 0, 1), (0, 155, 1, 0, 0), (0, 158, 2, 0, 0), (13, 38, 3, 1, 0), (13, 1053, 4, 2, 0)]
def ax_sg (m a b : Nat) (n : Int32) : Bool := ax_gst.any (fun q => Nat.beq q.1 (ax_mc m) && (Nat.beq q.2.1 n.toNatClampNeg && (Nat.beq q.2.2.1 a && Nat.beq q.2.2.2.1 b)))
def ax_sb (s : Nat) : Bool := match ax_sl s with
  | some k => Nat.ble k 65536
  | none => true
/-- a switch: its places are those of ax_tsw -/
def ax_tsok (pc j : Nat) : Bool := decide (0 ≤ (ax_tst j).2.1 ∧ (ax_tst j).2.2.1 < 1000 ∧ ((ax_tst j).2.2.1 - (ax_tst j).2.1 + 1).toNat = (ax_tst j).2.2.2.length) && ((List.range (ax_tst j).2.2.2.length).all (fun i => decide ((pc : Int) + (ax_tst j).2.2.2.getD i 0 = (ax_tsw j (Int32.ofInt ((ax_tst j).2.1 + i)) : Int)))) && decide ((pc : Int) + (ax_tst j).1 = (ax_tsw j (-1) : Int))
/-- the class of an array's elements -/
def ax_tc (t : Nat) : Nat := match t with
  | 3 => 2
  | 4 => 1
  | 5 => 3
  | _ => 4
def ax_fl (j : Nat) : Nat × Nat × Nat × Nat × Nat := ax_flt.getD j (99, 0, 0, 0, 0)
def ax_ml (j : Nat) : Nat × Nat × Nat × Nat × Nat × Nat × Nat × Nat × Nat × Nat × Nat := ax_mlt.getD j (99, 0, 0, 0, 0, 0, 0, 0, 0, 0, 0)
def ax_ctj (j : Nat) : Nat × Nat × Int32 × Nat := ax_ct.getD j (99, 0, 0, 0)
def ax_ltj (j : Nat) : Nat × Nat × Int32 × Nat := ax_lt.getD j (99, 0, 0, 0)
def ax_ktj (j : Nat) : Nat × Nat × String × Nat := ax_kt.getD j (99, 0, "", 0)
def ax_mpj (m : Nat) : Nat × Nat × Nat × Nat × Nat × Nat := ax_mp.getD m (0, 9, 0, 0, 0, 0)
def ax_cnd (b : Nat) : ClassFile.Cond := match b with
  | 0 => .eq
  | 1 => .ne
  | 2 => .lt
  | 3 => .ge
  | 4 => .gt
  | _ => .le
def ax_aty (b : Nat) : ArrayType := match b with
  | 0 => .int
  | 1 => .byte
  | _ => .boolean
/-- the instruction of an entry -/
def ax_enc (pc : Nat) (e : AI) : Instr := match e with
  | (op, _, a, b, n) => match op with
    | 0 => (match b with
      | 0 => .iconst n.toInt
      | 1 => .bipush n.toInt
      | 2 => .sipush n.toInt
      | 3 => .ldc (ax_ctj a).2.1
      | _ => .ldc_w (ax_ctj a).2.1)
    | 1 => (match b with
      | 0 => .lconst (Fin.ofNat 2 n.toNatClampNeg)
      | _ => .ldc2_w (ax_ltj a).2.1)
    | 2 => (match b with
      | 0 => .iload_n (Fin.ofNat 4 a)
      | 1 => .iload a
      | 2 => .lload_n (Fin.ofNat 4 a)
      | 3 => .lload a
      | 4 => .aload_n (Fin.ofNat 4 a)
      | _ => .aload a)
    | 3 => (match b with
      | 0 => .istore_n (Fin.ofNat 4 a)
      | 1 => .istore a
      | 2 => .lstore_n (Fin.ofNat 4 a)
      | 3 => .lstore a
      | 4 => .astore_n (Fin.ofNat 4 a)
      | _ => .astore a)
    | 4 => .iinc a n.toInt
    | 5 => (match b with
      | 0 => .iadd
      | 1 => .isub
      | 2 => .imul
      | 3 => .iand
      | 4 => .ior
      | 5 => .ishl
      | 6 => .ishr
      | _ => .iushr)
    | 6 => (match b with
      | 0 => .idiv
      | _ => .irem)
    | 7 => (match b with
      | 0 => .ladd
      | 1 => .lsub
      | 2 => .lmul
      | 3 => .land
      | _ => .lor)
    | 8 => (match b with
      | 0 => .ldiv
      | _ => .lrem)
    | 9 => (match b with
      | 0 => .ineg
      | 1 => .i2b
      | _ => .i2c)
    | 10 => .i2l
    | 11 => .l2i
    | 12 => .lcmp
    | 13 => .ifCond (ax_cnd b) ((a : Int) - (pc : Int))
    | 14 => .if_icmp (ax_cnd b) ((a : Int) - (pc : Int))
    | 15 => (match b with
      | 0 => .ifnull ((a : Int) - (pc : Int))
      | 1 => .ifnonnull ((a : Int) - (pc : Int))
      | 2 => .ifnull ((a : Int) - (pc : Int))
      | _ => .ifnonnull ((a : Int) - (pc : Int)))
    | 16 => .goto ((a : Int) - (pc : Int))
    | 17 => .tableswitch (ax_tst a).1 (ax_tst a).2.1 (ax_tst a).2.2.1 (ax_tst a).2.2.2.toArray
    | 18 => .ireturn
    | 19 => .lreturn
    | 20 => .areturn
    | 21 => .return_
    | 22 => .getfield (ax_fl n.toNatClampNeg).2.1
    | 23 => .putfield (ax_fl n.toNatClampNeg).2.1
    | 24 => .getstatic n.toNatClampNeg
    | 25 => .invokestatic (ax_ml n.toNatClampNeg).2.1
    | 26 => .new (ax_ktj n.toNatClampNeg).2.1
    | 27 => .newarray (ax_aty b)
    | 28 => .anewarray (ax_ktj n.toNatClampNeg).2.1
    | 29 => .multianewarray (ax_ktj n.toNatClampNeg).2.1 2
    | 30 => .arraylength
    | 31 => .iaload
    | 32 => .iastore
    | 33 => .baload
    | 34 => .bastore
    | 35 => .aaload
    | 36 => .aastore
    | 37 => .dup
    | 38 => .dup2
    | 39 => .pop
    | 40 => .aconst_null
    | 41 => .ldc (ax_strs.getD a ("", 0, "")).2.1
    | 42 => .invokespecial n.toNatClampNeg
    | 43 => .invokestatic n.toNatClampNeg
    | 44 => .invokevirtual n.toNatClampNeg
    | 45 => .checkcast (ax_ktj n.toNatClampNeg).2.1
    | 46 => .getfield (ax_fl n.toNatClampNeg).2.1
    | 47 => .getfield (ax_fl n.toNatClampNeg).2.1
    | 48 => .getfield (ax_fl n.toNatClampNeg).2.1
    | 49 => .putfield (ax_fl n.toNatClampNeg).2.1
    | 50 => .putfield (ax_fl n.toNatClampNeg).2.1
    | 51 => .aaload
    | 53 => .invokestatic n.toNatClampNeg
    | 52 => (match (ax_ml n.toNatClampNeg).2.2.2.1 with
      | 1 => .invokevirtual (ax_ml n.toNatClampNeg).2.1
      | _ => .invokespecial (ax_ml n.toNatClampNeg).2.1)
    | 54 => (match b with
      | 0 => .lshl
      | _ => .lshr)
    | 55 => .laload
    | 56 => .lastore
    | 57 => .newarray .long
    | 58 => .aaload
    | _ => .nop
/-- a field link of the method's class, to that field -/
def ax_sf (m a b : Nat) (n : Int32) (r : Bool) : Bool := Nat.beq (ax_fl n.toNatClampNeg).1 (ax_mc m) && (Nat.beq (ax_fl n.toNatClampNeg).2.2.1 a && (Nat.beq (ax_fl n.toNatClampNeg).2.2.2.1 b && (Nat.blt b (ax_N a) && ((ax_fr a b == r) && Nat.blt n.toNatClampNeg 221))))
/-- and it may be written there -/
def ax_sp (m a b : Nat) : Bool := Nat.blt a 13 && (!(ax_T a b).2.2.2 || (decide ((ax_y m).name = "<init>") && Nat.beq (ax_mc m) a))
def ax_sm (m a b : Nat) (n : Int32) : Bool := Nat.beq (ax_ml n.toNatClampNeg).1 (ax_mc m) && (Nat.beq (ax_ml n.toNatClampNeg).2.2.1 a && (Nat.blt a 255 && (Nat.blt n.toNatClampNeg 286 && Nat.beq b (cond (Nat.beq (ax_mpj a).2.1 1) (ax_mpj a).2.2.2.2.2 ((ax_mpj a).2.2.2.2.2 + 1)))))
def ax_sk2 (m : Nat) (n : Int32) (x : String) : Bool := Nat.beq (ax_ktj n.toNatClampNeg).1 (ax_mc m) && (decide ((ax_ktj n.toNatClampNeg).2.2.1 = x) && Nat.blt n.toNatClampNeg 17)
def ax_side (m pc : Nat) (e : AI) : Bool := match e with
  | (op, nx, a, b, n) => match op with
    | 0 => (match b with
      | 0 => Nat.beq nx (pc + 1) && decide (Int32.ofInt n.toInt = n)
      | 1 => Nat.beq nx (pc + 2) && decide ((Int8.ofInt n.toInt).toInt32 = n)
      | 2 => Nat.beq nx (pc + 3) && decide ((Int16.ofInt n.toInt).toInt32 = n)
      | 3 => Nat.beq nx (pc + 2) && (Nat.beq (ax_ctj a).1 (ax_mc m) && (decide ((ax_ctj a).2.2.1 = n) && Nat.blt a 6))
      | 4 => Nat.beq nx (pc + 3) && (Nat.beq (ax_ctj a).1 (ax_mc m) && (decide ((ax_ctj a).2.2.1 = n) && Nat.blt a 6))
      | _ => false)
    | 1 => (match b with
      | 0 => Nat.beq nx (pc + 1) && decide (Int64.ofNat ((Fin.ofNat 2 n.toNatClampNeg : Fin 2) : Nat) = n.toInt64)
      | 1 => Nat.beq nx (pc + 3) && (Nat.beq (ax_ltj a).1 (ax_mc m) && (decide ((ax_ltj a).2.2.1 = n) && Nat.blt a 10))
      | _ => false)
    | 2 => Nat.blt b 6 && (cond (Nat.beq (b % 2) 0) (Nat.beq nx (pc + 1) && Nat.blt a 4) (Nat.beq nx (pc + 2)))
    | 3 => Nat.blt b 6 && ((cond (Nat.beq (b % 2) 0) (Nat.beq nx (pc + 1) && Nat.blt a 4) (Nat.beq nx (pc + 2))) && Nat.blt (a + 1) (cond (Nat.beq (b / 2) 1) (ax_mL m) (ax_mL m + 1)))
    | 4 => Nat.beq nx (pc + 3) && (Nat.blt a (ax_mL m) && decide (Int32.ofInt n.toInt = n))
    | 5 => Nat.beq nx (pc + 1) && Nat.blt b 8
    | 6 => Nat.beq nx (pc + 1) && Nat.blt b 2
    | 7 => Nat.beq nx (pc + 1) && Nat.blt b 5
    | 8 => Nat.beq nx (pc + 1) && Nat.blt b 2
    | 9 => Nat.beq nx (pc + 1) && Nat.blt b 3
    | 10 => Nat.beq nx (pc + 1)
    | 11 => Nat.beq nx (pc + 1)
    | 12 => Nat.beq nx (pc + 1)
    | 13 => Nat.beq nx (pc + 3) && Nat.blt b 6
    | 14 => Nat.beq nx (pc + 3) && Nat.blt b 6
    | 15 => Nat.beq nx (pc + 3) && Nat.blt b 4
    | 16 => Nat.beq nx (pc + 3)
    | 17 => ax_tsok pc a
    | 18 => Nat.beq nx (pc + 1) && decide (ax_rt m = some (match b with | 0 => FieldType.int | 1 => .boolean | 2 => .byte | _ => .char))
    | 19 => Nat.beq nx (pc + 1) && decide (ax_rt m = some .long)
    | 20 => Nat.beq nx (pc + 1) && (match ax_rt m with | some (.object _) => true | some (.array _) => true | _ => false)
    | 21 => Nat.beq nx (pc + 1) && decide (ax_rt m = none)
    | 22 => Nat.beq nx (pc + 3) && ax_sf m a b n false
    | 46 => Nat.beq nx (pc + 3) && ax_sf m a b n true
    | 47 => Nat.beq nx (pc + 3) && ax_sf m a b n true
    | 48 => Nat.beq nx (pc + 3) && ax_sf m a b n true
    | 23 => Nat.beq nx (pc + 3) && (ax_sf m a b n false && (ax_sp m a b && decide (ax_fty a b = .int)))
    | 49 => Nat.beq nx (pc + 3) && (ax_sf m a b n false && (ax_sp m a b && decide (ax_fty a b = .boolean)))
    | 50 => Nat.beq nx (pc + 3) && (ax_sf m a b n true && (ax_sp m a b && (match ax_fty a b with | .object _ => true | .array _ => true | _ => false)))
    | 24 => Nat.beq nx (pc + 3) && ax_sg m a b n
    | 25 => Nat.beq nx (pc + 3) && (ax_sm m a b n && (Nat.beq (ax_ml n.toNatClampNeg).2.2.2.1 0 && Nat.beq (ax_mpj a).2.1 1))
    | 52 => Nat.beq nx (pc + 3) && (ax_sm m a b n && ((Nat.beq (ax_ml n.toNatClampNeg).2.2.2.1 1 || Nat.beq (ax_ml n.toNatClampNeg).2.2.2.1 2) && Nat.beq (ax_mpj a).2.1 0))
    | 26 => Nat.beq nx (pc + 3) && (ax_sk2 m n (ax_cn a) && (Nat.blt a 13 && Nat.beq b (ax_N a)))
    | 27 => Nat.beq nx (pc + 2) && (Nat.blt b 3 && (decide (ax_sk a = (1, b)) && ax_sb a))
    | 28 => Nat.beq nx (pc + 3) && (Nat.ble 3 b && (Nat.blt b 7 && (ax_sk2 m n (ax_cn (ax_tc b)) && (decide (ax_sk a = (1, b)) && ax_sb a))))
    | 29 => Nat.beq nx (pc + 4) && (ax_sk2 m n "[[I" && (decide (ax_sk a = (1, 7)) && (decide (ax_sk b = (1, 0)) && (!Nat.beq a b && (ax_sb a && ax_sb b)))))
    | 30 => Nat.beq nx (pc + 1)
    | 31 => Nat.beq nx (pc + 1)
    | 32 => Nat.beq nx (pc + 1)
    | 33 => Nat.beq nx (pc + 1)
    | 34 => Nat.beq nx (pc + 1)
    | 35 => Nat.beq nx (pc + 1)
    | 36 => Nat.beq nx (pc + 1)
    | 51 => Nat.beq nx (pc + 1)
    | 37 => Nat.beq nx (pc + 1)
    | 38 => Nat.beq nx (pc + 1)
    | 39 => Nat.beq nx (pc + 1)
    | 40 => Nat.beq nx (pc + 1)
    | 41 => Nat.beq nx (pc + 2) && (Nat.blt a 14 && Nat.beq (ax_mc m) 6)
    | 42 => Nat.beq nx (pc + 3) && decide (Cond.methodLink (ax_cn (ax_mc m)) n.toNatClampNeg objectInit ∈ lw_all)
    | 43 => Nat.beq nx (pc + 3) && decide (Cond.methodLink (ax_cn (ax_mc m)) n.toNatClampNeg arraycopyName ∈ lw_all)
    | 44 => Nat.beq nx (pc + 3) && (decide (Cond.methodLink (ax_cn (ax_mc m)) n.toNatClampNeg ⟨"[I", "clone", "()Ljava/lang/Object;"⟩ ∈ lw_all) && decide (ax_sk a = (1, 0) ∧ ax_sl a = none))
    | 45 => Nat.beq nx (pc + 3) && ax_sk2 m n "[I"
    | 53 => Nat.beq nx (pc + 3) && (Nat.blt b 2 && decide (Cond.methodLink (ax_cn (ax_mc m)) n.toNatClampNeg (cond (Nat.beq b 0) ⟨"java/lang/Math", "min", "(II)I"⟩ ⟨"java/lang/Math", "max", "(II)I"⟩) ∈ lw_all))
    | 54 => Nat.beq nx (pc + 1) && Nat.blt b 2
    | 55 => Nat.beq nx (pc + 1)
    | 56 => Nat.beq nx (pc + 1)
    | 57 => Nat.beq nx (pc + 2) && (Nat.beq b 8 && (decide (ax_sk a = (1, 8)) && ax_sb a))
    | 58 => Nat.beq nx (pc + 1)
    | _ => false
