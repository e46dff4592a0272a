/-! the tables are those of the bytecode: decode, links (written by wip/whole/gen5.py) -/
/-- of each method: place of its code, static, place of that word, of selects, of initialized; parameters -/
def ax_mp : List (Nat × Nat × Nat × Nat × Nat × Nat) := [(122, 0, 121, 0, 97, 0), (130, 0, 129, 0, 98, 0), (139, 0, 138, 0, 99, 0), (218, 0, 217, 0, 101, 0), (276, 0, 275, 0, 102, 0), (282, 0, 281, 0, 103, 0), (324, 0, 323, 0, 104, 0), (364, 0, 363, 0, 105, 0), (402, 0, 401, 0, 106, 0), (451, 0, 450, 0, 107, 0), (460, 0, 459, 0, 108, 0), (571, 0, 569, 570, 97, 3), (574, 1, 573, 0, 97, 3), (578, 0, 577, 0, 97, 1), (582, 0, 580, 581, 99, 3), (585, 1, 584, 0, 110, 2), (589, 0, 588, 1, 97, 1), (593, 0, 591, 592, 97, 2), (597, 0, 595, 596, 98, 1), (602, 0, 600, 601, 99, 0), (606, 0, 604, 605, 99, 0), (609, 1, 608, 0, 111, 1), (616, 0, 614, 615, 99, 0), (620, 0, 618, 619, 97, 4), (624, 0, 622, 623, 98, 3), (628, 1, 627, 0, 97, 4), (632, 0, 630, 631, 97, 3), (636, 0, 634, 635, 97, 4), (640, 0, 638, 639, 97, 2), (648, 0, 646, 647, 97, 5), (652, 0, 651, 2, 97, 1), (656, 0, 654, 655, 97, 1), (660, 0, 658, 659, 97, 0), (668, 0, 666, 667, 97, 0), (672, 0, 670, 671, 97, 0), (676, 0, 674, 675, 101, 2), (680, 0, 679, 3, 101, 2), (683, 1, 682, 0, 101, 1), (687, 1, 686, 0, 101, 4), (690, 1, 689, 0, 101, 3), (693, 1, 692, 0, 101, 1), (710, 1, 709, 0, 101, 4), (714, 0, 712, 713, 113, 0), (718, 0, 716, 717, 113, 0), (724, 0, 722, 723, 113, 1), (728, 0, 726, 727, 113, 0), (731, 1, 730, 0, 114, 2), (734, 1, 733, 0, 113, 2), (739, 1, 738, 0, 115, 3), (761, 1, 760, 0, 101, 3), (766, 0, 765, 4, 101, 3), (770, 0, 769, 5, 101, 0), (774, 0, 773, 6, 101, 0), (778, 0, 777, 7, 101, 0), (782, 0, 781, 8, 101, 2), (786, 0, 785, 9, 101, 1), (790, 0, 789, 10, 101, 1), (794, 0, 793, 11, 101, 1), (798, 0, 797, 12, 101, 1), (802, 0, 801, 13, 101, 2), (806, 0, 805, 14, 101, 1), (810, 0, 809, 15, 101, 1), (814, 0, 813, 16, 101, 1), (818, 0, 817, 17, 101, 1), (823, 0, 822, 0, 117, 1), (827, 1, 826, 0, 110, 2), (867, 0, 865, 866, 97, 0), (871, 0, 869, 870, 97, 1), (875, 0, 873, 874, 98, 1), (879, 0, 877, 878, 97, 2), (883, 0, 882, 18, 97, 2), (886, 1, 885, 0, 97, 2), (889, 1, 888, 0, 97, 2), (893, 0, 892, 19, 97, 1), (897, 0, 895, 896, 108, 1), (902, 0, 901, 20, 108, 0), (906, 0, 904, 905, 108, 1), (910, 1, 909, 0, 97, 5), (915, 0, 914, 21, 108, 0), (920, 0, 918, 919, 108, 0), (924, 0, 923, 22, 108, 1), (928, 0, 926, 927, 97, 1), (932, 0, 930, 931, 97, 2), (936, 0, 935, 23, 97, 1), (940, 0, 938, 939, 98, 1), (945, 0, 943, 944, 102, 4), (950, 0, 948, 949, 102, 3), (955, 0, 953, 954, 103, 1), (959, 0, 958, 24, 103, 2), (963, 0, 962, 25, 103, 1), (969, 0, 968, 26, 103, 0), (975, 1, 974, 0, 103, 3), (981, 0, 979, 980, 97, 1), (985, 0, 984, 27, 97, 0), (989, 0, 988, 28, 97, 2), (993, 0, 991, 992, 102, 0), (998, 0, 996, 997, 97, 1), (1002, 0, 1000, 1001, 97, 1), (1006, 0, 1004, 1005, 97, 0), (1010, 0, 1008, 1009, 97, 2), (1015, 0, 1013, 1014, 108, 2), (1019, 0, 1017, 1018, 97, 4), (1024, 0, 1022, 1023, 97, 3), (1028, 0, 1026, 1027, 104, 3), (1032, 0, 1030, 1031, 104, 3), (1037, 0, 1036, 29, 104, 2), (1042, 0, 1040, 1041, 108, 2), (1046, 0, 1044, 1045, 108, 2), (1050, 0, 1048, 1049, 108, 3), (1054, 0, 1052, 1053, 102, 2), (1060, 0, 1059, 30, 104, 0), (1065, 0, 1063, 1064, 104, 2), (1069, 0, 1067, 1068, 97, 4), (1074, 0, 1072, 1073, 97, 1), (1078, 0, 1076, 1077, 97, 2), (1082, 0, 1080, 1081, 108, 1), (1086, 0, 1084, 1085, 108, 2), (1092, 0, 1090, 1091, 97, 3), (1096, 0, 1095, 31, 97, 3), (1100, 0, 1098, 1099, 105, 4), (1104, 0, 1102, 1103, 105, 1), (1109, 0, 1107, 1108, 105, 4), (1113, 0, 1111, 1112, 105, 1), (1118, 0, 1117, 32, 105, 0), (1124, 0, 1122, 1123, 105, 2), (1128, 0, 1126, 1127, 97, 5), (1132, 0, 1130, 1131, 105, 1), (1136, 0, 1134, 1135, 97, 2), (1140, 0, 1138, 1139, 98, 1), (1144, 0, 1142, 1143, 97, 1), (1148, 0, 1147, 33, 97, 0), (1152, 0, 1150, 1151, 106, 2), (1158, 0, 1157, 34, 106, 1), (1162, 0, 1160, 1161, 106, 0), (1166, 0, 1165, 35, 106, 2), (1170, 0, 1169, 36, 106, 1), (1175, 0, 1173, 1174, 97, 1), (1179, 0, 1177, 1178, 97, 1), (1183, 0, 1181, 1182, 106, 1), (1187, 0, 1185, 1186, 97, 3), (1191, 0, 1189, 1190, 107, 3), (1196, 0, 1195, 37, 107, 3), (1202, 0, 1201, 38, 107, 2), (1206, 0, 1204, 1205, 97, 2), (1210, 1, 1209, 0, 97, 1), (1217, 0, 1215, 1216, 97, 1), (1221, 0, 1219, 1220, 97, 1), (1225, 0, 1223, 1224, 98, 1), (1229, 0, 1227, 1228, 99, 1), (1234, 0, 1232, 1233, 97, 1), (1238, 0, 1236, 1237, 97, 1), (1242, 0, 1240, 1241, 98, 0), (1246, 0, 1244, 1245, 97, 0), (1251, 0, 1250, 0, 109, 0), (1410, 0, 1408, 1409, 109, 1), (1413, 1, 1412, 0, 109, 3), (1417, 0, 1416, 39, 109, 1), (1421, 0, 1420, 40, 109, 1), (1425, 0, 1423, 1424, 109, 1), (1429, 0, 1427, 1428, 109, 3), (1433, 0, 1432, 41, 109, 0), (1437, 0, 1435, 1436, 109, 2), (1441, 0, 1440, 42, 109, 1), (1445, 0, 1444, 43, 109, 2), (1449, 0, 1448, 44, 109, 1), (1453, 0, 1452, 45, 109, 1), (1457, 0, 1456, 46, 109, 1), (1461, 0, 1460, 47, 109, 0), (1465, 0, 1463, 1464, 109, 4), (1469, 0, 1468, 48, 109, 3), (1473, 0, 1472, 49, 109, 3), (1477, 0, 1475, 1476, 109, 3), (1481, 0, 1479, 1480, 109, 4), (1485, 0, 1483, 1484, 109, 2), (1489, 0, 1487, 1488, 109, 0), (1493, 0, 1491, 1492, 109, 0), (1497, 0, 1495, 1496, 109, 5), (1501, 0, 1499, 1500, 109, 1), (1505, 0, 1503, 1504, 109, 0), (1509, 0, 1508, 50, 109, 0), (1513, 0, 1512, 51, 109, 1), (1516, 1, 1515, 0, 109, 1), (1519, 1, 1518, 0, 109, 1), (1523, 0, 1522, 52, 109, 2), (1528, 0, 1527, 53, 109, 0), (1532, 0, 1531, 54, 109, 1), (1536, 0, 1535, 55, 109, 0), (1540, 0, 1539, 56, 109, 1), (1544, 0, 1543, 57, 109, 1), (1548, 0, 1547, 58, 109, 1), (1551, 1, 1550, 0, 109, 1), (1555, 0, 1554, 59, 109, 0), (1559, 0, 1558, 60, 109, 1), (1563, 0, 1562, 61, 109, 0), (1567, 0, 1566, 62, 109, 1), (1571, 0, 1570, 63, 109, 1), (1575, 0, 1574, 64, 109, 1), (1579, 0, 1577, 1578, 109, 0), (1583, 0, 1581, 1582, 109, 1), (1587, 0, 1585, 1586, 109, 2), (1591, 0, 1590, 65, 109, 1), (1595, 0, 1594, 66, 109, 1), (1599, 0, 1598, 67, 109, 2), (1603, 0, 1602, 68, 109, 1), (1607, 0, 1605, 1606, 109, 1), (1611, 0, 1609, 1610, 109, 2), (1615, 0, 1614, 69, 109, 2), (1619, 0, 1618, 70, 109, 1), (1623, 0, 1622, 71, 109, 1), (1627, 0, 1626, 72, 109, 1), (1631, 0, 1630, 73, 109, 1), (1635, 0, 1634, 74, 109, 1), (1639, 0, 1638, 75, 109, 2), (1645, 0, 1644, 76, 109, 1), (1649, 0, 1648, 77, 109, 1), (1653, 0, 1652, 78, 109, 1), (1657, 0, 1656, 79, 109, 1), (1662, 0, 1660, 1661, 109, 1), (1666, 0, 1665, 80, 109, 1), (1670, 0, 1669, 81, 109, 0), (1674, 0, 1672, 1673, 109, 1), (1678, 0, 1676, 1677, 109, 1), (1682, 0, 1680, 1681, 109, 0), (1687, 0, 1685, 1686, 109, 2), (1691, 0, 1690, 82, 109, 1), (1695, 0, 1693, 1694, 109, 4), (1700, 0, 1698, 1699, 109, 3), (1704, 0, 1703, 83, 109, 2), (1708, 0, 1707, 84, 109, 4), (1712, 0, 1710, 1711, 109, 4), (1716, 0, 1715, 85, 109, 1), (1720, 0, 1718, 1719, 109, 2), (1724, 0, 1723, 86, 109, 2), (1728, 0, 1727, 87, 109, 2), (1732, 0, 1730, 1731, 109, 1), (1736, 0, 1734, 1735, 109, 3), (1739, 1, 1738, 0, 109, 2), (1743, 0, 1742, 88, 109, 3), (1747, 0, 1745, 1746, 109, 5), (1751, 0, 1749, 1750, 109, 2), (1755, 0, 1754, 89, 109, 1), (1759, 0, 1757, 1758, 109, 1), (1763, 0, 1762, 90, 109, 0), (1767, 0, 1766, 91, 109, 0), (1771, 0, 1769, 1770, 109, 1), (1775, 0, 1774, 92, 109, 0), (1779, 0, 1778, 93, 109, 2), (1783, 0, 1782, 94, 109, 0), (1787, 0, 1785, 1786, 109, 1), (1791, 0, 1789, 1790, 109, 3), (1795, 0, 1793, 1794, 109, 2), (1799, 0, 1798, 95, 109, 1), (1806, 0, 1804, 1805, 109, 1), (1810, 0, 1808, 1809, 109, 1), (1814, 0, 1812, 1813, 109, 0)]
/-- getstatic: own class, index, which (0 1 2 the arrays, 3 COMPACT_STRINGS, 4 SIOOBE_FORMATTER), kind, nest -/
def ax_gst : List (Nat × Nat × Nat × Nat × Nat) := [(1, 38, 0, 0, 1), (0, 159, 1, 0, 0), (0, 162, 2, 0, 0), (13, 38, 3, 1, 0), (13, 1053, 4, 2, 0)]
def ax_sg (m a b : Nat) (n : Int32) : Bool := ax_gst.any (fun q => Nat.beq q.1 (ax_mc m) && (Nat.beq q.2.1 n.toNatClampNeg && (Nat.beq q.2.2.1 a && Nat.beq q.2.2.2.1 b)))
def ax_sb (s : Nat) : Bool := match ax_sl s with
  | some k => Nat.ble k 65536
  | none => true
/-- a switch: its places are those of ax_tsw -/
def ax_tsok (pc j : Nat) : Bool := decide (0 ≤ (ax_tst j).2.1 ∧ (ax_tst j).2.2.1 < 1000 ∧ ((ax_tst j).2.2.1 - (ax_tst j).2.1 + 1).toNat = (ax_tst j).2.2.2.length) && ((List.range (ax_tst j).2.2.2.length).all (fun i => decide ((pc : Int) + (ax_tst j).2.2.2.getD i 0 = (ax_tsw j (Int32.ofInt ((ax_tst j).2.1 + i)) : Int)))) && decide ((pc : Int) + (ax_tst j).1 = (ax_tsw j (-1) : Int))
/-- the class of an array's elements -/
def ax_tc (t : Nat) : Nat := match t with
  | 3 => 2
  | 4 => 1
  | 5 => 3
  | _ => 4
def ax_fl (j : Nat) : Nat × Nat × Nat × Nat × Nat := ax_flt.getD j (99, 0, 0, 0, 0)
def ax_ml (j : Nat) : Nat × Nat × Nat × Nat × Nat × Nat × Nat × Nat × Nat × Nat × Nat := ax_mlt.getD j (99, 0, 0, 0, 0, 0, 0, 0, 0, 0, 0)
def ax_ctj (j : Nat) : Nat × Nat × Int32 × Nat := ax_ct.getD j (99, 0, 0, 0)
def ax_ltj (j : Nat) : Nat × Nat × Int32 × Nat := ax_lt.getD j (99, 0, 0, 0)
def ax_ktj (j : Nat) : Nat × Nat × String × Nat := ax_kt.getD j (99, 0, "", 0)
def ax_mpj (m : Nat) : Nat × Nat × Nat × Nat × Nat × Nat := ax_mp.getD m (0, 9, 0, 0, 0, 0)
def ax_cnd (b : Nat) : ClassFile.Cond := match b with
  | 0 => .eq
  | 1 => .ne
  | 2 => .lt
  | 3 => .ge
  | 4 => .gt
  | _ => .le
def ax_aty (b : Nat) : ArrayType := match b with
  | 0 => .int
  | 1 => .byte
  | _ => .boolean
/-- the instruction of an entry -/
def ax_enc (pc : Nat) (e : AI) : Instr := match e with
  | (op, _, a, b, n) => match op with
    | 0 => (match b with
      | 0 => .iconst n.toInt
      | 1 => .bipush n.toInt
      | 2 => .sipush n.toInt
      | 3 => .ldc (ax_ctj a).2.1
      | _ => .ldc_w (ax_ctj a).2.1)
    | 1 => (match b with
      | 0 => .lconst (Fin.ofNat 2 n.toNatClampNeg)
      | _ => .ldc2_w (ax_ltj a).2.1)
    | 2 => (match b with
      | 0 => .iload_n (Fin.ofNat 4 a)
      | 1 => .iload a
      | 2 => .lload_n (Fin.ofNat 4 a)
      | 3 => .lload a
      | 4 => .aload_n (Fin.ofNat 4 a)
      | _ => .aload a)
    | 3 => (match b with
      | 0 => .istore_n (Fin.ofNat 4 a)
      | 1 => .istore a
      | 2 => .lstore_n (Fin.ofNat 4 a)
      | 3 => .lstore a
      | 4 => .astore_n (Fin.ofNat 4 a)
      | _ => .astore a)
    | 4 => .iinc a n.toInt
    | 5 => (match b with
      | 0 => .iadd
      | 1 => .isub
      | 2 => .imul
      | 3 => .iand
      | 4 => .ior
      | 5 => .ishl
      | 6 => .ishr
      | _ => .iushr)
    | 6 => (match b with
      | 0 => .idiv
      | _ => .irem)
    | 7 => (match b with
      | 0 => .ladd
      | 1 => .lsub
      | _ => .lmul)
    | 8 => (match b with
      | 0 => .ldiv
      | _ => .lrem)
    | 9 => (match b with
      | 0 => .ineg
      | 1 => .i2b
      | _ => .i2c)
    | 10 => .i2l
    | 11 => .l2i
    | 12 => .lcmp
    | 13 => .ifCond (ax_cnd b) ((a : Int) - (pc : Int))
    | 14 => .if_icmp (ax_cnd b) ((a : Int) - (pc : Int))
    | 15 => (match b with
      | 0 => .ifnull ((a : Int) - (pc : Int))
      | 1 => .ifnonnull ((a : Int) - (pc : Int))
      | 2 => .ifnull ((a : Int) - (pc : Int))
      | _ => .ifnonnull ((a : Int) - (pc : Int)))
    | 16 => .goto ((a : Int) - (pc : Int))
    | 17 => .tableswitch (ax_tst a).1 (ax_tst a).2.1 (ax_tst a).2.2.1 (ax_tst a).2.2.2.toArray
    | 18 => .ireturn
    | 19 => .lreturn
    | 20 => .areturn
    | 21 => .return_
    | 22 => .getfield (ax_fl n.toNatClampNeg).2.1
    | 23 => .putfield (ax_fl n.toNatClampNeg).2.1
    | 24 => .getstatic n.toNatClampNeg
    | 25 => .invokestatic (ax_ml n.toNatClampNeg).2.1
    | 26 => .new (ax_ktj n.toNatClampNeg).2.1
    | 27 => .newarray (ax_aty b)
    | 28 => .anewarray (ax_ktj n.toNatClampNeg).2.1
    | 29 => .multianewarray (ax_ktj n.toNatClampNeg).2.1 2
    | 30 => .arraylength
    | 31 => .iaload
    | 32 => .iastore
    | 33 => .baload
    | 34 => .bastore
    | 35 => .aaload
    | 36 => .aastore
    | 37 => .dup
    | 38 => .dup2
    | 39 => .pop
    | 40 => .aconst_null
    | 41 => .ldc (ax_strs.getD a ("", 0, "")).2.1
    | 42 => .invokespecial n.toNatClampNeg
    | 43 => .invokestatic n.toNatClampNeg
    | 44 => .invokevirtual n.toNatClampNeg
    | 45 => .checkcast (ax_ktj n.toNatClampNeg).2.1
    | 46 => .getfield (ax_fl n.toNatClampNeg).2.1
    | 47 => .getfield (ax_fl n.toNatClampNeg).2.1
    | 48 => .getfield (ax_fl n.toNatClampNeg).2.1
    | 49 => .putfield (ax_fl n.toNatClampNeg).2.1
    | 50 => .putfield (ax_fl n.toNatClampNeg).2.1
    | 51 => .aaload
    | 53 => .invokestatic n.toNatClampNeg
    | 52 => (match (ax_ml n.toNatClampNeg).2.2.2.1 with
      | 1 => .invokevirtual (ax_ml n.toNatClampNeg).2.1
      | _ => .invokespecial (ax_ml n.toNatClampNeg).2.1)
    | _ => .nop
/-- a field link of the method's class, to that field -/
def ax_sf (m a b : Nat) (n : Int32) (r : Bool) : Bool := Nat.beq (ax_fl n.toNatClampNeg).1 (ax_mc m) && (Nat.beq (ax_fl n.toNatClampNeg).2.2.1 a && (Nat.beq (ax_fl n.toNatClampNeg).2.2.2.1 b && (Nat.blt b (ax_N a) && ((ax_fr a b == r) && Nat.blt n.toNatClampNeg 223))))
/-- and it may be written there -/
def ax_sp (m a b : Nat) : Bool := Nat.blt a 13 && (!(ax_T a b).2.2.2 || (decide ((ax_y m).name = "<init>") && Nat.beq (ax_mc m) a))
def ax_sm (m a b : Nat) (n : Int32) : Bool := Nat.beq (ax_ml n.toNatClampNeg).1 (ax_mc m) && (Nat.beq (ax_ml n.toNatClampNeg).2.2.1 a && (Nat.blt a 255 && (Nat.blt n.toNatClampNeg 286 && Nat.beq b (cond (Nat.beq (ax_mpj a).2.1 1) (ax_mpj a).2.2.2.2.2 ((ax_mpj a).2.2.2.2.2 + 1)))))
def ax_sk2 (m : Nat) (n : Int32) (x : String) : Bool := Nat.beq (ax_ktj n.toNatClampNeg).1 (ax_mc m) && (decide ((ax_ktj n.toNatClampNeg).2.2.1 = x) && Nat.blt n.toNatClampNeg 17)
def ax_side (m pc : Nat) (e : AI) : Bool := match e with
  | (op, nx, a, b, n) => match op with
    | 0 => (match b with
      | 0 => Nat.beq nx (pc + 1) && decide (Int32.ofInt n.toInt = n)
      | 1 => Nat.beq nx (pc + 2) && decide ((Int8.ofInt n.toInt).toInt32 = n)
      | 2 => Nat.beq nx (pc + 3) && decide ((Int16.ofInt n.toInt).toInt32 = n)
      | 3 => Nat.beq nx (pc + 2) && (Nat.beq (ax_ctj a).1 (ax_mc m) && (decide ((ax_ctj a).2.2.1 = n) && Nat.blt a 6))
      | 4 => Nat.beq nx (pc + 3) && (Nat.beq (ax_ctj a).1 (ax_mc m) && (decide ((ax_ctj a).2.2.1 = n) && Nat.blt a 6))
      | _ => false)
    | 1 => (match b with
      | 0 => Nat.beq nx (pc + 1) && decide (Int64.ofNat ((Fin.ofNat 2 n.toNatClampNeg : Fin 2) : Nat) = n.toInt64)
      | 1 => Nat.beq nx (pc + 3) && (Nat.beq (ax_ltj a).1 (ax_mc m) && (decide ((ax_ltj a).2.2.1 = n) && Nat.blt a 9))
      | _ => false)
    | 2 => Nat.blt b 6 && (cond (Nat.beq (b % 2) 0) (Nat.beq nx (pc + 1) && Nat.blt a 4) (Nat.beq nx (pc + 2)))
    | 3 => Nat.blt b 6 && ((cond (Nat.beq (b % 2) 0) (Nat.beq nx (pc + 1) && Nat.blt a 4) (Nat.beq nx (pc + 2))) && Nat.blt (a + 1) (cond (Nat.beq (b / 2) 1) (ax_mL m) (ax_mL m + 1)))
    | 4 => Nat.beq nx (pc + 3) && (Nat.blt a (ax_mL m) && decide (Int32.ofInt n.toInt = n))
    | 5 => Nat.beq nx (pc + 1) && Nat.blt b 8
    | 6 => Nat.beq nx (pc + 1) && Nat.blt b 2
    | 7 => Nat.beq nx (pc + 1) && Nat.blt b 3
    | 8 => Nat.beq nx (pc + 1) && Nat.blt b 2
    | 9 => Nat.beq nx (pc + 1) && Nat.blt b 3
    | 10 => Nat.beq nx (pc + 1)
    | 11 => Nat.beq nx (pc + 1)
    | 12 => Nat.beq nx (pc + 1)
    | 13 => Nat.beq nx (pc + 3) && Nat.blt b 6
    | 14 => Nat.beq nx (pc + 3) && Nat.blt b 6
    | 15 => Nat.beq nx (pc + 3) && Nat.blt b 4
    | 16 => Nat.beq nx (pc + 3)
    | 17 => ax_tsok pc a
    | 18 => Nat.beq nx (pc + 1) && decide (ax_rt m = some (match b with | 0 => FieldType.int | 1 => .boolean | 2 => .byte | _ => .char))
    | 19 => Nat.beq nx (pc + 1) && decide (ax_rt m = some .long)
    | 20 => Nat.beq nx (pc + 1) && (match ax_rt m with | some (.object _) => true | some (.array _) => true | _ => false)
    | 21 => Nat.beq nx (pc + 1) && decide (ax_rt m = none)
    | 22 => Nat.beq nx (pc + 3) && ax_sf m a b n false
    | 46 => Nat.beq nx (pc + 3) && ax_sf m a b n true
    | 47 => Nat.beq nx (pc + 3) && ax_sf m a b n true
    | 48 => Nat.beq nx (pc + 3) && ax_sf m a b n true
    | 23 => Nat.beq nx (pc + 3) && (ax_sf m a b n false && (ax_sp m a b && decide (ax_fty a b = .int)))
    | 49 => Nat.beq nx (pc + 3) && (ax_sf m a b n false && (ax_sp m a b && decide (ax_fty a b = .boolean)))
    | 50 => Nat.beq nx (pc + 3) && (ax_sf m a b n true && (ax_sp m a b && (match ax_fty a b with | .object _ => true | .array _ => true | _ => false)))
    | 24 => Nat.beq nx (pc + 3) && ax_sg m a b n
    | 25 => Nat.beq nx (pc + 3) && (ax_sm m a b n && (Nat.beq (ax_ml n.toNatClampNeg).2.2.2.1 0 && Nat.beq (ax_mpj a).2.1 1))
    | 52 => Nat.beq nx (pc + 3) && (ax_sm m a b n && ((Nat.beq (ax_ml n.toNatClampNeg).2.2.2.1 1 || Nat.beq (ax_ml n.toNatClampNeg).2.2.2.1 2) && Nat.beq (ax_mpj a).2.1 0))
    | 26 => Nat.beq nx (pc + 3) && (ax_sk2 m n (ax_cn a) && (Nat.blt a 13 && Nat.beq b (ax_N a)))
    | 27 => Nat.beq nx (pc + 2) && (Nat.blt b 3 && (decide (ax_sk a = (1, b)) && ax_sb a))
    | 28 => Nat.beq nx (pc + 3) && (Nat.ble 3 b && (Nat.blt b 7 && (ax_sk2 m n (ax_cn (ax_tc b)) && (decide (ax_sk a = (1, b)) && ax_sb a))))
    | 29 => Nat.beq nx (pc + 4) && (ax_sk2 m n "[[I" && (decide (ax_sk a = (1, 7)) && (decide (ax_sk b = (1, 0)) && (!Nat.beq a b && (ax_sb a && ax_sb b)))))
    | 30 => Nat.beq nx (pc + 1)
    | 31 => Nat.beq nx (pc + 1)
    | 32 => Nat.beq nx (pc + 1)
    | 33 => Nat.beq nx (pc + 1)
    | 34 => Nat.beq nx (pc + 1)
    | 35 => Nat.beq nx (pc + 1)
    | 36 => Nat.beq nx (pc + 1)
    | 51 => Nat.beq nx (pc + 1)
    | 37 => Nat.beq nx (pc + 1)
    | 38 => Nat.beq nx (pc + 1)
    | 39 => Nat.beq nx (pc + 1)
    | 40 => Nat.beq nx (pc + 1)
    | 41 => Nat.beq nx (pc + 2) && (Nat.blt a 14 && Nat.beq (ax_mc m) 6)
    | 42 => Nat.beq nx (pc + 3) && decide (Cond.methodLink (ax_cn (ax_mc m)) n.toNatClampNeg objectInit ∈ lw_all)
    | 43 => Nat.beq nx (pc + 3) && decide (Cond.methodLink (ax_cn (ax_mc m)) n.toNatClampNeg arraycopyName ∈ lw_all)
    | 44 => Nat.beq nx (pc + 3) && (decide (Cond.methodLink (ax_cn (ax_mc m)) n.toNatClampNeg ⟨"[I", "clone", "()Ljava/lang/Object;"⟩ ∈ lw_all) && decide (ax_sk a = (1, 0) ∧ ax_sl a = none))
    | 45 => Nat.beq nx (pc + 3) && ax_sk2 m n "[I"
    | 53 => Nat.beq nx (pc + 3) && (Nat.blt b 2 && decide (Cond.methodLink (ax_cn (ax_mc m)) n.toNatClampNeg (cond (Nat.beq b 0) ⟨"java/lang/Math", "min", "(II)I"⟩ ⟨"java/lang/Math", "max", "(II)I"⟩) ∈ lw_all))
    | _ => false
