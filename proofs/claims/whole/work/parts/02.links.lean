def db_len (pc : Nat) : Instr → Nat
  | .tableswitch _ lo hi _ => 1 + (3 - pc % 4) + 12 + 4 * (hi - lo + 1).toNat
  | .bipush _ | .ldc _ | .iload _ | .lload _ | .aload _ | .istore _ | .lstore _ | .astore _ | .newarray _ => 2
  | .sipush _ | .ldc_w _ | .ldc2_w _ | .iinc _ _ | .ifCond _ _ | .if_icmp _ _ | .if_acmp _ _ | .goto _ | .getstatic _ | .putstatic _ | .getfield _ | .putfield _ | .invokevirtual _ | .invokespecial _ | .invokestatic _ | .new _ | .anewarray _ | .checkcast _ | .instanceof _ | .ifnull _ | .ifnonnull _ => 3
  | .multianewarray _ _ => 4
  | _ => 1

def db_isN : Cond → Bool
  | .methodLinkNest .. => true
  | _ => false
noncomputable def db_T : List Cond := lw_tbl.filter (fun w => goodWord w || db_isN w)
/-- the words that a link needs -/
noncomputable def db_lws (ow : Nat) (e : db_L) : List Cond := match e with
  | (ix, 0, ci, k, _, _) => (match db_cl[ci]? with
    | some (C, T, _) => [.fieldLink (db_cn ow) ix C (T k).2.1 (T k).2.2.1]
    | none => [])
  | (ix, 1, k, _, _, _) => (match db_ms[k]? with
    | some mr => [.methodLink (db_cn ow) ix mr.1, .instanceMethod mr.1, .selects mr.1.cls mr.1 mr.1, .initialized mr.1.cls]
    | none => [])
  | (ix, 2, k, _, _, _) => (match db_ms[k]? with
    | some mr => [.methodLink (db_cn ow) ix mr.1, .static mr.1, .initialized mr.1.cls]
    | none => [])
  | (ix, 3, k, _, _, _) => (match db_ms[k]? with
    | some mr => [.methodLink (db_cn ow) ix mr.1, .instanceMethod mr.1, .initialized mr.1.cls]
    | none => [])
  | (ix, 4, k, _, _, h) => (match db_ms[k]? with
    | some mr => [.methodLinkNest (db_cn ow) ix mr.1 h, .static mr.1, .initialized mr.1.cls]
    | none => [])
  | (ix, 5, k, _, _, h) => (match db_ms[k]? with
    | some mr => [.methodLinkNest (db_cn ow) ix mr.1 h, .instanceMethod mr.1, .initialized mr.1.cls]
    | none => [])
  | (ix, 6, _, _, _, _) => [.methodLink (db_cn ow) ix Lib.objectInit, .instanceMethod Lib.objectInit, .code Lib.objectInit ⟨#[0xb1]⟩ 1 none]
  | (ix, 7, _, _, _, _) => [.methodLink (db_cn ow) ix Lib.Math.min.name, .static Lib.Math.min.name, .initialized "java/lang/Math", .code Lib.Math.min.name Lib.Math.min.code 2 (some .int)]
  | (ix, 8, _, _, _, _) => [.methodLink (db_cn ow) ix Lib.Math.max.name, .static Lib.Math.max.name, .initialized "java/lang/Math", .code Lib.Math.max.name Lib.Math.max.code 2 (some .int)]
  | (ix, 9, _, _, _, _) => [.methodLink (db_cn ow) ix Lib.MathLoose.abs_long.x, .static Lib.MathLoose.abs_long.x, .initialized "java/lang/Math", .code Lib.MathLoose.abs_long.x Lib.MathLoose.abs_long.code 2 (some .long)]
  | (ix, 10, _, _, _, _) => [.methodLink (db_cn ow) ix arraycopyName, .native arraycopyName, .static arraycopyName, .initialized "java/lang/System"]
  | (ix, 11, ci, n, _, _) => [.classLink (db_cn ow) ix (db_cn ci), .instantiable (db_cn ci) n, .initialized (db_cn ci)]
  | (ix, 12, _, _, v, _) => [.constant (db_cn ow) ix (Int32.ofInt v)]
  | (ix, 19, _, _, v, _) => [.constantLong (db_cn ow) ix (Int64.ofInt v)]
  | (ix, 14, _, _, _, _) => [.fieldLink (db_cn ow) ix "java/lang/String" "COMPACT_STRINGS" "Z"]
  | (ix, 15, _, _, _, _) => [.fieldLink (db_cn ow) ix "jdk/internal/util/Preconditions" "SIOOBE_FORMATTER" "Ljava/util/function/BiFunction;"]
  | (ix, 16, 0, _, _, _) => [.fieldLink (db_cn ow) ix "java/lang/String" "value" "[B"]
  | (ix, 16, 1, _, _, _) => [.fieldLink (db_cn ow) ix "java/lang/String" "coder" "B"]
  | (ix, 17, 0, _, _, _) => [.classLink (db_cn ow) ix ("[" ++ (FieldType.array .int).toString)]
  | (ix, 17, 1, _, _, _) => [.classLink (db_cn ow) ix ("[" ++ (FieldType.array .long).toString)]
  | _ => []
noncomputable def db_lsd (ow : Nat) (e : db_L) : Bool := match e with
  | (_, 0, ci, k, _, _) => (match db_cl[ci]? with
    | some (C, T, N) => Nat.blt k N && decide ((T k).1 = C)
    | none => false)
  | (_, 1, k, n, _, _) | (_, 2, k, n, _, _) | (_, 4, k, n, _, _) => (match db_ms[k]? with
    | some mr => decide ((parseMethodDescriptor mr.1.desc).map (fun d => d.parameters.length) = some n)
    | none => false)
  | (_, 3, k, n, _, _) | (_, 5, k, n, _, _) => (match db_ms[k]? with
    | some mr => decide ((parseMethodDescriptor mr.1.desc).map (fun d => d.parameters.length) = some n) && decide (mr.1.name = "<init>") && decide (mr.2.2.2.1 = none)
    | none => false)
  | (_, 11, ci, n, _, _) => (match db_cl[ci]? with
    | some (C, _, N) => Nat.beq N n && decide (C = db_cn ci)
    | none => false)
  | (ix, 13, _, _, _, _) => Nat.beq ix 39 && Nat.beq ow 8
  | _ => true
noncomputable def db_lck (ow : Nat) (lk : List db_L) (ids : List (List Nat)) : Bool := Nat.beq lk.length ids.length && (lk.zip ids).all fun q => db_lsd ow q.1 && Nat.beq (db_lws ow q.1).length q.2.length && ((db_lws ow q.1).zip q.2).all fun r => decide (lw_tbl[r.2]? = some r.1) && (goodWord r.1 || db_isN r.1)
def db_dck (b : ByteArray) (tb : List (Nat × Instr × Option (List Nat))) : Bool := tb.all fun e => decide (decode b e.1 = .ok (e.2.1, db_len e.1 e.2.1))
noncomputable def db_mck (mr : db_MR) : Bool := plainFor mr.1 && decide (mr.1.cls = db_cn mr.2.2.2.2.1) && Nat.ble mr.2.2.1 100 && decide (mr.1.cls ≠ "java/lang/invoke/MethodHandle") && decide (mr.1.cls ≠ "java/lang/invoke/VarHandle")

noncomputable def dbi_0 : List (List Nat) := [[479, 181, 182], [480, 310, 162], [481, 312, 162], [482], [485], [484], [800, 801, 802, 162], [805, 806, 807, 157], [838, 839, 840, 157], [842, 844, 7, 165], [942, 943, 944, 157], [946, 947, 948, 162], [846, 847, 848, 157], [850, 722, 154], [851, 852, 853, 157], [320], [855, 856, 165], [858, 859, 860, 157], [862, 863, 864, 157], [325], [880, 882, 8, 165], [329], [889, 891, 9, 165], [923, 925, 11, 165], [932, 934, 12, 165], [884, 885, 886, 157], [334], [893, 894, 895, 157], [898, 899, 900, 157], [910, 911, 912, 157], [919, 921, 10, 165], [337], [927, 903, 904, 157], [928, 929, 930, 162], [936, 938, 13, 165], [351], [357], [941, 915, 916, 157], [940, 867, 868, 157], [341], [347]]
noncomputable def dbi_1 : List (List Nat) := [[544, 181, 182], [547], [551], [545, 419, 163], [546, 421, 163], [556], [557], [558], [559], [553], [554], [555], [560], [318], [1311, 1160, 1161, 167], [1312, 1156, 1157, 167], [1224, 1102, 1103, 162], [1225, 1212, 1213, 167], [549], [1275, 1277, 30, 168], [1323, 959, 154], [1317, 192, 156], [1313, 1315, 32, 168], [1318, 1166, 1167, 167], [1319, 1321, 33, 168], [1324, 1326, 34, 168], [1344, 1346, 35, 168], [1348, 1350, 36, 168], [1396, 1398, 39, 168], [342], [348], [1374, 1152, 1153, 167], [352], [1360, 1361, 1362, 163], [1365, 1367, 37, 168], [1370, 1372, 38, 168], [1369, 1091, 154], [1375, 1204, 1205, 167]]
noncomputable def dbi_2 : List (List Nat) := [[423, 181, 182], [424], [428], [971, 192, 156], [432], [434], [1364, 959, 154], [1130, 1091, 154]]
noncomputable def dbi_3 : List (List Nat) := [[589, 181, 182], [592], [596], [594], [595], [1426, 1427, 173, 1428], [590], [319], [355], [1420, 1152, 1153, 167], [1421, 1043, 1044, 162], [1422, 1423, 1424, 169], [1437, 1439, 41, 169]]
noncomputable def dbi_4 : List (List Nat) := [[451, 181, 182], [452], [462], [453], [456], [459], [1033, 963, 154]]
noncomputable def dbi_5 : List (List Nat) := [[498, 181, 182], [499, 447, 164], [500, 449, 164], [501], [505], [503], [504], [988, 973, 974, 164], [454], [506], [989, 806, 807, 157], [990, 839, 840, 157], [991, 993, 16, 166], [1028, 943, 944, 157], [1000, 852, 853, 157], [995, 847, 848, 157], [996, 998, 17, 166], [1006, 722, 154], [457], [461], [1005, 859, 860, 157], [1001, 1003, 18, 166], [1007, 1009, 19, 166], [464], [1011, 899, 900, 157], [1012, 1014, 20, 166], [1018, 1020, 21, 166], [1027, 915, 916, 157], [1016, 894, 895, 157], [1017, 885, 886, 157], [1022, 1023, 1024, 157], [1026, 911, 912, 157]]
noncomputable def dbi_6 : List (List Nat) := [[523, 181, 182], [524], [526], [528], [529], [367], [431], [333], [425], [1163, 1047, 1048, 167], [321], [1164, 1091, 154], [326], [330], [1155, 1156, 1157, 167], [340], [345], [1159, 1160, 1161, 167], [1165, 1166, 1167, 167], [1169, 1171, 26, 167], [1173, 1059, 1060, 167], [364], [366], [1215, 1152, 1153, 167]]
noncomputable def dbi_7 : List (List Nat) := [[613, 181, 182], [618], [620], [614, 419, 163], [615, 421, 163], [625], [626], [621], [622], [623], [624], [1479, 959, 154], [616], [1449, 192, 156], [627], [1450], [460], [463], [1451, 1453, 42, 170], [1455, 1457, 43, 170], [1459, 1198, 1199, 170], [322], [1460, 1462, 44, 170], [1466, 1127, 1128, 163], [426], [1467, 1469, 45, 170], [1471, 1059, 1060, 167], [429], [1472, 1473, 174], [1464], [1465, 1043, 1044, 162], [356], [1201, 1152, 1153, 167], [1202, 722, 154], [435], [346], [1203, 1204, 1205, 167], [1492, 1361, 1362, 163], [1493, 1446, 1447, 170]]
noncomputable def dbi_8 : List (List Nat) := [[213, 181, 182], [271], [274], [276], [278], [279], [280], [281], [282], [], [215, 216, 217, 158], [225, 226, 227, 158], [263, 264, 157], [266, 267, 157], [272], [809, 810, 173, 811], [284], [283], [812, 813, 157], [815, 817, 3, 157], [819, 821, 4, 157], [828, 829, 157], [831, 833, 6, 157], [835, 836, 157], [823], [824, 826, 5, 157], [888, 847, 848, 157], [879, 859, 860, 157], [897, 885, 886, 157], [870, 852, 853, 157], [918, 722, 154], [914, 915, 916, 157], [866, 867, 868, 157], [871, 872, 873, 162], [875, 876, 877, 162], [902, 903, 904, 157], [906, 907, 908, 162], [269], [270]]
noncomputable def dbi_9 : List (List Nat) := [[314, 181, 182], [317], [324], [328], [315], [332], [336], [339], [344], [350], [354], [359], [361], [363], [365], [372], [373], [374], [376], [804, 192, 156], [375], [958, 959, 154], [962, 963, 154], [368], [370], [966, 779, 778, 172], [950, 952, 14, 162], [1109, 1091, 154], [1101, 1102, 1103, 162], [1105, 1107, 23, 162], [1242, 1243, 162], [1245, 1246, 162], [1260, 1239, 1240, 162], [1256, 1258, 29, 162], [1261, 1262, 174], [1291, 1293, 31, 162]]
noncomputable def dbi_10 : List (List Nat) := [[188, 181, 182], [189], [194], [196], [197], [191, 192, 156], [721, 722, 154], [748, 718, 719, 155], [733, 734, 156]]
noncomputable def dbi_11_0 : List (List Nat) := [[180, 181, 182], [183, 184, 155], [185, 186, 155], [653], [208, 209, 157], [210, 211, 157], [654], [309, 310, 162], [311, 312, 162], [657], [418, 419, 163], [420, 421, 163], [658], [446, 447, 164], [448, 449, 164], [659], [474, 475, 165], [476, 477, 165], [655], [493, 494, 166], [495, 496, 166], [656], [518, 519, 167], [520, 521, 167], [660], [539, 540, 168], [541, 542, 168], [661], [584, 585, 169], [586, 587, 169], [662], [608, 609, 170], [610, 611, 170], [663], [664], [665], [666], [652], [591], [593]]
noncomputable def dbi_11_1 : List (List Nat) := [[717, 718, 719, 155], [724, 722, 154], [725, 727, 0, 154], [729, 730, 731, 155], [736, 738, 1, 154], [744, 745, 746, 155], [749, 750, 751, 155], [753, 754, 755, 155], [761, 763, 2, 154], [195], [769, 770, 771, 155], [773, 774, 775, 155], [777, 779, 778, 172], [784, 785, 786, 157], [788, 789, 790, 157], [273], [796, 797, 798, 165], [483], [954, 955, 956, 162], [967, 968, 969, 163], [972, 973, 974, 164], [323], [976, 978, 15, 154], [984, 985, 986, 166], [502], [1029, 1030, 1031, 164], [458], [275], [277], [1042, 1043, 1044, 162], [436], [1046, 1047, 1048, 167], [433], [1054, 1056, 22, 154], [427], [1058, 1059, 1060, 167], [335], [327], [430], [331]]
noncomputable def dbi_11_2 : List (List Nat) := [[338], [349], [353], [358], [343], [198], [369], [1090, 1091, 154], [371], [1097, 1098, 1099, 162], [1114, 1115, 1116, 162], [360], [362], [1126, 1127, 1128, 163], [1143, 1145, 24, 154], [1151, 1152, 1153, 167], [1147, 1149, 25, 154], [1178, 1180, 27, 154], [1182, 1156, 1157, 167], [525], [1183, 1160, 1161, 167], [1184, 1166, 1167, 167], [527], [1197, 1198, 1199, 170], [1211, 1212, 1213, 167], [1220, 1221, 1222, 168], [1234, 1236, 28, 154], [1238, 1239, 1240, 162], [1252, 1253, 1254, 162], [1271, 1272, 1273, 168], [550], [548], [1287, 1288, 1289, 162], [1295, 1262, 174], [1304, 1305, 154], [1307, 1308, 1309, 168], [1332, 1333, 1334, 168], [1340, 1341, 1342, 168], [1356, 1357, 1358, 168], [552]]
noncomputable def dbi_11_3 : List (List Nat) := [[1392, 1393, 1394, 168], [1404, 1405, 1406, 168], [1412, 1414, 40, 154], [1416, 1417, 1418, 169], [1433, 1434, 1435, 169], [455], [1445, 1446, 1447, 170], [1475, 1476, 1477, 170], [617], [619], [1488, 1489, 1490, 170], [1494, 1423, 1424, 169], [667], [1499, 1361, 1362, 163], [965, 959, 154], [961, 810, 173, 811]]
noncomputable def dbi_12_0 : List (List Nat) := [[1509, 181, 182], [1513], [1514], [1515], [1516], [1517], [1520], [1521], [1530], [1531], [1532], [1535], [1537], [1538], [1543], [1545], [1546], [1547], [1548], [1549], [1511], [1510], [1512], [2293, 1427, 173, 1428], [1665, 1667, 46, 171], [1677, 1679, 48, 171], [1673, 1675, 47, 171], [1681, 1682, 171], [1688], [2034], [1899, 1900, 171], [1971, 1972, 171], [1519], [1526], [1525], [1717, 1719, 52, 171], [1524], [1721, 1722, 171], [1529], [1724]]
noncomputable def dbi_12_1 : List (List Nat) := [[1725], [1528], [1726, 1727, 171], [1527], [1729, 1731, 53, 171], [1737, 1738, 171], [1740, 1742, 55, 171], [1824], [1733, 1735, 54, 171], [1768, 1770, 62, 171], [1772, 1774, 63, 171], [1776, 1778, 64, 171], [1780, 1782, 65, 171], [1784, 1786, 66, 171], [1788, 1790, 67, 171], [1792, 1794, 68, 171], [1796, 1798, 69, 171], [1800, 1802, 70, 171], [1804, 1806, 71, 171], [1808, 1810, 72, 171], [1812, 1814, 73, 171], [1816, 1818, 74, 171], [1820, 1822, 75, 171], [1825, 1827, 76, 171], [1829, 1831, 77, 171], [1833, 1835, 78, 171], [1837, 1839, 79, 171], [1841, 1843, 80, 171], [1845, 1847, 81, 171], [1764, 1766, 61, 171], [1522], [1523], [1756, 1758, 59, 171], [1713, 1715, 51, 171], [1849, 1851, 82, 171], [1518], [1697, 1699, 49, 171], [1752, 1754, 58, 171], [1861, 1862, 171], [1857, 1859, 84, 171]]
noncomputable def dbi_12_2 : List (List Nat) := [[1760, 1762, 60, 171], [1853, 1855, 83, 171], [1888, 1889, 173, 1890], [1884, 1886, 90, 171], [1876, 1878, 88, 171], [1880, 1882, 89, 171], [1748, 1750, 57, 171], [1895, 1897, 92, 171], [1891, 1893, 91, 171], [1902, 1904, 93, 171], [1709, 1711, 50, 171], [1744, 1746, 56, 171], [1864, 1866, 85, 171], [1868, 1870, 86, 171], [1872, 1874, 87, 171], [1906, 1908, 94, 171], [1910, 1912, 95, 171], [1914, 1916, 96, 171], [1918, 1920, 97, 171], [1922, 1924, 98, 171], [1938, 1940, 101, 171], [1534], [1934, 1936, 100, 171], [1930, 1932, 99, 171], [1967, 1969, 107, 171], [1963, 1965, 106, 171], [1959, 1961, 105, 171], [1987, 810, 173, 811], [1946], [1947, 1949, 102, 171], [1951, 1953, 103, 171], [1955, 1957, 104, 171], [1978, 1980, 108, 171], [1982], [1983, 1985, 109, 171], [1988], [1989], [1994, 1996, 110, 171], [2002, 2004, 111, 171], [2014, 2016, 112, 171]]
noncomputable def dbi_12_3 : List (List Nat) := [[2022, 2024, 113, 171], [2030, 2032, 114, 171], [2051, 2053, 117, 171], [1536], [2047, 2049, 116, 171], [2043, 2045, 115, 171], [2067, 2069, 118, 171], [1539], [2107, 2109, 125, 171], [2111, 2113, 126, 171], [1540], [2103, 2105, 124, 171], [2115, 2117, 127, 171], [2095, 2097, 122, 171], [2099, 2101, 123, 171], [2087, 2089, 120, 171], [2083, 2085, 119, 171], [2091, 2093, 121, 171], [2123], [2124, 2126, 128, 171], [2128, 2130, 129, 171], [2144, 2146, 130, 171], [2164], [2165], [1541], [2166, 2168, 132, 171], [1542], [2160, 2162, 131, 171], [2178, 2180, 134, 171], [2182, 2184, 135, 171], [2174, 2176, 133, 171], [1544], [2194, 2196, 136, 171], [2210, 2211, 171], [2206, 2208, 137, 171], [2221], [2222], [2223, 2225, 138, 171], [2227, 2229, 139, 171], [2231, 2233, 140, 171]]
noncomputable def dbi_12_4 : List (List Nat) := [[2239], [2244, 2246, 141, 171], [2252, 2254, 142, 171], [2256, 2258, 143, 171], [2276, 2278, 144, 171], [2288], [2289, 2291, 145, 171], [1552], [2326], [2322, 2324, 151, 171], [2318, 2320, 150, 171], [1553], [1551], [1555], [1554], [2314, 2316, 149, 171], [2327, 2329, 152, 171], [2306, 2308, 147, 171], [2310, 2312, 148, 171], [2302, 2304, 146, 171], [1550], [2339], [1533]]
noncomputable def dbi_13_0 : List (List Nat) := [[175, 176, 154], [177, 178, 154], [1504, 1505, 171], [1506, 1507, 171], [701, 702, 703, 154], [1649, 1650, 1651, 171], [705, 706, 707, 154], [1653, 1654, 1655, 171], [709, 710, 711, 154], [1657, 1658, 1659, 171], [713, 714, 715, 154], [1661, 1662, 1663, 171], [2348], [740, 741, 742, 154], [1669, 1670, 1671, 171], [757, 758, 759, 154], [1684, 1685, 1686, 171], [765, 766, 767, 154], [1689, 1690, 1691, 171], [780, 781, 782, 154], [1693, 1694, 1695, 171], [792, 793, 794, 154], [1705, 1706, 1707, 171], [980, 981, 982, 154], [1926, 1927, 1928, 171], [1034, 1035, 1036, 154], [1701, 1702, 1703, 171], [1038, 1039, 1040, 154], [1942, 1943, 1944, 171], [1050, 1051, 1052, 154], [1974, 1975, 1976, 171], [1062, 1063, 1064, 154], [1990, 1991, 1992, 171], [1066, 1067, 1068, 154], [1998, 1999, 2000, 171], [1070, 1071, 1072, 154], [2006, 2007, 2008, 171], [1074, 1075, 1076, 154], [2010, 2011, 2012, 171], [1078, 1079, 1080, 154]]
noncomputable def dbi_13_1 : List (List Nat) := [[2018, 2019, 2020, 171], [1082, 1083, 1084, 154], [2026, 2027, 2028, 171], [1086, 1087, 1088, 154], [2035, 2036, 2037, 171], [1093, 1094, 1095, 154], [2039, 2040, 2041, 171], [1110, 1111, 1112, 154], [2055, 2056, 2057, 171], [1118, 1119, 1120, 154], [2059, 2060, 2061, 171], [1122, 1123, 1124, 154], [2063, 2064, 2065, 171], [1131, 1132, 1133, 154], [2071, 2072, 2073, 171], [1135, 1136, 1137, 154], [2075, 2076, 2077, 171], [1139, 1140, 1141, 154], [2079, 2080, 2081, 171], [1174, 1175, 1176, 154], [2119, 2120, 2121, 171], [1185, 1186, 1187, 154], [2132, 2133, 2134, 171], [1189, 1190, 1191, 154], [2136, 2137, 2138, 171], [1193, 1194, 1195, 154], [2156, 2157, 2158, 171], [1207, 1208, 1209, 154], [2140, 2141, 2142, 171], [1216, 1217, 1218, 154], [2148, 2149, 2150, 171], [1226, 1227, 1228, 154], [2152, 2153, 2154, 171], [1230, 1231, 1232, 154], [2170, 2171, 2172, 171], [1248, 1249, 1250, 154], [2186, 2187, 2188, 171], [1267, 1268, 1269, 154], [2190, 2191, 2192, 171], [1279, 1280, 1281, 154]]
noncomputable def dbi_13_2 : List (List Nat) := [[2198, 2199, 2200, 171], [1283, 1284, 1285, 154], [2202, 2203, 2204, 171], [1296, 1297, 1298, 154], [2213, 2214, 2215, 171], [1300, 1301, 1302, 154], [2217, 2218, 2219, 171], [1328, 1329, 1330, 154], [2235, 2236, 2237, 171], [1336, 1337, 1338, 154], [2240, 2241, 2242, 171], [1352, 1353, 1354, 154], [2248, 2249, 2250, 171], [1376, 1377, 1378, 154], [2260, 2261, 2262, 171], [1380, 1381, 1382, 154], [2264, 2265, 2266, 171], [1384, 1385, 1386, 154], [2268, 2269, 2270, 171], [1388, 1389, 1390, 154], [2272, 2273, 2274, 171], [1400, 1401, 1402, 154], [2280, 2281, 2282, 171], [1408, 1409, 1410, 154], [2284, 2285, 2286, 171], [1429, 1430, 1431, 154], [2294, 2295, 2296, 171], [1441, 1442, 1443, 154], [2298, 2299, 2300, 171], [1480, 1481, 1482, 154], [2331, 2332, 2333, 171], [1484, 1485, 1486, 154], [2335, 2336, 2337, 171], [1495, 1496, 1497, 154], [2340, 2341, 2342, 171], [1500, 1501, 1502, 154], [2344, 2345, 2346, 171]]
noncomputable def dbi_14 : List (List Nat) := [[2349], [2350], [223], [219, 220, 221, 158], [229, 230, 231, 158], [233, 234, 159], [239], [241, 242, 160]]
noncomputable def dbi_15 : List (List Nat) := [[236, 237, 158]]
noncomputable def dbi_16 : List (List Nat) := []
noncomputable def dbi_17 : List (List Nat) := [[1264], [1265], [1266]]
noncomputable def dbi_18 : List (List Nat) := []
theorem db_lck_e {ow : Nat} {lk : List db_L} {ids : List (List Nat)} (h : db_lck ow lk ids = true) : ∀ e ∈ lk, db_lsd ow e = true ∧ ∀ w ∈ db_lws ow e, w ∈ db_T := by
  intro e he
  simp only [db_lck, Bool.and_eq_true, List.all_eq_true] at h
  obtain ⟨hlen, h⟩ := h
  have hlen := Nat.eq_of_beq_eq_true hlen
  obtain ⟨i, hi, rfl⟩ := List.mem_iff_getElem.mp he
  have hz : (lk[i], ids[i]'(by omega)) ∈ lk.zip ids := by
    rw [List.mem_iff_getElem]
    exact ⟨i, by simp; omega, by simp⟩
  obtain ⟨⟨h1, h2⟩, h3⟩ := h _ hz
  have h2 := Nat.eq_of_beq_eq_true h2
  refine ⟨h1, fun w hw => ?_⟩
  obtain ⟨j, hj, rfl⟩ := List.mem_iff_getElem.mp hw
  have hz2 : ((db_lws ow lk[i])[j], (ids[i]'(by omega))[j]'(by dsimp only at h2; omega)) ∈ (db_lws ow lk[i]).zip (ids[i]'(by omega)) := by
    rw [List.mem_iff_getElem]
    exact ⟨j, by simp; dsimp only at h2; omega, by simp⟩
  have h4 := h3 _ hz2
  simp only [decide_eq_true_eq] at h4
  exact List.mem_filter.mpr ⟨List.mem_of_getElem? h4.1, h4.2⟩
theorem db_lap {ow : Nat} {a b : List db_L} (ha : ∀ e ∈ a, db_lsd ow e = true ∧ ∀ w ∈ db_lws ow e, w ∈ db_T) (hb : ∀ e ∈ b, db_lsd ow e = true ∧ ∀ w ∈ db_lws ow e, w ∈ db_T) : ∀ e ∈ a ++ b, db_lsd ow e = true ∧ ∀ w ∈ db_lws ow e, w ∈ db_T := fun e he => (List.mem_append.mp he).elim (ha e) (hb e)
theorem db_lkk_0 : ∀ e ∈ dbl_0, db_lsd 0 e = true ∧ ∀ w ∈ db_lws 0 e, w ∈ db_T := db_lck_e (ids := dbi_0) (by decide +kernel)
theorem db_lkk_1 : ∀ e ∈ dbl_1, db_lsd 1 e = true ∧ ∀ w ∈ db_lws 1 e, w ∈ db_T := db_lck_e (ids := dbi_1) (by decide +kernel)
theorem db_lkk_2 : ∀ e ∈ dbl_2, db_lsd 2 e = true ∧ ∀ w ∈ db_lws 2 e, w ∈ db_T := db_lck_e (ids := dbi_2) (by decide +kernel)
theorem db_lkk_3 : ∀ e ∈ dbl_3, db_lsd 3 e = true ∧ ∀ w ∈ db_lws 3 e, w ∈ db_T := db_lck_e (ids := dbi_3) (by decide +kernel)
theorem db_lkk_4 : ∀ e ∈ dbl_4, db_lsd 4 e = true ∧ ∀ w ∈ db_lws 4 e, w ∈ db_T := db_lck_e (ids := dbi_4) (by decide +kernel)
theorem db_lkk_5 : ∀ e ∈ dbl_5, db_lsd 5 e = true ∧ ∀ w ∈ db_lws 5 e, w ∈ db_T := db_lck_e (ids := dbi_5) (by decide +kernel)
theorem db_lkk_6 : ∀ e ∈ dbl_6, db_lsd 6 e = true ∧ ∀ w ∈ db_lws 6 e, w ∈ db_T := db_lck_e (ids := dbi_6) (by decide +kernel)
theorem db_lkk_7 : ∀ e ∈ dbl_7, db_lsd 7 e = true ∧ ∀ w ∈ db_lws 7 e, w ∈ db_T := db_lck_e (ids := dbi_7) (by decide +kernel)
theorem db_lkk_8 : ∀ e ∈ dbl_8, db_lsd 8 e = true ∧ ∀ w ∈ db_lws 8 e, w ∈ db_T := db_lck_e (ids := dbi_8) (by decide +kernel)
theorem db_lkk_9 : ∀ e ∈ dbl_9, db_lsd 9 e = true ∧ ∀ w ∈ db_lws 9 e, w ∈ db_T := db_lck_e (ids := dbi_9) (by decide +kernel)
theorem db_lkk_10 : ∀ e ∈ dbl_10, db_lsd 10 e = true ∧ ∀ w ∈ db_lws 10 e, w ∈ db_T := db_lck_e (ids := dbi_10) (by decide +kernel)
theorem db_lkk_11_0 : ∀ e ∈ dbl_11_0, db_lsd 11 e = true ∧ ∀ w ∈ db_lws 11 e, w ∈ db_T := db_lck_e (ids := dbi_11_0) (by decide +kernel)
theorem db_lkk_11_1 : ∀ e ∈ dbl_11_1, db_lsd 11 e = true ∧ ∀ w ∈ db_lws 11 e, w ∈ db_T := db_lck_e (ids := dbi_11_1) (by decide +kernel)
theorem db_lkk_11_2 : ∀ e ∈ dbl_11_2, db_lsd 11 e = true ∧ ∀ w ∈ db_lws 11 e, w ∈ db_T := db_lck_e (ids := dbi_11_2) (by decide +kernel)
theorem db_lkk_11_3 : ∀ e ∈ dbl_11_3, db_lsd 11 e = true ∧ ∀ w ∈ db_lws 11 e, w ∈ db_T := db_lck_e (ids := dbi_11_3) (by decide +kernel)
theorem db_lkk_11 : ∀ e ∈ dbl_11, db_lsd 11 e = true ∧ ∀ w ∈ db_lws 11 e, w ∈ db_T := db_lap db_lkk_11_0 (db_lap db_lkk_11_1 (db_lap db_lkk_11_2 db_lkk_11_3))
theorem db_lkk_12_0 : ∀ e ∈ dbl_12_0, db_lsd 12 e = true ∧ ∀ w ∈ db_lws 12 e, w ∈ db_T := db_lck_e (ids := dbi_12_0) (by decide +kernel)
theorem db_lkk_12_1 : ∀ e ∈ dbl_12_1, db_lsd 12 e = true ∧ ∀ w ∈ db_lws 12 e, w ∈ db_T := db_lck_e (ids := dbi_12_1) (by decide +kernel)
theorem db_lkk_12_2 : ∀ e ∈ dbl_12_2, db_lsd 12 e = true ∧ ∀ w ∈ db_lws 12 e, w ∈ db_T := db_lck_e (ids := dbi_12_2) (by decide +kernel)
theorem db_lkk_12_3 : ∀ e ∈ dbl_12_3, db_lsd 12 e = true ∧ ∀ w ∈ db_lws 12 e, w ∈ db_T := db_lck_e (ids := dbi_12_3) (by decide +kernel)
theorem db_lkk_12_4 : ∀ e ∈ dbl_12_4, db_lsd 12 e = true ∧ ∀ w ∈ db_lws 12 e, w ∈ db_T := db_lck_e (ids := dbi_12_4) (by decide +kernel)
theorem db_lkk_12 : ∀ e ∈ dbl_12, db_lsd 12 e = true ∧ ∀ w ∈ db_lws 12 e, w ∈ db_T := db_lap db_lkk_12_0 (db_lap db_lkk_12_1 (db_lap db_lkk_12_2 (db_lap db_lkk_12_3 db_lkk_12_4)))
theorem db_lkk_13_0 : ∀ e ∈ dbl_13_0, db_lsd 13 e = true ∧ ∀ w ∈ db_lws 13 e, w ∈ db_T := db_lck_e (ids := dbi_13_0) (by decide +kernel)
theorem db_lkk_13_1 : ∀ e ∈ dbl_13_1, db_lsd 13 e = true ∧ ∀ w ∈ db_lws 13 e, w ∈ db_T := db_lck_e (ids := dbi_13_1) (by decide +kernel)
theorem db_lkk_13_2 : ∀ e ∈ dbl_13_2, db_lsd 13 e = true ∧ ∀ w ∈ db_lws 13 e, w ∈ db_T := db_lck_e (ids := dbi_13_2) (by decide +kernel)
theorem db_lkk_13 : ∀ e ∈ dbl_13, db_lsd 13 e = true ∧ ∀ w ∈ db_lws 13 e, w ∈ db_T := db_lap db_lkk_13_0 (db_lap db_lkk_13_1 db_lkk_13_2)
theorem db_lkk_14 : ∀ e ∈ dbl_14, db_lsd 14 e = true ∧ ∀ w ∈ db_lws 14 e, w ∈ db_T := db_lck_e (ids := dbi_14) (by decide +kernel)
theorem db_lkk_15 : ∀ e ∈ dbl_15, db_lsd 15 e = true ∧ ∀ w ∈ db_lws 15 e, w ∈ db_T := db_lck_e (ids := dbi_15) (by decide +kernel)
theorem db_lkk_16 : ∀ e ∈ dbl_16, db_lsd 16 e = true ∧ ∀ w ∈ db_lws 16 e, w ∈ db_T := db_lck_e (ids := dbi_16) (by decide +kernel)
theorem db_lkk_17 : ∀ e ∈ dbl_17, db_lsd 17 e = true ∧ ∀ w ∈ db_lws 17 e, w ∈ db_T := db_lck_e (ids := dbi_17) (by decide +kernel)
theorem db_lkk_18 : ∀ e ∈ dbl_18, db_lsd 18 e = true ∧ ∀ w ∈ db_lws 18 e, w ∈ db_T := db_lck_e (ids := dbi_18) (by decide +kernel)
