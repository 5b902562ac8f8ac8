def B_L_law_60 : List (Nat × List (Nat × Instr × Nat)) := [(1337, [(1337, .iload 5, 2), (1339, .ifCond .ne 15, 3), (1342, .aload_n 3, 1), (1343, .iconst 0, 1), (1344, .laload, 1), (1345, .iload 6, 2), (1347, .i2l, 1), (1348, .lcmp, 1), (1349, .ifCond .eq 5, 3), (1352, .iconst 0, 1), (1353, .ireturn, 1)])]
theorem k_L_law_60 : B_L_law_60.all (blkB [] CL NwL RL false code) = true := by decide +kernel
def B_L_law_61 : List (Nat × List (Nat × Instr × Nat)) := [(1354, [(1354, .goto 977, 3)])]
theorem k_L_law_61 : B_L_law_61.all (blkB [] CL NwL RL false code) = true := by decide +kernel
def B_L_law_62 : List (Nat × List (Nat × Instr × Nat)) := [(1357, [(1357, .aload_n 1, 1), (1358, .aload_n 0, 1), (1359, .iload 4, 2), (1361, .iconst 1, 1), (1362, .iadd, 1), (1363, .iaload, 1), (1364, .aload_n 3, 1), (1365, .invokestatic 196, 3), (1368, .istore 5, 2), (1370, .aload_n 2, 1), (1371, .aload_n 0, 1), (1372, .iload 4, 2), (1374, .iconst 1, 1), (1375, .iadd, 1), (1376, .iaload, 1), (1377, .invokevirtual 198, 3), (1380, .istore 6, 2), (1382, .aload_n 2, 1), (1383, .invokevirtual 137, 3), (1386, .iload 5, 2), (1388, .if_icmp .eq 5, 3), (1391, .iconst 0, 1), (1392, .ireturn, 1)])]
theorem k_L_law_62 : B_L_law_62.all (blkB [] CL NwL RL false code) = true := by decide +kernel
def B_L_law_63 : List (Nat × List (Nat × Instr × Nat)) := [(1393, [(1393, .iload 5, 2), (1395, .ifCond .ne 22, 3), (1398, .aload_n 3, 1), (1399, .iconst 0, 1), (1400, .laload, 1), (1401, .iload 6, 2), (1403, .ifCond .eq 7, 3), (1406, .lconst 1, 1), (1407, .goto 4, 3)])]
theorem k_L_law_63 : B_L_law_63.all (blkB [] CL NwL RL false code) = true := by decide +kernel
def B_L_law_64 : List (Nat × List (Nat × Instr × Nat)) := [(1410, [(1410, .lconst 0, 1)])]
theorem k_L_law_64 : B_L_law_64.all (blkB [] CL NwL RL false code) = true := by decide +kernel
def B_L_law_65 : List (Nat × List (Nat × Instr × Nat)) := [(1411, [(1411, .lcmp, 1), (1412, .ifCond .eq 5, 3), (1415, .iconst 0, 1), (1416, .ireturn, 1)])]
theorem k_L_law_65 : B_L_law_65.all (blkB [] CL NwL RL false code) = true := by decide +kernel
def B_L_law_66 : List (Nat × List (Nat × Instr × Nat)) := [(1417, [(1417, .goto 914, 3)])]
theorem k_L_law_66 : B_L_law_66.all (blkB [] CL NwL RL false code) = true := by decide +kernel
def B_L_law_67 : List (Nat × List (Nat × Instr × Nat)) := [(1420, [(1420, .aload_n 1, 1), (1421, .aload_n 0, 1), (1422, .iload 4, 2), (1424, .iconst 1, 1), (1425, .iadd, 1), (1426, .iaload, 1), (1427, .aload_n 3, 1), (1428, .invokestatic 199, 3), (1431, .istore 5, 2), (1433, .aload_n 2, 1), (1434, .aload_n 0, 1), (1435, .iload 4, 2), (1437, .iconst 1, 1), (1438, .iadd, 1), (1439, .iaload, 1), (1440, .invokevirtual 201, 3), (1443, .istore 6, 2), (1445, .aload_n 2, 1), (1446, .invokevirtual 137, 3), (1449, .iload 5, 2), (1451, .if_icmp .eq 5, 3), (1454, .iconst 0, 1), (1455, .ireturn, 1)])]
theorem k_L_law_67 : B_L_law_67.all (blkB [] CL NwL RL false code) = true := by decide +kernel
def B_L_law_68 : List (Nat × List (Nat × Instr × Nat)) := [(1456, [(1456, .iload 5, 2), (1458, .ifCond .ne 15, 3), (1461, .aload_n 3, 1), (1462, .iconst 0, 1), (1463, .laload, 1), (1464, .iload 6, 2), (1466, .i2l, 1), (1467, .lcmp, 1), (1468, .ifCond .eq 5, 3), (1471, .iconst 0, 1), (1472, .ireturn, 1)])]
theorem k_L_law_68 : B_L_law_68.all (blkB [] CL NwL RL false code) = true := by decide +kernel
def B_L_law_69 : List (Nat × List (Nat × Instr × Nat)) := [(1473, [(1473, .goto 858, 3)])]
theorem k_L_law_69 : B_L_law_69.all (blkB [] CL NwL RL false code) = true := by decide +kernel
def B_L_law_70 : List (Nat × List (Nat × Instr × Nat)) := [(1476, [(1476, .aload_n 1, 1), (1477, .aload_n 0, 1), (1478, .iload 4, 2), (1480, .iconst 1, 1), (1481, .iadd, 1), (1482, .iaload, 1), (1483, .aload_n 3, 1), (1484, .invokestatic 202, 3), (1487, .istore 5, 2), (1489, .aload_n 2, 1), (1490, .aload_n 0, 1), (1491, .iload 4, 2), (1493, .iconst 1, 1), (1494, .iadd, 1), (1495, .iaload, 1), (1496, .invokevirtual 204, 3), (1499, .lstore 6, 2), (1501, .aload_n 2, 1), (1502, .invokevirtual 137, 3), (1505, .iload 5, 2), (1507, .if_icmp .eq 5, 3), (1510, .iconst 0, 1), (1511, .ireturn, 1)])]
theorem k_L_law_70 : B_L_law_70.all (blkB [] CL NwL RL false code) = true := by decide +kernel
def B_L_law_71 : List (Nat × List (Nat × Instr × Nat)) := [(1512, [(1512, .iload 5, 2), (1514, .ifCond .ne 14, 3), (1517, .aload_n 3, 1), (1518, .iconst 0, 1), (1519, .laload, 1), (1520, .lload 6, 2), (1522, .lcmp, 1), (1523, .ifCond .eq 5, 3), (1526, .iconst 0, 1), (1527, .ireturn, 1)])]
theorem k_L_law_71 : B_L_law_71.all (blkB [] CL NwL RL false code) = true := by decide +kernel
