theorem lw_sub (ws : List Cond) (ps : List Nat) (hp : ws = ps.filterMap (fun i => lw_tbl[i]?)) (h : ws.all goodWord = true) : ∀ w ∈ ws, w ∈ lw_all := fun w hw => by
  have h1 := List.all_eq_true.mp h w hw
  rw [hp] at hw
  obtain ⟨i, -, hi⟩ := List.mem_filterMap.mp hw
  exact lw_at i hi h1
set_option maxRecDepth 100000 in
theorem mm_cl0 : mm_Cl 0 RX0 TX0 5 := ⟨by decide, rfl, lw_sub _ [552, 554, 556, 558, 560] (by decide +kernel) (by decide +kernel), tyX0_ok, nmX0, by decide +kernel⟩
set_option maxRecDepth 100000 in
theorem mm_cl1 : mm_Cl 1 RX1 TX1 19 := ⟨by decide, rfl, lw_sub _ [504, 506, 508, 510, 512, 514, 516, 518, 520, 522, 524, 526, 528, 530, 532, 534, 536, 538, 540] (by decide +kernel) (by decide +kernel), tyX1_ok, nmX1, by decide +kernel⟩
set_option maxRecDepth 100000 in
theorem mm_cl2 : mm_Cl 2 RX2 TX2 19 := ⟨by decide, rfl, lw_sub _ [399, 401, 403, 405, 407, 409, 411, 413, 415, 417, 419, 421, 423, 425, 427, 429, 431, 433, 435] (by decide +kernel) (by decide +kernel), tyX2_ok, nmX2, by decide +kernel⟩
set_option maxRecDepth 100000 in
theorem mm_cl3 : mm_Cl 3 RX3 TX3 5 := ⟨by decide, rfl, lw_sub _ [459, 461, 463, 465, 467] (by decide +kernel) (by decide +kernel), tyX3_ok, nmX3, by decide +kernel⟩
set_option maxRecDepth 100000 in
theorem mm_cl4 : mm_Cl 4 RX4 TX4 3 := ⟨by decide, rfl, lw_sub _ [867, 869, 871] (by decide +kernel) (by decide +kernel), tyX4_ok, nmX4, by decide +kernel⟩
set_option maxRecDepth 100000 in
theorem mm_cl5 : mm_Cl 5 RX5 TX5 2 := ⟨by decide, rfl, lw_sub _ [321, 323] (by decide +kernel) (by decide +kernel), tyX5_ok, nmX5, by decide +kernel⟩
set_option maxRecDepth 100000 in
theorem mm_cl6 : mm_Cl 6 RX6 TX6 6 := ⟨by decide, rfl, lw_sub _ [356, 358, 360, 362, 364, 366] (by decide +kernel) (by decide +kernel), tyX6_ok, nmX6, by decide +kernel⟩
set_option maxRecDepth 100000 in
theorem mm_cl7 : mm_Cl 7 RX7 TX7 9 := ⟨by decide, rfl, lw_sub _ [223, 225, 227, 229, 231, 233, 235, 237, 239] (by decide +kernel) (by decide +kernel), tyX7_ok, nmX7, by decide +kernel⟩
set_option maxRecDepth 100000 in
theorem mm_cl8 : mm_Cl 8 RX8 TX8 12 := ⟨by decide, rfl, lw_sub _ [160, 162, 164, 166, 168, 170, 172, 174, 176, 178, 180, 182] (by decide +kernel) (by decide +kernel), tyX8_ok, nmX8, by decide +kernel⟩
set_option maxRecDepth 100000 in
theorem mm_cl9 : mm_Cl 9 RX9 TX9 5 := ⟨by decide, rfl, lw_sub _ [248, 250, 252, 254, 256] (by decide +kernel) (by decide +kernel), tyX9_ok, nmX9, by decide +kernel⟩
set_option maxRecDepth 100000 in
theorem mm_cl10 : mm_Cl 10 RX10 TX10 4 := ⟨by decide, rfl, lw_sub _ [116, 118, 120, 122] (by decide +kernel) (by decide +kernel), tyX10_ok, nmX10, by decide +kernel⟩
set_option maxRecDepth 100000 in
theorem mm_cl11 : mm_Cl 11 RX11 TX11 10 := ⟨by decide, rfl, lw_sub _ [271, 273, 275, 277, 279, 281, 283, 285, 287, 289] (by decide +kernel) (by decide +kernel), tyX11_ok, nmX11, by decide +kernel⟩
set_option maxRecDepth 100000 in
theorem mm_cl12 : mm_Cl 12 RX12 TX12 81 := ⟨by decide, rfl, lw_sub _ [1366, 1368, 1370, 1372, 1374, 1376, 1378, 1380, 1382, 1384, 1386, 1388, 1390, 1392, 1394, 1396, 1398, 1400, 1402, 1404, 1406, 1408, 1410, 1412, 1414, 1416, 1418, 1420, 1422, 1424, 1426, 1428, 1430, 1432, 1434, 1436, 1438, 1440, 1442, 1444, 1446, 1448, 1450, 1452, 1454, 1456, 1458, 1460, 1462, 1464, 1466, 1468, 1470, 1472, 1474, 1476, 1478, 1480, 1482, 1484, 1486, 1488, 1490, 1492, 1494, 1496, 1498, 1500, 1502, 1504, 1506, 1508, 1510, 1512, 1514, 1516, 1518, 1520, 1522, 1524, 1526] (by decide +kernel) (by decide +kernel), tyX12_ok, nmX12, by decide +kernel⟩
