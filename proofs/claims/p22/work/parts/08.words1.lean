theorem zt1 {v : Cond} (i : Nat) (h : tables_1_1[i]? = some v) (g : goodWord v = true) : v ∈ lw_g := List.mem_filter.mpr ⟨List.mem_append_right _ (show v ∈ tables_1_1 ++ (tables_1_2 ++ (tables_1_3 ++ (tables_1_4 ++ (tables_1_5 ++ (tables_1_6 ++ (tables_1_7 ++ (tables_1_8 ++ (tables_1_9 ++ tables_1_10)))))))) from List.mem_append_left _ (List.mem_of_getElem? h)), g⟩
theorem zt2 {v : Cond} (i : Nat) (h : tables_1_2[i]? = some v) (g : goodWord v = true) : v ∈ lw_g := List.mem_filter.mpr ⟨List.mem_append_right _ (show v ∈ tables_1_1 ++ (tables_1_2 ++ (tables_1_3 ++ (tables_1_4 ++ (tables_1_5 ++ (tables_1_6 ++ (tables_1_7 ++ (tables_1_8 ++ (tables_1_9 ++ tables_1_10)))))))) from List.mem_append_right _ (List.mem_append_left _ (List.mem_of_getElem? h))), g⟩
theorem zt3 {v : Cond} (i : Nat) (h : tables_1_3[i]? = some v) (g : goodWord v = true) : v ∈ lw_g := List.mem_filter.mpr ⟨List.mem_append_right _ (show v ∈ tables_1_1 ++ (tables_1_2 ++ (tables_1_3 ++ (tables_1_4 ++ (tables_1_5 ++ (tables_1_6 ++ (tables_1_7 ++ (tables_1_8 ++ (tables_1_9 ++ tables_1_10)))))))) from List.mem_append_right _ (List.mem_append_right _ (List.mem_append_left _ (List.mem_of_getElem? h)))), g⟩
theorem zt4 {v : Cond} (i : Nat) (h : tables_1_4[i]? = some v) (g : goodWord v = true) : v ∈ lw_g := List.mem_filter.mpr ⟨List.mem_append_right _ (show v ∈ tables_1_1 ++ (tables_1_2 ++ (tables_1_3 ++ (tables_1_4 ++ (tables_1_5 ++ (tables_1_6 ++ (tables_1_7 ++ (tables_1_8 ++ (tables_1_9 ++ tables_1_10)))))))) from List.mem_append_right _ (List.mem_append_right _ (List.mem_append_right _ (List.mem_append_left _ (List.mem_of_getElem? h))))), g⟩
theorem zt5 {v : Cond} (i : Nat) (h : tables_1_5[i]? = some v) (g : goodWord v = true) : v ∈ lw_g := List.mem_filter.mpr ⟨List.mem_append_right _ (show v ∈ tables_1_1 ++ (tables_1_2 ++ (tables_1_3 ++ (tables_1_4 ++ (tables_1_5 ++ (tables_1_6 ++ (tables_1_7 ++ (tables_1_8 ++ (tables_1_9 ++ tables_1_10)))))))) from List.mem_append_right _ (List.mem_append_right _ (List.mem_append_right _ (List.mem_append_right _ (List.mem_append_left _ (List.mem_of_getElem? h)))))), g⟩
theorem zt6 {v : Cond} (i : Nat) (h : tables_1_6[i]? = some v) (g : goodWord v = true) : v ∈ lw_g := List.mem_filter.mpr ⟨List.mem_append_right _ (show v ∈ tables_1_1 ++ (tables_1_2 ++ (tables_1_3 ++ (tables_1_4 ++ (tables_1_5 ++ (tables_1_6 ++ (tables_1_7 ++ (tables_1_8 ++ (tables_1_9 ++ tables_1_10)))))))) from List.mem_append_right _ (List.mem_append_right _ (List.mem_append_right _ (List.mem_append_right _ (List.mem_append_right _ (List.mem_append_left _ (List.mem_of_getElem? h))))))), g⟩
theorem zt7 {v : Cond} (i : Nat) (h : tables_1_7[i]? = some v) (g : goodWord v = true) : v ∈ lw_g := List.mem_filter.mpr ⟨List.mem_append_right _ (show v ∈ tables_1_1 ++ (tables_1_2 ++ (tables_1_3 ++ (tables_1_4 ++ (tables_1_5 ++ (tables_1_6 ++ (tables_1_7 ++ (tables_1_8 ++ (tables_1_9 ++ tables_1_10)))))))) from List.mem_append_right _ (List.mem_append_right _ (List.mem_append_right _ (List.mem_append_right _ (List.mem_append_right _ (List.mem_append_right _ (List.mem_append_left _ (List.mem_of_getElem? h)))))))), g⟩
theorem zt8 {v : Cond} (i : Nat) (h : tables_1_8[i]? = some v) (g : goodWord v = true) : v ∈ lw_g := List.mem_filter.mpr ⟨List.mem_append_right _ (show v ∈ tables_1_1 ++ (tables_1_2 ++ (tables_1_3 ++ (tables_1_4 ++ (tables_1_5 ++ (tables_1_6 ++ (tables_1_7 ++ (tables_1_8 ++ (tables_1_9 ++ tables_1_10)))))))) from List.mem_append_right _ (List.mem_append_right _ (List.mem_append_right _ (List.mem_append_right _ (List.mem_append_right _ (List.mem_append_right _ (List.mem_append_right _ (List.mem_append_left _ (List.mem_of_getElem? h))))))))), g⟩
theorem zt9 {v : Cond} (i : Nat) (h : tables_1_9[i]? = some v) (g : goodWord v = true) : v ∈ lw_g := List.mem_filter.mpr ⟨List.mem_append_right _ (show v ∈ tables_1_1 ++ (tables_1_2 ++ (tables_1_3 ++ (tables_1_4 ++ (tables_1_5 ++ (tables_1_6 ++ (tables_1_7 ++ (tables_1_8 ++ (tables_1_9 ++ tables_1_10)))))))) from List.mem_append_right _ (List.mem_append_right _ (List.mem_append_right _ (List.mem_append_right _ (List.mem_append_right _ (List.mem_append_right _ (List.mem_append_right _ (List.mem_append_right _ (List.mem_append_left _ (List.mem_of_getElem? h)))))))))), g⟩
theorem zt10 {v : Cond} (i : Nat) (h : tables_1_10[i]? = some v) (g : goodWord v = true) : v ∈ lw_g := List.mem_filter.mpr ⟨List.mem_append_right _ (show v ∈ tables_1_1 ++ (tables_1_2 ++ (tables_1_3 ++ (tables_1_4 ++ (tables_1_5 ++ (tables_1_6 ++ (tables_1_7 ++ (tables_1_8 ++ (tables_1_9 ++ tables_1_10)))))))) from List.mem_append_right _ (List.mem_append_right _ (List.mem_append_right _ (List.mem_append_right _ (List.mem_append_right _ (List.mem_append_right _ (List.mem_append_right _ (List.mem_append_right _ (List.mem_append_right _ (List.mem_of_getElem? h)))))))))), g⟩
theorem zmem_t {v : Cond} (i : Nat) (h : tables_1[i]? = some v) (g : goodWord v = true) : v ∈ lw_g := List.mem_filter.mpr ⟨List.mem_append_right _ (List.mem_of_getElem? h), g⟩
theorem zmem_s {v : Cond} (i : Nat) (h : (k2_sels lw_privs)[i]? = some v) (g : goodWord v = true) : v ∈ lw_g := List.mem_filter.mpr ⟨List.mem_append_left _ (List.mem_of_getElem? h), g⟩
theorem zmem_l {ws : List Cond} (ps : List Nat) (h : ws = ps.filterMap (fun i => tables_1[i]?)) (g : ws.all goodWord = true) : ∀ v ∈ ws, v ∈ lw_g := by
  intro v hv
  have hv2 := hv
  rw [h] at hv2
  obtain ⟨i, _, h2⟩ := List.mem_filterMap.mp hv2
  exact zmem_t i h2 (List.all_eq_true.mp g v hv)
theorem uvX0 : ∀ v ∈ u_ws RX0 TX0 9, v ∈ lw_g := zmem_l [379, 381, 383, 385, 387, 389, 391, 393, 395] (by decide +kernel) (by decide +kernel)
theorem uvX1 : ∀ v ∈ u_ws RX1 TX1 2, v ∈ lw_g := zmem_l [137, 139] (by decide +kernel) (by decide +kernel)
theorem uvX2 : ∀ v ∈ u_ws RX2 TX2 18, v ∈ lw_g := zmem_l [333, 335, 337, 339, 341, 343, 345, 347, 349, 351, 353, 355, 357, 359, 361, 363, 365, 367] (by decide +kernel) (by decide +kernel)
theorem uvX3 : ∀ v ∈ u_ws RX3 TX3 18, v ∈ lw_g := zmem_l [245, 247, 249, 251, 253, 255, 257, 259, 261, 263, 265, 267, 269, 271, 273, 275, 277, 279] (by decide +kernel) (by decide +kernel)
theorem uvX4 : ∀ v ∈ u_ws RX4 TX4 7, v ∈ lw_g := zmem_l [68, 70, 72, 74, 76, 78, 80] (by decide +kernel) (by decide +kernel)
theorem uvX5 : ∀ v ∈ u_ws RX5 TX5 4, v ∈ lw_g := zmem_l [175, 177, 179, 181] (by decide +kernel) (by decide +kernel)
theorem uvX6 : ∀ v ∈ u_ws RX6 TX6 20, v ∈ lw_g := zmem_l [460, 462, 464, 466, 468, 470, 472, 474, 476, 478, 480, 482, 484, 486, 488, 490, 492, 494, 496, 498] (by decide +kernel) (by decide +kernel)
theorem uvX7 : ∀ v ∈ u_ws RX7 TX7 7, v ∈ lw_g := zmem_l [100, 102, 104, 106, 108, 110, 112] (by decide +kernel) (by decide +kernel)
theorem uvX8 : ∀ v ∈ u_ws RX8 TX8 6, v ∈ lw_g := zmem_l [1176, 1178, 1180, 1182, 1184, 1186] (by decide +kernel) (by decide +kernel)
theorem uvX9 : ∀ v ∈ u_ws RX9 TX9 8, v ∈ lw_g := zmem_l [412, 414, 416, 418, 420, 422, 424, 426] (by decide +kernel) (by decide +kernel)
theorem uvX10 : ∀ v ∈ u_ws RX10 TX10 2, v ∈ lw_g := zmem_l [198, 200] (by decide +kernel) (by decide +kernel)
theorem uvX11 : ∀ v ∈ u_ws RX11 TX11 9, v ∈ lw_g := zmem_l [510, 512, 514, 516, 518, 520, 522, 524, 526] (by decide +kernel) (by decide +kernel)
theorem uvX12 : ∀ v ∈ u_ws RX12 TX12 119, v ∈ lw_g := zmem_l [1508, 1510, 1512, 1514, 1516, 1518, 1520, 1522, 1524, 1526, 1528, 1530, 1532, 1534, 1536, 1538, 1540, 1542, 1544, 1546, 1548, 1550, 1552, 1554, 1556, 1558, 1560, 1562, 1564, 1566, 1568, 1570, 1572, 1574, 1576, 1578, 1580, 1582, 1584, 1586, 1588, 1590, 1592, 1594, 1596, 1598, 1600, 1602, 1604, 1606, 1608, 1610, 1612, 1614, 1616, 1618, 1620, 1622, 1624, 1626, 1628, 1630, 1632, 1634, 1636, 1638, 1640, 1642, 1644, 1646, 1648, 1650, 1652, 1654, 1656, 1658, 1660, 1662, 1664, 1666, 1668, 1670, 1672, 1674, 1676, 1678, 1680, 1682, 1684, 1686, 1688, 1690, 1692, 1694, 1696, 1698, 1700, 1702, 1704, 1706, 1708, 1710, 1712, 1714, 1716, 1718, 1720, 1722, 1724, 1726, 1728, 1730, 1732, 1734, 1736, 1738, 1740, 1742, 1744] (by decide +kernel) (by decide +kernel)
set_option maxRecDepth 100000 in
theorem m_L_22 : zCw "HideSetsLaw" 22 yX11_init cX11_init 2 none 0 := ⟨zt1 27 rfl rfl, zt1 29 rfl rfl, zt1 1 rfl rfl, ⟨by decide +kernel, by decide +kernel, by decide +kernel⟩, by decide⟩
set_option maxRecDepth 100000 in
theorem m_X11_19 : zCw RX11 19 yX7_init cX7_init 2 none 0 := ⟨zt1 35 rfl rfl, zt1 37 rfl rfl, zt1 2 rfl rfl, ⟨by decide +kernel, by decide +kernel, by decide +kernel⟩, by decide⟩
set_option maxRecDepth 100000 in
theorem f_X4_9 : zFd RX4 9 4 7 0 2 := ⟨RX4, TX4, rfl, by decide, by decide, rfl, uvX4, tyX4_ok, nmX4, zt1 48 rfl rfl⟩
set_option maxRecDepth 100000 in
theorem f_X6_122 : zFd RX6 122 4 7 0 2 := ⟨RX4, TX4, rfl, by decide, by decide, rfl, uvX4, tyX4_ok, nmX4, zt1 49 rfl rfl⟩
set_option maxRecDepth 100000 in
theorem f_X11_241 : zFd RX11 241 4 7 0 2 := ⟨RX4, TX4, rfl, by decide, by decide, rfl, uvX4, tyX4_ok, nmX4, zt1 50 rfl rfl⟩
set_option maxRecDepth 100000 in
theorem f_X4_15 : zFd RX4 15 4 7 1 2 := ⟨RX4, TX4, rfl, by decide, by decide, rfl, uvX4, tyX4_ok, nmX4, zt1 51 rfl rfl⟩
set_option maxRecDepth 100000 in
theorem f_X6_162 : zFd RX6 162 4 7 1 2 := ⟨RX4, TX4, rfl, by decide, by decide, rfl, uvX4, tyX4_ok, nmX4, zt1 52 rfl rfl⟩
set_option maxRecDepth 100000 in
theorem f_X4_19 : zFd RX4 19 4 7 2 2 := ⟨RX4, TX4, rfl, by decide, by decide, rfl, uvX4, tyX4_ok, nmX4, zt1 53 rfl rfl⟩
set_option maxRecDepth 100000 in
theorem f_X6_169 : zFd RX6 169 4 7 2 2 := ⟨RX4, TX4, rfl, by decide, by decide, rfl, uvX4, tyX4_ok, nmX4, zt1 54 rfl rfl⟩
set_option maxRecDepth 100000 in
theorem f_X4_22 : zFd RX4 22 4 7 3 0 := ⟨RX4, TX4, rfl, by decide, by decide, rfl, uvX4, tyX4_ok, nmX4, zt1 55 rfl rfl⟩
set_option maxRecDepth 100000 in
theorem f_X7_48 : zFd RX7 48 4 7 3 0 := ⟨RX4, TX4, rfl, by decide, by decide, rfl, uvX4, tyX4_ok, nmX4, zt1 56 rfl rfl⟩
set_option maxRecDepth 100000 in
theorem f_X6_158 : zFd RX6 158 4 7 3 0 := ⟨RX4, TX4, rfl, by decide, by decide, rfl, uvX4, tyX4_ok, nmX4, zt1 57 rfl rfl⟩
set_option maxRecDepth 100000 in
theorem f_X11_79 : zFd RX11 79 4 7 3 0 := ⟨RX4, TX4, rfl, by decide, by decide, rfl, uvX4, tyX4_ok, nmX4, zt1 58 rfl rfl⟩
set_option maxRecDepth 100000 in
theorem f_X4_26 : zFd RX4 26 4 7 4 0 := ⟨RX4, TX4, rfl, by decide, by decide, rfl, uvX4, tyX4_ok, nmX4, zt1 59 rfl rfl⟩
set_option maxRecDepth 100000 in
theorem f_X7_40 : zFd RX7 40 4 7 4 0 := ⟨RX4, TX4, rfl, by decide, by decide, rfl, uvX4, tyX4_ok, nmX4, zt1 60 rfl rfl⟩
set_option maxRecDepth 100000 in
theorem f_X6_344 : zFd RX6 344 4 7 4 0 := ⟨RX4, TX4, rfl, by decide, by decide, rfl, uvX4, tyX4_ok, nmX4, zt1 61 rfl rfl⟩
set_option maxRecDepth 100000 in
theorem f_X4_30 : zFd RX4 30 4 7 5 0 := ⟨RX4, TX4, rfl, by decide, by decide, rfl, uvX4, tyX4_ok, nmX4, zt1 62 rfl rfl⟩
set_option maxRecDepth 100000 in
theorem f_X6_351 : zFd RX6 351 4 7 5 0 := ⟨RX4, TX4, rfl, by decide, by decide, rfl, uvX4, tyX4_ok, nmX4, zt1 63 rfl rfl⟩
set_option maxRecDepth 100000 in
theorem f_X11_243 : zFd RX11 243 4 7 5 0 := ⟨RX4, TX4, rfl, by decide, by decide, rfl, uvX4, tyX4_ok, nmX4, zt1 64 rfl rfl⟩
set_option maxRecDepth 100000 in
theorem f_X4_33 : zFd RX4 33 4 7 6 0 := ⟨RX4, TX4, rfl, by decide, by decide, rfl, uvX4, tyX4_ok, nmX4, zt1 65 rfl rfl⟩
set_option maxRecDepth 100000 in
theorem f_X6_348 : zFd RX6 348 4 7 6 0 := ⟨RX4, TX4, rfl, by decide, by decide, rfl, uvX4, tyX4_ok, nmX4, zt1 66 rfl rfl⟩
set_option maxRecDepth 100000 in
theorem f_X11_238 : zFd RX11 238 4 7 6 0 := ⟨RX4, TX4, rfl, by decide, by decide, rfl, uvX4, tyX4_ok, nmX4, zt1 67 rfl rfl⟩
set_option maxRecDepth 100000 in
theorem f_X7_11 : zFd RX7 11 7 7 0 2 := ⟨RX7, TX7, rfl, by decide, by decide, rfl, uvX7, tyX7_ok, nmX7, zt1 85 rfl rfl⟩
set_option maxRecDepth 100000 in
theorem f_X6_115 : zFd RX6 115 7 7 0 2 := ⟨RX7, TX7, rfl, by decide, by decide, rfl, uvX7, tyX7_ok, nmX7, zt1 86 rfl rfl⟩
set_option maxRecDepth 100000 in
theorem f_X11_66 : zFd RX11 66 7 7 0 2 := ⟨RX7, TX7, rfl, by decide, by decide, rfl, uvX7, tyX7_ok, nmX7, zt1 87 rfl rfl⟩
set_option maxRecDepth 100000 in
theorem f_X7_19 : zFd RX7 19 7 7 1 2 := ⟨RX7, TX7, rfl, by decide, by decide, rfl, uvX7, tyX7_ok, nmX7, zt1 88 rfl rfl⟩
set_option maxRecDepth 100000 in
theorem f_X6_140 : zFd RX6 140 7 7 1 2 := ⟨RX7, TX7, rfl, by decide, by decide, rfl, uvX7, tyX7_ok, nmX7, zt1 89 rfl rfl⟩
set_option maxRecDepth 100000 in
theorem f_X7_22 : zFd RX7 22 7 7 2 2 := ⟨RX7, TX7, rfl, by decide, by decide, rfl, uvX7, tyX7_ok, nmX7, zt1 90 rfl rfl⟩
set_option maxRecDepth 100000 in
theorem f_X6_144 : zFd RX6 144 7 7 2 2 := ⟨RX7, TX7, rfl, by decide, by decide, rfl, uvX7, tyX7_ok, nmX7, zt1 91 rfl rfl⟩
set_option maxRecDepth 100000 in
theorem f_X7_26 : zFd RX7 26 7 7 3 0 := ⟨RX7, TX7, rfl, by decide, by decide, rfl, uvX7, tyX7_ok, nmX7, zt1 92 rfl rfl⟩
set_option maxRecDepth 100000 in
theorem f_X8_45 : zFd RX8 45 7 7 3 0 := ⟨RX7, TX7, rfl, by decide, by decide, rfl, uvX7, tyX7_ok, nmX7, zt1 93 rfl rfl⟩
set_option maxRecDepth 100000 in
theorem f_X6_137 : zFd RX6 137 7 7 3 0 := ⟨RX7, TX7, rfl, by decide, by decide, rfl, uvX7, tyX7_ok, nmX7, zt1 94 rfl rfl⟩
set_option maxRecDepth 100000 in
theorem f_X11_226 : zFd RX11 226 7 7 3 0 := ⟨RX7, TX7, rfl, by decide, by decide, rfl, uvX7, tyX7_ok, nmX7, zt1 95 rfl rfl⟩
set_option maxRecDepth 100000 in
theorem f_X7_30 : zFd RX7 30 7 7 4 0 := ⟨RX7, TX7, rfl, by decide, by decide, rfl, uvX7, tyX7_ok, nmX7, zt1 96 rfl rfl⟩
set_option maxRecDepth 100000 in
theorem f_X11_96 : zFd RX11 96 7 7 4 0 := ⟨RX7, TX7, rfl, by decide, by decide, rfl, uvX7, tyX7_ok, nmX7, zt1 97 rfl rfl⟩
set_option maxRecDepth 100000 in
theorem f_X7_33 : zFd RX7 33 7 7 5 2 := ⟨RX7, TX7, rfl, by decide, by decide, rfl, uvX7, tyX7_ok, nmX7, zt1 98 rfl rfl⟩
set_option maxRecDepth 100000 in
theorem f_X7_36 : zFd RX7 36 7 7 6 2 := ⟨RX7, TX7, rfl, by decide, by decide, rfl, uvX7, tyX7_ok, nmX7, zt1 99 rfl rfl⟩
set_option maxRecDepth 100000 in
theorem m_X11_40 : zCw RX11 40 yX6_init cX6_init 2 none 1 := ⟨zt1 118 rfl rfl, zt1 120 rfl rfl, zt1 4 rfl rfl, ⟨by decide +kernel, by decide +kernel, by decide +kernel⟩, by decide⟩
set_option maxRecDepth 100000 in
theorem f_X1_7 : zFd RX1 7 1 2 0 0 := ⟨RX1, TX1, rfl, by decide, by decide, rfl, uvX1, tyX1_ok, nmX1, zt1 128 rfl rfl⟩
set_option maxRecDepth 100000 in
theorem f_X6_155 : zFd RX6 155 1 2 0 0 := ⟨RX1, TX1, rfl, by decide, by decide, rfl, uvX1, tyX1_ok, nmX1, zt1 129 rfl rfl⟩
set_option maxRecDepth 100000 in
theorem f_X8_110 : zFd RX8 110 1 2 0 0 := ⟨RX1, TX1, rfl, by decide, by decide, rfl, uvX1, tyX1_ok, nmX1, zt1 130 rfl rfl⟩
set_option maxRecDepth 100000 in
theorem f_X0_72 : zFd RX0 72 1 2 0 0 := ⟨RX1, TX1, rfl, by decide, by decide, rfl, uvX1, tyX1_ok, nmX1, zt1 131 rfl rfl⟩
set_option maxRecDepth 100000 in
theorem f_X3_115 : zFd RX3 115 1 2 0 0 := ⟨RX1, TX1, rfl, by decide, by decide, rfl, uvX1, tyX1_ok, nmX1, zt1 132 rfl rfl⟩
set_option maxRecDepth 100000 in
theorem f_X11_115 : zFd RX11 115 1 2 0 0 := ⟨RX1, TX1, rfl, by decide, by decide, rfl, uvX1, tyX1_ok, nmX1, zt1 133 rfl rfl⟩
set_option maxRecDepth 100000 in
theorem f_X1_13 : zFd RX1 13 1 2 1 0 := ⟨RX1, TX1, rfl, by decide, by decide, rfl, uvX1, tyX1_ok, nmX1, zt1 134 rfl rfl⟩
set_option maxRecDepth 100000 in
theorem f_X8_106 : zFd RX8 106 1 2 1 0 := ⟨RX1, TX1, rfl, by decide, by decide, rfl, uvX1, tyX1_ok, nmX1, zt1 135 rfl rfl⟩
set_option maxRecDepth 100000 in
theorem f_X11_127 : zFd RX11 127 1 2 1 0 := ⟨RX1, TX1, rfl, by decide, by decide, rfl, uvX1, tyX1_ok, nmX1, zt1 136 rfl rfl⟩
set_option maxRecDepth 100000 in
theorem m_X6_20 : zCw RX6 20 yX5_init cX5_init 2 none 1 := ⟨zt1 145 rfl rfl, zt1 147 rfl rfl, zt1 6 rfl rfl, ⟨by decide +kernel, by decide +kernel, by decide +kernel⟩, by decide⟩
set_option maxRecDepth 100000 in
theorem f_X5_15 : zFd RX5 15 5 4 0 2 := ⟨RX5, TX5, rfl, by decide, by decide, rfl, uvX5, tyX5_ok, nmX5, zt1 149 rfl rfl⟩
set_option maxRecDepth 100000 in
theorem f_X9_46 : zFd RX9 46 5 4 0 2 := ⟨RX5, TX5, rfl, by decide, by decide, rfl, uvX5, tyX5_ok, nmX5, zt1 150 rfl rfl⟩
set_option maxRecDepth 100000 in
theorem f_X8_93 : zFd RX8 93 5 4 0 2 := ⟨RX5, TX5, rfl, by decide, by decide, rfl, uvX5, tyX5_ok, nmX5, zt1 151 rfl rfl⟩
set_option maxRecDepth 100000 in
theorem f_X0_97 : zFd RX0 97 5 4 0 2 := ⟨RX5, TX5, rfl, by decide, by decide, rfl, uvX5, tyX5_ok, nmX5, zt1 152 rfl rfl⟩
set_option maxRecDepth 100000 in
theorem f_X3_128 : zFd RX3 128 5 4 0 2 := ⟨RX5, TX5, rfl, by decide, by decide, rfl, uvX5, tyX5_ok, nmX5, zt1 153 rfl rfl⟩
set_option maxRecDepth 100000 in
theorem f_X6_262 : zFd RX6 262 5 4 0 2 := ⟨RX5, TX5, rfl, by decide, by decide, rfl, uvX5, tyX5_ok, nmX5, zt1 154 rfl rfl⟩
set_option maxRecDepth 100000 in
theorem f_X11_169 : zFd RX11 169 5 4 0 2 := ⟨RX5, TX5, rfl, by decide, by decide, rfl, uvX5, tyX5_ok, nmX5, zt1 155 rfl rfl⟩
set_option maxRecDepth 100000 in
theorem f_X5_19 : zFd RX5 19 5 4 1 2 := ⟨RX5, TX5, rfl, by decide, by decide, rfl, uvX5, tyX5_ok, nmX5, zt1 156 rfl rfl⟩
set_option maxRecDepth 100000 in
theorem f_X9_49 : zFd RX9 49 5 4 1 2 := ⟨RX5, TX5, rfl, by decide, by decide, rfl, uvX5, tyX5_ok, nmX5, zt1 157 rfl rfl⟩
set_option maxRecDepth 100000 in
theorem f_X8_78 : zFd RX8 78 5 4 1 2 := ⟨RX5, TX5, rfl, by decide, by decide, rfl, uvX5, tyX5_ok, nmX5, zt1 158 rfl rfl⟩
set_option maxRecDepth 100000 in
theorem f_X0_100 : zFd RX0 100 5 4 1 2 := ⟨RX5, TX5, rfl, by decide, by decide, rfl, uvX5, tyX5_ok, nmX5, zt1 159 rfl rfl⟩
set_option maxRecDepth 100000 in
theorem f_X3_105 : zFd RX3 105 5 4 1 2 := ⟨RX5, TX5, rfl, by decide, by decide, rfl, uvX5, tyX5_ok, nmX5, zt1 160 rfl rfl⟩
set_option maxRecDepth 100000 in
theorem f_X6_265 : zFd RX6 265 5 4 1 2 := ⟨RX5, TX5, rfl, by decide, by decide, rfl, uvX5, tyX5_ok, nmX5, zt1 161 rfl rfl⟩
set_option maxRecDepth 100000 in
theorem f_X11_150 : zFd RX11 150 5 4 1 2 := ⟨RX5, TX5, rfl, by decide, by decide, rfl, uvX5, tyX5_ok, nmX5, zt1 162 rfl rfl⟩
set_option maxRecDepth 100000 in
theorem f_X5_22 : zFd RX5 22 5 4 2 2 := ⟨RX5, TX5, rfl, by decide, by decide, rfl, uvX5, tyX5_ok, nmX5, zt1 163 rfl rfl⟩
set_option maxRecDepth 100000 in
theorem f_X0_103 : zFd RX0 103 5 4 2 2 := ⟨RX5, TX5, rfl, by decide, by decide, rfl, uvX5, tyX5_ok, nmX5, zt1 164 rfl rfl⟩
set_option maxRecDepth 100000 in
theorem f_X11_159 : zFd RX11 159 5 4 2 2 := ⟨RX5, TX5, rfl, by decide, by decide, rfl, uvX5, tyX5_ok, nmX5, zt1 165 rfl rfl⟩
set_option maxRecDepth 100000 in
theorem f_X6_365 : zFd RX6 365 5 4 2 2 := ⟨RX5, TX5, rfl, by decide, by decide, rfl, uvX5, tyX5_ok, nmX5, zt1 166 rfl rfl⟩
set_option maxRecDepth 100000 in
theorem f_X5_9 : zFd RX5 9 5 4 3 0 := ⟨RX5, TX5, rfl, by decide, by decide, rfl, uvX5, tyX5_ok, nmX5, zt1 167 rfl rfl⟩
set_option maxRecDepth 100000 in
theorem f_X6_103 : zFd RX6 103 5 4 3 0 := ⟨RX5, TX5, rfl, by decide, by decide, rfl, uvX5, tyX5_ok, nmX5, zt1 168 rfl rfl⟩
set_option maxRecDepth 100000 in
theorem f_X9_41 : zFd RX9 41 5 4 3 0 := ⟨RX5, TX5, rfl, by decide, by decide, rfl, uvX5, tyX5_ok, nmX5, zt1 169 rfl rfl⟩
set_option maxRecDepth 100000 in
theorem f_X0_60 : zFd RX0 60 5 4 3 0 := ⟨RX5, TX5, rfl, by decide, by decide, rfl, uvX5, tyX5_ok, nmX5, zt1 170 rfl rfl⟩
set_option maxRecDepth 100000 in
theorem f_X8_73 : zFd RX8 73 5 4 3 0 := ⟨RX5, TX5, rfl, by decide, by decide, rfl, uvX5, tyX5_ok, nmX5, zt1 171 rfl rfl⟩
set_option maxRecDepth 100000 in
theorem f_X2_74 : zFd RX2 74 5 4 3 0 := ⟨RX5, TX5, rfl, by decide, by decide, rfl, uvX5, tyX5_ok, nmX5, zt1 172 rfl rfl⟩
set_option maxRecDepth 100000 in
theorem f_X3_134 : zFd RX3 134 5 4 3 0 := ⟨RX5, TX5, rfl, by decide, by decide, rfl, uvX5, tyX5_ok, nmX5, zt1 173 rfl rfl⟩
set_option maxRecDepth 100000 in
theorem f_X11_124 : zFd RX11 124 5 4 3 0 := ⟨RX5, TX5, rfl, by decide, by decide, rfl, uvX5, tyX5_ok, nmX5, zt1 174 rfl rfl⟩
set_option maxRecDepth 100000 in
theorem m_X6_70 : zCw RX6 70 yX10_init cX10_init 2 none 1 := ⟨zt1 186 rfl rfl, zt1 188 rfl rfl, zt1 7 rfl rfl, ⟨by decide +kernel, by decide +kernel, by decide +kernel⟩, by decide⟩
set_option maxRecDepth 100000 in
theorem f_X10_15 : zFd RX10 15 10 2 0 2 := ⟨RX10, TX10, rfl, by decide, by decide, rfl, uvX10, tyX10_ok, nmX10, zt1 190 rfl rfl⟩
set_option maxRecDepth 100000 in
theorem f_X3_70 : zFd RX3 70 10 2 0 2 := ⟨RX10, TX10, rfl, by decide, by decide, rfl, uvX10, tyX10_ok, nmX10, zt1 191 rfl rfl⟩
set_option maxRecDepth 100000 in
theorem f_X6_127 : zFd RX6 127 10 2 0 2 := ⟨RX10, TX10, rfl, by decide, by decide, rfl, uvX10, tyX10_ok, nmX10, zt1 192 rfl rfl⟩
set_option maxRecDepth 100000 in
theorem f_X8_88 : zFd RX8 88 10 2 0 2 := ⟨RX10, TX10, rfl, by decide, by decide, rfl, uvX10, tyX10_ok, nmX10, zt1 193 rfl rfl⟩
set_option maxRecDepth 100000 in
theorem f_X0_220 : zFd RX0 220 10 2 0 2 := ⟨RX10, TX10, rfl, by decide, by decide, rfl, uvX10, tyX10_ok, nmX10, zt1 194 rfl rfl⟩
set_option maxRecDepth 100000 in
theorem f_X10_9 : zFd RX10 9 10 2 1 0 := ⟨RX10, TX10, rfl, by decide, by decide, rfl, uvX10, tyX10_ok, nmX10, zt1 195 rfl rfl⟩
set_option maxRecDepth 100000 in
theorem f_X6_106 : zFd RX6 106 10 2 1 0 := ⟨RX10, TX10, rfl, by decide, by decide, rfl, uvX10, tyX10_ok, nmX10, zt1 196 rfl rfl⟩
set_option maxRecDepth 100000 in
theorem f_X0_193 : zFd RX0 193 10 2 1 0 := ⟨RX10, TX10, rfl, by decide, by decide, rfl, uvX10, tyX10_ok, nmX10, zt1 197 rfl rfl⟩
set_option maxRecDepth 100000 in
theorem m_X6_77 : zCw RX6 77 yX3_init cX3_init 3 none 2 := ⟨zt1 205 rfl rfl, zt1 207 rfl rfl, zt1 8 rfl rfl, ⟨by decide +kernel, by decide +kernel, by decide +kernel⟩, by decide⟩
set_option maxRecDepth 100000 in
theorem f_X3_9 : zFd RX3 9 3 18 0 0 := ⟨RX3, TX3, rfl, by decide, by decide, rfl, uvX3, tyX3_ok, nmX3, zt1 209 rfl rfl⟩
set_option maxRecDepth 100000 in
theorem f_X6_136 : zFd RX6 136 3 18 0 0 := ⟨RX3, TX3, rfl, by decide, by decide, rfl, uvX3, tyX3_ok, nmX3, zt1 210 rfl rfl⟩
set_option maxRecDepth 100000 in
theorem f_X11_181 : zFd RX11 181 3 18 0 0 := ⟨RX3, TX3, rfl, by decide, by decide, rfl, uvX3, tyX3_ok, nmX3, zt1 211 rfl rfl⟩
set_option maxRecDepth 100000 in
theorem f_X3_15 : zFd RX3 15 3 18 1 2 := ⟨RX3, TX3, rfl, by decide, by decide, rfl, uvX3, tyX3_ok, nmX3, zt1 212 rfl rfl⟩
set_option maxRecDepth 100000 in
theorem f_X11_203 : zFd RX11 203 3 18 1 2 := ⟨RX3, TX3, rfl, by decide, by decide, rfl, uvX3, tyX3_ok, nmX3, zt1 213 rfl rfl⟩
set_option maxRecDepth 100000 in
theorem f_X3_19 : zFd RX3 19 3 18 2 2 := ⟨RX3, TX3, rfl, by decide, by decide, rfl, uvX3, tyX3_ok, nmX3, zt1 214 rfl rfl⟩
set_option maxRecDepth 100000 in
theorem f_X11_200 : zFd RX11 200 3 18 2 2 := ⟨RX3, TX3, rfl, by decide, by decide, rfl, uvX3, tyX3_ok, nmX3, zt1 215 rfl rfl⟩
set_option maxRecDepth 100000 in
theorem f_X3_22 : zFd RX3 22 3 18 3 2 := ⟨RX3, TX3, rfl, by decide, by decide, rfl, uvX3, tyX3_ok, nmX3, zt1 216 rfl rfl⟩
set_option maxRecDepth 100000 in
theorem f_X11_184 : zFd RX11 184 3 18 3 2 := ⟨RX3, TX3, rfl, by decide, by decide, rfl, uvX3, tyX3_ok, nmX3, zt1 217 rfl rfl⟩
set_option maxRecDepth 100000 in
theorem f_X6_340 : zFd RX6 340 3 18 3 2 := ⟨RX3, TX3, rfl, by decide, by decide, rfl, uvX3, tyX3_ok, nmX3, zt1 218 rfl rfl⟩
set_option maxRecDepth 100000 in
theorem f_X3_26 : zFd RX3 26 3 18 4 2 := ⟨RX3, TX3, rfl, by decide, by decide, rfl, uvX3, tyX3_ok, nmX3, zt1 219 rfl rfl⟩
set_option maxRecDepth 100000 in
theorem f_X0_134 : zFd RX0 134 3 18 4 2 := ⟨RX3, TX3, rfl, by decide, by decide, rfl, uvX3, tyX3_ok, nmX3, zt1 220 rfl rfl⟩
set_option maxRecDepth 100000 in
theorem f_X11_187 : zFd RX11 187 3 18 4 2 := ⟨RX3, TX3, rfl, by decide, by decide, rfl, uvX3, tyX3_ok, nmX3, zt1 221 rfl rfl⟩
set_option maxRecDepth 100000 in
theorem f_X3_29 : zFd RX3 29 3 18 5 2 := ⟨RX3, TX3, rfl, by decide, by decide, rfl, uvX3, tyX3_ok, nmX3, zt1 222 rfl rfl⟩
set_option maxRecDepth 100000 in
theorem f_X11_190 : zFd RX11 190 3 18 5 2 := ⟨RX3, TX3, rfl, by decide, by decide, rfl, uvX3, tyX3_ok, nmX3, zt1 223 rfl rfl⟩
set_option maxRecDepth 100000 in
theorem f_X3_32 : zFd RX3 32 3 18 6 2 := ⟨RX3, TX3, rfl, by decide, by decide, rfl, uvX3, tyX3_ok, nmX3, zt1 224 rfl rfl⟩
set_option maxRecDepth 100000 in
theorem f_X11_193 : zFd RX11 193 3 18 6 2 := ⟨RX3, TX3, rfl, by decide, by decide, rfl, uvX3, tyX3_ok, nmX3, zt1 225 rfl rfl⟩
set_option maxRecDepth 100000 in
theorem f_X3_35 : zFd RX3 35 3 18 7 2 := ⟨RX3, TX3, rfl, by decide, by decide, rfl, uvX3, tyX3_ok, nmX3, zt1 226 rfl rfl⟩
set_option maxRecDepth 100000 in
theorem f_X11_195 : zFd RX11 195 3 18 7 2 := ⟨RX3, TX3, rfl, by decide, by decide, rfl, uvX3, tyX3_ok, nmX3, zt1 227 rfl rfl⟩
set_option maxRecDepth 100000 in
theorem f_X3_38 : zFd RX3 38 3 18 8 2 := ⟨RX3, TX3, rfl, by decide, by decide, rfl, uvX3, tyX3_ok, nmX3, zt1 228 rfl rfl⟩
set_option maxRecDepth 100000 in
theorem f_X0_152 : zFd RX0 152 3 18 8 2 := ⟨RX3, TX3, rfl, by decide, by decide, rfl, uvX3, tyX3_ok, nmX3, zt1 229 rfl rfl⟩
set_option maxRecDepth 100000 in
theorem f_X11_197 : zFd RX11 197 3 18 8 2 := ⟨RX3, TX3, rfl, by decide, by decide, rfl, uvX3, tyX3_ok, nmX3, zt1 230 rfl rfl⟩
set_option maxRecDepth 100000 in
theorem f_X3_41 : zFd RX3 41 3 18 9 2 := ⟨RX3, TX3, rfl, by decide, by decide, rfl, uvX3, tyX3_ok, nmX3, zt1 231 rfl rfl⟩
set_option maxRecDepth 100000 in
theorem f_X0_168 : zFd RX0 168 3 18 9 2 := ⟨RX3, TX3, rfl, by decide, by decide, rfl, uvX3, tyX3_ok, nmX3, zt1 232 rfl rfl⟩
set_option maxRecDepth 100000 in
theorem f_X3_44 : zFd RX3 44 3 18 10 2 := ⟨RX3, TX3, rfl, by decide, by decide, rfl, uvX3, tyX3_ok, nmX3, zt1 233 rfl rfl⟩
set_option maxRecDepth 100000 in
theorem f_X0_174 : zFd RX0 174 3 18 10 2 := ⟨RX3, TX3, rfl, by decide, by decide, rfl, uvX3, tyX3_ok, nmX3, zt1 234 rfl rfl⟩
set_option maxRecDepth 100000 in
theorem f_X3_47 : zFd RX3 47 3 18 11 2 := ⟨RX3, TX3, rfl, by decide, by decide, rfl, uvX3, tyX3_ok, nmX3, zt1 235 rfl rfl⟩
set_option maxRecDepth 100000 in
theorem f_X0_183 : zFd RX0 183 3 18 11 2 := ⟨RX3, TX3, rfl, by decide, by decide, rfl, uvX3, tyX3_ok, nmX3, zt1 236 rfl rfl⟩
set_option maxRecDepth 100000 in
theorem f_X3_50 : zFd RX3 50 3 18 12 2 := ⟨RX3, TX3, rfl, by decide, by decide, rfl, uvX3, tyX3_ok, nmX3, zt1 237 rfl rfl⟩
set_option maxRecDepth 100000 in
theorem f_X0_190 : zFd RX0 190 3 18 12 2 := ⟨RX3, TX3, rfl, by decide, by decide, rfl, uvX3, tyX3_ok, nmX3, zt1 238 rfl rfl⟩
set_option maxRecDepth 100000 in
theorem f_X3_53 : zFd RX3 53 3 18 13 2 := ⟨RX3, TX3, rfl, by decide, by decide, rfl, uvX3, tyX3_ok, nmX3, zt1 239 rfl rfl⟩
set_option maxRecDepth 100000 in
theorem f_X0_177 : zFd RX0 177 3 18 13 2 := ⟨RX3, TX3, rfl, by decide, by decide, rfl, uvX3, tyX3_ok, nmX3, zt2 0 rfl rfl⟩
set_option maxRecDepth 100000 in
theorem f_X3_62 : zFd RX3 62 3 18 14 2 := ⟨RX3, TX3, rfl, by decide, by decide, rfl, uvX3, tyX3_ok, nmX3, zt2 1 rfl rfl⟩
set_option maxRecDepth 100000 in
theorem f_X3_66 : zFd RX3 66 3 18 15 2 := ⟨RX3, TX3, rfl, by decide, by decide, rfl, uvX3, tyX3_ok, nmX3, zt2 2 rfl rfl⟩
set_option maxRecDepth 100000 in
theorem f_X3_56 : zFd RX3 56 3 18 16 2 := ⟨RX3, TX3, rfl, by decide, by decide, rfl, uvX3, tyX3_ok, nmX3, zt2 3 rfl rfl⟩
set_option maxRecDepth 100000 in
theorem f_X3_59 : zFd RX3 59 3 18 17 0 := ⟨RX3, TX3, rfl, by decide, by decide, rfl, uvX3, tyX3_ok, nmX3, zt2 4 rfl rfl⟩
set_option maxRecDepth 100000 in
theorem m_X6_86 : zCw RX6 86 yX0_init cX0_init 6 none 4 := ⟨zt2 44 rfl rfl, zt2 46 rfl rfl, zt1 9 rfl rfl, ⟨by decide +kernel, by decide +kernel, by decide +kernel⟩, by decide⟩
set_option maxRecDepth 100000 in
theorem m_X0_11 : zCw RX0 11 yX5_init cX5_init 2 none 1 := ⟨zt2 49 rfl rfl, zt1 147 rfl rfl, zt1 6 rfl rfl, ⟨by decide +kernel, by decide +kernel, by decide +kernel⟩, by decide⟩
set_option maxRecDepth 100000 in
theorem m_X2_49 : zCw RX2 49 yX5_init cX5_init 2 none 1 := ⟨zt2 58 rfl rfl, zt1 147 rfl rfl, zt1 6 rfl rfl, ⟨by decide +kernel, by decide +kernel, by decide +kernel⟩, by decide⟩
set_option maxRecDepth 100000 in
theorem f_X2_9 : zFd RX2 9 2 18 0 0 := ⟨RX2, TX2, rfl, by decide, by decide, rfl, uvX2, tyX2_ok, nmX2, zt2 59 rfl rfl⟩
set_option maxRecDepth 100000 in
theorem f_X0_77 : zFd RX0 77 2 18 0 0 := ⟨RX2, TX2, rfl, by decide, by decide, rfl, uvX2, tyX2_ok, nmX2, zt2 60 rfl rfl⟩
set_option maxRecDepth 100000 in
theorem f_X2_15 : zFd RX2 15 2 18 1 0 := ⟨RX2, TX2, rfl, by decide, by decide, rfl, uvX2, tyX2_ok, nmX2, zt2 61 rfl rfl⟩
set_option maxRecDepth 100000 in
theorem f_X0_87 : zFd RX0 87 2 18 1 0 := ⟨RX2, TX2, rfl, by decide, by decide, rfl, uvX2, tyX2_ok, nmX2, zt2 62 rfl rfl⟩
set_option maxRecDepth 100000 in
theorem f_X2_18 : zFd RX2 18 2 18 2 0 := ⟨RX2, TX2, rfl, by decide, by decide, rfl, uvX2, tyX2_ok, nmX2, zt2 63 rfl rfl⟩
set_option maxRecDepth 100000 in
theorem f_X0_90 : zFd RX0 90 2 18 2 0 := ⟨RX2, TX2, rfl, by decide, by decide, rfl, uvX2, tyX2_ok, nmX2, zt2 64 rfl rfl⟩
set_option maxRecDepth 100000 in
theorem f_X2_22 : zFd RX2 22 2 18 3 0 := ⟨RX2, TX2, rfl, by decide, by decide, rfl, uvX2, tyX2_ok, nmX2, zt2 65 rfl rfl⟩
set_option maxRecDepth 100000 in
theorem f_X0_80 : zFd RX0 80 2 18 3 0 := ⟨RX2, TX2, rfl, by decide, by decide, rfl, uvX2, tyX2_ok, nmX2, zt2 66 rfl rfl⟩
set_option maxRecDepth 100000 in
theorem f_X2_25 : zFd RX2 25 2 18 4 0 := ⟨RX2, TX2, rfl, by decide, by decide, rfl, uvX2, tyX2_ok, nmX2, zt2 67 rfl rfl⟩
set_option maxRecDepth 100000 in
theorem f_X0_165 : zFd RX0 165 2 18 4 0 := ⟨RX2, TX2, rfl, by decide, by decide, rfl, uvX2, tyX2_ok, nmX2, zt2 68 rfl rfl⟩
set_option maxRecDepth 100000 in
theorem f_X2_28 : zFd RX2 28 2 18 5 0 := ⟨RX2, TX2, rfl, by decide, by decide, rfl, uvX2, tyX2_ok, nmX2, zt2 69 rfl rfl⟩
set_option maxRecDepth 100000 in
theorem f_X0_245 : zFd RX0 245 2 18 5 0 := ⟨RX2, TX2, rfl, by decide, by decide, rfl, uvX2, tyX2_ok, nmX2, zt2 70 rfl rfl⟩
set_option maxRecDepth 100000 in
theorem f_X2_31 : zFd RX2 31 2 18 6 0 := ⟨RX2, TX2, rfl, by decide, by decide, rfl, uvX2, tyX2_ok, nmX2, zt2 71 rfl rfl⟩
set_option maxRecDepth 100000 in
theorem f_X0_199 : zFd RX0 199 2 18 6 0 := ⟨RX2, TX2, rfl, by decide, by decide, rfl, uvX2, tyX2_ok, nmX2, zt2 72 rfl rfl⟩
set_option maxRecDepth 100000 in
theorem f_X2_34 : zFd RX2 34 2 18 7 0 := ⟨RX2, TX2, rfl, by decide, by decide, rfl, uvX2, tyX2_ok, nmX2, zt2 73 rfl rfl⟩
set_option maxRecDepth 100000 in
theorem f_X0_242 : zFd RX0 242 2 18 7 0 := ⟨RX2, TX2, rfl, by decide, by decide, rfl, uvX2, tyX2_ok, nmX2, zt2 74 rfl rfl⟩
set_option maxRecDepth 100000 in
theorem f_X2_37 : zFd RX2 37 2 18 8 0 := ⟨RX2, TX2, rfl, by decide, by decide, rfl, uvX2, tyX2_ok, nmX2, zt2 75 rfl rfl⟩
set_option maxRecDepth 100000 in
theorem f_X0_149 : zFd RX0 149 2 18 8 0 := ⟨RX2, TX2, rfl, by decide, by decide, rfl, uvX2, tyX2_ok, nmX2, zt2 76 rfl rfl⟩
set_option maxRecDepth 100000 in
theorem f_X2_40 : zFd RX2 40 2 18 9 2 := ⟨RX2, TX2, rfl, by decide, by decide, rfl, uvX2, tyX2_ok, nmX2, zt2 77 rfl rfl⟩
set_option maxRecDepth 100000 in
theorem f_X0_159 : zFd RX0 159 2 18 9 2 := ⟨RX2, TX2, rfl, by decide, by decide, rfl, uvX2, tyX2_ok, nmX2, zt2 78 rfl rfl⟩
set_option maxRecDepth 100000 in
theorem f_X2_44 : zFd RX2 44 2 18 10 2 := ⟨RX2, TX2, rfl, by decide, by decide, rfl, uvX2, tyX2_ok, nmX2, zt2 79 rfl rfl⟩
set_option maxRecDepth 100000 in
theorem f_X0_162 : zFd RX0 162 2 18 10 2 := ⟨RX2, TX2, rfl, by decide, by decide, rfl, uvX2, tyX2_ok, nmX2, zt2 80 rfl rfl⟩
set_option maxRecDepth 100000 in
theorem f_X2_52 : zFd RX2 52 2 18 11 2 := ⟨RX2, TX2, rfl, by decide, by decide, rfl, uvX2, tyX2_ok, nmX2, zt2 81 rfl rfl⟩
set_option maxRecDepth 100000 in
theorem f_X0_211 : zFd RX0 211 2 18 11 2 := ⟨RX2, TX2, rfl, by decide, by decide, rfl, uvX2, tyX2_ok, nmX2, zt2 82 rfl rfl⟩
set_option maxRecDepth 100000 in
theorem f_X2_56 : zFd RX2 56 2 18 12 0 := ⟨RX2, TX2, rfl, by decide, by decide, rfl, uvX2, tyX2_ok, nmX2, zt2 83 rfl rfl⟩
set_option maxRecDepth 100000 in
theorem f_X2_59 : zFd RX2 59 2 18 13 0 := ⟨RX2, TX2, rfl, by decide, by decide, rfl, uvX2, tyX2_ok, nmX2, zt2 84 rfl rfl⟩
set_option maxRecDepth 100000 in
theorem f_X0_106 : zFd RX0 106 2 18 13 0 := ⟨RX2, TX2, rfl, by decide, by decide, rfl, uvX2, tyX2_ok, nmX2, zt2 85 rfl rfl⟩
set_option maxRecDepth 100000 in
theorem f_X2_62 : zFd RX2 62 2 18 14 0 := ⟨RX2, TX2, rfl, by decide, by decide, rfl, uvX2, tyX2_ok, nmX2, zt2 86 rfl rfl⟩
set_option maxRecDepth 100000 in
theorem f_X0_214 : zFd RX0 214 2 18 14 0 := ⟨RX2, TX2, rfl, by decide, by decide, rfl, uvX2, tyX2_ok, nmX2, zt2 87 rfl rfl⟩
set_option maxRecDepth 100000 in
theorem f_X2_65 : zFd RX2 65 2 18 15 0 := ⟨RX2, TX2, rfl, by decide, by decide, rfl, uvX2, tyX2_ok, nmX2, zt2 88 rfl rfl⟩
set_option maxRecDepth 100000 in
theorem f_X2_68 : zFd RX2 68 2 18 16 0 := ⟨RX2, TX2, rfl, by decide, by decide, rfl, uvX2, tyX2_ok, nmX2, zt2 89 rfl rfl⟩
set_option maxRecDepth 100000 in
theorem f_X0_217 : zFd RX0 217 2 18 16 0 := ⟨RX2, TX2, rfl, by decide, by decide, rfl, uvX2, tyX2_ok, nmX2, zt2 90 rfl rfl⟩
set_option maxRecDepth 100000 in
theorem f_X2_71 : zFd RX2 71 2 18 17 0 := ⟨RX2, TX2, rfl, by decide, by decide, rfl, uvX2, tyX2_ok, nmX2, zt2 91 rfl rfl⟩
set_option maxRecDepth 100000 in
theorem f_X0_236 : zFd RX0 236 2 18 17 0 := ⟨RX2, TX2, rfl, by decide, by decide, rfl, uvX2, tyX2_ok, nmX2, zt2 92 rfl rfl⟩
set_option maxRecDepth 100000 in
theorem f_X0_38 : zFd RX0 38 0 9 0 2 := ⟨RX0, TX0, rfl, by decide, by decide, rfl, uvX0, tyX0_ok, nmX0, zt2 130 rfl rfl⟩
set_option maxRecDepth 100000 in
theorem f_X0_42 : zFd RX0 42 0 9 1 2 := ⟨RX0, TX0, rfl, by decide, by decide, rfl, uvX0, tyX0_ok, nmX0, zt2 131 rfl rfl⟩
set_option maxRecDepth 100000 in
theorem f_X0_46 : zFd RX0 46 0 9 2 2 := ⟨RX0, TX0, rfl, by decide, by decide, rfl, uvX0, tyX0_ok, nmX0, zt2 132 rfl rfl⟩
set_option maxRecDepth 100000 in
theorem f_X0_14 : zFd RX0 14 0 9 3 2 := ⟨RX0, TX0, rfl, by decide, by decide, rfl, uvX0, tyX0_ok, nmX0, zt2 133 rfl rfl⟩
set_option maxRecDepth 100000 in
theorem f_X0_20 : zFd RX0 20 0 9 4 2 := ⟨RX0, TX0, rfl, by decide, by decide, rfl, uvX0, tyX0_ok, nmX0, zt2 134 rfl rfl⟩
set_option maxRecDepth 100000 in
theorem f_X0_26 : zFd RX0 26 0 9 5 2 := ⟨RX0, TX0, rfl, by decide, by decide, rfl, uvX0, tyX0_ok, nmX0, zt2 135 rfl rfl⟩
set_option maxRecDepth 100000 in
theorem f_X0_30 : zFd RX0 30 0 9 6 0 := ⟨RX0, TX0, rfl, by decide, by decide, rfl, uvX0, tyX0_ok, nmX0, zt2 136 rfl rfl⟩
set_option maxRecDepth 100000 in
theorem f_X0_50 : zFd RX0 50 0 9 7 2 := ⟨RX0, TX0, rfl, by decide, by decide, rfl, uvX0, tyX0_ok, nmX0, zt2 137 rfl rfl⟩
set_option maxRecDepth 100000 in
theorem f_X0_34 : zFd RX0 34 0 9 8 0 := ⟨RX0, TX0, rfl, by decide, by decide, rfl, uvX0, tyX0_ok, nmX0, zt2 138 rfl rfl⟩
set_option maxRecDepth 100000 in
theorem m_X6_95 : zCw RX6 95 yX9_init cX9_init 3 none 2 := ⟨zt2 160 rfl rfl, zt2 162 rfl rfl, zt1 11 rfl rfl, ⟨by decide +kernel, by decide +kernel, by decide +kernel⟩, by decide⟩
set_option maxRecDepth 100000 in
theorem f_X9_29 : zFd RX9 29 9 8 0 2 := ⟨RX9, TX9, rfl, by decide, by decide, rfl, uvX9, tyX9_ok, nmX9, zt2 164 rfl rfl⟩
set_option maxRecDepth 100000 in
theorem f_X9_33 : zFd RX9 33 9 8 1 2 := ⟨RX9, TX9, rfl, by decide, by decide, rfl, uvX9, tyX9_ok, nmX9, zt2 165 rfl rfl⟩
set_option maxRecDepth 100000 in
theorem f_X9_37 : zFd RX9 37 9 8 2 2 := ⟨RX9, TX9, rfl, by decide, by decide, rfl, uvX9, tyX9_ok, nmX9, zt2 166 rfl rfl⟩
set_option maxRecDepth 100000 in
theorem f_X9_9 : zFd RX9 9 9 8 3 2 := ⟨RX9, TX9, rfl, by decide, by decide, rfl, uvX9, tyX9_ok, nmX9, zt2 167 rfl rfl⟩
set_option maxRecDepth 100000 in
theorem f_X9_15 : zFd RX9 15 9 8 4 2 := ⟨RX9, TX9, rfl, by decide, by decide, rfl, uvX9, tyX9_ok, nmX9, zt2 168 rfl rfl⟩
set_option maxRecDepth 100000 in
theorem f_X9_19 : zFd RX9 19 9 8 5 0 := ⟨RX9, TX9, rfl, by decide, by decide, rfl, uvX9, tyX9_ok, nmX9, zt2 169 rfl rfl⟩
set_option maxRecDepth 100000 in
theorem f_X9_23 : zFd RX9 23 9 8 6 0 := ⟨RX9, TX9, rfl, by decide, by decide, rfl, uvX9, tyX9_ok, nmX9, zt2 170 rfl rfl⟩
set_option maxRecDepth 100000 in
theorem f_X9_26 : zFd RX9 26 9 8 7 0 := ⟨RX9, TX9, rfl, by decide, by decide, rfl, uvX9, tyX9_ok, nmX9, zt2 171 rfl rfl⟩
set_option maxRecDepth 100000 in
theorem f_X6_71 : zFd RX6 71 6 20 0 2 := ⟨RX6, TX6, rfl, by decide, by decide, rfl, uvX6, tyX6_ok, nmX6, zt2 190 rfl rfl⟩
set_option maxRecDepth 100000 in
theorem f_X8_84 : zFd RX8 84 6 20 0 2 := ⟨RX6, TX6, rfl, by decide, by decide, rfl, uvX6, tyX6_ok, nmX6, zt2 191 rfl rfl⟩
set_option maxRecDepth 100000 in
theorem f_X11_165 : zFd RX11 165 6 20 0 2 := ⟨RX6, TX6, rfl, by decide, by decide, rfl, uvX6, tyX6_ok, nmX6, zt2 192 rfl rfl⟩
set_option maxRecDepth 100000 in
theorem f_X6_12 : zFd RX6 12 6 20 1 2 := ⟨RX6, TX6, rfl, by decide, by decide, rfl, uvX6, tyX6_ok, nmX6, zt2 193 rfl rfl⟩
set_option maxRecDepth 100000 in
theorem f_X8_102 : zFd RX8 102 6 20 1 2 := ⟨RX6, TX6, rfl, by decide, by decide, rfl, uvX6, tyX6_ok, nmX6, zt2 194 rfl rfl⟩
set_option maxRecDepth 100000 in
theorem f_X11_111 : zFd RX11 111 6 20 1 2 := ⟨RX6, TX6, rfl, by decide, by decide, rfl, uvX6, tyX6_ok, nmX6, zt2 195 rfl rfl⟩
set_option maxRecDepth 100000 in
theorem f_X6_80 : zFd RX6 80 6 20 2 2 := ⟨RX6, TX6, rfl, by decide, by decide, rfl, uvX6, tyX6_ok, nmX6, zt2 196 rfl rfl⟩
set_option maxRecDepth 100000 in
theorem f_X11_177 : zFd RX11 177 6 20 2 2 := ⟨RX6, TX6, rfl, by decide, by decide, rfl, uvX6, tyX6_ok, nmX6, zt2 197 rfl rfl⟩
set_option maxRecDepth 100000 in
theorem f_X6_23 : zFd RX6 23 6 20 3 2 := ⟨RX6, TX6, rfl, by decide, by decide, rfl, uvX6, tyX6_ok, nmX6, zt2 198 rfl rfl⟩
set_option maxRecDepth 100000 in
theorem f_X8_69 : zFd RX8 69 6 20 3 2 := ⟨RX6, TX6, rfl, by decide, by decide, rfl, uvX6, tyX6_ok, nmX6, zt2 199 rfl rfl⟩
set_option maxRecDepth 100000 in
theorem f_X11_120 : zFd RX11 120 6 20 3 2 := ⟨RX6, TX6, rfl, by decide, by decide, rfl, uvX6, tyX6_ok, nmX6, zt2 200 rfl rfl⟩
set_option maxRecDepth 100000 in
theorem f_X6_27 : zFd RX6 27 6 20 4 2 := ⟨RX6, TX6, rfl, by decide, by decide, rfl, uvX6, tyX6_ok, nmX6, zt2 201 rfl rfl⟩
set_option maxRecDepth 100000 in
theorem f_X11_206 : zFd RX11 206 6 20 4 2 := ⟨RX6, TX6, rfl, by decide, by decide, rfl, uvX6, tyX6_ok, nmX6, zt2 202 rfl rfl⟩
set_option maxRecDepth 100000 in
theorem f_X6_31 : zFd RX6 31 6 20 5 2 := ⟨RX6, TX6, rfl, by decide, by decide, rfl, uvX6, tyX6_ok, nmX6, zt2 203 rfl rfl⟩
set_option maxRecDepth 100000 in
theorem f_X8_59 : zFd RX8 59 6 20 5 2 := ⟨RX6, TX6, rfl, by decide, by decide, rfl, uvX6, tyX6_ok, nmX6, zt2 204 rfl rfl⟩
set_option maxRecDepth 100000 in
theorem f_X11_213 : zFd RX11 213 6 20 5 2 := ⟨RX6, TX6, rfl, by decide, by decide, rfl, uvX6, tyX6_ok, nmX6, zt2 205 rfl rfl⟩
set_option maxRecDepth 100000 in
theorem f_X6_34 : zFd RX6 34 6 20 6 2 := ⟨RX6, TX6, rfl, by decide, by decide, rfl, uvX6, tyX6_ok, nmX6, zt2 206 rfl rfl⟩
set_option maxRecDepth 100000 in
theorem f_X6_89 : zFd RX6 89 6 20 7 2 := ⟨RX6, TX6, rfl, by decide, by decide, rfl, uvX6, tyX6_ok, nmX6, zt2 207 rfl rfl⟩
set_option maxRecDepth 100000 in
theorem f_X6_96 : zFd RX6 96 6 20 8 2 := ⟨RX6, TX6, rfl, by decide, by decide, rfl, uvX6, tyX6_ok, nmX6, zt2 208 rfl rfl⟩
set_option maxRecDepth 100000 in
theorem f_X6_37 : zFd RX6 37 6 20 9 2 := ⟨RX6, TX6, rfl, by decide, by decide, rfl, uvX6, tyX6_ok, nmX6, zt2 209 rfl rfl⟩
set_option maxRecDepth 100000 in
theorem f_X6_40 : zFd RX6 40 6 20 10 2 := ⟨RX6, TX6, rfl, by decide, by decide, rfl, uvX6, tyX6_ok, nmX6, zt2 210 rfl rfl⟩
set_option maxRecDepth 100000 in
theorem f_X6_121 : zFd RX6 121 6 20 11 2 := ⟨RX6, TX6, rfl, by decide, by decide, rfl, uvX6, tyX6_ok, nmX6, zt2 211 rfl rfl⟩
set_option maxRecDepth 100000 in
theorem f_X6_43 : zFd RX6 43 6 20 12 2 := ⟨RX6, TX6, rfl, by decide, by decide, rfl, uvX6, tyX6_ok, nmX6, zt2 212 rfl rfl⟩
set_option maxRecDepth 100000 in
theorem f_X6_46 : zFd RX6 46 6 20 13 2 := ⟨RX6, TX6, rfl, by decide, by decide, rfl, uvX6, tyX6_ok, nmX6, zt2 213 rfl rfl⟩
set_option maxRecDepth 100000 in
theorem f_X6_49 : zFd RX6 49 6 20 14 2 := ⟨RX6, TX6, rfl, by decide, by decide, rfl, uvX6, tyX6_ok, nmX6, zt2 214 rfl rfl⟩
set_option maxRecDepth 100000 in
theorem f_X6_52 : zFd RX6 52 6 20 15 0 := ⟨RX6, TX6, rfl, by decide, by decide, rfl, uvX6, tyX6_ok, nmX6, zt2 215 rfl rfl⟩
set_option maxRecDepth 100000 in
theorem f_X6_56 : zFd RX6 56 6 20 16 2 := ⟨RX6, TX6, rfl, by decide, by decide, rfl, uvX6, tyX6_ok, nmX6, zt2 216 rfl rfl⟩
set_option maxRecDepth 100000 in
theorem f_X6_59 : zFd RX6 59 6 20 17 2 := ⟨RX6, TX6, rfl, by decide, by decide, rfl, uvX6, tyX6_ok, nmX6, zt2 217 rfl rfl⟩
set_option maxRecDepth 100000 in
theorem f_X6_62 : zFd RX6 62 6 20 18 0 := ⟨RX6, TX6, rfl, by decide, by decide, rfl, uvX6, tyX6_ok, nmX6, zt2 218 rfl rfl⟩
set_option maxRecDepth 100000 in
theorem f_X6_65 : zFd RX6 65 6 20 19 0 := ⟨RX6, TX6, rfl, by decide, by decide, rfl, uvX6, tyX6_ok, nmX6, zt2 219 rfl rfl⟩
set_option maxRecDepth 100000 in
theorem f_X11_9 : zFd RX11 9 11 9 0 2 := ⟨RX11, TX11, rfl, by decide, by decide, rfl, uvX11, tyX11_ok, nmX11, zt3 21 rfl rfl⟩
set_option maxRecDepth 100000 in
theorem f_X11_13 : zFd RX11 13 11 9 1 0 := ⟨RX11, TX11, rfl, by decide, by decide, rfl, uvX11, tyX11_ok, nmX11, zt3 22 rfl rfl⟩
set_option maxRecDepth 100000 in
theorem f_X11_20 : zFd RX11 20 11 9 2 2 := ⟨RX11, TX11, rfl, by decide, by decide, rfl, uvX11, tyX11_ok, nmX11, zt3 23 rfl rfl⟩
set_option maxRecDepth 100000 in
theorem f_X11_24 : zFd RX11 24 11 9 3 2 := ⟨RX11, TX11, rfl, by decide, by decide, rfl, uvX11, tyX11_ok, nmX11, zt3 24 rfl rfl⟩
set_option maxRecDepth 100000 in
theorem f_X11_28 : zFd RX11 28 11 9 4 2 := ⟨RX11, TX11, rfl, by decide, by decide, rfl, uvX11, tyX11_ok, nmX11, zt3 25 rfl rfl⟩
set_option maxRecDepth 100000 in
theorem f_X11_32 : zFd RX11 32 11 9 5 2 := ⟨RX11, TX11, rfl, by decide, by decide, rfl, uvX11, tyX11_ok, nmX11, zt3 26 rfl rfl⟩
set_option maxRecDepth 100000 in
theorem f_X11_35 : zFd RX11 35 11 9 6 0 := ⟨RX11, TX11, rfl, by decide, by decide, rfl, uvX11, tyX11_ok, nmX11, zt3 27 rfl rfl⟩
set_option maxRecDepth 100000 in
theorem f_X11_43 : zFd RX11 43 11 9 7 2 := ⟨RX11, TX11, rfl, by decide, by decide, rfl, uvX11, tyX11_ok, nmX11, zt3 28 rfl rfl⟩
set_option maxRecDepth 100000 in
theorem f_X11_47 : zFd RX11 47 11 9 8 2 := ⟨RX11, TX11, rfl, by decide, by decide, rfl, uvX11, tyX11_ok, nmX11, zt3 29 rfl rfl⟩
set_option maxRecDepth 100000 in
theorem m_L_26 : zCw "HideSetsLaw" 26 yX11_feed cX11_feed 6 (some .int) 5 := ⟨zt3 49 rfl rfl, zt3 52 rfl rfl, zt1 1 rfl rfl, ⟨by decide +kernel, by decide +kernel, by decide +kernel⟩, by decide⟩
set_option maxRecDepth 100000 in
theorem m_X11_51 : zCw RX11 51 yX11_putNumber cX11_putNumber 3 none 1 := ⟨zt3 53 rfl rfl, zt3 56 rfl rfl, zt1 1 rfl rfl, ⟨by decide +kernel, by decide +kernel, by decide +kernel⟩, by decide⟩
set_option maxRecDepth 100000 in
theorem m_L_31 : zCw "HideSetsLaw" 31 yX11_end cX11_end 2 (some .boolean) 1 := ⟨zt3 57 rfl rfl, zt3 60 rfl rfl, zt1 1 rfl rfl, ⟨by decide +kernel, by decide +kernel, by decide +kernel⟩, by decide⟩
set_option maxRecDepth 100000 in
theorem m_L_36 : zCw "HideSetsLaw" 36 yX11_file cX11_file 4 (some .int) 1 := ⟨zt3 61 rfl rfl, zt3 64 rfl rfl, zt1 1 rfl rfl, ⟨by decide +kernel, by decide +kernel, by decide +kernel⟩, by decide⟩
set_option maxRecDepth 100000 in
theorem m_X11_54 : zCw RX11 54 yX11_takeTape cX11_takeTape 2 (some .int) 0 := ⟨zt3 65 rfl rfl, zt3 68 rfl rfl, zt1 1 rfl rfl, ⟨by decide +kernel, by decide +kernel, by decide +kernel⟩, by decide⟩
set_option maxRecDepth 100000 in
theorem m_X11_58 : zCw RX11 58 yX11_wrongByte cX11_wrongByte 4 (some .int) 2 := ⟨zt3 69 rfl rfl, zt3 72 rfl rfl, zt1 1 rfl rfl, ⟨by decide +kernel, by decide +kernel, by decide +kernel⟩, by decide⟩
set_option maxRecDepth 100000 in
theorem m_X11_62 : zCw RX11 62 yX11_linesOnTape cX11_linesOnTape 4 (some .int) 1 := ⟨zt3 73 rfl rfl, zt3 76 rfl rfl, zt1 1 rfl rfl, ⟨by decide +kernel, by decide +kernel, by decide +kernel⟩, by decide⟩
set_option maxRecDepth 100000 in
theorem m_X11_70 : zCw RX11 70 yX4_read cX4_read 5 none 2 := ⟨zt3 77 rfl rfl, zt3 80 rfl rfl, zt1 3 rfl rfl, ⟨by decide +kernel, by decide +kernel, by decide +kernel⟩, by decide⟩
set_option maxRecDepth 100000 in
theorem m_X4_36 : zCw RX4 36 yX4_closeLine cX4_closeLine 2 none 1 := ⟨zt3 81 rfl rfl, zt3 84 rfl rfl, zt1 3 rfl rfl, ⟨by decide +kernel, by decide +kernel, by decide +kernel⟩, by decide⟩
set_option maxRecDepth 100000 in
theorem m_X4_40 : zCw RX4 40 yX4_mark cX4_mark 2 none 0 := ⟨zt3 85 rfl rfl, zt3 88 rfl rfl, zt1 3 rfl rfl, ⟨by decide +kernel, by decide +kernel, by decide +kernel⟩, by decide⟩
set_option maxRecDepth 100000 in
theorem m_X4_59 : zCw RX4 59 yX4_wordOf cX4_wordOf 6 (some .int) 1 := ⟨zt3 89 rfl rfl, zt3 92 rfl rfl, zt1 3 rfl rfl, ⟨by decide +kernel, by decide +kernel, by decide +kernel⟩, by decide⟩
set_option maxRecDepth 100000 in
theorem m_X4_67 : zCw RX4 67 yX4_firstOf cX4_firstOf 2 (some .int) 1 := ⟨zt3 93 rfl rfl, zt3 96 rfl rfl, zt1 3 rfl rfl, ⟨by decide +kernel, by decide +kernel, by decide +kernel⟩, by decide⟩
set_option maxRecDepth 100000 in
theorem m_X4_49 : zCw RX4 49 yX4_skipBlanks cX4_skipBlanks 4 (some .int) 2 := ⟨zt3 97 rfl rfl, zt3 100 rfl rfl, zt1 3 rfl rfl, ⟨by decide +kernel, by decide +kernel, by decide +kernel⟩, by decide⟩
set_option maxRecDepth 100000 in
theorem m_X4_70 : zCw RX4 70 yX4_skipWord cX4_skipWord 4 (some .int) 2 := ⟨zt3 101 rfl rfl, zt3 104 rfl rfl, zt1 3 rfl rfl, ⟨by decide +kernel, by decide +kernel, by decide +kernel⟩, by decide⟩
set_option maxRecDepth 100000 in
theorem m_X4_53 : zCw RX4 53 yX10_isWord cX10_isWord 1 (some .boolean) 1 := ⟨zt3 105 rfl rfl, zt3 107 rfl rfl, zt1 7 rfl rfl, ⟨by decide +kernel, by decide +kernel, by decide +kernel⟩, by decide⟩
set_option maxRecDepth 100000 in
theorem m_X4_75 : zCw RX4 75 yX10_says cX10_says 5 (some .boolean) 4 := ⟨zt3 109 rfl rfl, zt3 111 rfl rfl, zt1 7 rfl rfl, ⟨by decide +kernel, by decide +kernel, by decide +kernel⟩, by decide⟩
set_option maxRecDepth 100000 in
theorem m_X4_63 : zCw RX4 63 yX4_guardOf cX4_guardOf 3 (some .int) 0 := ⟨zt3 165 rfl rfl, zt3 168 rfl rfl, zt1 3 rfl rfl, ⟨by decide +kernel, by decide +kernel, by decide +kernel⟩, by decide⟩
set_option maxRecDepth 100000 in
theorem m_X4_89 : zCw RX4 89 yX4_follower cX4_follower 4 (some .int) 1 := ⟨zt3 169 rfl rfl, zt3 172 rfl rfl, zt1 3 rfl rfl, ⟨by decide +kernel, by decide +kernel, by decide +kernel⟩, by decide⟩
set_option maxRecDepth 100000 in
theorem m_X4_98 : zCw RX4 98 yX4_isWithin cX4_isWithin 4 (some .boolean) 1 := ⟨zt3 173 rfl rfl, zt3 176 rfl rfl, zt1 3 rfl rfl, ⟨by decide +kernel, by decide +kernel, by decide +kernel⟩, by decide⟩
set_option maxRecDepth 100000 in
theorem m_X4_92 : zCw RX4 92 yX4_guardedBy cX4_guardedBy 7 (some .int) 1 := ⟨zt3 177 rfl rfl, zt3 180 rfl rfl, zt1 3 rfl rfl, ⟨by decide +kernel, by decide +kernel, by decide +kernel⟩, by decide⟩
set_option maxRecDepth 100000 in
theorem m_X4_95 : zCw RX4 95 yX10_isDigit cX10_isDigit 1 (some .boolean) 1 := ⟨zt3 181 rfl rfl, zt3 183 rfl rfl, zt1 7 rfl rfl, ⟨by decide +kernel, by decide +kernel, by decide +kernel⟩, by decide⟩
set_option maxRecDepth 100000 in
theorem m_X11_76 : zCw RX11 76 yX11_forgetStudy cX11_forgetStudy 1 none 0 := ⟨zt3 184 rfl rfl, zt3 187 rfl rfl, zt1 1 rfl rfl, ⟨by decide +kernel, by decide +kernel, by decide +kernel⟩, by decide⟩
set_option maxRecDepth 100000 in
theorem m_L_41 : zCw "HideSetsLaw" 41 yX11_switches cX11_switches 3 (some .int) 0 := ⟨zt3 188 rfl rfl, zt3 191 rfl rfl, zt1 1 rfl rfl, ⟨by decide +kernel, by decide +kernel, by decide +kernel⟩, by decide⟩
set_option maxRecDepth 100000 in
theorem m_X11_88 : zCw RX11 88 yX7_readSwitches cX7_readSwitches 5 (some .int) 2 := ⟨zt3 192 rfl rfl, zt3 195 rfl rfl, zt1 2 rfl rfl, ⟨by decide +kernel, by decide +kernel, by decide +kernel⟩, by decide⟩
set_option maxRecDepth 100000 in
theorem m_X7_51 : zCw RX7 51 yX7_findNames cX7_findNames 6 (some .int) 2 := ⟨zt3 196 rfl rfl, zt3 199 rfl rfl, zt1 2 rfl rfl, ⟨by decide +kernel, by decide +kernel, by decide +kernel⟩, by decide⟩
set_option maxRecDepth 100000 in
theorem m_X7_61 : zCw RX7 61 yX10_isWord cX10_isWord 1 (some .boolean) 1 := ⟨zt3 200 rfl rfl, zt3 107 rfl rfl, zt1 7 rfl rfl, ⟨by decide +kernel, by decide +kernel, by decide +kernel⟩, by decide⟩
set_option maxRecDepth 100000 in
theorem m_X7_66 : zCw RX7 66 yX7_isNewName cX7_isNewName 7 (some .boolean) 4 := ⟨zt3 201 rfl rfl, zt3 204 rfl rfl, zt1 2 rfl rfl, ⟨by decide +kernel, by decide +kernel, by decide +kernel⟩, by decide⟩
set_option maxRecDepth 100000 in
theorem m_X7_70 : zCw RX7 70 yX10_isDigit cX10_isDigit 1 (some .boolean) 1 := ⟨zt3 205 rfl rfl, zt3 183 rfl rfl, zt1 7 rfl rfl, ⟨by decide +kernel, by decide +kernel, by decide +kernel⟩, by decide⟩
set_option maxRecDepth 100000 in
theorem m_X7_75 : zCw RX7 75 yX10_says cX10_says 5 (some .boolean) 4 := ⟨zt3 207 rfl rfl, zt3 111 rfl rfl, zt1 7 rfl rfl, ⟨by decide +kernel, by decide +kernel, by decide +kernel⟩, by decide⟩
set_option maxRecDepth 100000 in
theorem m_X7_79 : zCw RX7 79 yX10_isAlike cX10_isAlike 5 (some .boolean) 4 := ⟨zt3 208 rfl rfl, zt3 210 rfl rfl, zt1 7 rfl rfl, ⟨by decide +kernel, by decide +kernel, by decide +kernel⟩, by decide⟩
set_option maxRecDepth 100000 in
theorem m_L_46 : zCw "HideSetsLaw" 46 yX11_set cX11_set 2 (some .int) 1 := ⟨zt3 214 rfl rfl, zt3 217 rfl rfl, zt1 1 rfl rfl, ⟨by decide +kernel, by decide +kernel, by decide +kernel⟩, by decide⟩
set_option maxRecDepth 100000 in
theorem m_X11_92 : zCw RX11 92 yX7_hasSetting cX7_hasSetting 2 (some .boolean) 1 := ⟨zt3 218 rfl rfl, zt3 221 rfl rfl, zt1 2 rfl rfl, ⟨by decide +kernel, by decide +kernel, by decide +kernel⟩, by decide⟩
set_option maxRecDepth 100000 in
theorem m_L_50 : zCw "HideSetsLaw" 50 yX11_run cX11_run 4 (some .int) 1 := ⟨zt3 222 rfl rfl, zt3 225 rfl rfl, zt1 1 rfl rfl, ⟨by decide +kernel, by decide +kernel, by decide +kernel⟩, by decide⟩
set_option maxRecDepth 100000 in
theorem m_X11_99 : zCw RX11 99 yX7_hasFile cX7_hasFile 2 (some .boolean) 1 := ⟨zt3 226 rfl rfl, zt3 229 rfl rfl, zt1 2 rfl rfl, ⟨by decide +kernel, by decide +kernel, by decide +kernel⟩, by decide⟩
set_option maxRecDepth 100000 in
theorem m_X11_102 : zCw RX11 102 yX6_start cX6_start 6 none 3 := ⟨zt3 230 rfl rfl, zt3 233 rfl rfl, zt1 4 rfl rfl, ⟨by decide +kernel, by decide +kernel, by decide +kernel⟩, by decide⟩
set_option maxRecDepth 100000 in
theorem m_X6_100 : zCw RX6 100 yX1_clear cX1_clear 1 none 0 := ⟨zt3 234 rfl rfl, zt3 237 rfl rfl, zt1 5 rfl rfl, ⟨by decide +kernel, by decide +kernel, by decide +kernel⟩, by decide⟩
set_option maxRecDepth 100000 in
theorem m_X6_147 : zCw RX6 147 yX3_addSwitch cX3_addSwitch 5 none 3 := ⟨zt4 2 rfl rfl, zt4 5 rfl rfl, zt1 8 rfl rfl, ⟨by decide +kernel, by decide +kernel, by decide +kernel⟩, by decide⟩
set_option maxRecDepth 100000 in
theorem m_X3_84 : zCw RX3 84 yX3_enter cX3_enter 4 none 3 := ⟨zt4 6 rfl rfl, zt4 9 rfl rfl, zt1 8 rfl rfl, ⟨by decide +kernel, by decide +kernel, by decide +kernel⟩, by decide⟩
set_option maxRecDepth 100000 in
theorem m_X3_88 : zCw RX3 88 yX5_shape cX5_shape 2 (some .int) 2 := ⟨zt4 10 rfl rfl, zt4 12 rfl rfl, zt1 6 rfl rfl, ⟨by decide +kernel, by decide +kernel, by decide +kernel⟩, by decide⟩
set_option maxRecDepth 100000 in
theorem m_X3_93 : zCw RX3 93 yX3_addItem cX3_addItem 7 none 5 := ⟨zt4 13 rfl rfl, zt4 16 rfl rfl, zt1 8 rfl rfl, ⟨by decide +kernel, by decide +kernel, by decide +kernel⟩, by decide⟩
set_option maxRecDepth 100000 in
theorem m_X6_151 : zCw RX6 151 yX0_tallyInto cX0_tallyInto 3 none 2 := ⟨zt4 17 rfl rfl, zt4 20 rfl rfl, zt1 9 rfl rfl, ⟨by decide +kernel, by decide +kernel, by decide +kernel⟩, by decide⟩
set_option maxRecDepth 100000 in
theorem k_X11_106 : Cond.constant RX11 106 (Int32.ofInt 1000000) ∈ lw_g := zt4 22 rfl rfl
set_option maxRecDepth 100000 in
theorem m_X11_107 : zCw RX11 107 yX6_doLine cX6_doLine 6 (some .boolean) 0 := ⟨zt4 23 rfl rfl, zt4 26 rfl rfl, zt1 4 rfl rfl, ⟨by decide +kernel, by decide +kernel, by decide +kernel⟩, by decide⟩
set_option maxRecDepth 100000 in
theorem m_X6_159 : zCw RX6 159 yX6_leaveFile cX6_leaveFile 1 none 0 := ⟨zt4 27 rfl rfl, zt4 30 rfl rfl, zt1 4 rfl rfl, ⟨by decide +kernel, by decide +kernel, by decide +kernel⟩, by decide⟩
set_option maxRecDepth 100000 in
theorem m_X6_180 : zCw RX6 180 yX1_meet cX1_meet 3 none 2 := ⟨zt4 31 rfl rfl, zt4 34 rfl rfl, zt1 5 rfl rfl, ⟨by decide +kernel, by decide +kernel, by decide +kernel⟩, by decide⟩
set_option maxRecDepth 100000 in
theorem m_X6_216 : zCw RX6 216 yX6_finishLine cX6_finishLine 2 none 0 := ⟨zt4 35 rfl rfl, zt4 38 rfl rfl, zt1 4 rfl rfl, ⟨by decide +kernel, by decide +kernel, by decide +kernel⟩, by decide⟩
set_option maxRecDepth 100000 in
theorem m_X6_165 : zCw RX6 165 yX5_origin cX5_origin 3 (some .int) 3 := ⟨zt4 39 rfl rfl, zt4 41 rfl rfl, zt1 6 rfl rfl, ⟨by decide +kernel, by decide +kernel, by decide +kernel⟩, by decide⟩
set_option maxRecDepth 100000 in
theorem m_X6_172 : zCw RX6 172 yX6_isAstray cX6_isAstray 2 (some .boolean) 1 := ⟨zt4 42 rfl rfl, zt4 45 rfl rfl, zt1 4 rfl rfl, ⟨by decide +kernel, by decide +kernel, by decide +kernel⟩, by decide⟩
set_option maxRecDepth 100000 in
theorem m_X6_188 : zCw RX6 188 yX6_topHas cX6_topHas 2 (some .boolean) 1 := ⟨zt4 46 rfl rfl, zt4 49 rfl rfl, zt1 4 rfl rfl, ⟨by decide +kernel, by decide +kernel, by decide +kernel⟩, by decide⟩
set_option maxRecDepth 100000 in
theorem m_X6_176 : zCw RX6 176 yX6_hashLook cX6_hashLook 3 (some .int) 2 := ⟨zt4 50 rfl rfl, zt4 53 rfl rfl, zt1 4 rfl rfl, ⟨by decide +kernel, by decide +kernel, by decide +kernel⟩, by decide⟩
set_option maxRecDepth 100000 in
theorem m_X6_219 : zCw RX6 219 yX4_firstOf cX4_firstOf 2 (some .int) 1 := ⟨zt4 54 rfl rfl, zt3 96 rfl rfl, zt1 3 rfl rfl, ⟨by decide +kernel, by decide +kernel, by decide +kernel⟩, by decide⟩
set_option maxRecDepth 100000 in
theorem m_X6_184 : zCw RX6 184 yX6_isSkipping cX6_isSkipping 1 (some .boolean) 0 := ⟨zt4 55 rfl rfl, zt4 58 rfl rfl, zt1 4 rfl rfl, ⟨by decide +kernel, by decide +kernel, by decide +kernel⟩, by decide⟩
set_option maxRecDepth 100000 in
theorem m_X6_191 : zCw RX6 191 yX6_skipLine cX6_skipLine 3 none 2 := ⟨zt4 59 rfl rfl, zt4 62 rfl rfl, zt1 4 rfl rfl, ⟨by decide +kernel, by decide +kernel, by decide +kernel⟩, by decide⟩
set_option maxRecDepth 100000 in
theorem m_X6_222 : zCw RX6 222 yX6_openGroup cX6_openGroup 3 none 2 := ⟨zt4 63 rfl rfl, zt4 66 rfl rfl, zt1 4 rfl rfl, ⟨by decide +kernel, by decide +kernel, by decide +kernel⟩, by decide⟩
set_option maxRecDepth 100000 in
theorem m_X6_194 : zCw RX6 194 yX6_prepare cX6_prepare 4 (some .int) 3 := ⟨zt4 67 rfl rfl, zt4 70 rfl rfl, zt1 4 rfl rfl, ⟨by decide +kernel, by decide +kernel, by decide +kernel⟩, by decide⟩
set_option maxRecDepth 100000 in
theorem m_X6_225 : zCw RX6 225 yX6_cutLine cX6_cutLine 7 (some .boolean) 2 := ⟨zt4 71 rfl rfl, zt4 74 rfl rfl, zt1 4 rfl rfl, ⟨by decide +kernel, by decide +kernel, by decide +kernel⟩, by decide⟩
set_option maxRecDepth 100000 in
theorem m_X6_235 : zCw RX6 235 yX10_byteAt cX10_byteAt 2 (some .int) 1 := ⟨zt4 75 rfl rfl, zt4 78 rfl rfl, zt1 7 rfl rfl, ⟨by decide +kernel, by decide +kernel, by decide +kernel⟩, by decide⟩
set_option maxRecDepth 100000 in
theorem m_X6_238 : zCw RX6 238 yX5_fileOf cX5_fileOf 1 (some .int) 1 := ⟨zt4 79 rfl rfl, zt4 81 rfl rfl, zt1 6 rfl rfl, ⟨by decide +kernel, by decide +kernel, by decide +kernel⟩, by decide⟩
set_option maxRecDepth 100000 in
theorem m_X6_241 : zCw RX6 241 yX5_lineOf cX5_lineOf 1 (some .int) 1 := ⟨zt4 82 rfl rfl, zt4 84 rfl rfl, zt1 6 rfl rfl, ⟨by decide +kernel, by decide +kernel, by decide +kernel⟩, by decide⟩
set_option maxRecDepth 100000 in
theorem m_X6_244 : zCw RX6 244 yX10_endOf cX10_endOf 5 (some .int) 2 := ⟨zt4 85 rfl rfl, zt4 88 rfl rfl, zt1 7 rfl rfl, ⟨by decide +kernel, by decide +kernel, by decide +kernel⟩, by decide⟩
set_option maxRecDepth 100000 in
theorem m_X10_29 : zCw RX10 29 yX10_isWord cX10_isWord 1 (some .boolean) 1 := ⟨zt4 89 rfl rfl, zt3 107 rfl rfl, zt1 7 rfl rfl, ⟨by decide +kernel, by decide +kernel, by decide +kernel⟩, by decide⟩
set_option maxRecDepth 100000 in
theorem m_X10_33 : zCw RX10 33 yX10_isPair cX10_isPair 2 (some .boolean) 2 := ⟨zt4 90 rfl rfl, zt4 92 rfl rfl, zt1 7 rfl rfl, ⟨by decide +kernel, by decide +kernel, by decide +kernel⟩, by decide⟩
set_option maxRecDepth 100000 in
theorem m_X6_247 : zCw RX6 247 yX10_kindAt cX10_kindAt 3 (some .int) 1 := ⟨zt4 93 rfl rfl, zt4 96 rfl rfl, zt1 7 rfl rfl, ⟨by decide +kernel, by decide +kernel, by decide +kernel⟩, by decide⟩
set_option maxRecDepth 100000 in
theorem m_X10_37 : zCw RX10 37 yX10_byteAt cX10_byteAt 2 (some .int) 1 := ⟨zt4 97 rfl rfl, zt4 78 rfl rfl, zt1 7 rfl rfl, ⟨by decide +kernel, by decide +kernel, by decide +kernel⟩, by decide⟩
set_option maxRecDepth 100000 in
theorem m_X10_41 : zCw RX10 41 yX10_isDigit cX10_isDigit 1 (some .boolean) 1 := ⟨zt4 98 rfl rfl, zt3 183 rfl rfl, zt1 7 rfl rfl, ⟨by decide +kernel, by decide +kernel, by decide +kernel⟩, by decide⟩
set_option maxRecDepth 100000 in
theorem m_X6_250 : zCw RX6 250 yX5_shape cX5_shape 2 (some .int) 2 := ⟨zt4 99 rfl rfl, zt4 12 rfl rfl, zt1 6 rfl rfl, ⟨by decide +kernel, by decide +kernel, by decide +kernel⟩, by decide⟩
set_option maxRecDepth 100000 in
theorem m_X6_253 : zCw RX6 253 yX5_add cX5_add 4 (some .boolean) 3 := ⟨zt4 100 rfl rfl, zt4 103 rfl rfl, zt1 6 rfl rfl, ⟨by decide +kernel, by decide +kernel, by decide +kernel⟩, by decide⟩
set_option maxRecDepth 100000 in
theorem m_X6_229 : zCw RX6 229 yX6_isSign cX6_isSign 3 (some .boolean) 2 := ⟨zt4 107 rfl rfl, zt4 110 rfl rfl, zt1 4 rfl rfl, ⟨by decide +kernel, by decide +kernel, by decide +kernel⟩, by decide⟩
set_option maxRecDepth 100000 in
theorem m_X6_268 : zCw RX6 268 yX10_signOf cX10_signOf 4 (some .int) 2 := ⟨zt4 111 rfl rfl, zt4 114 rfl rfl, zt1 7 rfl rfl, ⟨by decide +kernel, by decide +kernel, by decide +kernel⟩, by decide⟩
set_option maxRecDepth 100000 in
theorem m_X6_232 : zCw RX6 232 yX6_loadFrom cX6_loadFrom 3 none 1 := ⟨zt4 115 rfl rfl, zt4 118 rfl rfl, zt1 4 rfl rfl, ⟨by decide +kernel, by decide +kernel, by decide +kernel⟩, by decide⟩
set_option maxRecDepth 100000 in
theorem m_X6_284 : zCw RX6 284 yX0_clear cX0_clear 1 none 0 := ⟨zt4 119 rfl rfl, zt4 122 rfl rfl, zt1 9 rfl rfl, ⟨by decide +kernel, by decide +kernel, by decide +kernel⟩, by decide⟩
set_option maxRecDepth 100000 in
theorem m_X6_285 : zCw RX6 285 yX0_load cX0_load 4 none 2 := ⟨zt4 123 rfl rfl, zt4 126 rfl rfl, zt1 9 rfl rfl, ⟨by decide +kernel, by decide +kernel, by decide +kernel⟩, by decide⟩
set_option maxRecDepth 100000 in
theorem m_X0_63 : zCw RX0 63 yX5_add cX5_add 4 (some .boolean) 3 := ⟨zt4 127 rfl rfl, zt4 103 rfl rfl, zt1 6 rfl rfl, ⟨by decide +kernel, by decide +kernel, by decide +kernel⟩, by decide⟩
set_option maxRecDepth 100000 in
theorem m_X6_197 : zCw RX6 197 yX6_direct cX6_direct 2 (some .int) 1 := ⟨zt4 128 rfl rfl, zt4 131 rfl rfl, zt1 4 rfl rfl, ⟨by decide +kernel, by decide +kernel, by decide +kernel⟩, by decide⟩
set_option maxRecDepth 100000 in
theorem m_X6_290 : zCw RX6 290 yX6_says cX6_says 3 (some .boolean) 2 := ⟨zt4 133 rfl rfl, zt4 136 rfl rfl, zt1 4 rfl rfl, ⟨by decide +kernel, by decide +kernel, by decide +kernel⟩, by decide⟩
set_option maxRecDepth 100000 in
theorem m_X6_274 : zCw RX6 274 yX6_isName cX6_isName 2 (some .boolean) 1 := ⟨zt4 137 rfl rfl, zt4 140 rfl rfl, zt1 4 rfl rfl, ⟨by decide +kernel, by decide +kernel, by decide +kernel⟩, by decide⟩
set_option maxRecDepth 100000 in
theorem m_X6_271 : zCw RX6 271 yX5_kindOf cX5_kindOf 1 (some .int) 1 := ⟨zt4 141 rfl rfl, zt4 143 rfl rfl, zt1 6 rfl rfl, ⟨by decide +kernel, by decide +kernel, by decide +kernel⟩, by decide⟩
set_option maxRecDepth 100000 in
theorem m_X6_277 : zCw RX6 277 yX5_lengthOf cX5_lengthOf 1 (some .int) 1 := ⟨zt4 144 rfl rfl, zt4 146 rfl rfl, zt1 6 rfl rfl, ⟨by decide +kernel, by decide +kernel, by decide +kernel⟩, by decide⟩
set_option maxRecDepth 100000 in
theorem m_X6_280 : zCw RX6 280 yX10_says cX10_says 5 (some .boolean) 4 := ⟨zt4 147 rfl rfl, zt3 111 rfl rfl, zt1 7 rfl rfl, ⟨by decide +kernel, by decide +kernel, by decide +kernel⟩, by decide⟩
set_option maxRecDepth 100000 in
theorem m_X6_293 : zCw RX6 293 yX3_define cX3_define 6 none 2 := ⟨zt4 148 rfl rfl, zt4 151 rfl rfl, zt1 8 rfl rfl, ⟨by decide +kernel, by decide +kernel, by decide +kernel⟩, by decide⟩
set_option maxRecDepth 100000 in
theorem m_X3_97 : zCw RX3 97 yX3_newNumber cX3_newNumber 6 (some .int) 2 := ⟨zt4 152 rfl rfl, zt4 155 rfl rfl, zt1 8 rfl rfl, ⟨by decide +kernel, by decide +kernel, by decide +kernel⟩, by decide⟩
set_option maxRecDepth 100000 in
theorem m_X3_139 : zCw RX3 139 yX1_meet cX1_meet 3 none 2 := ⟨zt4 156 rfl rfl, zt4 34 rfl rfl, zt1 5 rfl rfl, ⟨by decide +kernel, by decide +kernel, by decide +kernel⟩, by decide⟩
set_option maxRecDepth 100000 in
theorem m_X3_131 : zCw RX3 131 yX5_lengthOf cX5_lengthOf 1 (some .int) 1 := ⟨zt4 157 rfl rfl, zt4 146 rfl rfl, zt1 6 rfl rfl, ⟨by decide +kernel, by decide +kernel, by decide +kernel⟩, by decide⟩
set_option maxRecDepth 100000 in
theorem m_X3_143 : zCw RX3 143 yX5_kindOf cX5_kindOf 1 (some .int) 1 := ⟨zt4 158 rfl rfl, zt4 143 rfl rfl, zt1 6 rfl rfl, ⟨by decide +kernel, by decide +kernel, by decide +kernel⟩, by decide⟩
set_option maxRecDepth 100000 in
theorem m_X3_148 : zCw RX3 148 yX10_says cX10_says 5 (some .boolean) 4 := ⟨zt4 160 rfl rfl, zt3 111 rfl rfl, zt1 7 rfl rfl, ⟨by decide +kernel, by decide +kernel, by decide +kernel⟩, by decide⟩
set_option maxRecDepth 100000 in
theorem m_X3_80 : zCw RX3 80 yX3_numberOf cX3_numberOf 4 (some .int) 2 := ⟨zt4 161 rfl rfl, zt4 164 rfl rfl, zt1 8 rfl rfl, ⟨by decide +kernel, by decide +kernel, by decide +kernel⟩, by decide⟩
set_option maxRecDepth 100000 in
theorem m_X3_76 : zCw RX3 76 yX10_isAlike cX10_isAlike 5 (some .boolean) 4 := ⟨zt4 165 rfl rfl, zt3 210 rfl rfl, zt1 7 rfl rfl, ⟨by decide +kernel, by decide +kernel, by decide +kernel⟩, by decide⟩
set_option maxRecDepth 100000 in
theorem m_X3_101 : zCw RX3 101 yX3_isSign cX3_isSign 4 (some .boolean) 3 := ⟨zt4 166 rfl rfl, zt4 169 rfl rfl, zt1 8 rfl rfl, ⟨by decide +kernel, by decide +kernel, by decide +kernel⟩, by decide⟩
set_option maxRecDepth 100000 in
theorem m_X3_152 : zCw RX3 152 yX10_signOf cX10_signOf 4 (some .int) 2 := ⟨zt4 170 rfl rfl, zt4 114 rfl rfl, zt1 7 rfl rfl, ⟨by decide +kernel, by decide +kernel, by decide +kernel⟩, by decide⟩
set_option maxRecDepth 100000 in
theorem m_X3_108 : zCw RX3 108 yX5_blankOf cX5_blankOf 1 (some .int) 1 := ⟨zt4 171 rfl rfl, zt4 173 rfl rfl, zt1 6 rfl rfl, ⟨by decide +kernel, by decide +kernel, by decide +kernel⟩, by decide⟩
set_option maxRecDepth 100000 in
theorem m_X3_112 : zCw RX3 112 yX3_tellParameters cX3_tellParameters 4 (some .int) 2 := ⟨zt4 174 rfl rfl, zt4 177 rfl rfl, zt1 8 rfl rfl, ⟨by decide +kernel, by decide +kernel, by decide +kernel⟩, by decide⟩
set_option maxRecDepth 100000 in
theorem m_X3_155 : zCw RX3 155 yX3_parameterAt cX3_parameterAt 6 (some .int) 2 := ⟨zt4 178 rfl rfl, zt4 181 rfl rfl, zt1 8 rfl rfl, ⟨by decide +kernel, by decide +kernel, by decide +kernel⟩, by decide⟩
set_option maxRecDepth 100000 in
theorem m_X3_120 : zCw RX3 120 yX3_isBody cX3_isBody 6 (some .boolean) 3 := ⟨zt4 182 rfl rfl, zt4 185 rfl rfl, zt1 8 rfl rfl, ⟨by decide +kernel, by decide +kernel, by decide +kernel⟩, by decide⟩
set_option maxRecDepth 100000 in
theorem m_X3_124 : zCw RX3 124 yX3_makeItems cX3_makeItems 11 none 4 := ⟨zt4 186 rfl rfl, zt4 189 rfl rfl, zt1 8 rfl rfl, ⟨by decide +kernel, by decide +kernel, by decide +kernel⟩, by decide⟩
set_option maxRecDepth 100000 in
theorem m_X3_135 : zCw RX3 135 yX5_fileOf cX5_fileOf 1 (some .int) 1 := ⟨zt4 190 rfl rfl, zt4 81 rfl rfl, zt1 6 rfl rfl, ⟨by decide +kernel, by decide +kernel, by decide +kernel⟩, by decide⟩
set_option maxRecDepth 100000 in
theorem m_X3_137 : zCw RX3 137 yX5_lineOf cX5_lineOf 1 (some .int) 1 := ⟨zt4 191 rfl rfl, zt4 84 rfl rfl, zt1 6 rfl rfl, ⟨by decide +kernel, by decide +kernel, by decide +kernel⟩, by decide⟩
set_option maxRecDepth 100000 in
theorem m_X6_298 : zCw RX6 298 yX6_undefine cX6_undefine 2 none 0 := ⟨zt4 193 rfl rfl, zt4 196 rfl rfl, zt1 4 rfl rfl, ⟨by decide +kernel, by decide +kernel, by decide +kernel⟩, by decide⟩
set_option maxRecDepth 100000 in
theorem m_X6_334 : zCw RX6 334 yX6_isNameAlone cX6_isNameAlone 1 (some .boolean) 0 := ⟨zt4 197 rfl rfl, zt4 200 rfl rfl, zt1 4 rfl rfl, ⟨by decide +kernel, by decide +kernel, by decide +kernel⟩, by decide⟩
set_option maxRecDepth 100000 in
theorem m_X6_331 : zCw RX6 331 yX6_refuse cX6_refuse 3 none 2 := ⟨zt4 201 rfl rfl, zt4 204 rfl rfl, zt1 4 rfl rfl, ⟨by decide +kernel, by decide +kernel, by decide +kernel⟩, by decide⟩
set_option maxRecDepth 100000 in
theorem m_X6_337 : zCw RX6 337 yX3_standing cX3_standing 4 (some .int) 2 := ⟨zt4 205 rfl rfl, zt4 208 rfl rfl, zt1 8 rfl rfl, ⟨by decide +kernel, by decide +kernel, by decide +kernel⟩, by decide⟩
set_option maxRecDepth 100000 in
theorem m_X6_303 : zCw RX6 303 yX6_include cX6_include 4 (some .int) 0 := ⟨zt4 210 rfl rfl, zt4 213 rfl rfl, zt1 4 rfl rfl, ⟨by decide +kernel, by decide +kernel, by decide +kernel⟩, by decide⟩
set_option maxRecDepth 100000 in
theorem m_X6_354 : zCw RX6 354 yX6_enterFile cX6_enterFile 2 none 1 := ⟨zt4 214 rfl rfl, zt4 217 rfl rfl, zt1 4 rfl rfl, ⟨by decide +kernel, by decide +kernel, by decide +kernel⟩, by decide⟩
set_option maxRecDepth 100000 in
theorem m_X6_310 : zCw RX6 310 yX6_loadSum cX6_loadSum 7 none 1 := ⟨zt4 220 rfl rfl, zt4 223 rfl rfl, zt1 4 rfl rfl, ⟨by decide +kernel, by decide +kernel, by decide +kernel⟩, by decide⟩
set_option maxRecDepth 100000 in
theorem m_X6_359 : zCw RX6 359 yX5_blankAs cX5_blankAs 2 (some .int) 2 := ⟨zt4 225 rfl rfl, zt4 227 rfl rfl, zt1 6 rfl rfl, ⟨by decide +kernel, by decide +kernel, by decide +kernel⟩, by decide⟩
set_option maxRecDepth 100000 in
theorem m_X6_362 : zCw RX6 362 yX5_from cX5_from 2 (some .int) 2 := ⟨zt4 228 rfl rfl, zt4 230 rfl rfl, zt1 6 rfl rfl, ⟨by decide +kernel, by decide +kernel, by decide +kernel⟩, by decide⟩
set_option maxRecDepth 100000 in
theorem m_X6_315 : zCw RX6 315 yX6_openByName cX6_openByName 4 none 2 := ⟨zt4 232 rfl rfl, zt4 235 rfl rfl, zt1 4 rfl rfl, ⟨by decide +kernel, by decide +kernel, by decide +kernel⟩, by decide⟩
set_option maxRecDepth 100000 in
theorem m_X6_212 : zCw RX6 212 yX6_decide cX6_decide 5 none 3 := ⟨zt4 236 rfl rfl, zt4 239 rfl rfl, zt1 4 rfl rfl, ⟨by decide +kernel, by decide +kernel, by decide +kernel⟩, by decide⟩
set_option maxRecDepth 100000 in
theorem m_X6_323 : zCw RX6 323 yX6_turn cX6_turn 1 none 0 := ⟨zt5 2 rfl rfl, zt5 5 rfl rfl, zt1 4 rfl rfl, ⟨by decide +kernel, by decide +kernel, by decide +kernel⟩, by decide⟩
set_option maxRecDepth 100000 in
theorem m_X6_328 : zCw RX6 328 yX6_close cX6_close 1 none 0 := ⟨zt5 7 rfl rfl, zt5 10 rfl rfl, zt1 4 rfl rfl, ⟨by decide +kernel, by decide +kernel, by decide +kernel⟩, by decide⟩
set_option maxRecDepth 100000 in
theorem m_X6_201 : zCw RX6 201 yX0_go cX0_go 5 none 1 := ⟨zt5 11 rfl rfl, zt5 14 rfl rfl, zt1 9 rfl rfl, ⟨by decide +kernel, by decide +kernel, by decide +kernel⟩, by decide⟩
set_option maxRecDepth 100000 in
theorem m_X0_67 : zCw RX0 67 yX2_enterRow cX2_enterRow 3 none 2 := ⟨zt5 15 rfl rfl, zt5 18 rfl rfl, zt1 10 rfl rfl, ⟨by decide +kernel, by decide +kernel, by decide +kernel⟩, by decide⟩
set_option maxRecDepth 100000 in
theorem k_X0_71 : Cond.constant RX0 71 (Int32.ofInt 10000000) ∈ lw_g := zt5 19 rfl rfl
set_option maxRecDepth 100000 in
theorem m_X0_83 : zCw RX0 83 yX0_doItem cX0_doItem 8 none 1 := ⟨zt5 20 rfl rfl, zt5 23 rfl rfl, zt1 9 rfl rfl, ⟨by decide +kernel, by decide +kernel, by decide +kernel⟩, by decide⟩
set_option maxRecDepth 100000 in
theorem m_X0_171 : zCw RX0 171 yX0_putInPlace cX0_putInPlace 6 none 1 := ⟨zt5 24 rfl rfl, zt5 27 rfl rfl, zt1 9 rfl rfl, ⟨by decide +kernel, by decide +kernel, by decide +kernel⟩, by decide⟩
set_option maxRecDepth 100000 in
theorem m_X0_146 : zCw RX0 146 yX1_meet cX1_meet 3 none 2 := ⟨zt5 28 rfl rfl, zt4 34 rfl rfl, zt1 5 rfl rfl, ⟨by decide +kernel, by decide +kernel, by decide +kernel⟩, by decide⟩
set_option maxRecDepth 100000 in
theorem m_X0_205 : zCw RX0 205 yX5_blankAs cX5_blankAs 2 (some .int) 2 := ⟨zt5 29 rfl rfl, zt4 227 rfl rfl, zt1 6 rfl rfl, ⟨by decide +kernel, by decide +kernel, by decide +kernel⟩, by decide⟩
set_option maxRecDepth 100000 in
theorem m_X0_180 : zCw RX0 180 yX2_beginItem cX2_beginItem 3 none 2 := ⟨zt5 30 rfl rfl, zt5 33 rfl rfl, zt1 10 rfl rfl, ⟨by decide +kernel, by decide +kernel, by decide +kernel⟩, by decide⟩
set_option maxRecDepth 100000 in
theorem m_X0_186 : zCw RX0 186 yX0_openArgument cX0_openArgument 4 none 3 := ⟨zt5 34 rfl rfl, zt5 37 rfl rfl, zt1 9 rfl rfl, ⟨by decide +kernel, by decide +kernel, by decide +kernel⟩, by decide⟩
set_option maxRecDepth 100000 in
theorem m_X0_196 : zCw RX0 196 yX0_makeString cX0_makeString 13 (some .int) 2 := ⟨zt5 38 rfl rfl, zt5 41 rfl rfl, zt1 9 rfl rfl, ⟨by decide +kernel, by decide +kernel, by decide +kernel⟩, by decide⟩
set_option maxRecDepth 100000 in
theorem m_X0_239 : zCw RX0 239 yX5_blankOf cX5_blankOf 1 (some .int) 1 := ⟨zt5 42 rfl rfl, zt4 173 rfl rfl, zt1 6 rfl rfl, ⟨by decide +kernel, by decide +kernel, by decide +kernel⟩, by decide⟩
set_option maxRecDepth 100000 in
theorem m_X0_121 : zCw RX0 121 yX5_lengthOf cX5_lengthOf 1 (some .int) 1 := ⟨zt5 43 rfl rfl, zt4 146 rfl rfl, zt1 6 rfl rfl, ⟨by decide +kernel, by decide +kernel, by decide +kernel⟩, by decide⟩
set_option maxRecDepth 100000 in
theorem m_X0_202 : zCw RX0 202 yX5_shape cX5_shape 2 (some .int) 2 := ⟨zt5 44 rfl rfl, zt4 12 rfl rfl, zt1 6 rfl rfl, ⟨by decide +kernel, by decide +kernel, by decide +kernel⟩, by decide⟩
set_option maxRecDepth 100000 in
theorem m_X0_208 : zCw RX0 208 yX5_from cX5_from 2 (some .int) 2 := ⟨zt5 45 rfl rfl, zt4 230 rfl rfl, zt1 6 rfl rfl, ⟨by decide +kernel, by decide +kernel, by decide +kernel⟩, by decide⟩
set_option maxRecDepth 100000 in
theorem m_X0_109 : zCw RX0 109 yX0_paste cX0_paste 10 none 4 := ⟨zt5 46 rfl rfl, zt5 49 rfl rfl, zt1 9 rfl rfl, ⟨by decide +kernel, by decide +kernel, by decide +kernel⟩, by decide⟩
set_option maxRecDepth 100000 in
theorem m_X0_230 : zCw RX0 230 yX10_endOf cX10_endOf 5 (some .int) 2 := ⟨zt5 51 rfl rfl, zt4 88 rfl rfl, zt1 7 rfl rfl, ⟨by decide +kernel, by decide +kernel, by decide +kernel⟩, by decide⟩
set_option maxRecDepth 100000 in
theorem m_X0_233 : zCw RX0 233 yX10_kindAt cX10_kindAt 3 (some .int) 1 := ⟨zt5 52 rfl rfl, zt4 96 rfl rfl, zt1 7 rfl rfl, ⟨by decide +kernel, by decide +kernel, by decide +kernel⟩, by decide⟩
set_option maxRecDepth 100000 in
theorem m_X0_113 : zCw RX0 113 yX2_put cX2_put 4 none 3 := ⟨zt5 53 rfl rfl, zt5 56 rfl rfl, zt1 10 rfl rfl, ⟨by decide +kernel, by decide +kernel, by decide +kernel⟩, by decide⟩
set_option maxRecDepth 100000 in
theorem m_X2_85 : zCw RX2 85 yX5_blankAs cX5_blankAs 2 (some .int) 2 := ⟨zt5 60 rfl rfl, zt4 227 rfl rfl, zt1 6 rfl rfl, ⟨by decide +kernel, by decide +kernel, by decide +kernel⟩, by decide⟩
set_option maxRecDepth 100000 in
theorem m_X2_88 : zCw RX2 88 yX5_add cX5_add 4 (some .boolean) 3 := ⟨zt5 61 rfl rfl, zt4 103 rfl rfl, zt1 6 rfl rfl, ⟨by decide +kernel, by decide +kernel, by decide +kernel⟩, by decide⟩
set_option maxRecDepth 100000 in
theorem m_X0_93 : zCw RX0 93 yX0_isReplaced cX0_isReplaced 5 (some .boolean) 2 := ⟨zt5 62 rfl rfl, zt5 65 rfl rfl, zt1 9 rfl rfl, ⟨by decide +kernel, by decide +kernel, by decide +kernel⟩, by decide⟩
set_option maxRecDepth 100000 in
theorem m_X0_117 : zCw RX0 117 yX5_kindOf cX5_kindOf 1 (some .int) 1 := ⟨zt5 66 rfl rfl, zt4 143 rfl rfl, zt1 6 rfl rfl, ⟨by decide +kernel, by decide +kernel, by decide +kernel⟩, by decide⟩
set_option maxRecDepth 100000 in
theorem m_X0_124 : zCw RX0 124 yX3_standing cX3_standing 4 (some .int) 2 := ⟨zt5 67 rfl rfl, zt4 208 rfl rfl, zt1 8 rfl rfl, ⟨by decide +kernel, by decide +kernel, by decide +kernel⟩, by decide⟩
set_option maxRecDepth 100000 in
theorem m_X0_130 : zCw RX0 130 yX0_replaces cX0_replaces 10 (some .boolean) 3 := ⟨zt5 68 rfl rfl, zt5 71 rfl rfl, zt1 9 rfl rfl, ⟨by decide +kernel, by decide +kernel, by decide +kernel⟩, by decide⟩
set_option maxRecDepth 100000 in
theorem m_X0_137 : zCw RX0 137 yX10_signOf cX10_signOf 4 (some .int) 2 := ⟨zt5 72 rfl rfl, zt4 114 rfl rfl, zt1 7 rfl rfl, ⟨by decide +kernel, by decide +kernel, by decide +kernel⟩, by decide⟩
set_option maxRecDepth 100000 in
theorem m_X0_142 : zCw RX0 142 yX0_findArguments cX0_findArguments 8 (some .int) 2 := ⟨zt5 73 rfl rfl, zt5 76 rfl rfl, zt1 9 rfl rfl, ⟨by decide +kernel, by decide +kernel, by decide +kernel⟩, by decide⟩
set_option maxRecDepth 100000 in
theorem m_X0_155 : zCw RX0 155 yX2_beginReplacing cX2_beginReplacing 5 none 4 := ⟨zt5 77 rfl rfl, zt5 80 rfl rfl, zt1 10 rfl rfl, ⟨by decide +kernel, by decide +kernel, by decide +kernel⟩, by decide⟩
set_option maxRecDepth 100000 in
theorem m_X6_205 : zCw RX6 205 yX6_handOut cX6_handOut 2 none 0 := ⟨zt5 81 rfl rfl, zt5 84 rfl rfl, zt1 4 rfl rfl, ⟨by decide +kernel, by decide +kernel, by decide +kernel⟩, by decide⟩
set_option maxRecDepth 100000 in
theorem m_X6_208 : zCw RX6 208 yX9_whole cX9_whole 5 (some .long) 2 := ⟨zt5 85 rfl rfl, zt5 88 rfl rfl, zt1 11 rfl rfl, ⟨by decide +kernel, by decide +kernel, by decide +kernel⟩, by decide⟩
set_option maxRecDepth 100000 in
theorem m_X9_52 : zCw RX9 52 yX9_readToken cX9_readToken 6 none 3 := ⟨zt5 89 rfl rfl, zt5 92 rfl rfl, zt1 11 rfl rfl, ⟨by decide +kernel, by decide +kernel, by decide +kernel⟩, by decide⟩
set_option maxRecDepth 100000 in
theorem m_X9_66 : zCw RX9 66 yX5_kindOf cX5_kindOf 1 (some .int) 1 := ⟨zt5 93 rfl rfl, zt4 143 rfl rfl, zt1 6 rfl rfl, ⟨by decide +kernel, by decide +kernel, by decide +kernel⟩, by decide⟩
set_option maxRecDepth 100000 in
theorem m_X9_70 : zCw RX9 70 yX5_lengthOf cX5_lengthOf 1 (some .int) 1 := ⟨zt5 94 rfl rfl, zt4 146 rfl rfl, zt1 6 rfl rfl, ⟨by decide +kernel, by decide +kernel, by decide +kernel⟩, by decide⟩
set_option maxRecDepth 100000 in
theorem m_X9_73 : zCw RX9 73 yX10_signOf cX10_signOf 4 (some .int) 2 := ⟨zt5 95 rfl rfl, zt4 114 rfl rfl, zt1 7 rfl rfl, ⟨by decide +kernel, by decide +kernel, by decide +kernel⟩, by decide⟩
set_option maxRecDepth 100000 in
theorem m_X9_79 : zCw RX9 79 yX10_byteAt cX10_byteAt 2 (some .int) 1 := ⟨zt5 96 rfl rfl, zt4 78 rfl rfl, zt1 7 rfl rfl, ⟨by decide +kernel, by decide +kernel, by decide +kernel⟩, by decide⟩
set_option maxRecDepth 100000 in
theorem m_X9_82 : zCw RX9 82 yX9_readHex cX9_readHex 10 none 3 := ⟨zt5 97 rfl rfl, zt5 100 rfl rfl, zt1 11 rfl rfl, ⟨by decide +kernel, by decide +kernel, by decide +kernel⟩, by decide⟩
set_option maxRecDepth 100000 in
theorem m_X9_85 : zCw RX9 85 yX9_readDecimal cX9_readDecimal 9 none 3 := ⟨zt5 101 rfl rfl, zt5 104 rfl rfl, zt1 11 rfl rfl, ⟨by decide +kernel, by decide +kernel, by decide +kernel⟩, by decide⟩
set_option maxRecDepth 100000 in
theorem k_X9_90 : Cond.constantLong RX9 90 (9223372036854775807) ∈ lw_g := zt5 105 rfl rfl
set_option maxRecDepth 100000 in
theorem k_X9_92 : Cond.constantLong RX9 92 (10) ∈ lw_g := zt5 106 rfl rfl
set_option maxRecDepth 100000 in
theorem m_X9_56 : zCw RX9 56 yX9_choice cX9_choice 9 (some .long) 2 := ⟨zt5 107 rfl rfl, zt5 110 rfl rfl, zt1 11 rfl rfl, ⟨by decide +kernel, by decide +kernel, by decide +kernel⟩, by decide⟩
set_option maxRecDepth 100000 in
theorem m_X9_94 : zCw RX9 94 yX9_binary cX9_binary 12 (some .long) 3 := ⟨zt5 111 rfl rfl, zt5 114 rfl rfl, zt1 11 rfl rfl, ⟨by decide +kernel, by decide +kernel, by decide +kernel⟩, by decide⟩
set_option maxRecDepth 100000 in
theorem m_X9_108 : zCw RX9 108 yX9_single cX9_single 7 (some .long) 2 := ⟨zt5 115 rfl rfl, zt5 118 rfl rfl, zt1 11 rfl rfl, ⟨by decide +kernel, by decide +kernel, by decide +kernel⟩, by decide⟩
set_option maxRecDepth 100000 in
theorem m_X9_98 : zCw RX9 98 yX9_sign cX9_sign 1 (some .int) 0 := ⟨zt5 119 rfl rfl, zt5 122 rfl rfl, zt1 11 rfl rfl, ⟨by decide +kernel, by decide +kernel, by decide +kernel⟩, by decide⟩
set_option maxRecDepth 100000 in
theorem m_X9_105 : zCw RX9 105 yX9_refuse cX9_refuse 1 none 0 := ⟨zt5 123 rfl rfl, zt5 126 rfl rfl, zt1 11 rfl rfl, ⟨by decide +kernel, by decide +kernel, by decide +kernel⟩, by decide⟩
set_option maxRecDepth 100000 in
theorem k_X9_126 : Cond.constantLong RX9 126 (-1) ∈ lw_g := zt5 127 rfl rfl
set_option maxRecDepth 100000 in
theorem m_X9_111 : zCw RX9 111 yX9_strengthOf cX9_strengthOf 1 (some .int) 1 := ⟨zt5 128 rfl rfl, zt5 130 rfl rfl, zt1 11 rfl rfl, ⟨by decide +kernel, by decide +kernel, by decide +kernel⟩, by decide⟩
set_option maxRecDepth 100000 in
theorem m_X9_114 : zCw RX9 114 yX9_ofBits cX9_ofBits 5 (some .long) 3 := ⟨zt5 131 rfl rfl, zt5 133 rfl rfl, zt1 11 rfl rfl, ⟨by decide +kernel, by decide +kernel, by decide +kernel⟩, by decide⟩
set_option maxRecDepth 100000 in
theorem m_X9_118 : zCw RX9 118 yX9_compared cX9_compared 6 (some .long) 3 := ⟨zt5 134 rfl rfl, zt5 136 rfl rfl, zt1 11 rfl rfl, ⟨by decide +kernel, by decide +kernel, by decide +kernel⟩, by decide⟩
set_option maxRecDepth 100000 in
theorem m_X9_121 : zCw RX9 121 yX9_counted cX9_counted 5 (some .long) 3 := ⟨zt5 137 rfl rfl, zt5 139 rfl rfl, zt1 11 rfl rfl, ⟨by decide +kernel, by decide +kernel, by decide +kernel⟩, by decide⟩
set_option maxRecDepth 100000 in
theorem k_X9_124 : Cond.constantLong RX9 124 (63) ∈ lw_g := zt5 140 rfl rfl
set_option maxRecDepth 100000 in
theorem m_X9_102 : zCw RX9 102 yX9_part cX9_part 3 (some .long) 2 := ⟨zt5 141 rfl rfl, zt5 144 rfl rfl, zt1 11 rfl rfl, ⟨by decide +kernel, by decide +kernel, by decide +kernel⟩, by decide⟩
set_option maxRecDepth 100000 in
theorem m_X9_60 : zCw RX9 60 yX1_meet cX1_meet 3 none 2 := ⟨zt5 145 rfl rfl, zt4 34 rfl rfl, zt1 5 rfl rfl, ⟨by decide +kernel, by decide +kernel, by decide +kernel⟩, by decide⟩
set_option maxRecDepth 100000 in
theorem m_L_54 : zCw "HideSetsLaw" 54 yX11_fault cX11_fault 4 (some .int) 1 := ⟨zt5 146 rfl rfl, zt5 149 rfl rfl, zt1 1 rfl rfl, ⟨by decide +kernel, by decide +kernel, by decide +kernel⟩, by decide⟩
set_option maxRecDepth 100000 in
theorem m_X11_130 : zCw RX11 130 yX5_fileOf cX5_fileOf 1 (some .int) 1 := ⟨zt5 150 rfl rfl, zt4 81 rfl rfl, zt1 6 rfl rfl, ⟨by decide +kernel, by decide +kernel, by decide +kernel⟩, by decide⟩
set_option maxRecDepth 100000 in
theorem m_X11_133 : zCw RX11 133 yX5_lineOf cX5_lineOf 1 (some .int) 1 := ⟨zt5 151 rfl rfl, zt4 84 rfl rfl, zt1 6 rfl rfl, ⟨by decide +kernel, by decide +kernel, by decide +kernel⟩, by decide⟩
set_option maxRecDepth 100000 in
theorem m_X11_136 : zCw RX11 136 yX5_placeOf cX5_placeOf 1 (some .int) 1 := ⟨zt5 152 rfl rfl, zt5 154 rfl rfl, zt1 6 rfl rfl, ⟨by decide +kernel, by decide +kernel, by decide +kernel⟩, by decide⟩
set_option maxRecDepth 100000 in
theorem m_L_58 : zCw "HideSetsLaw" 58 yX11_expand cX11_expand 2 (some .int) 0 := ⟨zt5 155 rfl rfl, zt5 158 rfl rfl, zt1 1 rfl rfl, ⟨by decide +kernel, by decide +kernel, by decide +kernel⟩, by decide⟩
set_option maxRecDepth 100000 in
theorem m_X11_139 : zCw RX11 139 yX6_spread cX6_spread 3 (some .boolean) 2 := ⟨zt5 159 rfl rfl, zt5 162 rfl rfl, zt1 4 rfl rfl, ⟨by decide +kernel, by decide +kernel, by decide +kernel⟩, by decide⟩
set_option maxRecDepth 100000 in
theorem m_X6_368 : zCw RX6 368 yX6_readTape cX6_readTape 5 (some .boolean) 3 := ⟨zt5 163 rfl rfl, zt5 166 rfl rfl, zt1 4 rfl rfl, ⟨by decide +kernel, by decide +kernel, by decide +kernel⟩, by decide⟩
set_option maxRecDepth 100000 in
theorem m_L_72 : zCw "HideSetsLaw" 72 yX11_tokenAt cX11_tokenAt 3 (some .int) 2 := ⟨zt5 167 rfl rfl, zt5 170 rfl rfl, zt1 1 rfl rfl, ⟨by decide +kernel, by decide +kernel, by decide +kernel⟩, by decide⟩
set_option maxRecDepth 100000 in
theorem m_X11_156 : zCw RX11 156 yX5_lengthOf cX5_lengthOf 1 (some .int) 1 := ⟨zt5 171 rfl rfl, zt4 146 rfl rfl, zt1 6 rfl rfl, ⟨by decide +kernel, by decide +kernel, by decide +kernel⟩, by decide⟩
set_option maxRecDepth 100000 in
theorem m_X11_172 : zCw RX11 172 yX10_byteAt cX10_byteAt 2 (some .int) 1 := ⟨zt5 172 rfl rfl, zt4 78 rfl rfl, zt1 7 rfl rfl, ⟨by decide +kernel, by decide +kernel, by decide +kernel⟩, by decide⟩
set_option maxRecDepth 100000 in
theorem m_L_79 : zCw "HideSetsLaw" 79 yX11_macroAt cX11_macroAt 4 (some .int) 2 := ⟨zt5 173 rfl rfl, zt5 176 rfl rfl, zt1 1 rfl rfl, ⟨by decide +kernel, by decide +kernel, by decide +kernel⟩, by decide⟩
set_option maxRecDepth 100000 in
theorem m_L_83 : zCw "HideSetsLaw" 83 yX11_now cX11_now 2 (some .int) 1 := ⟨zt5 177 rfl rfl, zt5 180 rfl rfl, zt1 1 rfl rfl, ⟨by decide +kernel, by decide +kernel, by decide +kernel⟩, by decide⟩
set_option maxRecDepth 100000 in
theorem m_L_87 : zCw "HideSetsLaw" 87 yX11_passed cX11_passed 3 (some .int) 2 := ⟨zt5 181 rfl rfl, zt5 184 rfl rfl, zt1 1 rfl rfl, ⟨by decide +kernel, by decide +kernel, by decide +kernel⟩, by decide⟩
set_option maxRecDepth 100000 in
theorem m_X11_209 : zCw RX11 209 yX7_hasLine cX7_hasLine 3 (some .boolean) 2 := ⟨zt5 185 rfl rfl, zt5 188 rfl rfl, zt1 2 rfl rfl, ⟨by decide +kernel, by decide +kernel, by decide +kernel⟩, by decide⟩
set_option maxRecDepth 100000 in
theorem m_X7_44 : zCw RX7 44 yX7_hasFile cX7_hasFile 2 (some .boolean) 1 := ⟨zt5 189 rfl rfl, zt3 229 rfl rfl, zt1 2 rfl rfl, ⟨by decide +kernel, by decide +kernel, by decide +kernel⟩, by decide⟩
set_option maxRecDepth 100000 in
theorem m_L_91 : zCw "HideSetsLaw" 91 yX11_presence cX11_presence 5 (some .int) 3 := ⟨zt5 190 rfl rfl, zt5 193 rfl rfl, zt1 1 rfl rfl, ⟨by decide +kernel, by decide +kernel, by decide +kernel⟩, by decide⟩
set_option maxRecDepth 100000 in
theorem m_X11_216 : zCw RX11 216 yX11_theStudy cX11_theStudy 1 (Option.some (Jvm.ClassFile.FieldType.object "HideSets$Study")) 0 := ⟨zt5 194 rfl rfl, zt5 197 rfl rfl, zt1 1 rfl rfl, ⟨by decide +kernel, by decide +kernel, by decide +kernel⟩, by decide⟩
set_option maxRecDepth 100000 in
theorem m_X8_11 : zCw RX8 11 yX6_init cX6_init 2 none 1 := ⟨zt5 205 rfl rfl, zt1 120 rfl rfl, zt1 4 rfl rfl, ⟨by decide +kernel, by decide +kernel, by decide +kernel⟩, by decide⟩
set_option maxRecDepth 100000 in
theorem k_X8_20 : Cond.constant RX8 20 (Int32.ofInt 74440) ∈ lw_g := zt5 206 rfl rfl
set_option maxRecDepth 100000 in
theorem f_X8_14 : zFd RX8 14 8 6 0 2 := ⟨RX8, TX8, rfl, by decide, by decide, rfl, uvX8, tyX8_ok, nmX8, zt5 207 rfl rfl⟩
set_option maxRecDepth 100000 in
theorem f_X8_21 : zFd RX8 21 8 6 1 2 := ⟨RX8, TX8, rfl, by decide, by decide, rfl, uvX8, tyX8_ok, nmX8, zt5 208 rfl rfl⟩
set_option maxRecDepth 100000 in
theorem f_X8_25 : zFd RX8 25 8 6 2 2 := ⟨RX8, TX8, rfl, by decide, by decide, rfl, uvX8, tyX8_ok, nmX8, zt5 209 rfl rfl⟩
set_option maxRecDepth 100000 in
theorem f_X8_29 : zFd RX8 29 8 6 3 2 := ⟨RX8, TX8, rfl, by decide, by decide, rfl, uvX8, tyX8_ok, nmX8, zt5 210 rfl rfl⟩
set_option maxRecDepth 100000 in
theorem f_X11_232 : zFd RX11 232 8 6 3 2 := ⟨RX8, TX8, rfl, by decide, by decide, rfl, uvX8, tyX8_ok, nmX8, zt5 211 rfl rfl⟩
set_option maxRecDepth 100000 in
theorem f_X8_32 : zFd RX8 32 8 6 4 2 := ⟨RX8, TX8, rfl, by decide, by decide, rfl, uvX8, tyX8_ok, nmX8, zt5 212 rfl rfl⟩
set_option maxRecDepth 100000 in
theorem f_X11_223 : zFd RX11 223 8 6 4 2 := ⟨RX8, TX8, rfl, by decide, by decide, rfl, uvX8, tyX8_ok, nmX8, zt5 213 rfl rfl⟩
set_option maxRecDepth 100000 in
theorem f_X8_35 : zFd RX8 35 8 6 5 0 := ⟨RX8, TX8, rfl, by decide, by decide, rfl, uvX8, tyX8_ok, nmX8, zt5 214 rfl rfl⟩
set_option maxRecDepth 100000 in
theorem f_X11_82 : zFd RX11 82 8 6 5 0 := ⟨RX8, TX8, rfl, by decide, by decide, rfl, uvX8, tyX8_ok, nmX8, zt5 215 rfl rfl⟩
set_option maxRecDepth 100000 in
theorem m_X11_220 : zCw RX11 220 yX8_look cX8_look 6 none 2 := ⟨zt5 229 rfl rfl, zt5 232 rfl rfl, zt1 24 rfl rfl, ⟨by decide +kernel, by decide +kernel, by decide +kernel⟩, by decide⟩
set_option maxRecDepth 100000 in
theorem m_X8_50 : zCw RX8 50 yX6_start cX6_start 6 none 3 := ⟨zt5 234 rfl rfl, zt3 233 rfl rfl, zt1 4 rfl rfl, ⟨by decide +kernel, by decide +kernel, by decide +kernel⟩, by decide⟩
set_option maxRecDepth 100000 in
theorem k_X8_54 : Cond.constant RX8 54 (Int32.ofInt 1000000) ∈ lw_g := zt5 235 rfl rfl
set_option maxRecDepth 100000 in
theorem m_X8_55 : zCw RX8 55 yX6_doLine cX6_doLine 6 (some .boolean) 0 := ⟨zt5 236 rfl rfl, zt4 26 rfl rfl, zt1 4 rfl rfl, ⟨by decide +kernel, by decide +kernel, by decide +kernel⟩, by decide⟩
set_option maxRecDepth 100000 in
theorem m_X8_62 : zCw RX8 62 yX8_keep cX8_keep 6 none 1 := ⟨zt5 237 rfl rfl, zt6 0 rfl rfl, zt1 24 rfl rfl, ⟨by decide +kernel, by decide +kernel, by decide +kernel⟩, by decide⟩
set_option maxRecDepth 100000 in
theorem m_X8_81 : zCw RX8 81 yX5_lengthOf cX5_lengthOf 1 (some .int) 1 := ⟨zt6 1 rfl rfl, zt4 146 rfl rfl, zt1 6 rfl rfl, ⟨by decide +kernel, by decide +kernel, by decide +kernel⟩, by decide⟩
set_option maxRecDepth 100000 in
theorem m_X8_113 : zCw RX8 113 yX5_fileOf cX5_fileOf 1 (some .int) 1 := ⟨zt6 3 rfl rfl, zt4 81 rfl rfl, zt1 6 rfl rfl, ⟨by decide +kernel, by decide +kernel, by decide +kernel⟩, by decide⟩
set_option maxRecDepth 100000 in
theorem m_X8_116 : zCw RX8 116 yX5_lineOf cX5_lineOf 1 (some .int) 1 := ⟨zt6 4 rfl rfl, zt4 84 rfl rfl, zt1 6 rfl rfl, ⟨by decide +kernel, by decide +kernel, by decide +kernel⟩, by decide⟩
set_option maxRecDepth 100000 in
theorem m_X8_119 : zCw RX8 119 yX5_placeOf cX5_placeOf 1 (some .int) 1 := ⟨zt6 5 rfl rfl, zt5 154 rfl rfl, zt1 6 rfl rfl, ⟨by decide +kernel, by decide +kernel, by decide +kernel⟩, by decide⟩
set_option maxRecDepth 100000 in
theorem m_X8_65 : zCw RX8 65 yX8_leastLike cX8_leastLike 3 (some .int) 1 := ⟨zt6 6 rfl rfl, zt6 9 rfl rfl, zt1 24 rfl rfl, ⟨by decide +kernel, by decide +kernel, by decide +kernel⟩, by decide⟩
set_option maxRecDepth 100000 in
theorem m_X8_122 : zCw RX8 122 yX10_isAlike cX10_isAlike 5 (some .boolean) 4 := ⟨zt6 10 rfl rfl, zt3 210 rfl rfl, zt1 7 rfl rfl, ⟨by decide +kernel, by decide +kernel, by decide +kernel⟩, by decide⟩
set_option maxRecDepth 100000 in
theorem m_L_96 : zCw "HideSetsLaw" 96 yX11_outcomes cX11_outcomes 3 (some .int) 1 := ⟨zt6 11 rfl rfl, zt6 14 rfl rfl, zt1 1 rfl rfl, ⟨by decide +kernel, by decide +kernel, by decide +kernel⟩, by decide⟩
set_option maxRecDepth 100000 in
theorem m_X11_229 : zCw RX11 229 yX8_unlike cX8_unlike 4 (some .int) 1 := ⟨zt6 15 rfl rfl, zt6 18 rfl rfl, zt1 24 rfl rfl, ⟨by decide +kernel, by decide +kernel, by decide +kernel⟩, by decide⟩
set_option maxRecDepth 100000 in
theorem m_L_100 : zCw "HideSetsLaw" 100 yX11_like cX11_like 4 (some .int) 2 := ⟨zt6 19 rfl rfl, zt6 22 rfl rfl, zt1 1 rfl rfl, ⟨by decide +kernel, by decide +kernel, by decide +kernel⟩, by decide⟩
set_option maxRecDepth 100000 in
theorem m_L_104 : zCw "HideSetsLaw" 104 yX11_depends cX11_depends 3 (some .int) 1 := ⟨zt6 23 rfl rfl, zt6 26 rfl rfl, zt1 1 rfl rfl, ⟨by decide +kernel, by decide +kernel, by decide +kernel⟩, by decide⟩
set_option maxRecDepth 100000 in
theorem m_X11_235 : zCw RX11 235 yX8_changing cX8_changing 5 (some .int) 1 := ⟨zt6 27 rfl rfl, zt6 30 rfl rfl, zt1 24 rfl rfl, ⟨by decide +kernel, by decide +kernel, by decide +kernel⟩, by decide⟩
set_option maxRecDepth 100000 in
theorem m_L_108 : zCw "HideSetsLaw" 108 yX11_guard cX11_guard 3 (some .int) 1 := ⟨zt6 31 rfl rfl, zt6 34 rfl rfl, zt1 1 rfl rfl, ⟨by decide +kernel, by decide +kernel, by decide +kernel⟩, by decide⟩
set_option maxRecDepth 100000 in
theorem m_L_112 : zCw "HideSetsLaw" 112 yX11_guardAt cX11_guardAt 2 (some .int) 1 := ⟨zt6 36 rfl rfl, zt6 39 rfl rfl, zt1 1 rfl rfl, ⟨by decide +kernel, by decide +kernel, by decide +kernel⟩, by decide⟩
set_option maxRecDepth 100000 in
theorem m_L_116 : zCw "HideSetsLaw" 116 yX11_nextOf cX11_nextOf 3 (some .int) 2 := ⟨zt6 40 rfl rfl, zt6 43 rfl rfl, zt1 1 rfl rfl, ⟨by decide +kernel, by decide +kernel, by decide +kernel⟩, by decide⟩
set_option maxRecDepth 100000 in
theorem m_X11_252 : zCw RX11 252 yX4_follower cX4_follower 4 (some .int) 1 := ⟨zt6 44 rfl rfl, zt3 172 rfl rfl, zt1 3 rfl rfl, ⟨by decide +kernel, by decide +kernel, by decide +kernel⟩, by decide⟩
set_option maxRecDepth 100000 in
theorem m_L_120 : zCw "HideSetsLaw" 120 yX11_edit cX11_edit 5 (some .int) 2 := ⟨zt6 45 rfl rfl, zt6 48 rfl rfl, zt1 1 rfl rfl, ⟨by decide +kernel, by decide +kernel, by decide +kernel⟩, by decide⟩
set_option maxRecDepth 100000 in
theorem m_X11_255 : zCw RX11 255 yX4_change cX4_change 8 (some .boolean) 3 := ⟨zt6 49 rfl rfl, zt6 52 rfl rfl, zt1 3 rfl rfl, ⟨by decide +kernel, by decide +kernel, by decide +kernel⟩, by decide⟩
set_option maxRecDepth 100000 in
theorem m_L_124 : zCw "HideSetsLaw" 124 yX11_drop cX11_drop 3 (some .int) 2 := ⟨zt6 54 rfl rfl, zt6 57 rfl rfl, zt1 1 rfl rfl, ⟨by decide +kernel, by decide +kernel, by decide +kernel⟩, by decide⟩
set_option maxRecDepth 100000 in
theorem m_X11_259 : zCw RX11 259 yX4_takeOut cX4_takeOut 4 none 1 := ⟨zt6 58 rfl rfl, zt6 61 rfl rfl, zt1 3 rfl rfl, ⟨by decide +kernel, by decide +kernel, by decide +kernel⟩, by decide⟩
set_option maxRecDepth 100000 in
theorem m_L_128 : zCw "HideSetsLaw" 128 yX11_image cX11_image 2 (some .boolean) 1 := ⟨zt6 62 rfl rfl, zt6 65 rfl rfl, zt1 1 rfl rfl, ⟨by decide +kernel, by decide +kernel, by decide +kernel⟩, by decide⟩
set_option maxRecDepth 100000 in
theorem m_X11_262 : zCw RX11 262 yX7_copy cX7_copy 3 none 1 := ⟨zt6 66 rfl rfl, zt6 69 rfl rfl, zt1 2 rfl rfl, ⟨by decide +kernel, by decide +kernel, by decide +kernel⟩, by decide⟩
set_option maxRecDepth 100000 in
theorem m_X7_82 : zCw RX7 82 yX4_copy cX4_copy 2 none 1 := ⟨zt6 70 rfl rfl, zt6 73 rfl rfl, zt1 3 rfl rfl, ⟨by decide +kernel, by decide +kernel, by decide +kernel⟩, by decide⟩
set_option maxRecDepth 100000 in
theorem m_L_132 : zCw "HideSetsLaw" 132 yX11_restore cX11_restore 2 (some .boolean) 1 := ⟨zt6 74 rfl rfl, zt6 77 rfl rfl, zt1 1 rfl rfl, ⟨by decide +kernel, by decide +kernel, by decide +kernel⟩, by decide⟩
set_option maxRecDepth 100000 in
theorem m_L_136 : zCw "HideSetsLaw" 136 yX11_count cX11_count 2 (some .int) 1 := ⟨zt6 78 rfl rfl, zt6 81 rfl rfl, zt1 1 rfl rfl, ⟨by decide +kernel, by decide +kernel, by decide +kernel⟩, by decide⟩
set_option maxRecDepth 100000 in
theorem m_X11_266 : zCw RX11 266 yX7_filesTold cX7_filesTold 3 (some .int) 0 := ⟨zt6 82 rfl rfl, zt6 85 rfl rfl, zt1 2 rfl rfl, ⟨by decide +kernel, by decide +kernel, by decide +kernel⟩, by decide⟩
set_option maxRecDepth 100000 in
theorem m_L_140 : zCw "HideSetsLaw" 140 yX11_lines cX11_lines 2 (some .int) 1 := ⟨zt6 86 rfl rfl, zt6 89 rfl rfl, zt1 1 rfl rfl, ⟨by decide +kernel, by decide +kernel, by decide +kernel⟩, by decide⟩
set_option maxRecDepth 100000 in
theorem m_L_7 : zCw "HideSetsLaw" 7 yX11_value cX11_value 4 (some .long) 0 := ⟨zt6 94 rfl rfl, zt6 97 rfl rfl, zt1 1 rfl rfl, ⟨by decide +kernel, by decide +kernel, by decide +kernel⟩, by decide⟩
set_option maxRecDepth 100000 in
theorem m_X11_143 : zCw RX11 143 yX6_worth cX6_worth 6 (some .long) 2 := ⟨zt6 98 rfl rfl, zt6 101 rfl rfl, zt1 4 rfl rfl, ⟨by decide +kernel, by decide +kernel, by decide +kernel⟩, by decide⟩
set_option maxRecDepth 100000 in
theorem m_L_15 : zCw "HideSetsLaw" 15 yX11_token cX11_token 4 (some .int) 2 := ⟨zt6 166 rfl rfl, zt6 169 rfl rfl, zt1 1 rfl rfl, ⟨by decide +kernel, by decide +kernel, by decide +kernel⟩, by decide⟩
set_option maxRecDepth 100000 in
theorem m_X11_153 : zCw RX11 153 yX5_kindOf cX5_kindOf 1 (some .int) 1 := ⟨zt6 170 rfl rfl, zt4 143 rfl rfl, zt1 6 rfl rfl, ⟨by decide +kernel, by decide +kernel, by decide +kernel⟩, by decide⟩
set_option maxRecDepth 100000 in
theorem m_X11_162 : zCw RX11 162 yX5_blankOf cX5_blankOf 1 (some .int) 1 := ⟨zt6 171 rfl rfl, zt4 173 rfl rfl, zt1 6 rfl rfl, ⟨by decide +kernel, by decide +kernel, by decide +kernel⟩, by decide⟩
set_option maxRecDepth 100000 in
theorem m_L_19 : zCw "HideSetsLaw" 19 yX11_macro cX11_macro 5 (some .int) 2 := ⟨zt6 175 rfl rfl, zt6 178 rfl rfl, zt1 1 rfl rfl, ⟨by decide +kernel, by decide +kernel, by decide +kernel⟩, by decide⟩
set_option maxRecDepth 100000 in
theorem m_L_25 : zCw "HideSetsLaw" 25 yX12_init cX12_init 1 none 0 := ⟨zt6 181 rfl rfl, zt6 183 rfl rfl, zt1 12 rfl rfl, ⟨by decide +kernel, by decide +kernel, by decide +kernel⟩, by decide⟩
set_option maxRecDepth 100000 in
theorem k_X12_64 : Cond.constant RX12 64 (Int32.ofInt 62000) ∈ lw_g := zt6 185 rfl rfl
set_option maxRecDepth 100000 in
theorem k_X12_134 : Cond.constant RX12 134 (Int32.ofInt 194000) ∈ lw_g := zt6 186 rfl rfl
set_option maxRecDepth 100000 in
theorem k_X12_217 : Cond.constant RX12 217 (Int32.ofInt 93000) ∈ lw_g := zt6 187 rfl rfl
set_option maxRecDepth 100000 in
theorem k_X12_263 : Cond.constant RX12 263 (Int32.ofInt 74400) ∈ lw_g := zt6 188 rfl rfl
set_option maxRecDepth 100000 in
theorem f_X12_1 : zFd RX12 1 12 119 0 0 := ⟨RX12, TX12, rfl, by decide, by decide, rfl, uvX12, tyX12_ok, nmX12, zt6 189 rfl rfl⟩
set_option maxRecDepth 100000 in
theorem f_X12_13 : zFd RX12 13 12 119 1 2 := ⟨RX12, TX12, rfl, by decide, by decide, rfl, uvX12, tyX12_ok, nmX12, zt6 190 rfl rfl⟩
set_option maxRecDepth 100000 in
theorem f_X12_267 : zFd RX12 267 12 119 2 0 := ⟨RX12, TX12, rfl, by decide, by decide, rfl, uvX12, tyX12_ok, nmX12, zt6 191 rfl rfl⟩
set_option maxRecDepth 100000 in
theorem f_X12_274 : zFd RX12 274 12 119 3 0 := ⟨RX12, TX12, rfl, by decide, by decide, rfl, uvX12, tyX12_ok, nmX12, zt6 192 rfl rfl⟩
set_option maxRecDepth 100000 in
theorem f_X12_17 : zFd RX12 17 12 119 4 2 := ⟨RX12, TX12, rfl, by decide, by decide, rfl, uvX12, tyX12_ok, nmX12, zt6 193 rfl rfl⟩
set_option maxRecDepth 100000 in
theorem f_X12_21 : zFd RX12 21 12 119 5 2 := ⟨RX12, TX12, rfl, by decide, by decide, rfl, uvX12, tyX12_ok, nmX12, zt6 194 rfl rfl⟩
set_option maxRecDepth 100000 in
theorem f_X12_24 : zFd RX12 24 12 119 6 2 := ⟨RX12, TX12, rfl, by decide, by decide, rfl, uvX12, tyX12_ok, nmX12, zt6 195 rfl rfl⟩
set_option maxRecDepth 100000 in
theorem f_X12_27 : zFd RX12 27 12 119 7 2 := ⟨RX12, TX12, rfl, by decide, by decide, rfl, uvX12, tyX12_ok, nmX12, zt6 196 rfl rfl⟩
set_option maxRecDepth 100000 in
theorem f_X12_30 : zFd RX12 30 12 119 8 2 := ⟨RX12, TX12, rfl, by decide, by decide, rfl, uvX12, tyX12_ok, nmX12, zt6 197 rfl rfl⟩
set_option maxRecDepth 100000 in
theorem f_X12_300 : zFd RX12 300 12 119 9 0 := ⟨RX12, TX12, rfl, by decide, by decide, rfl, uvX12, tyX12_ok, nmX12, zt6 198 rfl rfl⟩
set_option maxRecDepth 100000 in
theorem f_X12_34 : zFd RX12 34 12 119 10 2 := ⟨RX12, TX12, rfl, by decide, by decide, rfl, uvX12, tyX12_ok, nmX12, zt6 199 rfl rfl⟩
set_option maxRecDepth 100000 in
theorem f_X12_349 : zFd RX12 349 12 119 11 0 := ⟨RX12, TX12, rfl, by decide, by decide, rfl, uvX12, tyX12_ok, nmX12, zt6 200 rfl rfl⟩
set_option maxRecDepth 100000 in
theorem f_X12_37 : zFd RX12 37 12 119 12 2 := ⟨RX12, TX12, rfl, by decide, by decide, rfl, uvX12, tyX12_ok, nmX12, zt6 201 rfl rfl⟩
set_option maxRecDepth 100000 in
theorem f_X12_367 : zFd RX12 367 12 119 13 0 := ⟨RX12, TX12, rfl, by decide, by decide, rfl, uvX12, tyX12_ok, nmX12, zt6 202 rfl rfl⟩
set_option maxRecDepth 100000 in
theorem f_X12_40 : zFd RX12 40 12 119 14 2 := ⟨RX12, TX12, rfl, by decide, by decide, rfl, uvX12, tyX12_ok, nmX12, zt6 203 rfl rfl⟩
set_option maxRecDepth 100000 in
theorem f_X12_43 : zFd RX12 43 12 119 15 2 := ⟨RX12, TX12, rfl, by decide, by decide, rfl, uvX12, tyX12_ok, nmX12, zt6 204 rfl rfl⟩
set_option maxRecDepth 100000 in
theorem f_X12_46 : zFd RX12 46 12 119 16 2 := ⟨RX12, TX12, rfl, by decide, by decide, rfl, uvX12, tyX12_ok, nmX12, zt6 205 rfl rfl⟩
set_option maxRecDepth 100000 in
theorem f_X12_49 : zFd RX12 49 12 119 17 2 := ⟨RX12, TX12, rfl, by decide, by decide, rfl, uvX12, tyX12_ok, nmX12, zt6 206 rfl rfl⟩
set_option maxRecDepth 100000 in
theorem f_X12_52 : zFd RX12 52 12 119 18 2 := ⟨RX12, TX12, rfl, by decide, by decide, rfl, uvX12, tyX12_ok, nmX12, zt6 207 rfl rfl⟩
set_option maxRecDepth 100000 in
theorem f_X12_55 : zFd RX12 55 12 119 19 2 := ⟨RX12, TX12, rfl, by decide, by decide, rfl, uvX12, tyX12_ok, nmX12, zt6 208 rfl rfl⟩
set_option maxRecDepth 100000 in
theorem f_X12_58 : zFd RX12 58 12 119 20 2 := ⟨RX12, TX12, rfl, by decide, by decide, rfl, uvX12, tyX12_ok, nmX12, zt6 209 rfl rfl⟩
set_option maxRecDepth 100000 in
theorem f_X12_61 : zFd RX12 61 12 119 21 2 := ⟨RX12, TX12, rfl, by decide, by decide, rfl, uvX12, tyX12_ok, nmX12, zt6 210 rfl rfl⟩
set_option maxRecDepth 100000 in
theorem f_X12_65 : zFd RX12 65 12 119 22 2 := ⟨RX12, TX12, rfl, by decide, by decide, rfl, uvX12, tyX12_ok, nmX12, zt6 211 rfl rfl⟩
set_option maxRecDepth 100000 in
theorem f_X12_355 : zFd RX12 355 12 119 23 0 := ⟨RX12, TX12, rfl, by decide, by decide, rfl, uvX12, tyX12_ok, nmX12, zt6 212 rfl rfl⟩
set_option maxRecDepth 100000 in
theorem f_X12_391 : zFd RX12 391 12 119 24 0 := ⟨RX12, TX12, rfl, by decide, by decide, rfl, uvX12, tyX12_ok, nmX12, zt6 213 rfl rfl⟩
set_option maxRecDepth 100000 in
theorem f_X12_394 : zFd RX12 394 12 119 25 0 := ⟨RX12, TX12, rfl, by decide, by decide, rfl, uvX12, tyX12_ok, nmX12, zt6 214 rfl rfl⟩
set_option maxRecDepth 100000 in
theorem f_X12_397 : zFd RX12 397 12 119 26 0 := ⟨RX12, TX12, rfl, by decide, by decide, rfl, uvX12, tyX12_ok, nmX12, zt6 215 rfl rfl⟩
set_option maxRecDepth 100000 in
theorem f_X12_385 : zFd RX12 385 12 119 27 0 := ⟨RX12, TX12, rfl, by decide, by decide, rfl, uvX12, tyX12_ok, nmX12, zt6 216 rfl rfl⟩
set_option maxRecDepth 100000 in
theorem f_X12_379 : zFd RX12 379 12 119 28 0 := ⟨RX12, TX12, rfl, by decide, by decide, rfl, uvX12, tyX12_ok, nmX12, zt6 217 rfl rfl⟩
set_option maxRecDepth 100000 in
theorem f_X12_382 : zFd RX12 382 12 119 29 0 := ⟨RX12, TX12, rfl, by decide, by decide, rfl, uvX12, tyX12_ok, nmX12, zt6 218 rfl rfl⟩
set_option maxRecDepth 100000 in
theorem f_X12_68 : zFd RX12 68 12 119 30 2 := ⟨RX12, TX12, rfl, by decide, by decide, rfl, uvX12, tyX12_ok, nmX12, zt6 219 rfl rfl⟩
set_option maxRecDepth 100000 in
theorem f_X12_71 : zFd RX12 71 12 119 31 2 := ⟨RX12, TX12, rfl, by decide, by decide, rfl, uvX12, tyX12_ok, nmX12, zt6 220 rfl rfl⟩
set_option maxRecDepth 100000 in
theorem f_X12_74 : zFd RX12 74 12 119 32 2 := ⟨RX12, TX12, rfl, by decide, by decide, rfl, uvX12, tyX12_ok, nmX12, zt6 221 rfl rfl⟩
set_option maxRecDepth 100000 in
theorem f_X12_77 : zFd RX12 77 12 119 33 2 := ⟨RX12, TX12, rfl, by decide, by decide, rfl, uvX12, tyX12_ok, nmX12, zt6 222 rfl rfl⟩
set_option maxRecDepth 100000 in
theorem f_X12_388 : zFd RX12 388 12 119 34 0 := ⟨RX12, TX12, rfl, by decide, by decide, rfl, uvX12, tyX12_ok, nmX12, zt6 223 rfl rfl⟩
set_option maxRecDepth 100000 in
theorem f_X12_80 : zFd RX12 80 12 119 35 2 := ⟨RX12, TX12, rfl, by decide, by decide, rfl, uvX12, tyX12_ok, nmX12, zt6 224 rfl rfl⟩
set_option maxRecDepth 100000 in
theorem f_X12_83 : zFd RX12 83 12 119 36 2 := ⟨RX12, TX12, rfl, by decide, by decide, rfl, uvX12, tyX12_ok, nmX12, zt6 225 rfl rfl⟩
set_option maxRecDepth 100000 in
theorem f_X12_421 : zFd RX12 421 12 119 37 0 := ⟨RX12, TX12, rfl, by decide, by decide, rfl, uvX12, tyX12_ok, nmX12, zt6 226 rfl rfl⟩
set_option maxRecDepth 100000 in
theorem f_X12_86 : zFd RX12 86 12 119 38 2 := ⟨RX12, TX12, rfl, by decide, by decide, rfl, uvX12, tyX12_ok, nmX12, zt6 227 rfl rfl⟩
set_option maxRecDepth 100000 in
theorem f_X12_89 : zFd RX12 89 12 119 39 2 := ⟨RX12, TX12, rfl, by decide, by decide, rfl, uvX12, tyX12_ok, nmX12, zt6 228 rfl rfl⟩
set_option maxRecDepth 100000 in
theorem f_X12_92 : zFd RX12 92 12 119 40 2 := ⟨RX12, TX12, rfl, by decide, by decide, rfl, uvX12, tyX12_ok, nmX12, zt6 229 rfl rfl⟩
set_option maxRecDepth 100000 in
theorem f_X12_95 : zFd RX12 95 12 119 41 2 := ⟨RX12, TX12, rfl, by decide, by decide, rfl, uvX12, tyX12_ok, nmX12, zt6 230 rfl rfl⟩
set_option maxRecDepth 100000 in
theorem f_X12_98 : zFd RX12 98 12 119 42 2 := ⟨RX12, TX12, rfl, by decide, by decide, rfl, uvX12, tyX12_ok, nmX12, zt6 231 rfl rfl⟩
set_option maxRecDepth 100000 in
theorem f_X12_101 : zFd RX12 101 12 119 43 2 := ⟨RX12, TX12, rfl, by decide, by decide, rfl, uvX12, tyX12_ok, nmX12, zt6 232 rfl rfl⟩
set_option maxRecDepth 100000 in
theorem f_X12_104 : zFd RX12 104 12 119 44 2 := ⟨RX12, TX12, rfl, by decide, by decide, rfl, uvX12, tyX12_ok, nmX12, zt6 233 rfl rfl⟩
set_option maxRecDepth 100000 in
theorem f_X12_107 : zFd RX12 107 12 119 45 2 := ⟨RX12, TX12, rfl, by decide, by decide, rfl, uvX12, tyX12_ok, nmX12, zt6 234 rfl rfl⟩
