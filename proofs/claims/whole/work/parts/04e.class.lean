/-! the classes' words -/
set_option maxRecDepth 100000 in
theorem am_cw0 : (u_ws RX0 TX0 2).map some = ([485, 487] : List Nat).map (fun i => lw_tbl[i]?) ∧ (u_ws RX0 TX0 2).all goodWord = true := by decide +kernel
set_option maxRecDepth 100000 in
theorem am_ci0 : lw_tbl[478]? = some (.instantiable RX0 2) ∧ lw_tbl[151]? = some (.initialized RX0) := by decide +kernel
set_option maxRecDepth 100000 in
theorem am_cw1 : (u_ws RX1 TX1 3).map some = ([356, 358, 360] : List Nat).map (fun i => lw_tbl[i]?) ∧ (u_ws RX1 TX1 3).all goodWord = true := by decide +kernel
set_option maxRecDepth 100000 in
theorem am_ci1 : lw_tbl[344]? = some (.instantiable RX1 3) ∧ lw_tbl[145]? = some (.initialized RX1) := by decide +kernel
set_option maxRecDepth 100000 in
theorem am_cw2 : (u_ws RX2 TX2 3).map some = ([609, 611, 613] : List Nat).map (fun i => lw_tbl[i]?) ∧ (u_ws RX2 TX2 3).all goodWord = true := by decide +kernel
set_option maxRecDepth 100000 in
theorem am_ci2 : lw_tbl[599]? = some (.instantiable RX2 3) ∧ lw_tbl[155]? = some (.initialized RX2) := by decide +kernel
set_option maxRecDepth 100000 in
theorem am_cw3 : (u_ws RX3 TX3 18).map some = ([244, 246, 248, 250, 252, 254, 256, 258, 260, 262, 264, 266, 268, 270, 272, 274, 276, 278] : List Nat).map (fun i => lw_tbl[i]?) ∧ (u_ws RX3 TX3 18).all goodWord = true := by decide +kernel
set_option maxRecDepth 100000 in
theorem am_ci3 : lw_tbl[180]? = some (.instantiable RX3 18) ∧ lw_tbl[142]? = some (.initialized RX3) := by decide +kernel
set_option maxRecDepth 100000 in
theorem am_cw4 : (u_ws RX4 TX4 8).map some = ([550, 552, 554, 556, 558, 560, 562, 564] : List Nat).map (fun i => lw_tbl[i]?) ∧ (u_ws RX4 TX4 8).all goodWord = true := by decide +kernel
set_option maxRecDepth 100000 in
theorem am_ci4 : lw_tbl[537]? = some (.instantiable RX4 8) ∧ lw_tbl[153]? = some (.initialized RX4) := by decide +kernel
set_option maxRecDepth 100000 in
theorem am_cw5 : (u_ws RX5 TX5 2).map some = ([292, 294] : List Nat).map (fun i => lw_tbl[i]?) ∧ (u_ws RX5 TX5 2).all goodWord = true := by decide +kernel
set_option maxRecDepth 100000 in
theorem am_ci5 : lw_tbl[283]? = some (.instantiable RX5 2) ∧ lw_tbl[143]? = some (.initialized RX5) := by decide +kernel
set_option maxRecDepth 100000 in
theorem am_cw6 : (u_ws RX6 TX6 6).map some = ([310, 312, 314, 316, 318, 320] : List Nat).map (fun i => lw_tbl[i]?) ∧ (u_ws RX6 TX6 6).all goodWord = true := by decide +kernel
set_option maxRecDepth 100000 in
theorem am_ci6 : lw_tbl[298]? = some (.instantiable RX6 6) ∧ lw_tbl[144]? = some (.initialized RX6) := by decide +kernel
set_option maxRecDepth 100000 in
theorem am_cw7 : (u_ws RX7 TX7 7).map some = ([583, 585, 587, 589, 591, 593, 595] : List Nat).map (fun i => lw_tbl[i]?) ∧ (u_ws RX7 TX7 7).all goodWord = true := by decide +kernel
set_option maxRecDepth 100000 in
theorem am_ci7 : lw_tbl[568]? = some (.instantiable RX7 7) ∧ lw_tbl[154]? = some (.initialized RX7) := by decide +kernel
set_option maxRecDepth 100000 in
theorem am_cw8 : (u_ws RX8 TX8 13).map some = ([509, 511, 513, 515, 517, 519, 521, 523, 525, 527, 529, 531, 533] : List Nat).map (fun i => lw_tbl[i]?) ∧ (u_ws RX8 TX8 13).all goodWord = true := by decide +kernel
set_option maxRecDepth 100000 in
theorem am_ci8 : lw_tbl[491]? = some (.instantiable RX8 13) ∧ lw_tbl[152]? = some (.initialized RX8) := by decide +kernel
set_option maxRecDepth 100000 in
theorem am_cw9 : (u_ws RX9 TX9 4).map some = ([333, 335, 337, 339] : List Nat).map (fun i => lw_tbl[i]?) ∧ (u_ws RX9 TX9 4).all goodWord = true := by decide +kernel
set_option maxRecDepth 100000 in
theorem am_ci9 : lw_tbl[174]? = some (.instantiable RX9 4) ∧ lw_tbl[141]? = some (.initialized RX9) := by decide +kernel
set_option maxRecDepth 100000 in
theorem am_cw10 : (u_ws RX10 TX10 13).map some = ([449, 451, 453, 455, 457, 459, 461, 463, 465, 467, 469, 471, 473] : List Nat).map (fun i => lw_tbl[i]?) ∧ (u_ws RX10 TX10 13).all goodWord = true := by decide +kernel
set_option maxRecDepth 100000 in
theorem am_ci10 : lw_tbl[370]? = some (.instantiable RX10 13) ∧ lw_tbl[146]? = some (.initialized RX10) := by decide +kernel
set_option maxRecDepth 100000 in
theorem am_cw11 : (u_ws RX11 TX11 18).map some = ([636, 638, 640, 642, 644, 646, 648, 650, 652, 654, 656, 658, 660, 662, 664, 666, 668, 670] : List Nat).map (fun i => lw_tbl[i]?) ∧ (u_ws RX11 TX11 18).all goodWord = true := by decide +kernel
set_option maxRecDepth 100000 in
theorem am_ci11 : lw_tbl[166]? = some (.instantiable RX11 18) ∧ lw_tbl[140]? = some (.initialized RX11) := by decide +kernel
set_option maxRecDepth 100000 in
theorem am_cw12 : (u_ws RX12 TX12 62).map some = ([1604, 1606, 1608, 1610, 1612, 1614, 1616, 1618, 1620, 1622, 1624, 1626, 1628, 1630, 1632, 1634, 1636, 1638, 1640, 1642, 1644, 1646, 1648, 1650, 1652, 1654, 1656, 1658, 1660, 1662, 1664, 1666, 1668, 1670, 1672, 1674, 1676, 1678, 1680, 1682, 1684, 1686, 1688, 1690, 1692, 1694, 1696, 1698, 1700, 1702, 1704, 1706, 1708, 1710, 1712, 1714, 1716, 1718, 1720, 1722, 1724, 1726] : List Nat).map (fun i => lw_tbl[i]?) ∧ (u_ws RX12 TX12 62).all goodWord = true := by decide +kernel
set_option maxRecDepth 100000 in
theorem am_ci12 : lw_tbl[1536]? = some (.instantiable RX12 62) ∧ lw_tbl[156]? = some (.initialized RX12) := by decide +kernel
