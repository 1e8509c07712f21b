theorem layX0_0 : u_lay RX0 TX0 0 ∈ TW := TW_at 332 (by decide +kernel) (by decide +kernel)
theorem layX0_1 : u_lay RX0 TX0 1 ∈ TW := TW_at 334 (by decide +kernel) (by decide +kernel)
theorem layX0_2 : u_lay RX0 TX0 2 ∈ TW := TW_at 336 (by decide +kernel) (by decide +kernel)
theorem layX0_3 : u_lay RX0 TX0 3 ∈ TW := TW_at 338 (by decide +kernel) (by decide +kernel)
theorem layX0_4 : u_lay RX0 TX0 4 ∈ TW := TW_at 340 (by decide +kernel) (by decide +kernel)
theorem layX0_5 : u_lay RX0 TX0 5 ∈ TW := TW_at 342 (by decide +kernel) (by decide +kernel)
theorem layX0_6 : u_lay RX0 TX0 6 ∈ TW := TW_at 344 (by decide +kernel) (by decide +kernel)
theorem layX0_7 : u_lay RX0 TX0 7 ∈ TW := TW_at 346 (by decide +kernel) (by decide +kernel)
theorem layX0_8 : u_lay RX0 TX0 8 ∈ TW := TW_at 348 (by decide +kernel) (by decide +kernel)
theorem layX0 : ∀ w ∈ u_ws RX0 TX0 9, w ∈ TW := by
  intro w hw
  obtain ⟨k, hk, rfl⟩ := List.mem_map.mp hw
  have hk := List.mem_range.mp hk
  rcases k with _ | _ | _ | _ | _ | _ | _ | _ | _ | k
  · exact layX0_0
  · exact layX0_1
  · exact layX0_2
  · exact layX0_3
  · exact layX0_4
  · exact layX0_5
  · exact layX0_6
  · exact layX0_7
  · exact layX0_8
  · omega
theorem layX1_0 : u_lay RX1 TX1 0 ∈ TW := TW_at 377 (by decide +kernel) (by decide +kernel)
theorem layX1_1 : u_lay RX1 TX1 1 ∈ TW := TW_at 379 (by decide +kernel) (by decide +kernel)
theorem layX1 : ∀ w ∈ u_ws RX1 TX1 2, w ∈ TW := by
  intro w hw
  obtain ⟨k, hk, rfl⟩ := List.mem_map.mp hw
  have hk := List.mem_range.mp hk
  rcases k with _ | _ | k
  · exact layX1_0
  · exact layX1_1
  · omega
theorem layX2_0 : u_lay RX2 TX2 0 ∈ TW := TW_at 361 (by decide +kernel) (by decide +kernel)
theorem layX2_1 : u_lay RX2 TX2 1 ∈ TW := TW_at 363 (by decide +kernel) (by decide +kernel)
theorem layX2_2 : u_lay RX2 TX2 2 ∈ TW := TW_at 365 (by decide +kernel) (by decide +kernel)
theorem layX2 : ∀ w ∈ u_ws RX2 TX2 3, w ∈ TW := by
  intro w hw
  obtain ⟨k, hk, rfl⟩ := List.mem_map.mp hw
  have hk := List.mem_range.mp hk
  rcases k with _ | _ | _ | k
  · exact layX2_0
  · exact layX2_1
  · exact layX2_2
  · omega
theorem layX3_0 : u_lay RX3 TX3 0 ∈ TW := TW_at 162 (by decide +kernel) (by decide +kernel)
theorem layX3_1 : u_lay RX3 TX3 1 ∈ TW := TW_at 164 (by decide +kernel) (by decide +kernel)
theorem layX3_2 : u_lay RX3 TX3 2 ∈ TW := TW_at 166 (by decide +kernel) (by decide +kernel)
theorem layX3_3 : u_lay RX3 TX3 3 ∈ TW := TW_at 168 (by decide +kernel) (by decide +kernel)
theorem layX3 : ∀ w ∈ u_ws RX3 TX3 4, w ∈ TW := by
  intro w hw
  obtain ⟨k, hk, rfl⟩ := List.mem_map.mp hw
  have hk := List.mem_range.mp hk
  rcases k with _ | _ | _ | _ | k
  · exact layX3_0
  · exact layX3_1
  · exact layX3_2
  · exact layX3_3
  · omega
theorem layX4_0 : u_lay RX4 TX4 0 ∈ TW := TW_at 306 (by decide +kernel) (by decide +kernel)
theorem layX4_1 : u_lay RX4 TX4 1 ∈ TW := TW_at 308 (by decide +kernel) (by decide +kernel)
theorem layX4_2 : u_lay RX4 TX4 2 ∈ TW := TW_at 310 (by decide +kernel) (by decide +kernel)
theorem layX4_3 : u_lay RX4 TX4 3 ∈ TW := TW_at 312 (by decide +kernel) (by decide +kernel)
theorem layX4_4 : u_lay RX4 TX4 4 ∈ TW := TW_at 314 (by decide +kernel) (by decide +kernel)
theorem layX4 : ∀ w ∈ u_ws RX4 TX4 5, w ∈ TW := by
  intro w hw
  obtain ⟨k, hk, rfl⟩ := List.mem_map.mp hw
  have hk := List.mem_range.mp hk
  rcases k with _ | _ | _ | _ | _ | k
  · exact layX4_0
  · exact layX4_1
  · exact layX4_2
  · exact layX4_3
  · exact layX4_4
  · omega
theorem layX5_0 : u_lay RX5 TX5 0 ∈ TW := TW_at 266 (by decide +kernel) (by decide +kernel)
theorem layX5_1 : u_lay RX5 TX5 1 ∈ TW := TW_at 268 (by decide +kernel) (by decide +kernel)
theorem layX5_2 : u_lay RX5 TX5 2 ∈ TW := TW_at 270 (by decide +kernel) (by decide +kernel)
theorem layX5_3 : u_lay RX5 TX5 3 ∈ TW := TW_at 272 (by decide +kernel) (by decide +kernel)
theorem layX5_4 : u_lay RX5 TX5 4 ∈ TW := TW_at 274 (by decide +kernel) (by decide +kernel)
theorem layX5_5 : u_lay RX5 TX5 5 ∈ TW := TW_at 276 (by decide +kernel) (by decide +kernel)
theorem layX5_6 : u_lay RX5 TX5 6 ∈ TW := TW_at 278 (by decide +kernel) (by decide +kernel)
theorem layX5 : ∀ w ∈ u_ws RX5 TX5 7, w ∈ TW := by
  intro w hw
  obtain ⟨k, hk, rfl⟩ := List.mem_map.mp hw
  have hk := List.mem_range.mp hk
  rcases k with _ | _ | _ | _ | _ | _ | _ | k
  · exact layX5_0
  · exact layX5_1
  · exact layX5_2
  · exact layX5_3
  · exact layX5_4
  · exact layX5_5
  · exact layX5_6
  · omega
theorem layX6_0 : u_lay RX6 TX6 0 ∈ TW := TW_at 390 (by decide +kernel) (by decide +kernel)
theorem layX6_1 : u_lay RX6 TX6 1 ∈ TW := TW_at 392 (by decide +kernel) (by decide +kernel)
theorem layX6 : ∀ w ∈ u_ws RX6 TX6 2, w ∈ TW := by
  intro w hw
  obtain ⟨k, hk, rfl⟩ := List.mem_map.mp hw
  have hk := List.mem_range.mp hk
  rcases k with _ | _ | k
  · exact layX6_0
  · exact layX6_1
  · omega
theorem layX7_0 : u_lay RX7 TX7 0 ∈ TW := TW_at 290 (by decide +kernel) (by decide +kernel)
theorem layX7 : ∀ w ∈ u_ws RX7 TX7 1, w ∈ TW := by
  intro w hw
  obtain ⟨k, hk, rfl⟩ := List.mem_map.mp hw
  have hk := List.mem_range.mp hk
  rcases k with _ | k
  · exact layX7_0
  · omega
theorem layX8_0 : u_lay RX8 TX8 0 ∈ TW := TW_at 225 (by decide +kernel) (by decide +kernel)
theorem layX8_1 : u_lay RX8 TX8 1 ∈ TW := TW_at 227 (by decide +kernel) (by decide +kernel)
theorem layX8 : ∀ w ∈ u_ws RX8 TX8 2, w ∈ TW := by
  intro w hw
  obtain ⟨k, hk, rfl⟩ := List.mem_map.mp hw
  have hk := List.mem_range.mp hk
  rcases k with _ | _ | k
  · exact layX8_0
  · exact layX8_1
  · omega
theorem layX9_0 : u_lay RX9 TX9 0 ∈ TW := TW_at 192 (by decide +kernel) (by decide +kernel)
theorem layX9_1 : u_lay RX9 TX9 1 ∈ TW := TW_at 194 (by decide +kernel) (by decide +kernel)
theorem layX9_2 : u_lay RX9 TX9 2 ∈ TW := TW_at 196 (by decide +kernel) (by decide +kernel)
theorem layX9_3 : u_lay RX9 TX9 3 ∈ TW := TW_at 198 (by decide +kernel) (by decide +kernel)
theorem layX9_4 : u_lay RX9 TX9 4 ∈ TW := TW_at 200 (by decide +kernel) (by decide +kernel)
theorem layX9_5 : u_lay RX9 TX9 5 ∈ TW := TW_at 202 (by decide +kernel) (by decide +kernel)
theorem layX9_6 : u_lay RX9 TX9 6 ∈ TW := TW_at 204 (by decide +kernel) (by decide +kernel)
theorem layX9_7 : u_lay RX9 TX9 7 ∈ TW := TW_at 206 (by decide +kernel) (by decide +kernel)
theorem layX9 : ∀ w ∈ u_ws RX9 TX9 8, w ∈ TW := by
  intro w hw
  obtain ⟨k, hk, rfl⟩ := List.mem_map.mp hw
  have hk := List.mem_range.mp hk
  rcases k with _ | _ | _ | _ | _ | _ | _ | _ | k
  · exact layX9_0
  · exact layX9_1
  · exact layX9_2
  · exact layX9_3
  · exact layX9_4
  · exact layX9_5
  · exact layX9_6
  · exact layX9_7
  · omega
theorem layX10_0 : u_lay RX10 TX10 0 ∈ TW := TW_at 238 (by decide +kernel) (by decide +kernel)
theorem layX10_1 : u_lay RX10 TX10 1 ∈ TW := TW_at 240 (by decide +kernel) (by decide +kernel)
theorem layX10_2 : u_lay RX10 TX10 2 ∈ TW := TW_at 242 (by decide +kernel) (by decide +kernel)
theorem layX10_3 : u_lay RX10 TX10 3 ∈ TW := TW_at 244 (by decide +kernel) (by decide +kernel)
theorem layX10_4 : u_lay RX10 TX10 4 ∈ TW := TW_at 246 (by decide +kernel) (by decide +kernel)
theorem layX10_5 : u_lay RX10 TX10 5 ∈ TW := TW_at 248 (by decide +kernel) (by decide +kernel)
theorem layX10_6 : u_lay RX10 TX10 6 ∈ TW := TW_at 250 (by decide +kernel) (by decide +kernel)
theorem layX10_7 : u_lay RX10 TX10 7 ∈ TW := TW_at 252 (by decide +kernel) (by decide +kernel)
theorem layX10 : ∀ w ∈ u_ws RX10 TX10 8, w ∈ TW := by
  intro w hw
  obtain ⟨k, hk, rfl⟩ := List.mem_map.mp hw
  have hk := List.mem_range.mp hk
  rcases k with _ | _ | _ | _ | _ | _ | _ | _ | k
  · exact layX10_0
  · exact layX10_1
  · exact layX10_2
  · exact layX10_3
  · exact layX10_4
  · exact layX10_5
  · exact layX10_6
  · exact layX10_7
  · omega
theorem layX11_0 : u_lay RX11 TX11 0 ∈ TW := TW_at 404 (by decide +kernel) (by decide +kernel)
theorem layX11_1 : u_lay RX11 TX11 1 ∈ TW := TW_at 406 (by decide +kernel) (by decide +kernel)
theorem layX11_2 : u_lay RX11 TX11 2 ∈ TW := TW_at 408 (by decide +kernel) (by decide +kernel)
theorem layX11_3 : u_lay RX11 TX11 3 ∈ TW := TW_at 410 (by decide +kernel) (by decide +kernel)
theorem layX11_4 : u_lay RX11 TX11 4 ∈ TW := TW_at 412 (by decide +kernel) (by decide +kernel)
theorem layX11_5 : u_lay RX11 TX11 5 ∈ TW := TW_at 414 (by decide +kernel) (by decide +kernel)
theorem layX11_6 : u_lay RX11 TX11 6 ∈ TW := TW_at 416 (by decide +kernel) (by decide +kernel)
theorem layX11_7 : u_lay RX11 TX11 7 ∈ TW := TW_at 418 (by decide +kernel) (by decide +kernel)
theorem layX11_8 : u_lay RX11 TX11 8 ∈ TW := TW_at 420 (by decide +kernel) (by decide +kernel)
theorem layX11 : ∀ w ∈ u_ws RX11 TX11 9, w ∈ TW := by
  intro w hw
  obtain ⟨k, hk, rfl⟩ := List.mem_map.mp hw
  have hk := List.mem_range.mp hk
  rcases k with _ | _ | _ | _ | _ | _ | _ | _ | _ | k
  · exact layX11_0
  · exact layX11_1
  · exact layX11_2
  · exact layX11_3
  · exact layX11_4
  · exact layX11_5
  · exact layX11_6
  · exact layX11_7
  · exact layX11_8
  · omega
theorem layX12_0 : u_lay RX12 TX12 0 ∈ TW := TW_at 1501 (by decide +kernel) (by decide +kernel)
theorem layX12_1 : u_lay RX12 TX12 1 ∈ TW := TW_at 1503 (by decide +kernel) (by decide +kernel)
theorem layX12_2 : u_lay RX12 TX12 2 ∈ TW := TW_at 1505 (by decide +kernel) (by decide +kernel)
theorem layX12_3 : u_lay RX12 TX12 3 ∈ TW := TW_at 1507 (by decide +kernel) (by decide +kernel)
theorem layX12_4 : u_lay RX12 TX12 4 ∈ TW := TW_at 1509 (by decide +kernel) (by decide +kernel)
theorem layX12_5 : u_lay RX12 TX12 5 ∈ TW := TW_at 1511 (by decide +kernel) (by decide +kernel)
theorem layX12_6 : u_lay RX12 TX12 6 ∈ TW := TW_at 1513 (by decide +kernel) (by decide +kernel)
theorem layX12_7 : u_lay RX12 TX12 7 ∈ TW := TW_at 1515 (by decide +kernel) (by decide +kernel)
theorem layX12_8 : u_lay RX12 TX12 8 ∈ TW := TW_at 1517 (by decide +kernel) (by decide +kernel)
theorem layX12_9 : u_lay RX12 TX12 9 ∈ TW := TW_at 1519 (by decide +kernel) (by decide +kernel)
theorem layX12_10 : u_lay RX12 TX12 10 ∈ TW := TW_at 1521 (by decide +kernel) (by decide +kernel)
theorem layX12_11 : u_lay RX12 TX12 11 ∈ TW := TW_at 1523 (by decide +kernel) (by decide +kernel)
theorem layX12_12 : u_lay RX12 TX12 12 ∈ TW := TW_at 1525 (by decide +kernel) (by decide +kernel)
theorem layX12_13 : u_lay RX12 TX12 13 ∈ TW := TW_at 1527 (by decide +kernel) (by decide +kernel)
theorem layX12_14 : u_lay RX12 TX12 14 ∈ TW := TW_at 1529 (by decide +kernel) (by decide +kernel)
theorem layX12_15 : u_lay RX12 TX12 15 ∈ TW := TW_at 1531 (by decide +kernel) (by decide +kernel)
theorem layX12_16 : u_lay RX12 TX12 16 ∈ TW := TW_at 1533 (by decide +kernel) (by decide +kernel)
theorem layX12_17 : u_lay RX12 TX12 17 ∈ TW := TW_at 1535 (by decide +kernel) (by decide +kernel)
theorem layX12_18 : u_lay RX12 TX12 18 ∈ TW := TW_at 1537 (by decide +kernel) (by decide +kernel)
theorem layX12_19 : u_lay RX12 TX12 19 ∈ TW := TW_at 1539 (by decide +kernel) (by decide +kernel)
theorem layX12_20 : u_lay RX12 TX12 20 ∈ TW := TW_at 1541 (by decide +kernel) (by decide +kernel)
theorem layX12_21 : u_lay RX12 TX12 21 ∈ TW := TW_at 1543 (by decide +kernel) (by decide +kernel)
theorem layX12_22 : u_lay RX12 TX12 22 ∈ TW := TW_at 1545 (by decide +kernel) (by decide +kernel)
theorem layX12_23 : u_lay RX12 TX12 23 ∈ TW := TW_at 1547 (by decide +kernel) (by decide +kernel)
theorem layX12_24 : u_lay RX12 TX12 24 ∈ TW := TW_at 1549 (by decide +kernel) (by decide +kernel)
theorem layX12_25 : u_lay RX12 TX12 25 ∈ TW := TW_at 1551 (by decide +kernel) (by decide +kernel)
theorem layX12_26 : u_lay RX12 TX12 26 ∈ TW := TW_at 1553 (by decide +kernel) (by decide +kernel)
theorem layX12_27 : u_lay RX12 TX12 27 ∈ TW := TW_at 1555 (by decide +kernel) (by decide +kernel)
theorem layX12_28 : u_lay RX12 TX12 28 ∈ TW := TW_at 1557 (by decide +kernel) (by decide +kernel)
theorem layX12_29 : u_lay RX12 TX12 29 ∈ TW := TW_at 1559 (by decide +kernel) (by decide +kernel)
theorem layX12_30 : u_lay RX12 TX12 30 ∈ TW := TW_at 1561 (by decide +kernel) (by decide +kernel)
theorem layX12_31 : u_lay RX12 TX12 31 ∈ TW := TW_at 1563 (by decide +kernel) (by decide +kernel)
theorem layX12 : ∀ w ∈ u_ws RX12 TX12 32, w ∈ TW := by
  intro w hw
  obtain ⟨k, hk, rfl⟩ := List.mem_map.mp hw
  have hk := List.mem_range.mp hk
  rcases k with _ | _ | _ | _ | _ | _ | _ | _ | _ | _ | _ | _ | _ | _ | _ | _ | _ | _ | _ | _ | _ | _ | _ | _ | _ | _ | _ | _ | _ | _ | _ | _ | k
  · exact layX12_0
  · exact layX12_1
  · exact layX12_2
  · exact layX12_3
  · exact layX12_4
  · exact layX12_5
  · exact layX12_6
  · exact layX12_7
  · exact layX12_8
  · exact layX12_9
  · exact layX12_10
  · exact layX12_11
  · exact layX12_12
  · exact layX12_13
  · exact layX12_14
  · exact layX12_15
  · exact layX12_16
  · exact layX12_17
  · exact layX12_18
  · exact layX12_19
  · exact layX12_20
  · exact layX12_21
  · exact layX12_22
  · exact layX12_23
  · exact layX12_24
  · exact layX12_25
  · exact layX12_26
  · exact layX12_27
  · exact layX12_28
  · exact layX12_29
  · exact layX12_30
  · exact layX12_31
  · omega
theorem layX13_0 : u_lay RX13 TX13 0 ∈ TW := TW_at 1358 (by decide +kernel) (by decide +kernel)
theorem layX13_1 : u_lay RX13 TX13 1 ∈ TW := TW_at 1360 (by decide +kernel) (by decide +kernel)
theorem layX13_2 : u_lay RX13 TX13 2 ∈ TW := TW_at 1362 (by decide +kernel) (by decide +kernel)
theorem layX13_3 : u_lay RX13 TX13 3 ∈ TW := TW_at 1364 (by decide +kernel) (by decide +kernel)
theorem layX13_4 : u_lay RX13 TX13 4 ∈ TW := TW_at 1366 (by decide +kernel) (by decide +kernel)
theorem layX13_5 : u_lay RX13 TX13 5 ∈ TW := TW_at 1368 (by decide +kernel) (by decide +kernel)
theorem layX13_6 : u_lay RX13 TX13 6 ∈ TW := TW_at 1370 (by decide +kernel) (by decide +kernel)
theorem layX13_7 : u_lay RX13 TX13 7 ∈ TW := TW_at 1372 (by decide +kernel) (by decide +kernel)
theorem layX13_8 : u_lay RX13 TX13 8 ∈ TW := TW_at 1374 (by decide +kernel) (by decide +kernel)
theorem layX13_9 : u_lay RX13 TX13 9 ∈ TW := TW_at 1376 (by decide +kernel) (by decide +kernel)
theorem layX13_10 : u_lay RX13 TX13 10 ∈ TW := TW_at 1378 (by decide +kernel) (by decide +kernel)
theorem layX13_11 : u_lay RX13 TX13 11 ∈ TW := TW_at 1380 (by decide +kernel) (by decide +kernel)
theorem layX13_12 : u_lay RX13 TX13 12 ∈ TW := TW_at 1382 (by decide +kernel) (by decide +kernel)
theorem layX13_13 : u_lay RX13 TX13 13 ∈ TW := TW_at 1384 (by decide +kernel) (by decide +kernel)
theorem layX13_14 : u_lay RX13 TX13 14 ∈ TW := TW_at 1386 (by decide +kernel) (by decide +kernel)
theorem layX13_15 : u_lay RX13 TX13 15 ∈ TW := TW_at 1388 (by decide +kernel) (by decide +kernel)
theorem layX13_16 : u_lay RX13 TX13 16 ∈ TW := TW_at 1390 (by decide +kernel) (by decide +kernel)
theorem layX13_17 : u_lay RX13 TX13 17 ∈ TW := TW_at 1392 (by decide +kernel) (by decide +kernel)
theorem layX13_18 : u_lay RX13 TX13 18 ∈ TW := TW_at 1394 (by decide +kernel) (by decide +kernel)
theorem layX13_19 : u_lay RX13 TX13 19 ∈ TW := TW_at 1396 (by decide +kernel) (by decide +kernel)
theorem layX13_20 : u_lay RX13 TX13 20 ∈ TW := TW_at 1398 (by decide +kernel) (by decide +kernel)
theorem layX13_21 : u_lay RX13 TX13 21 ∈ TW := TW_at 1400 (by decide +kernel) (by decide +kernel)
theorem layX13_22 : u_lay RX13 TX13 22 ∈ TW := TW_at 1402 (by decide +kernel) (by decide +kernel)
theorem layX13_23 : u_lay RX13 TX13 23 ∈ TW := TW_at 1404 (by decide +kernel) (by decide +kernel)
theorem layX13_24 : u_lay RX13 TX13 24 ∈ TW := TW_at 1406 (by decide +kernel) (by decide +kernel)
theorem layX13_25 : u_lay RX13 TX13 25 ∈ TW := TW_at 1408 (by decide +kernel) (by decide +kernel)
theorem layX13_26 : u_lay RX13 TX13 26 ∈ TW := TW_at 1410 (by decide +kernel) (by decide +kernel)
theorem layX13_27 : u_lay RX13 TX13 27 ∈ TW := TW_at 1412 (by decide +kernel) (by decide +kernel)
theorem layX13_28 : u_lay RX13 TX13 28 ∈ TW := TW_at 1414 (by decide +kernel) (by decide +kernel)
theorem layX13_29 : u_lay RX13 TX13 29 ∈ TW := TW_at 1416 (by decide +kernel) (by decide +kernel)
theorem layX13_30 : u_lay RX13 TX13 30 ∈ TW := TW_at 1418 (by decide +kernel) (by decide +kernel)
theorem layX13_31 : u_lay RX13 TX13 31 ∈ TW := TW_at 1420 (by decide +kernel) (by decide +kernel)
theorem layX13 : ∀ w ∈ u_ws RX13 TX13 32, w ∈ TW := by
  intro w hw
  obtain ⟨k, hk, rfl⟩ := List.mem_map.mp hw
  have hk := List.mem_range.mp hk
  rcases k with _ | _ | _ | _ | _ | _ | _ | _ | _ | _ | _ | _ | _ | _ | _ | _ | _ | _ | _ | _ | _ | _ | _ | _ | _ | _ | _ | _ | _ | _ | _ | _ | k
  · exact layX13_0
  · exact layX13_1
  · exact layX13_2
  · exact layX13_3
  · exact layX13_4
  · exact layX13_5
  · exact layX13_6
  · exact layX13_7
  · exact layX13_8
  · exact layX13_9
  · exact layX13_10
  · exact layX13_11
  · exact layX13_12
  · exact layX13_13
  · exact layX13_14
  · exact layX13_15
  · exact layX13_16
  · exact layX13_17
  · exact layX13_18
  · exact layX13_19
  · exact layX13_20
  · exact layX13_21
  · exact layX13_22
  · exact layX13_23
  · exact layX13_24
  · exact layX13_25
  · exact layX13_26
  · exact layX13_27
  · exact layX13_28
  · exact layX13_29
  · exact layX13_30
  · exact layX13_31
  · omega
theorem cl_in {ci : Nat} (h : ci < 14) : ∀ w ∈ u_ws (clR ci) (clT ci) (clN ci), w ∈ TW := by
  rcases ci with _ | _ | _ | _ | _ | _ | _ | _ | _ | _ | _ | _ | _ | _ | ci
  · exact layX0
  · exact layX1
  · exact layX2
  · exact layX3
  · exact layX4
  · exact layX5
  · exact layX6
  · exact layX7
  · exact layX8
  · exact layX9
  · exact layX10
  · exact layX11
  · exact layX12
  · exact layX13
  · omega
/-- what a name stands for: an object of a class (its number), or an array (0 int, 1 byte, 2 boolean, 3 long; its length) -/
def shp : Nat → Nat ⊕ (Nat × Nat)
  | 0 => .inl 11
  | 1 => .inl 5
  | 2 => .inl 3
  | 3 => .inr (3, 14)
  | 4 => .inr (0, 14)
  | 5 => .inr (0, 14)
  | 6 => .inr (0, 6)
  | 7 => .inl 9
  | 8 => .inr (1, 900)
  | 9 => .inl 10
  | 10 => .inl 8
  | 11 => .inr (0, 48)
  | 12 => .inl 8
  | 13 => .inr (0, 48)
  | 14 => .inl 8
  | 15 => .inr (0, 48)
  | 16 => .inl 8
  | 17 => .inr (0, 48)
  | 18 => .inl 8
  | 19 => .inr (0, 48)
  | 20 => .inl 8
  | 21 => .inr (0, 48)
  | 22 => .inl 8
  | 23 => .inr (0, 48)
  | 24 => .inl 8
  | 25 => .inr (0, 48)
  | 26 => .inl 10
  | 27 => .inl 8
  | 28 => .inr (0, 48)
  | 29 => .inl 8
  | 30 => .inr (0, 48)
  | 31 => .inl 8
  | 32 => .inr (0, 48)
  | 33 => .inl 8
  | 34 => .inr (0, 48)
  | 35 => .inl 8
  | 36 => .inr (0, 48)
  | 37 => .inl 8
  | 38 => .inr (0, 48)
  | 39 => .inl 8
  | 40 => .inr (0, 48)
  | 41 => .inl 8
  | 42 => .inr (0, 48)
  | 43 => .inl 7
  | 44 => .inr (0, 51)
  | 45 => .inl 4
  | 46 => .inr (0, 816)
  | 47 => .inr (0, 153)
  | 48 => .inl 0
  | 49 => .inr (0, 13)
  | 50 => .inr (0, 13)
  | 51 => .inr (0, 13)
  | 52 => .inr (0, 256)
  | 53 => .inr (0, 32)
  | 54 => .inr (0, 32)
  | 55 => .inr (2, 256)
  | 56 => .inl 2
  | 57 => .inr (3, 32)
  | 58 => .inl 1
  | 59 => .inl 6
  | 100 => .inl 13
  | 101 => .inr (1, 900)
  | 102 => .inr (0, 26)
  | 103 => .inr (0, 26)
  | 104 => .inr (0, 416)
  | 105 => .inr (0, 78)
  | 106 => .inr (0, 13)
  | 107 => .inr (0, 13)
  | 108 => .inr (0, 13)
  | 109 => .inr (0, 5)
  | 110 => .inr (2, 256)
  | 111 => .inl 12
  | 112 => .inr (0, 7)
  | 113 => .inr (0, 7)
  | 114 => .inr (0, 7)
  | 115 => .inr (0, 7)
  | 116 => .inr (0, 7)
  | 117 => .inr (0, 7)
  | 118 => .inr (0, 4)
  | 119 => .inr (0, 4)
  | 120 => .inr (0, 4)
  | 121 => .inr (0, 5)
  | 122 => .inr (0, 5)
  | 123 => .inr (0, 5)
  | 124 => .inr (0, 5)
  | 125 => .inr (0, 8)
  | 126 => .inr (0, 8)
  | 127 => .inr (0, 5)
  | 128 => .inr (0, 6)
  | 129 => .inr (0, 6)
  | 130 => .inr (3, 14)
  | 131 => .inr (0, 14)
  | 132 => .inr (0, 14)
  | _ => .inr (0, 0)
/-- the references that never change, by name and field; the reference model's web (w) and read (r) are given -/
def GG (w r : Value) : Nat → Nat → Value
  | 0, 0 => .ref 1
  | 0, 1 => .ref 26
  | 0, 2 => .ref 43
  | 0, 3 => .ref 45
  | 0, 4 => .ref 48
  | 0, 5 => .ref 56
  | 0, 6 => .ref 58
  | 0, 7 => .ref 59
  | 1, 0 => .ref 2
  | 1, 1 => .ref 6
  | 1, 3 => .ref 7
  | 1, 4 => .ref 9
  | 2, 0 => .ref 3
  | 2, 1 => .ref 4
  | 2, 2 => .ref 5
  | 7, 0 => .ref 8
  | 9, 0 => .ref 10
  | 9, 1 => .ref 12
  | 9, 2 => .ref 14
  | 9, 3 => .ref 16
  | 9, 4 => .ref 18
  | 9, 5 => .ref 20
  | 9, 6 => .ref 22
  | 9, 7 => .ref 24
  | 10, 0 => .ref 11
  | 12, 0 => .ref 13
  | 14, 0 => .ref 15
  | 16, 0 => .ref 17
  | 18, 0 => .ref 19
  | 20, 0 => .ref 21
  | 22, 0 => .ref 23
  | 24, 0 => .ref 25
  | 26, 0 => .ref 27
  | 26, 1 => .ref 29
  | 26, 2 => .ref 31
  | 26, 3 => .ref 33
  | 26, 4 => .ref 35
  | 26, 5 => .ref 37
  | 26, 6 => .ref 39
  | 26, 7 => .ref 41
  | 27, 0 => .ref 28
  | 29, 0 => .ref 30
  | 31, 0 => .ref 32
  | 33, 0 => .ref 34
  | 35, 0 => .ref 36
  | 37, 0 => .ref 38
  | 39, 0 => .ref 40
  | 41, 0 => .ref 42
  | 43, 0 => .ref 44
  | 45, 0 => .ref 46
  | 45, 1 => .ref 47
  | 48, 0 => .ref 49
  | 48, 1 => .ref 50
  | 48, 2 => .ref 51
  | 48, 3 => .ref 52
  | 48, 4 => .ref 53
  | 48, 5 => .ref 54
  | 48, 6 => .ref 55
  | 56, 0 => .ref 57
  | 100, 5 => .ref 101
  | 100, 16 => .ref 102
  | 100, 17 => .ref 103
  | 100, 18 => .ref 104
  | 100, 19 => .ref 105
  | 100, 22 => .ref 106
  | 100, 23 => .ref 107
  | 100, 24 => .ref 108
  | 100, 27 => .ref 109
  | 100, 29 => .ref 110
  | 111, 11 => .ref 112
  | 111, 12 => .ref 113
  | 111, 13 => .ref 114
  | 111, 14 => .ref 115
  | 111, 15 => .ref 116
  | 111, 16 => .ref 117
  | 111, 17 => .ref 118
  | 111, 18 => .ref 119
  | 111, 19 => .ref 120
  | 111, 20 => .ref 121
  | 111, 21 => .ref 122
  | 111, 22 => .ref 123
  | 111, 23 => .ref 124
  | 111, 24 => .ref 125
  | 111, 25 => .ref 126
  | 111, 26 => .ref 127
  | 111, 27 => .ref 128
  | 111, 28 => .ref 129
  | 111, 29 => .ref 130
  | 111, 30 => .ref 131
  | 111, 31 => .ref 132
  | 100, 3 => w
  | 100, 4 => r
  | _, _ => .null
