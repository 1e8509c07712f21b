/-! ===== links that constructors take ===== -/
theorem ac0 : Cond.arrayClass (tyK 0) ∈ TW := TW_at 172 (by decide +kernel) (by decide +kernel)
theorem ac1 : Cond.arrayClass (tyK 1) ∈ TW := TW_at 209 (by decide +kernel) (by decide +kernel)
theorem ac2 : Cond.arrayClass (tyK 2) ∈ TW := TW_at 351 (by decide +kernel) (by decide +kernel)
theorem ac3 : Cond.arrayClass (tyK 3) ∈ TW := TW_at 171 (by decide +kernel) (by decide +kernel)
theorem ob_c : Cond.instanceMethod Lib.objectInit ∈ TW ∧ Cond.code Lib.objectInit ⟨#[0xb1]⟩ 1 none ∈ TW := ⟨TW_at 144 (by decide +kernel) (by decide +kernel), TW_at 145 (by decide +kernel) (by decide +kernel)⟩
theorem nlL_8 : NL RL 8 11 := ⟨by decide, TW_at 138 (by decide +kernel) (by decide +kernel), TW_at 139 (by decide +kernel) (by decide +kernel), TW_at 113 (by decide +kernel) (by decide +kernel)⟩
theorem olX11 : OL RX11 1 := ⟨TW_at 143 (by decide +kernel) (by decide +kernel), ob_c⟩
theorem nlX11_7 : NL RX11 7 5 := ⟨by decide, TW_at 146 (by decide +kernel) (by decide +kernel), TW_at 147 (by decide +kernel) (by decide +kernel), TW_at 114 (by decide +kernel) (by decide +kernel)⟩
theorem ilX11_9 : IL RX11 9 yX5_init mX5_init := ⟨⟨"PromiseWeb", List.mem_of_getElem? (i := 148) (by decide +kernel)⟩, TW_at 149 (by decide +kernel) (by decide +kernel), TW_at 114 (by decide +kernel) (by decide +kernel), TW_at 150 (by decide +kernel) (by decide +kernel), by decide +kernel, rfl, rfl, rfl⟩
theorem olX5 : OL RX5 3 := ⟨TW_at 151 (by decide +kernel) (by decide +kernel), ob_c⟩
theorem nlX5_9 : NL RX5 9 3 := ⟨by decide, TW_at 152 (by decide +kernel) (by decide +kernel), TW_at 153 (by decide +kernel) (by decide +kernel), TW_at 115 (by decide +kernel) (by decide +kernel)⟩
theorem ilX5_11 : IL RX5 11 yX3_init mX3_init := ⟨⟨"PromiseWeb", List.mem_of_getElem? (i := 154) (by decide +kernel)⟩, TW_at 155 (by decide +kernel) (by decide +kernel), TW_at 115 (by decide +kernel) (by decide +kernel), TW_at 156 (by decide +kernel) (by decide +kernel), by decide +kernel, rfl, rfl, rfl⟩
theorem olX3 : OL RX3 3 := ⟨TW_at 157 (by decide +kernel) (by decide +kernel), ob_c⟩
theorem nlX5_22 : NL RX5 22 9 := ⟨by decide, TW_at 173 (by decide +kernel) (by decide +kernel), TW_at 174 (by decide +kernel) (by decide +kernel), TW_at 116 (by decide +kernel) (by decide +kernel)⟩
theorem ilX5_24 : IL RX5 24 yX9_init mX9_init := ⟨⟨"PromiseWeb", List.mem_of_getElem? (i := 175) (by decide +kernel)⟩, TW_at 176 (by decide +kernel) (by decide +kernel), TW_at 116 (by decide +kernel) (by decide +kernel), TW_at 177 (by decide +kernel) (by decide +kernel), by decide +kernel, rfl, rfl, rfl⟩
theorem olX9 : OL RX9 1 := ⟨TW_at 178 (by decide +kernel) (by decide +kernel), ob_c⟩
theorem nlX5_29 : NL RX5 29 10 := ⟨by decide, TW_at 210 (by decide +kernel) (by decide +kernel), TW_at 211 (by decide +kernel) (by decide +kernel), TW_at 117 (by decide +kernel) (by decide +kernel)⟩
theorem ilX5_31 : IL RX5 31 yX10_init mX10_init := ⟨⟨"PromiseWeb", List.mem_of_getElem? (i := 212) (by decide +kernel)⟩, TW_at 213 (by decide +kernel) (by decide +kernel), TW_at 117 (by decide +kernel) (by decide +kernel), TW_at 214 (by decide +kernel) (by decide +kernel), by decide +kernel, rfl, rfl, rfl⟩
theorem olX10 : OL RX10 3 := ⟨TW_at 215 (by decide +kernel) (by decide +kernel), ob_c⟩
theorem nlX10_9 : NL RX10 9 8 := ⟨by decide, TW_at 216 (by decide +kernel) (by decide +kernel), TW_at 217 (by decide +kernel) (by decide +kernel), TW_at 118 (by decide +kernel) (by decide +kernel)⟩
theorem ilX10_11 : IL RX10 11 yX8_init mX8_init := ⟨⟨"PromiseWeb", List.mem_of_getElem? (i := 218) (by decide +kernel)⟩, TW_at 219 (by decide +kernel) (by decide +kernel), TW_at 118 (by decide +kernel) (by decide +kernel), TW_at 220 (by decide +kernel) (by decide +kernel), by decide +kernel, rfl, rfl, rfl⟩
theorem olX8 : OL RX8 3 := ⟨TW_at 221 (by decide +kernel) (by decide +kernel), ob_c⟩
theorem nlX11_16 : NL RX11 16 10 := ⟨by decide, TW_at 281 (by decide +kernel) (by decide +kernel), TW_at 211 (by decide +kernel) (by decide +kernel), TW_at 117 (by decide +kernel) (by decide +kernel)⟩
theorem ilX11_18 : IL RX11 18 yX10_init mX10_init := ⟨⟨"PromiseWeb", List.mem_of_getElem? (i := 282) (by decide +kernel)⟩, TW_at 213 (by decide +kernel) (by decide +kernel), TW_at 117 (by decide +kernel) (by decide +kernel), TW_at 214 (by decide +kernel) (by decide +kernel), by decide +kernel, rfl, rfl, rfl⟩
theorem nlX11_23 : NL RX11 23 7 := ⟨by decide, TW_at 283 (by decide +kernel) (by decide +kernel), TW_at 284 (by decide +kernel) (by decide +kernel), TW_at 119 (by decide +kernel) (by decide +kernel)⟩
theorem ilX11_25 : IL RX11 25 yX7_init mX7_init := ⟨⟨"PromiseWeb", List.mem_of_getElem? (i := 285) (by decide +kernel)⟩, TW_at 286 (by decide +kernel) (by decide +kernel), TW_at 119 (by decide +kernel) (by decide +kernel), TW_at 287 (by decide +kernel) (by decide +kernel), by decide +kernel, rfl, rfl, rfl⟩
theorem olX7 : OL RX7 5 := ⟨TW_at 288 (by decide +kernel) (by decide +kernel), ob_c⟩
theorem nlX11_30 : NL RX11 30 4 := ⟨by decide, TW_at 293 (by decide +kernel) (by decide +kernel), TW_at 294 (by decide +kernel) (by decide +kernel), TW_at 120 (by decide +kernel) (by decide +kernel)⟩
theorem ilX11_32 : IL RX11 32 yX4_init mX4_init := ⟨⟨"PromiseWeb", List.mem_of_getElem? (i := 295) (by decide +kernel)⟩, TW_at 296 (by decide +kernel) (by decide +kernel), TW_at 120 (by decide +kernel) (by decide +kernel), TW_at 297 (by decide +kernel) (by decide +kernel), by decide +kernel, rfl, rfl, rfl⟩
theorem olX4 : OL RX4 1 := ⟨TW_at 298 (by decide +kernel) (by decide +kernel), ob_c⟩
theorem nlX11_37 : NL RX11 37 0 := ⟨by decide, TW_at 317 (by decide +kernel) (by decide +kernel), TW_at 318 (by decide +kernel) (by decide +kernel), TW_at 121 (by decide +kernel) (by decide +kernel)⟩
theorem ilX11_39 : IL RX11 39 yX0_init mX0_init := ⟨⟨"PromiseWeb", List.mem_of_getElem? (i := 319) (by decide +kernel)⟩, TW_at 320 (by decide +kernel) (by decide +kernel), TW_at 121 (by decide +kernel) (by decide +kernel), TW_at 321 (by decide +kernel) (by decide +kernel), by decide +kernel, rfl, rfl, rfl⟩
theorem olX0 : OL RX0 3 := ⟨TW_at 322 (by decide +kernel) (by decide +kernel), ob_c⟩
theorem nlX11_44 : NL RX11 44 2 := ⟨by decide, TW_at 352 (by decide +kernel) (by decide +kernel), TW_at 353 (by decide +kernel) (by decide +kernel), TW_at 122 (by decide +kernel) (by decide +kernel)⟩
theorem ilX11_46 : IL RX11 46 yX2_init mX2_init := ⟨⟨"PromiseWeb", List.mem_of_getElem? (i := 354) (by decide +kernel)⟩, TW_at 355 (by decide +kernel) (by decide +kernel), TW_at 122 (by decide +kernel) (by decide +kernel), TW_at 356 (by decide +kernel) (by decide +kernel), by decide +kernel, rfl, rfl, rfl⟩
theorem olX2 : OL RX2 3 := ⟨TW_at 357 (by decide +kernel) (by decide +kernel), ob_c⟩
theorem nlX11_51 : NL RX11 51 1 := ⟨by decide, TW_at 368 (by decide +kernel) (by decide +kernel), TW_at 369 (by decide +kernel) (by decide +kernel), TW_at 123 (by decide +kernel) (by decide +kernel)⟩
theorem ilX11_53 : IL RX11 53 yX1_init mX1_init := ⟨⟨"PromiseWeb", List.mem_of_getElem? (i := 370) (by decide +kernel)⟩, TW_at 371 (by decide +kernel) (by decide +kernel), TW_at 123 (by decide +kernel) (by decide +kernel), TW_at 372 (by decide +kernel) (by decide +kernel), by decide +kernel, rfl, rfl, rfl⟩
theorem olX1 : OL RX1 3 := ⟨TW_at 373 (by decide +kernel) (by decide +kernel), ob_c⟩
theorem nlX11_58 : NL RX11 58 6 := ⟨by decide, TW_at 382 (by decide +kernel) (by decide +kernel), TW_at 383 (by decide +kernel) (by decide +kernel), TW_at 124 (by decide +kernel) (by decide +kernel)⟩
theorem ilX11_60 : IL RX11 60 yX6_init mX6_init := ⟨⟨"PromiseWeb", List.mem_of_getElem? (i := 384) (by decide +kernel)⟩, TW_at 385 (by decide +kernel) (by decide +kernel), TW_at 124 (by decide +kernel) (by decide +kernel), TW_at 386 (by decide +kernel) (by decide +kernel), by decide +kernel, rfl, rfl, rfl⟩
theorem olX6 : OL RX6 1 := ⟨TW_at 387 (by decide +kernel) (by decide +kernel), ob_c⟩
theorem nlL_16 : NL RL 16 13 := ⟨by decide, TW_at 1320 (by decide +kernel) (by decide +kernel), TW_at 1321 (by decide +kernel) (by decide +kernel), TW_at 125 (by decide +kernel) (by decide +kernel)⟩
theorem olX13 : OL RX13 3 := ⟨TW_at 1325 (by decide +kernel) (by decide +kernel), ob_c⟩
theorem nlX13_154 : NL RX13 154 12 := ⟨by decide, TW_at 1439 (by decide +kernel) (by decide +kernel), TW_at 1440 (by decide +kernel) (by decide +kernel), TW_at 132 (by decide +kernel) (by decide +kernel)⟩
theorem ilX13_339 : IL RX13 339 yX12_init mX12_init := ⟨⟨"PromiseWebModel", List.mem_of_getElem? (i := 1441) (by decide +kernel)⟩, TW_at 1442 (by decide +kernel) (by decide +kernel), TW_at 132 (by decide +kernel) (by decide +kernel), TW_at 1443 (by decide +kernel) (by decide +kernel), by decide +kernel, rfl, rfl, rfl⟩
theorem olX12 : OL RX12 3 := ⟨TW_at 1444 (by decide +kernel) (by decide +kernel), ob_c⟩
theorem fbX3_11 : FA1 RX3 11 3 0 := ⟨by decide, by decide, TW_at 158 (by decide +kernel) (by decide +kernel)⟩
theorem fbX3_15 : FA1 RX3 15 3 1 := ⟨by decide, by decide, TW_at 159 (by decide +kernel) (by decide +kernel)⟩
theorem fbX3_19 : FA1 RX3 19 3 2 := ⟨by decide, by decide, TW_at 160 (by decide +kernel) (by decide +kernel)⟩
theorem fbX9_9 : FA1 RX9 9 9 0 := ⟨by decide, by decide, TW_at 179 (by decide +kernel) (by decide +kernel)⟩
theorem fbX8_11 : FA1 RX8 11 8 0 := ⟨by decide, by decide, TW_at 222 (by decide +kernel) (by decide +kernel)⟩
theorem fbX10_12 : FA1 RX10 12 10 0 := ⟨by decide, by decide, TW_at 230 (by decide +kernel) (by decide +kernel)⟩
theorem fbX10_18 : FA1 RX10 18 10 1 := ⟨by decide, by decide, TW_at 231 (by decide +kernel) (by decide +kernel)⟩
theorem fbX10_21 : FA1 RX10 21 10 2 := ⟨by decide, by decide, TW_at 232 (by decide +kernel) (by decide +kernel)⟩
theorem fbX10_24 : FA1 RX10 24 10 3 := ⟨by decide, by decide, TW_at 233 (by decide +kernel) (by decide +kernel)⟩
theorem fbX10_27 : FA1 RX10 27 10 4 := ⟨by decide, by decide, TW_at 234 (by decide +kernel) (by decide +kernel)⟩
theorem fbX10_30 : FA1 RX10 30 10 5 := ⟨by decide, by decide, TW_at 235 (by decide +kernel) (by decide +kernel)⟩
theorem fbX10_33 : FA1 RX10 33 10 6 := ⟨by decide, by decide, TW_at 236 (by decide +kernel) (by decide +kernel)⟩
theorem fbX10_36 : FA1 RX10 36 10 7 := ⟨by decide, by decide, TW_at 237 (by decide +kernel) (by decide +kernel)⟩
theorem fbX5_12 : FA1 RX5 12 5 0 := ⟨by decide, by decide, TW_at 255 (by decide +kernel) (by decide +kernel)⟩
theorem fbX5_18 : FA1 RX5 18 5 1 := ⟨by decide, by decide, TW_at 256 (by decide +kernel) (by decide +kernel)⟩
theorem fbX5_25 : FA1 RX5 25 5 3 := ⟨by decide, by decide, TW_at 258 (by decide +kernel) (by decide +kernel)⟩
theorem fbX5_32 : FA1 RX5 32 5 4 := ⟨by decide, by decide, TW_at 260 (by decide +kernel) (by decide +kernel)⟩
theorem fbX7_11 : FA1 RX7 11 7 0 := ⟨by decide, by decide, TW_at 289 (by decide +kernel) (by decide +kernel)⟩
theorem fbX4_11 : FA1 RX4 11 4 0 := ⟨by decide, by decide, TW_at 299 (by decide +kernel) (by decide +kernel)⟩
theorem fbX4_15 : FA1 RX4 15 4 1 := ⟨by decide, by decide, TW_at 300 (by decide +kernel) (by decide +kernel)⟩
theorem fbX0_11 : FA1 RX0 11 0 0 := ⟨by decide, by decide, TW_at 323 (by decide +kernel) (by decide +kernel)⟩
theorem fbX0_15 : FA1 RX0 15 0 1 := ⟨by decide, by decide, TW_at 324 (by decide +kernel) (by decide +kernel)⟩
theorem fbX0_18 : FA1 RX0 18 0 2 := ⟨by decide, by decide, TW_at 325 (by decide +kernel) (by decide +kernel)⟩
theorem fbX0_21 : FA1 RX0 21 0 3 := ⟨by decide, by decide, TW_at 326 (by decide +kernel) (by decide +kernel)⟩
theorem fbX0_24 : FA1 RX0 24 0 4 := ⟨by decide, by decide, TW_at 327 (by decide +kernel) (by decide +kernel)⟩
theorem fbX0_27 : FA1 RX0 27 0 5 := ⟨by decide, by decide, TW_at 328 (by decide +kernel) (by decide +kernel)⟩
theorem fbX0_30 : FA1 RX0 30 0 6 := ⟨by decide, by decide, TW_at 329 (by decide +kernel) (by decide +kernel)⟩
theorem fbX2_11 : FA1 RX2 11 2 0 := ⟨by decide, by decide, TW_at 358 (by decide +kernel) (by decide +kernel)⟩
theorem fbX11_10 : FA1 RX11 10 11 0 := ⟨by decide, by decide, TW_at 395 (by decide +kernel) (by decide +kernel)⟩
theorem fbX11_19 : FA1 RX11 19 11 1 := ⟨by decide, by decide, TW_at 396 (by decide +kernel) (by decide +kernel)⟩
theorem fbX11_26 : FA1 RX11 26 11 2 := ⟨by decide, by decide, TW_at 397 (by decide +kernel) (by decide +kernel)⟩
theorem fbX11_33 : FA1 RX11 33 11 3 := ⟨by decide, by decide, TW_at 398 (by decide +kernel) (by decide +kernel)⟩
theorem fbX11_40 : FA1 RX11 40 11 4 := ⟨by decide, by decide, TW_at 399 (by decide +kernel) (by decide +kernel)⟩
theorem fbX11_47 : FA1 RX11 47 11 5 := ⟨by decide, by decide, TW_at 400 (by decide +kernel) (by decide +kernel)⟩
theorem fbX11_54 : FA1 RX11 54 11 6 := ⟨by decide, by decide, TW_at 401 (by decide +kernel) (by decide +kernel)⟩
theorem fbX11_61 : FA1 RX11 61 11 7 := ⟨by decide, by decide, TW_at 402 (by decide +kernel) (by decide +kernel)⟩
theorem fbX13_46 : FA1 RX13 46 13 0 := ⟨by decide, by decide, TW_at 1326 (by decide +kernel) (by decide +kernel)⟩
theorem fbX13_49 : FA1 RX13 49 13 1 := ⟨by decide, by decide, TW_at 1327 (by decide +kernel) (by decide +kernel)⟩
theorem fbX13_9 : FA1 RX13 9 13 2 := ⟨by decide, by decide, TW_at 1328 (by decide +kernel) (by decide +kernel)⟩
theorem fbX13_343 : FA1 RX13 343 13 3 := ⟨by decide, by decide, TW_at 1329 (by decide +kernel) (by decide +kernel)⟩
theorem fbX13_149 : FA1 RX13 149 13 4 := ⟨by decide, by decide, TW_at 1330 (by decide +kernel) (by decide +kernel)⟩
theorem fbX13_13 : FA1 RX13 13 13 5 := ⟨by decide, by decide, TW_at 1331 (by decide +kernel) (by decide +kernel)⟩
theorem fbX13_336 : FA1 RX13 336 13 6 := ⟨by decide, by decide, TW_at 1332 (by decide +kernel) (by decide +kernel)⟩
theorem fbX13_63 : FA1 RX13 63 13 7 := ⟨by decide, by decide, TW_at 1333 (by decide +kernel) (by decide +kernel)⟩
theorem fbX13_81 : FA1 RX13 81 13 8 := ⟨by decide, by decide, TW_at 1334 (by decide +kernel) (by decide +kernel)⟩
theorem fbX13_78 : FA1 RX13 78 13 9 := ⟨by decide, by decide, TW_at 1335 (by decide +kernel) (by decide +kernel)⟩
theorem fbX13_104 : FA1 RX13 104 13 12 := ⟨by decide, by decide, TW_at 1338 (by decide +kernel) (by decide +kernel)⟩
theorem fbX13_17 : FA1 RX13 17 13 16 := ⟨by decide, by decide, TW_at 1342 (by decide +kernel) (by decide +kernel)⟩
theorem fbX13_21 : FA1 RX13 21 13 17 := ⟨by decide, by decide, TW_at 1343 (by decide +kernel) (by decide +kernel)⟩
theorem fbX13_24 : FA1 RX13 24 13 18 := ⟨by decide, by decide, TW_at 1344 (by decide +kernel) (by decide +kernel)⟩
theorem fbX13_27 : FA1 RX13 27 13 19 := ⟨by decide, by decide, TW_at 1345 (by decide +kernel) (by decide +kernel)⟩
theorem fbX13_345 : FA1 RX13 345 13 20 := ⟨by decide, by decide, TW_at 1346 (by decide +kernel) (by decide +kernel)⟩
theorem fbX13_348 : FA1 RX13 348 13 21 := ⟨by decide, by decide, TW_at 1347 (by decide +kernel) (by decide +kernel)⟩
theorem fbX13_30 : FA1 RX13 30 13 22 := ⟨by decide, by decide, TW_at 1348 (by decide +kernel) (by decide +kernel)⟩
theorem fbX13_33 : FA1 RX13 33 13 23 := ⟨by decide, by decide, TW_at 1349 (by decide +kernel) (by decide +kernel)⟩
theorem fbX13_36 : FA1 RX13 36 13 24 := ⟨by decide, by decide, TW_at 1350 (by decide +kernel) (by decide +kernel)⟩
theorem fbX13_39 : FA1 RX13 39 13 27 := ⟨by decide, by decide, TW_at 1353 (by decide +kernel) (by decide +kernel)⟩
theorem fbX13_42 : FA1 RX13 42 13 29 := ⟨by decide, by decide, TW_at 1355 (by decide +kernel) (by decide +kernel)⟩
theorem fbX12_9 : FA1 RX12 9 12 0 := ⟨by decide, by decide, TW_at 1445 (by decide +kernel) (by decide +kernel)⟩
theorem fbX12_15 : FA1 RX12 15 12 11 := ⟨by decide, by decide, TW_at 1459 (by decide +kernel) (by decide +kernel)⟩
theorem fbX12_19 : FA1 RX12 19 12 12 := ⟨by decide, by decide, TW_at 1461 (by decide +kernel) (by decide +kernel)⟩
theorem fbX12_22 : FA1 RX12 22 12 13 := ⟨by decide, by decide, TW_at 1463 (by decide +kernel) (by decide +kernel)⟩
theorem fbX12_25 : FA1 RX12 25 12 14 := ⟨by decide, by decide, TW_at 1465 (by decide +kernel) (by decide +kernel)⟩
theorem fbX12_28 : FA1 RX12 28 12 15 := ⟨by decide, by decide, TW_at 1467 (by decide +kernel) (by decide +kernel)⟩
theorem fbX12_31 : FA1 RX12 31 12 16 := ⟨by decide, by decide, TW_at 1469 (by decide +kernel) (by decide +kernel)⟩
theorem fbX12_34 : FA1 RX12 34 12 17 := ⟨by decide, by decide, TW_at 1471 (by decide +kernel) (by decide +kernel)⟩
theorem fbX12_37 : FA1 RX12 37 12 18 := ⟨by decide, by decide, TW_at 1473 (by decide +kernel) (by decide +kernel)⟩
theorem fbX12_40 : FA1 RX12 40 12 19 := ⟨by decide, by decide, TW_at 1475 (by decide +kernel) (by decide +kernel)⟩
theorem fbX12_43 : FA1 RX12 43 12 20 := ⟨by decide, by decide, TW_at 1477 (by decide +kernel) (by decide +kernel)⟩
theorem fbX12_46 : FA1 RX12 46 12 21 := ⟨by decide, by decide, TW_at 1479 (by decide +kernel) (by decide +kernel)⟩
theorem fbX12_49 : FA1 RX12 49 12 22 := ⟨by decide, by decide, TW_at 1481 (by decide +kernel) (by decide +kernel)⟩
theorem fbX12_52 : FA1 RX12 52 12 23 := ⟨by decide, by decide, TW_at 1483 (by decide +kernel) (by decide +kernel)⟩
theorem fbX12_55 : FA1 RX12 55 12 24 := ⟨by decide, by decide, TW_at 1485 (by decide +kernel) (by decide +kernel)⟩
theorem fbX12_58 : FA1 RX12 58 12 25 := ⟨by decide, by decide, TW_at 1487 (by decide +kernel) (by decide +kernel)⟩
theorem fbX12_61 : FA1 RX12 61 12 26 := ⟨by decide, by decide, TW_at 1489 (by decide +kernel) (by decide +kernel)⟩
theorem fbX12_64 : FA1 RX12 64 12 27 := ⟨by decide, by decide, TW_at 1491 (by decide +kernel) (by decide +kernel)⟩
theorem fbX12_67 : FA1 RX12 67 12 28 := ⟨by decide, by decide, TW_at 1493 (by decide +kernel) (by decide +kernel)⟩
theorem fbX12_70 : FA1 RX12 70 12 29 := ⟨by decide, by decide, TW_at 1495 (by decide +kernel) (by decide +kernel)⟩
theorem fbX12_74 : FA1 RX12 74 12 30 := ⟨by decide, by decide, TW_at 1497 (by decide +kernel) (by decide +kernel)⟩
theorem fbX12_77 : FA1 RX12 77 12 31 := ⟨by decide, by decide, TW_at 1499 (by decide +kernel) (by decide +kernel)⟩
/-! ===== constructors ===== -/
theorem i_X8_init {b N n o : Nat} {G : Nat → Nat → Value} {A : AH} (hN : n < N) (hs : shp (b + n) = .inr (0, 48)) (ho : inD (b, n) o = true) (hso : shp o = .inl 8) (hA : zA (b + n) A) : CtI yX8_init mX8_init 1 1 48 b N n o G A (n + 1, upd2 G o 0 (.ref (b + n)), A) := by
  refine CtI.of rfl rfl rfl rfl rfl ?_
  refine wg_aload_n 1 dX8_init_0 rfl rfl ?_
  refine wg_obj 4 dX8_init_1 rfl olX8 (by decide) (Nat.le_of_ble_eq_true rfl) ?_
  refine wg_aload_n 5 dX8_init_4 rfl rfl ?_
  refine wg_bipush 7 dX8_init_5 rfl (v := nI 48) rfl ?_
  refine wg_newa (t := 0) (x := b + n) (n' := n + 1) (kc' := 1) (ks' := 48) 9 dX8_init_7 rfl rfl (by decide) ac0 rfl rfl hs (by decide) hN (hA.z (Nat.le_refl _)) rfl rfl ⟨by decide, by decide⟩ ?_
  refine wg_putr 12 dX8_init_9 rfl fbX8_11 (by simp only [inD, Bool.and_eq_true, Nat.ble_eq] at ho ⊢; omega) hso (fun _ _ _ => rfl) (Or.inr ⟨rfl, rfl, rfl⟩) (fun _ => rfl) (fun _ => rfl) ?_
  exact wg_exit ⟨dX8_init_12, rfl, by decide, by decide, rfl, rfl, rfl⟩
def g_X10_init_9 (G : Nat → Nat → Value) : Nat → Nat → Value := upd2 (upd2 (upd2 (upd2 (upd2 (upd2 (upd2 (upd2 (upd2 (upd2 (upd2 (upd2 (upd2 (upd2 (upd2 (upd2 (G) 10 0 (.ref 11)) 9 0 (.ref 10)) 12 0 (.ref 13)) 9 1 (.ref 12)) 14 0 (.ref 15)) 9 2 (.ref 14)) 16 0 (.ref 17)) 9 3 (.ref 16)) 18 0 (.ref 19)) 9 4 (.ref 18)) 20 0 (.ref 21)) 9 5 (.ref 20)) 22 0 (.ref 23)) 9 6 (.ref 22)) 24 0 (.ref 25)) 9 7 (.ref 24)
set_option maxRecDepth 4000 in
theorem i_X10_init_9 {G : Nat → Nat → Value} {A : AH} (hG : nl 10 G) (hA : zA 10 A) : CtI yX10_init mX10_init 2 16 400 0 60 10 9 G A (26, g_X10_init_9 G, A) := by
  refine CtI.of rfl rfl rfl rfl rfl ?_
  refine wg_aload_n 1 dX10_init_0 rfl rfl ?_
  refine wg_obj 4 dX10_init_1 rfl olX10 (by decide) (Nat.le_of_ble_eq_true rfl) ?_
  refine wg_aload_n 5 dX10_init_4 rfl rfl ?_
  refine wg_new (x := 10) (n' := 11) (kc' := 1) (ks' := 2) 8 dX10_init_5 rfl nlX10_9 rfl rfl rfl (by decide) (hA.n (hG.mono (by decide)) (by decide)) rfl rfl ⟨by decide, by decide⟩ ?_
  refine wg_dup 9 dX10_init_8 rfl ?_
  refine wg_init (n1 := 12) (kc' := 2) (ks' := 50) 12 dX10_init_9 rfl ilX10_11 (i_X8_init (b := 0) (N := 60) (n := 11) (o := 10) (by decide) rfl rfl rfl (hA.mono (by decide))) (by decide) rfl rfl ⟨by decide, by decide⟩ ⟨by decide, by decide⟩ (Nat.le_of_ble_eq_true rfl) ?_
  have hg1 : nl 12 (upd2 (_) 10 0 (.ref 11)) := (hG.mono (by decide)).up (by decide)
  refine wg_putr 15 dX10_init_12 rfl fbX10_12 (by decide) rfl (fun _ _ _ => rfl) (Or.inr ⟨rfl, rfl, rfl⟩) (fun _ => rfl) (fun _ => rfl) ?_
  have hg2 := (hg1.mono (show _ ≤ 12 by decide)).up (x := 9) (f := 0) (v := .ref 10) (by decide)
  refine wg_aload_n 16 dX10_init_15 rfl rfl ?_
  refine wg_new (x := 12) (n' := 13) (kc' := 3) (ks' := 52) 19 dX10_init_16 rfl nlX10_9 rfl rfl rfl (by decide) (hA.n (hg2.mono (by decide)) (by decide)) rfl rfl ⟨by decide, by decide⟩ ?_
  refine wg_dup 20 dX10_init_19 rfl ?_
  refine wg_init (n1 := 14) (kc' := 4) (ks' := 100) 23 dX10_init_20 rfl ilX10_11 (i_X8_init (b := 0) (N := 60) (n := 13) (o := 12) (by decide) rfl rfl rfl (hA.mono (by decide))) (by decide) rfl rfl ⟨by decide, by decide⟩ ⟨by decide, by decide⟩ (Nat.le_of_ble_eq_true rfl) ?_
  have hg3 : nl 14 (upd2 (_) 12 0 (.ref 13)) := (hg2.mono (by decide)).up (by decide)
  refine wg_putr 26 dX10_init_23 rfl fbX10_18 (by decide) rfl (fun _ _ _ => rfl) (Or.inr ⟨rfl, rfl, rfl⟩) (fun _ => rfl) (fun _ => rfl) ?_
  have hg4 := (hg3.mono (show _ ≤ 14 by decide)).up (x := 9) (f := 1) (v := .ref 12) (by decide)
  refine wg_aload_n 27 dX10_init_26 rfl rfl ?_
  refine wg_new (x := 14) (n' := 15) (kc' := 5) (ks' := 102) 30 dX10_init_27 rfl nlX10_9 rfl rfl rfl (by decide) (hA.n (hg4.mono (by decide)) (by decide)) rfl rfl ⟨by decide, by decide⟩ ?_
  refine wg_dup 31 dX10_init_30 rfl ?_
  refine wg_init (n1 := 16) (kc' := 6) (ks' := 150) 34 dX10_init_31 rfl ilX10_11 (i_X8_init (b := 0) (N := 60) (n := 15) (o := 14) (by decide) rfl rfl rfl (hA.mono (by decide))) (by decide) rfl rfl ⟨by decide, by decide⟩ ⟨by decide, by decide⟩ (Nat.le_of_ble_eq_true rfl) ?_
  have hg5 : nl 16 (upd2 (_) 14 0 (.ref 15)) := (hg4.mono (by decide)).up (by decide)
  refine wg_putr 37 dX10_init_34 rfl fbX10_21 (by decide) rfl (fun _ _ _ => rfl) (Or.inr ⟨rfl, rfl, rfl⟩) (fun _ => rfl) (fun _ => rfl) ?_
  have hg6 := (hg5.mono (show _ ≤ 16 by decide)).up (x := 9) (f := 2) (v := .ref 14) (by decide)
  refine wg_aload_n 38 dX10_init_37 rfl rfl ?_
  refine wg_new (x := 16) (n' := 17) (kc' := 7) (ks' := 152) 41 dX10_init_38 rfl nlX10_9 rfl rfl rfl (by decide) (hA.n (hg6.mono (by decide)) (by decide)) rfl rfl ⟨by decide, by decide⟩ ?_
  refine wg_dup 42 dX10_init_41 rfl ?_
  refine wg_init (n1 := 18) (kc' := 8) (ks' := 200) 45 dX10_init_42 rfl ilX10_11 (i_X8_init (b := 0) (N := 60) (n := 17) (o := 16) (by decide) rfl rfl rfl (hA.mono (by decide))) (by decide) rfl rfl ⟨by decide, by decide⟩ ⟨by decide, by decide⟩ (Nat.le_of_ble_eq_true rfl) ?_
  have hg7 : nl 18 (upd2 (_) 16 0 (.ref 17)) := (hg6.mono (by decide)).up (by decide)
  refine wg_putr 48 dX10_init_45 rfl fbX10_24 (by decide) rfl (fun _ _ _ => rfl) (Or.inr ⟨rfl, rfl, rfl⟩) (fun _ => rfl) (fun _ => rfl) ?_
  have hg8 := (hg7.mono (show _ ≤ 18 by decide)).up (x := 9) (f := 3) (v := .ref 16) (by decide)
  refine wg_aload_n 49 dX10_init_48 rfl rfl ?_
  refine wg_new (x := 18) (n' := 19) (kc' := 9) (ks' := 202) 52 dX10_init_49 rfl nlX10_9 rfl rfl rfl (by decide) (hA.n (hg8.mono (by decide)) (by decide)) rfl rfl ⟨by decide, by decide⟩ ?_
  refine wg_dup 53 dX10_init_52 rfl ?_
  refine wg_init (n1 := 20) (kc' := 10) (ks' := 250) 56 dX10_init_53 rfl ilX10_11 (i_X8_init (b := 0) (N := 60) (n := 19) (o := 18) (by decide) rfl rfl rfl (hA.mono (by decide))) (by decide) rfl rfl ⟨by decide, by decide⟩ ⟨by decide, by decide⟩ (Nat.le_of_ble_eq_true rfl) ?_
  have hg9 : nl 20 (upd2 (_) 18 0 (.ref 19)) := (hg8.mono (by decide)).up (by decide)
  refine wg_putr 59 dX10_init_56 rfl fbX10_27 (by decide) rfl (fun _ _ _ => rfl) (Or.inr ⟨rfl, rfl, rfl⟩) (fun _ => rfl) (fun _ => rfl) ?_
  have hg10 := (hg9.mono (show _ ≤ 20 by decide)).up (x := 9) (f := 4) (v := .ref 18) (by decide)
  refine wg_aload_n 60 dX10_init_59 rfl rfl ?_
  refine wg_new (x := 20) (n' := 21) (kc' := 11) (ks' := 252) 63 dX10_init_60 rfl nlX10_9 rfl rfl rfl (by decide) (hA.n (hg10.mono (by decide)) (by decide)) rfl rfl ⟨by decide, by decide⟩ ?_
  refine wg_dup 64 dX10_init_63 rfl ?_
  refine wg_init (n1 := 22) (kc' := 12) (ks' := 300) 67 dX10_init_64 rfl ilX10_11 (i_X8_init (b := 0) (N := 60) (n := 21) (o := 20) (by decide) rfl rfl rfl (hA.mono (by decide))) (by decide) rfl rfl ⟨by decide, by decide⟩ ⟨by decide, by decide⟩ (Nat.le_of_ble_eq_true rfl) ?_
  have hg11 : nl 22 (upd2 (_) 20 0 (.ref 21)) := (hg10.mono (by decide)).up (by decide)
  refine wg_putr 70 dX10_init_67 rfl fbX10_30 (by decide) rfl (fun _ _ _ => rfl) (Or.inr ⟨rfl, rfl, rfl⟩) (fun _ => rfl) (fun _ => rfl) ?_
  have hg12 := (hg11.mono (show _ ≤ 22 by decide)).up (x := 9) (f := 5) (v := .ref 20) (by decide)
  refine wg_aload_n 71 dX10_init_70 rfl rfl ?_
  refine wg_new (x := 22) (n' := 23) (kc' := 13) (ks' := 302) 74 dX10_init_71 rfl nlX10_9 rfl rfl rfl (by decide) (hA.n (hg12.mono (by decide)) (by decide)) rfl rfl ⟨by decide, by decide⟩ ?_
  refine wg_dup 75 dX10_init_74 rfl ?_
  refine wg_init (n1 := 24) (kc' := 14) (ks' := 350) 78 dX10_init_75 rfl ilX10_11 (i_X8_init (b := 0) (N := 60) (n := 23) (o := 22) (by decide) rfl rfl rfl (hA.mono (by decide))) (by decide) rfl rfl ⟨by decide, by decide⟩ ⟨by decide, by decide⟩ (Nat.le_of_ble_eq_true rfl) ?_
  have hg13 : nl 24 (upd2 (_) 22 0 (.ref 23)) := (hg12.mono (by decide)).up (by decide)
  refine wg_putr 81 dX10_init_78 rfl fbX10_33 (by decide) rfl (fun _ _ _ => rfl) (Or.inr ⟨rfl, rfl, rfl⟩) (fun _ => rfl) (fun _ => rfl) ?_
  have hg14 := (hg13.mono (show _ ≤ 24 by decide)).up (x := 9) (f := 6) (v := .ref 22) (by decide)
  refine wg_aload_n 82 dX10_init_81 rfl rfl ?_
  refine wg_new (x := 24) (n' := 25) (kc' := 15) (ks' := 352) 85 dX10_init_82 rfl nlX10_9 rfl rfl rfl (by decide) (hA.n (hg14.mono (by decide)) (by decide)) rfl rfl ⟨by decide, by decide⟩ ?_
  refine wg_dup 86 dX10_init_85 rfl ?_
  refine wg_init (n1 := 26) (kc' := 16) (ks' := 400) 89 dX10_init_86 rfl ilX10_11 (i_X8_init (b := 0) (N := 60) (n := 25) (o := 24) (by decide) rfl rfl rfl (hA.mono (by decide))) (by decide) rfl rfl ⟨by decide, by decide⟩ ⟨by decide, by decide⟩ (Nat.le_of_ble_eq_true rfl) ?_
  have hg15 : nl 26 (upd2 (_) 24 0 (.ref 25)) := (hg14.mono (by decide)).up (by decide)
  refine wg_putr 92 dX10_init_89 rfl fbX10_36 (by decide) rfl (fun _ _ _ => rfl) (Or.inr ⟨rfl, rfl, rfl⟩) (fun _ => rfl) (fun _ => rfl) ?_
  have hg16 := (hg15.mono (show _ ≤ 26 by decide)).up (x := 9) (f := 7) (v := .ref 24) (by decide)
  exact wg_exit ⟨dX10_init_92, rfl, by decide, by decide, rfl, rfl, rfl⟩
theorem nl_g_X10_init_9 {z : Nat} {G : Nat → Nat → Value} (h : nl z G) (hz : 26 ≤ z) : nl z (g_X10_init_9 G) := by
  unfold g_X10_init_9
  exact ((((((((((((((((h).up (by omega)).up (by omega)).up (by omega)).up (by omega)).up (by omega)).up (by omega)).up (by omega)).up (by omega)).up (by omega)).up (by omega)).up (by omega)).up (by omega)).up (by omega)).up (by omega)).up (by omega)).up (by omega)
def g_X10_init_26 (G : Nat → Nat → Value) : Nat → Nat → Value := upd2 (upd2 (upd2 (upd2 (upd2 (upd2 (upd2 (upd2 (upd2 (upd2 (upd2 (upd2 (upd2 (upd2 (upd2 (upd2 (G) 27 0 (.ref 28)) 26 0 (.ref 27)) 29 0 (.ref 30)) 26 1 (.ref 29)) 31 0 (.ref 32)) 26 2 (.ref 31)) 33 0 (.ref 34)) 26 3 (.ref 33)) 35 0 (.ref 36)) 26 4 (.ref 35)) 37 0 (.ref 38)) 26 5 (.ref 37)) 39 0 (.ref 40)) 26 6 (.ref 39)) 41 0 (.ref 42)) 26 7 (.ref 41)
set_option maxRecDepth 4000 in
theorem i_X10_init_26 {G : Nat → Nat → Value} {A : AH} (hG : nl 27 G) (hA : zA 27 A) : CtI yX10_init mX10_init 2 16 400 0 60 27 26 G A (43, g_X10_init_26 G, A) := by
  refine CtI.of rfl rfl rfl rfl rfl ?_
  refine wg_aload_n 1 dX10_init_0 rfl rfl ?_
  refine wg_obj 4 dX10_init_1 rfl olX10 (by decide) (Nat.le_of_ble_eq_true rfl) ?_
  refine wg_aload_n 5 dX10_init_4 rfl rfl ?_
  refine wg_new (x := 27) (n' := 28) (kc' := 1) (ks' := 2) 8 dX10_init_5 rfl nlX10_9 rfl rfl rfl (by decide) (hA.n (hG.mono (by decide)) (by decide)) rfl rfl ⟨by decide, by decide⟩ ?_
  refine wg_dup 9 dX10_init_8 rfl ?_
  refine wg_init (n1 := 29) (kc' := 2) (ks' := 50) 12 dX10_init_9 rfl ilX10_11 (i_X8_init (b := 0) (N := 60) (n := 28) (o := 27) (by decide) rfl rfl rfl (hA.mono (by decide))) (by decide) rfl rfl ⟨by decide, by decide⟩ ⟨by decide, by decide⟩ (Nat.le_of_ble_eq_true rfl) ?_
  have hg1 : nl 29 (upd2 (_) 27 0 (.ref 28)) := (hG.mono (by decide)).up (by decide)
  refine wg_putr 15 dX10_init_12 rfl fbX10_12 (by decide) rfl (fun _ _ _ => rfl) (Or.inr ⟨rfl, rfl, rfl⟩) (fun _ => rfl) (fun _ => rfl) ?_
  have hg2 := (hg1.mono (show _ ≤ 29 by decide)).up (x := 26) (f := 0) (v := .ref 27) (by decide)
  refine wg_aload_n 16 dX10_init_15 rfl rfl ?_
  refine wg_new (x := 29) (n' := 30) (kc' := 3) (ks' := 52) 19 dX10_init_16 rfl nlX10_9 rfl rfl rfl (by decide) (hA.n (hg2.mono (by decide)) (by decide)) rfl rfl ⟨by decide, by decide⟩ ?_
  refine wg_dup 20 dX10_init_19 rfl ?_
  refine wg_init (n1 := 31) (kc' := 4) (ks' := 100) 23 dX10_init_20 rfl ilX10_11 (i_X8_init (b := 0) (N := 60) (n := 30) (o := 29) (by decide) rfl rfl rfl (hA.mono (by decide))) (by decide) rfl rfl ⟨by decide, by decide⟩ ⟨by decide, by decide⟩ (Nat.le_of_ble_eq_true rfl) ?_
  have hg3 : nl 31 (upd2 (_) 29 0 (.ref 30)) := (hg2.mono (by decide)).up (by decide)
  refine wg_putr 26 dX10_init_23 rfl fbX10_18 (by decide) rfl (fun _ _ _ => rfl) (Or.inr ⟨rfl, rfl, rfl⟩) (fun _ => rfl) (fun _ => rfl) ?_
  have hg4 := (hg3.mono (show _ ≤ 31 by decide)).up (x := 26) (f := 1) (v := .ref 29) (by decide)
  refine wg_aload_n 27 dX10_init_26 rfl rfl ?_
  refine wg_new (x := 31) (n' := 32) (kc' := 5) (ks' := 102) 30 dX10_init_27 rfl nlX10_9 rfl rfl rfl (by decide) (hA.n (hg4.mono (by decide)) (by decide)) rfl rfl ⟨by decide, by decide⟩ ?_
  refine wg_dup 31 dX10_init_30 rfl ?_
  refine wg_init (n1 := 33) (kc' := 6) (ks' := 150) 34 dX10_init_31 rfl ilX10_11 (i_X8_init (b := 0) (N := 60) (n := 32) (o := 31) (by decide) rfl rfl rfl (hA.mono (by decide))) (by decide) rfl rfl ⟨by decide, by decide⟩ ⟨by decide, by decide⟩ (Nat.le_of_ble_eq_true rfl) ?_
  have hg5 : nl 33 (upd2 (_) 31 0 (.ref 32)) := (hg4.mono (by decide)).up (by decide)
  refine wg_putr 37 dX10_init_34 rfl fbX10_21 (by decide) rfl (fun _ _ _ => rfl) (Or.inr ⟨rfl, rfl, rfl⟩) (fun _ => rfl) (fun _ => rfl) ?_
  have hg6 := (hg5.mono (show _ ≤ 33 by decide)).up (x := 26) (f := 2) (v := .ref 31) (by decide)
  refine wg_aload_n 38 dX10_init_37 rfl rfl ?_
  refine wg_new (x := 33) (n' := 34) (kc' := 7) (ks' := 152) 41 dX10_init_38 rfl nlX10_9 rfl rfl rfl (by decide) (hA.n (hg6.mono (by decide)) (by decide)) rfl rfl ⟨by decide, by decide⟩ ?_
  refine wg_dup 42 dX10_init_41 rfl ?_
  refine wg_init (n1 := 35) (kc' := 8) (ks' := 200) 45 dX10_init_42 rfl ilX10_11 (i_X8_init (b := 0) (N := 60) (n := 34) (o := 33) (by decide) rfl rfl rfl (hA.mono (by decide))) (by decide) rfl rfl ⟨by decide, by decide⟩ ⟨by decide, by decide⟩ (Nat.le_of_ble_eq_true rfl) ?_
  have hg7 : nl 35 (upd2 (_) 33 0 (.ref 34)) := (hg6.mono (by decide)).up (by decide)
  refine wg_putr 48 dX10_init_45 rfl fbX10_24 (by decide) rfl (fun _ _ _ => rfl) (Or.inr ⟨rfl, rfl, rfl⟩) (fun _ => rfl) (fun _ => rfl) ?_
  have hg8 := (hg7.mono (show _ ≤ 35 by decide)).up (x := 26) (f := 3) (v := .ref 33) (by decide)
  refine wg_aload_n 49 dX10_init_48 rfl rfl ?_
  refine wg_new (x := 35) (n' := 36) (kc' := 9) (ks' := 202) 52 dX10_init_49 rfl nlX10_9 rfl rfl rfl (by decide) (hA.n (hg8.mono (by decide)) (by decide)) rfl rfl ⟨by decide, by decide⟩ ?_
  refine wg_dup 53 dX10_init_52 rfl ?_
  refine wg_init (n1 := 37) (kc' := 10) (ks' := 250) 56 dX10_init_53 rfl ilX10_11 (i_X8_init (b := 0) (N := 60) (n := 36) (o := 35) (by decide) rfl rfl rfl (hA.mono (by decide))) (by decide) rfl rfl ⟨by decide, by decide⟩ ⟨by decide, by decide⟩ (Nat.le_of_ble_eq_true rfl) ?_
  have hg9 : nl 37 (upd2 (_) 35 0 (.ref 36)) := (hg8.mono (by decide)).up (by decide)
  refine wg_putr 59 dX10_init_56 rfl fbX10_27 (by decide) rfl (fun _ _ _ => rfl) (Or.inr ⟨rfl, rfl, rfl⟩) (fun _ => rfl) (fun _ => rfl) ?_
  have hg10 := (hg9.mono (show _ ≤ 37 by decide)).up (x := 26) (f := 4) (v := .ref 35) (by decide)
  refine wg_aload_n 60 dX10_init_59 rfl rfl ?_
  refine wg_new (x := 37) (n' := 38) (kc' := 11) (ks' := 252) 63 dX10_init_60 rfl nlX10_9 rfl rfl rfl (by decide) (hA.n (hg10.mono (by decide)) (by decide)) rfl rfl ⟨by decide, by decide⟩ ?_
  refine wg_dup 64 dX10_init_63 rfl ?_
  refine wg_init (n1 := 39) (kc' := 12) (ks' := 300) 67 dX10_init_64 rfl ilX10_11 (i_X8_init (b := 0) (N := 60) (n := 38) (o := 37) (by decide) rfl rfl rfl (hA.mono (by decide))) (by decide) rfl rfl ⟨by decide, by decide⟩ ⟨by decide, by decide⟩ (Nat.le_of_ble_eq_true rfl) ?_
  have hg11 : nl 39 (upd2 (_) 37 0 (.ref 38)) := (hg10.mono (by decide)).up (by decide)
  refine wg_putr 70 dX10_init_67 rfl fbX10_30 (by decide) rfl (fun _ _ _ => rfl) (Or.inr ⟨rfl, rfl, rfl⟩) (fun _ => rfl) (fun _ => rfl) ?_
  have hg12 := (hg11.mono (show _ ≤ 39 by decide)).up (x := 26) (f := 5) (v := .ref 37) (by decide)
  refine wg_aload_n 71 dX10_init_70 rfl rfl ?_
  refine wg_new (x := 39) (n' := 40) (kc' := 13) (ks' := 302) 74 dX10_init_71 rfl nlX10_9 rfl rfl rfl (by decide) (hA.n (hg12.mono (by decide)) (by decide)) rfl rfl ⟨by decide, by decide⟩ ?_
  refine wg_dup 75 dX10_init_74 rfl ?_
  refine wg_init (n1 := 41) (kc' := 14) (ks' := 350) 78 dX10_init_75 rfl ilX10_11 (i_X8_init (b := 0) (N := 60) (n := 40) (o := 39) (by decide) rfl rfl rfl (hA.mono (by decide))) (by decide) rfl rfl ⟨by decide, by decide⟩ ⟨by decide, by decide⟩ (Nat.le_of_ble_eq_true rfl) ?_
  have hg13 : nl 41 (upd2 (_) 39 0 (.ref 40)) := (hg12.mono (by decide)).up (by decide)
  refine wg_putr 81 dX10_init_78 rfl fbX10_33 (by decide) rfl (fun _ _ _ => rfl) (Or.inr ⟨rfl, rfl, rfl⟩) (fun _ => rfl) (fun _ => rfl) ?_
  have hg14 := (hg13.mono (show _ ≤ 41 by decide)).up (x := 26) (f := 6) (v := .ref 39) (by decide)
  refine wg_aload_n 82 dX10_init_81 rfl rfl ?_
  refine wg_new (x := 41) (n' := 42) (kc' := 15) (ks' := 352) 85 dX10_init_82 rfl nlX10_9 rfl rfl rfl (by decide) (hA.n (hg14.mono (by decide)) (by decide)) rfl rfl ⟨by decide, by decide⟩ ?_
  refine wg_dup 86 dX10_init_85 rfl ?_
  refine wg_init (n1 := 43) (kc' := 16) (ks' := 400) 89 dX10_init_86 rfl ilX10_11 (i_X8_init (b := 0) (N := 60) (n := 42) (o := 41) (by decide) rfl rfl rfl (hA.mono (by decide))) (by decide) rfl rfl ⟨by decide, by decide⟩ ⟨by decide, by decide⟩ (Nat.le_of_ble_eq_true rfl) ?_
  have hg15 : nl 43 (upd2 (_) 41 0 (.ref 42)) := (hg14.mono (by decide)).up (by decide)
  refine wg_putr 92 dX10_init_89 rfl fbX10_36 (by decide) rfl (fun _ _ _ => rfl) (Or.inr ⟨rfl, rfl, rfl⟩) (fun _ => rfl) (fun _ => rfl) ?_
  have hg16 := (hg15.mono (show _ ≤ 43 by decide)).up (x := 26) (f := 7) (v := .ref 41) (by decide)
  exact wg_exit ⟨dX10_init_92, rfl, by decide, by decide, rfl, rfl, rfl⟩
theorem nl_g_X10_init_26 {z : Nat} {G : Nat → Nat → Value} (h : nl z G) (hz : 43 ≤ z) : nl z (g_X10_init_26 G) := by
  unfold g_X10_init_26
  exact ((((((((((((((((h).up (by omega)).up (by omega)).up (by omega)).up (by omega)).up (by omega)).up (by omega)).up (by omega)).up (by omega)).up (by omega)).up (by omega)).up (by omega)).up (by omega)).up (by omega)).up (by omega)).up (by omega)).up (by omega)
def g_X3_init_2 (G : Nat → Nat → Value) : Nat → Nat → Value := upd2 (upd2 (upd2 (G) 2 0 (.ref 3)) 2 1 (.ref 4)) 2 2 (.ref 5)
set_option maxRecDepth 4000 in
theorem i_X3_init_2 {G : Nat → Nat → Value} {A : AH} (hG : nl 3 G) (hA : zA 3 A) : CtI yX3_init mX3_init 1 3 42 0 60 3 2 G A (6, g_X3_init_2 G, A) := by
  refine CtI.of rfl rfl rfl rfl rfl ?_
  refine wg_aload_n 1 dX3_init_0 rfl rfl ?_
  refine wg_obj 4 dX3_init_1 rfl olX3 (by decide) (Nat.le_of_ble_eq_true rfl) ?_
  refine wg_aload_n 5 dX3_init_4 rfl rfl ?_
  refine wg_bipush 7 dX3_init_5 rfl (v := nI 14) rfl ?_
  refine wg_newa (t := 3) (x := 3) (n' := 4) (kc' := 1) (ks' := 14) 9 dX3_init_7 rfl rfl (by decide) ac3 rfl rfl rfl (by decide) (by decide) (hA.z (by decide)) rfl rfl ⟨by decide, by decide⟩ ?_
  refine wg_putr 12 dX3_init_9 rfl fbX3_11 (by decide) rfl (fun _ _ _ => rfl) (Or.inr ⟨rfl, rfl, rfl⟩) (fun _ => rfl) (fun _ => rfl) ?_
  have hg1 := (hG.mono (show _ ≤ 4 by decide)).up (x := 2) (f := 0) (v := .ref 3) (by decide)
  refine wg_aload_n 13 dX3_init_12 rfl rfl ?_
  refine wg_bipush 15 dX3_init_13 rfl (v := nI 14) rfl ?_
  refine wg_newa (t := 0) (x := 4) (n' := 5) (kc' := 2) (ks' := 28) 17 dX3_init_15 rfl rfl (by decide) ac0 rfl rfl rfl (by decide) (by decide) (hA.z (by decide)) rfl rfl ⟨by decide, by decide⟩ ?_
  refine wg_putr 20 dX3_init_17 rfl fbX3_15 (by decide) rfl (fun _ _ _ => rfl) (Or.inr ⟨rfl, rfl, rfl⟩) (fun _ => rfl) (fun _ => rfl) ?_
  have hg2 := (hg1.mono (show _ ≤ 5 by decide)).up (x := 2) (f := 1) (v := .ref 4) (by decide)
  refine wg_aload_n 21 dX3_init_20 rfl rfl ?_
  refine wg_bipush 23 dX3_init_21 rfl (v := nI 14) rfl ?_
  refine wg_newa (t := 0) (x := 5) (n' := 6) (kc' := 3) (ks' := 42) 25 dX3_init_23 rfl rfl (by decide) ac0 rfl rfl rfl (by decide) (by decide) (hA.z (by decide)) rfl rfl ⟨by decide, by decide⟩ ?_
  refine wg_putr 28 dX3_init_25 rfl fbX3_19 (by decide) rfl (fun _ _ _ => rfl) (Or.inr ⟨rfl, rfl, rfl⟩) (fun _ => rfl) (fun _ => rfl) ?_
  have hg3 := (hg2.mono (show _ ≤ 6 by decide)).up (x := 2) (f := 2) (v := .ref 5) (by decide)
  exact wg_exit ⟨dX3_init_28, rfl, by decide, by decide, rfl, rfl, rfl⟩
theorem nl_g_X3_init_2 {z : Nat} {G : Nat → Nat → Value} (h : nl z G) (hz : 6 ≤ z) : nl z (g_X3_init_2 G) := by
  unfold g_X3_init_2
  exact (((h).up (by omega)).up (by omega)).up (by omega)
def g_X9_init_7 (G : Nat → Nat → Value) : Nat → Nat → Value := upd2 (G) 7 0 (.ref 8)
set_option maxRecDepth 4000 in
theorem i_X9_init_7 {G : Nat → Nat → Value} {A : AH} (hG : nl 8 G) (hA : zA 8 A) : CtI yX9_init mX9_init 1 1 900 0 60 8 7 G A (9, g_X9_init_7 G, A) := by
  refine CtI.of rfl rfl rfl rfl rfl ?_
  refine wg_aload_n 1 dX9_init_0 rfl rfl ?_
  refine wg_obj 4 dX9_init_1 rfl olX9 (by decide) (Nat.le_of_ble_eq_true rfl) ?_
  refine wg_aload_n 5 dX9_init_4 rfl rfl ?_
  refine wg_sipush 8 dX9_init_5 rfl (v := nI 900) rfl ?_
  refine wg_newa (t := 1) (x := 8) (n' := 9) (kc' := 1) (ks' := 900) 10 dX9_init_8 rfl rfl (by decide) ac1 rfl rfl rfl (by decide) (by decide) (hA.z (by decide)) rfl rfl ⟨by decide, by decide⟩ ?_
  refine wg_putr 13 dX9_init_10 rfl fbX9_9 (by decide) rfl (fun _ _ _ => rfl) (Or.inr ⟨rfl, rfl, rfl⟩) (fun _ => rfl) (fun _ => rfl) ?_
  have hg1 := (hG.mono (show _ ≤ 9 by decide)).up (x := 7) (f := 0) (v := .ref 8) (by decide)
  exact wg_exit ⟨dX9_init_13, rfl, by decide, by decide, rfl, rfl, rfl⟩
theorem nl_g_X9_init_7 {z : Nat} {G : Nat → Nat → Value} (h : nl z G) (hz : 9 ≤ z) : nl z (g_X9_init_7 G) := by
  unfold g_X9_init_7
  exact (h).up (by omega)
def g_X5_init_1 (G : Nat → Nat → Value) : Nat → Nat → Value := upd2 (g_X10_init_9 (upd2 (g_X9_init_7 (upd2 (upd2 (g_X3_init_2 (G)) 1 0 (.ref 2)) 1 1 (.ref 6))) 1 3 (.ref 7))) 1 4 (.ref 9)
set_option maxRecDepth 4000 in
theorem i_X5_init_1 {G : Nat → Nat → Value} {A : AH} (hG : nl 2 G) (hA : zA 2 A) : CtI yX5_init mX5_init 3 24 1368 0 60 2 1 G A (26, g_X5_init_1 G, A) := by
  refine CtI.of rfl rfl rfl rfl rfl ?_
  refine wg_aload_n 1 dX5_init_0 rfl rfl ?_
  refine wg_obj 4 dX5_init_1 rfl olX5 (by decide) (Nat.le_of_ble_eq_true rfl) ?_
  refine wg_aload_n 5 dX5_init_4 rfl rfl ?_
  refine wg_new (x := 2) (n' := 3) (kc' := 1) (ks' := 4) 8 dX5_init_5 rfl nlX5_9 rfl rfl rfl (by decide) (hA.n (hG.mono (by decide)) (by decide)) rfl rfl ⟨by decide, by decide⟩ ?_
  refine wg_dup 9 dX5_init_8 rfl ?_
  refine wg_init (n1 := 6) (kc' := 4) (ks' := 46) 12 dX5_init_9 rfl ilX5_11 (i_X3_init_2 (hG.mono (by decide)) (hA.mono (by decide))) (by decide) rfl rfl ⟨by decide, by decide⟩ ⟨by decide, by decide⟩ (Nat.le_of_ble_eq_true rfl) ?_
  have hg1 : nl 6 (g_X3_init_2 (_)) := nl_g_X3_init_2 (hG.mono (by decide)) (by decide)
  refine wg_putr 15 dX5_init_12 rfl fbX5_12 (by decide) rfl (fun _ _ _ => rfl) (Or.inr ⟨rfl, rfl, rfl⟩) (fun _ => rfl) (fun _ => rfl) ?_
  have hg2 := (hg1.mono (show _ ≤ 6 by decide)).up (x := 1) (f := 0) (v := .ref 2) (by decide)
  refine wg_aload_n 16 dX5_init_15 rfl rfl ?_
  refine wg_bipush 18 dX5_init_16 rfl (v := nI 6) rfl ?_
  refine wg_newa (t := 0) (x := 6) (n' := 7) (kc' := 5) (ks' := 52) 20 dX5_init_18 rfl rfl (by decide) ac0 rfl rfl rfl (by decide) (by decide) (hA.z (by decide)) rfl rfl ⟨by decide, by decide⟩ ?_
  refine wg_putr 23 dX5_init_20 rfl fbX5_18 (by decide) rfl (fun _ _ _ => rfl) (Or.inr ⟨rfl, rfl, rfl⟩) (fun _ => rfl) (fun _ => rfl) ?_
  have hg3 := (hg2.mono (show _ ≤ 7 by decide)).up (x := 1) (f := 1) (v := .ref 6) (by decide)
  refine wg_aload_n 24 dX5_init_23 rfl rfl ?_
  refine wg_new (x := 7) (n' := 8) (kc' := 6) (ks' := 60) 27 dX5_init_24 rfl nlX5_22 rfl rfl rfl (by decide) (hA.n (hg3.mono (by decide)) (by decide)) rfl rfl ⟨by decide, by decide⟩ ?_
  refine wg_dup 28 dX5_init_27 rfl ?_
  refine wg_init (n1 := 9) (kc' := 7) (ks' := 960) 31 dX5_init_28 rfl ilX5_24 (i_X9_init_7 (hg3.mono (by decide)) (hA.mono (by decide))) (by decide) rfl rfl ⟨by decide, by decide⟩ ⟨by decide, by decide⟩ (Nat.le_of_ble_eq_true rfl) ?_
  have hg4 : nl 9 (g_X9_init_7 (_)) := nl_g_X9_init_7 (hg3.mono (by decide)) (by decide)
  refine wg_putr 34 dX5_init_31 rfl fbX5_25 (by decide) rfl (fun _ _ _ => rfl) (Or.inr ⟨rfl, rfl, rfl⟩) (fun _ => rfl) (fun _ => rfl) ?_
  have hg5 := (hg4.mono (show _ ≤ 9 by decide)).up (x := 1) (f := 3) (v := .ref 7) (by decide)
  refine wg_aload_n 35 dX5_init_34 rfl rfl ?_
  refine wg_new (x := 9) (n' := 10) (kc' := 8) (ks' := 968) 38 dX5_init_35 rfl nlX5_29 rfl rfl rfl (by decide) (hA.n (hg5.mono (by decide)) (by decide)) rfl rfl ⟨by decide, by decide⟩ ?_
  refine wg_dup 39 dX5_init_38 rfl ?_
  refine wg_init (n1 := 26) (kc' := 24) (ks' := 1368) 42 dX5_init_39 rfl ilX5_31 (i_X10_init_9 (hg5.mono (by decide)) (hA.mono (by decide))) (by decide) rfl rfl ⟨by decide, by decide⟩ ⟨by decide, by decide⟩ (Nat.le_of_ble_eq_true rfl) ?_
  have hg6 : nl 26 (g_X10_init_9 (_)) := nl_g_X10_init_9 (hg5.mono (by decide)) (by decide)
  refine wg_putr 45 dX5_init_42 rfl fbX5_32 (by decide) rfl (fun _ _ _ => rfl) (Or.inr ⟨rfl, rfl, rfl⟩) (fun _ => rfl) (fun _ => rfl) ?_
  have hg7 := (hg6.mono (show _ ≤ 26 by decide)).up (x := 1) (f := 4) (v := .ref 9) (by decide)
  exact wg_exit ⟨dX5_init_45, rfl, by decide, by decide, rfl, rfl, rfl⟩
theorem nl_g_X5_init_1 {z : Nat} {G : Nat → Nat → Value} (h : nl z G) (hz : 26 ≤ z) : nl z (g_X5_init_1 G) := by
  unfold g_X5_init_1
  exact ((nl_g_X10_init_9 (((nl_g_X9_init_7 ((((nl_g_X3_init_2 (h) (by omega))).up (by omega)).up (by omega)) (by omega))).up (by omega)) (by omega))).up (by omega)
def g_X7_init_43 (G : Nat → Nat → Value) : Nat → Nat → Value := upd2 (G) 43 0 (.ref 44)
set_option maxRecDepth 4000 in
theorem i_X7_init_43 {G : Nat → Nat → Value} {A : AH} (hG : nl 44 G) (hA : zA 44 A) : CtI yX7_init mX7_init 1 1 51 0 60 44 43 G A (45, g_X7_init_43 G, A) := by
  refine CtI.of rfl rfl rfl rfl rfl ?_
  refine wg_aload_n 1 dX7_init_0 rfl rfl ?_
  refine wg_obj 4 dX7_init_1 rfl olX7 (by decide) (Nat.le_of_ble_eq_true rfl) ?_
  refine wg_aload_n 5 dX7_init_4 rfl rfl ?_
  refine wg_bipush 7 dX7_init_5 rfl (v := nI 51) rfl ?_
  refine wg_newa (t := 0) (x := 44) (n' := 45) (kc' := 1) (ks' := 51) 9 dX7_init_7 rfl rfl (by decide) ac0 rfl rfl rfl (by decide) (by decide) (hA.z (by decide)) rfl rfl ⟨by decide, by decide⟩ ?_
  refine wg_putr 12 dX7_init_9 rfl fbX7_11 (by decide) rfl (fun _ _ _ => rfl) (Or.inr ⟨rfl, rfl, rfl⟩) (fun _ => rfl) (fun _ => rfl) ?_
  have hg1 := (hG.mono (show _ ≤ 45 by decide)).up (x := 43) (f := 0) (v := .ref 44) (by decide)
  exact wg_exit ⟨dX7_init_12, rfl, by decide, by decide, rfl, rfl, rfl⟩
theorem nl_g_X7_init_43 {z : Nat} {G : Nat → Nat → Value} (h : nl z G) (hz : 45 ≤ z) : nl z (g_X7_init_43 G) := by
  unfold g_X7_init_43
  exact (h).up (by omega)
def g_X4_init_45 (G : Nat → Nat → Value) : Nat → Nat → Value := upd2 (upd2 (G) 45 0 (.ref 46)) 45 1 (.ref 47)
set_option maxRecDepth 4000 in
theorem i_X4_init_45 {G : Nat → Nat → Value} {A : AH} (hG : nl 46 G) (hA : zA 46 A) : CtI yX4_init mX4_init 1 2 969 0 60 46 45 G A (48, g_X4_init_45 G, A) := by
  refine CtI.of rfl rfl rfl rfl rfl ?_
  refine wg_aload_n 1 dX4_init_0 rfl rfl ?_
  refine wg_obj 4 dX4_init_1 rfl olX4 (by decide) (Nat.le_of_ble_eq_true rfl) ?_
  refine wg_aload_n 5 dX4_init_4 rfl rfl ?_
  refine wg_sipush 8 dX4_init_5 rfl (v := nI 816) rfl ?_
  refine wg_newa (t := 0) (x := 46) (n' := 47) (kc' := 1) (ks' := 816) 10 dX4_init_8 rfl rfl (by decide) ac0 rfl rfl rfl (by decide) (by decide) (hA.z (by decide)) rfl rfl ⟨by decide, by decide⟩ ?_
  refine wg_putr 13 dX4_init_10 rfl fbX4_11 (by decide) rfl (fun _ _ _ => rfl) (Or.inr ⟨rfl, rfl, rfl⟩) (fun _ => rfl) (fun _ => rfl) ?_
  have hg1 := (hG.mono (show _ ≤ 47 by decide)).up (x := 45) (f := 0) (v := .ref 46) (by decide)
  refine wg_aload_n 14 dX4_init_13 rfl rfl ?_
  refine wg_sipush 17 dX4_init_14 rfl (v := nI 153) rfl ?_
  refine wg_newa (t := 0) (x := 47) (n' := 48) (kc' := 2) (ks' := 969) 19 dX4_init_17 rfl rfl (by decide) ac0 rfl rfl rfl (by decide) (by decide) (hA.z (by decide)) rfl rfl ⟨by decide, by decide⟩ ?_
  refine wg_putr 22 dX4_init_19 rfl fbX4_15 (by decide) rfl (fun _ _ _ => rfl) (Or.inr ⟨rfl, rfl, rfl⟩) (fun _ => rfl) (fun _ => rfl) ?_
  have hg2 := (hg1.mono (show _ ≤ 48 by decide)).up (x := 45) (f := 1) (v := .ref 47) (by decide)
  exact wg_exit ⟨dX4_init_22, rfl, by decide, by decide, rfl, rfl, rfl⟩
theorem nl_g_X4_init_45 {z : Nat} {G : Nat → Nat → Value} (h : nl z G) (hz : 48 ≤ z) : nl z (g_X4_init_45 G) := by
  unfold g_X4_init_45
  exact ((h).up (by omega)).up (by omega)
def g_X0_init_48 (G : Nat → Nat → Value) : Nat → Nat → Value := upd2 (upd2 (upd2 (upd2 (upd2 (upd2 (upd2 (G) 48 0 (.ref 49)) 48 1 (.ref 50)) 48 2 (.ref 51)) 48 3 (.ref 52)) 48 4 (.ref 53)) 48 5 (.ref 54)) 48 6 (.ref 55)
set_option maxRecDepth 4000 in
theorem i_X0_init_48 {G : Nat → Nat → Value} {A : AH} (hG : nl 49 G) (hA : zA 49 A) : CtI yX0_init mX0_init 1 7 615 0 60 49 48 G A (56, g_X0_init_48 G, A) := by
  refine CtI.of rfl rfl rfl rfl rfl ?_
  refine wg_aload_n 1 dX0_init_0 rfl rfl ?_
  refine wg_obj 4 dX0_init_1 rfl olX0 (by decide) (Nat.le_of_ble_eq_true rfl) ?_
  refine wg_aload_n 5 dX0_init_4 rfl rfl ?_
  refine wg_bipush 7 dX0_init_5 rfl (v := nI 13) rfl ?_
  refine wg_newa (t := 0) (x := 49) (n' := 50) (kc' := 1) (ks' := 13) 9 dX0_init_7 rfl rfl (by decide) ac0 rfl rfl rfl (by decide) (by decide) (hA.z (by decide)) rfl rfl ⟨by decide, by decide⟩ ?_
  refine wg_putr 12 dX0_init_9 rfl fbX0_11 (by decide) rfl (fun _ _ _ => rfl) (Or.inr ⟨rfl, rfl, rfl⟩) (fun _ => rfl) (fun _ => rfl) ?_
  have hg1 := (hG.mono (show _ ≤ 50 by decide)).up (x := 48) (f := 0) (v := .ref 49) (by decide)
  refine wg_aload_n 13 dX0_init_12 rfl rfl ?_
  refine wg_bipush 15 dX0_init_13 rfl (v := nI 13) rfl ?_
  refine wg_newa (t := 0) (x := 50) (n' := 51) (kc' := 2) (ks' := 26) 17 dX0_init_15 rfl rfl (by decide) ac0 rfl rfl rfl (by decide) (by decide) (hA.z (by decide)) rfl rfl ⟨by decide, by decide⟩ ?_
  refine wg_putr 20 dX0_init_17 rfl fbX0_15 (by decide) rfl (fun _ _ _ => rfl) (Or.inr ⟨rfl, rfl, rfl⟩) (fun _ => rfl) (fun _ => rfl) ?_
  have hg2 := (hg1.mono (show _ ≤ 51 by decide)).up (x := 48) (f := 1) (v := .ref 50) (by decide)
  refine wg_aload_n 21 dX0_init_20 rfl rfl ?_
  refine wg_bipush 23 dX0_init_21 rfl (v := nI 13) rfl ?_
  refine wg_newa (t := 0) (x := 51) (n' := 52) (kc' := 3) (ks' := 39) 25 dX0_init_23 rfl rfl (by decide) ac0 rfl rfl rfl (by decide) (by decide) (hA.z (by decide)) rfl rfl ⟨by decide, by decide⟩ ?_
  refine wg_putr 28 dX0_init_25 rfl fbX0_18 (by decide) rfl (fun _ _ _ => rfl) (Or.inr ⟨rfl, rfl, rfl⟩) (fun _ => rfl) (fun _ => rfl) ?_
  have hg3 := (hg2.mono (show _ ≤ 52 by decide)).up (x := 48) (f := 2) (v := .ref 51) (by decide)
  refine wg_aload_n 29 dX0_init_28 rfl rfl ?_
  refine wg_sipush 32 dX0_init_29 rfl (v := nI 256) rfl ?_
  refine wg_newa (t := 0) (x := 52) (n' := 53) (kc' := 4) (ks' := 295) 34 dX0_init_32 rfl rfl (by decide) ac0 rfl rfl rfl (by decide) (by decide) (hA.z (by decide)) rfl rfl ⟨by decide, by decide⟩ ?_
  refine wg_putr 37 dX0_init_34 rfl fbX0_21 (by decide) rfl (fun _ _ _ => rfl) (Or.inr ⟨rfl, rfl, rfl⟩) (fun _ => rfl) (fun _ => rfl) ?_
  have hg4 := (hg3.mono (show _ ≤ 53 by decide)).up (x := 48) (f := 3) (v := .ref 52) (by decide)
  refine wg_aload_n 38 dX0_init_37 rfl rfl ?_
  refine wg_bipush 40 dX0_init_38 rfl (v := nI 32) rfl ?_
  refine wg_newa (t := 0) (x := 53) (n' := 54) (kc' := 5) (ks' := 327) 42 dX0_init_40 rfl rfl (by decide) ac0 rfl rfl rfl (by decide) (by decide) (hA.z (by decide)) rfl rfl ⟨by decide, by decide⟩ ?_
  refine wg_putr 45 dX0_init_42 rfl fbX0_24 (by decide) rfl (fun _ _ _ => rfl) (Or.inr ⟨rfl, rfl, rfl⟩) (fun _ => rfl) (fun _ => rfl) ?_
  have hg5 := (hg4.mono (show _ ≤ 54 by decide)).up (x := 48) (f := 4) (v := .ref 53) (by decide)
  refine wg_aload_n 46 dX0_init_45 rfl rfl ?_
  refine wg_bipush 48 dX0_init_46 rfl (v := nI 32) rfl ?_
  refine wg_newa (t := 0) (x := 54) (n' := 55) (kc' := 6) (ks' := 359) 50 dX0_init_48 rfl rfl (by decide) ac0 rfl rfl rfl (by decide) (by decide) (hA.z (by decide)) rfl rfl ⟨by decide, by decide⟩ ?_
  refine wg_putr 53 dX0_init_50 rfl fbX0_27 (by decide) rfl (fun _ _ _ => rfl) (Or.inr ⟨rfl, rfl, rfl⟩) (fun _ => rfl) (fun _ => rfl) ?_
  have hg6 := (hg5.mono (show _ ≤ 55 by decide)).up (x := 48) (f := 5) (v := .ref 54) (by decide)
  refine wg_aload_n 54 dX0_init_53 rfl rfl ?_
  refine wg_sipush 57 dX0_init_54 rfl (v := nI 256) rfl ?_
  refine wg_newa (t := 2) (x := 55) (n' := 56) (kc' := 7) (ks' := 615) 59 dX0_init_57 rfl rfl (by decide) ac2 rfl rfl rfl (by decide) (by decide) (hA.z (by decide)) rfl rfl ⟨by decide, by decide⟩ ?_
  refine wg_putr 62 dX0_init_59 rfl fbX0_30 (by decide) rfl (fun _ _ _ => rfl) (Or.inr ⟨rfl, rfl, rfl⟩) (fun _ => rfl) (fun _ => rfl) ?_
  have hg7 := (hg6.mono (show _ ≤ 56 by decide)).up (x := 48) (f := 6) (v := .ref 55) (by decide)
  exact wg_exit ⟨dX0_init_62, rfl, by decide, by decide, rfl, rfl, rfl⟩
theorem nl_g_X0_init_48 {z : Nat} {G : Nat → Nat → Value} (h : nl z G) (hz : 56 ≤ z) : nl z (g_X0_init_48 G) := by
  unfold g_X0_init_48
  exact (((((((h).up (by omega)).up (by omega)).up (by omega)).up (by omega)).up (by omega)).up (by omega)).up (by omega)
def g_X2_init_56 (G : Nat → Nat → Value) : Nat → Nat → Value := upd2 (G) 56 0 (.ref 57)
set_option maxRecDepth 4000 in
theorem i_X2_init_56 {G : Nat → Nat → Value} {A : AH} (hG : nl 57 G) (hA : zA 57 A) : CtI yX2_init mX2_init 1 1 32 0 60 57 56 G A (58, g_X2_init_56 G, A) := by
  refine CtI.of rfl rfl rfl rfl rfl ?_
  refine wg_aload_n 1 dX2_init_0 rfl rfl ?_
  refine wg_obj 4 dX2_init_1 rfl olX2 (by decide) (Nat.le_of_ble_eq_true rfl) ?_
  refine wg_aload_n 5 dX2_init_4 rfl rfl ?_
  refine wg_bipush 7 dX2_init_5 rfl (v := nI 32) rfl ?_
  refine wg_newa (t := 3) (x := 57) (n' := 58) (kc' := 1) (ks' := 32) 9 dX2_init_7 rfl rfl (by decide) ac3 rfl rfl rfl (by decide) (by decide) (hA.z (by decide)) rfl rfl ⟨by decide, by decide⟩ ?_
  refine wg_putr 12 dX2_init_9 rfl fbX2_11 (by decide) rfl (fun _ _ _ => rfl) (Or.inr ⟨rfl, rfl, rfl⟩) (fun _ => rfl) (fun _ => rfl) ?_
  have hg1 := (hG.mono (show _ ≤ 58 by decide)).up (x := 56) (f := 0) (v := .ref 57) (by decide)
  exact wg_exit ⟨dX2_init_12, rfl, by decide, by decide, rfl, rfl, rfl⟩
theorem nl_g_X2_init_56 {z : Nat} {G : Nat → Nat → Value} (h : nl z G) (hz : 58 ≤ z) : nl z (g_X2_init_56 G) := by
  unfold g_X2_init_56
  exact (h).up (by omega)
def g_X1_init_58 (G : Nat → Nat → Value) : Nat → Nat → Value := G
set_option maxRecDepth 4000 in
theorem i_X1_init_58 {G : Nat → Nat → Value} {A : AH} (hG : nl 59 G) (hA : zA 59 A) : CtI yX1_init mX1_init 1 0 0 0 60 59 58 G A (59, g_X1_init_58 G, A) := by
  refine CtI.of rfl rfl rfl rfl rfl ?_
  refine wg_aload_n 1 dX1_init_0 rfl rfl ?_
  refine wg_obj 4 dX1_init_1 rfl olX1 (by decide) (Nat.le_of_ble_eq_true rfl) ?_
  exact wg_exit ⟨dX1_init_4, rfl, by decide, by decide, rfl, rfl, rfl⟩
theorem nl_g_X1_init_58 {z : Nat} {G : Nat → Nat → Value} (h : nl z G) (hz : 59 ≤ z) : nl z (g_X1_init_58 G) := by
  unfold g_X1_init_58
  exact h
def g_X6_init_59 (G : Nat → Nat → Value) : Nat → Nat → Value := G
set_option maxRecDepth 4000 in
theorem i_X6_init_59 {G : Nat → Nat → Value} {A : AH} (hG : nl 60 G) (hA : zA 60 A) : CtI yX6_init mX6_init 1 0 0 0 60 60 59 G A (60, g_X6_init_59 G, A) := by
  refine CtI.of rfl rfl rfl rfl rfl ?_
  refine wg_aload_n 1 dX6_init_0 rfl rfl ?_
  refine wg_obj 4 dX6_init_1 rfl olX6 (by decide) (Nat.le_of_ble_eq_true rfl) ?_
  exact wg_exit ⟨dX6_init_4, rfl, by decide, by decide, rfl, rfl, rfl⟩
theorem nl_g_X6_init_59 {z : Nat} {G : Nat → Nat → Value} (h : nl z G) (hz : 60 ≤ z) : nl z (g_X6_init_59 G) := by
  unfold g_X6_init_59
  exact h
def g_X11_init_0 (G : Nat → Nat → Value) : Nat → Nat → Value := upd2 (g_X6_init_59 (upd2 (g_X1_init_58 (upd2 (g_X2_init_56 (upd2 (g_X0_init_48 (upd2 (g_X4_init_45 (upd2 (g_X7_init_43 (upd2 (g_X10_init_26 (upd2 (g_X5_init_1 (G)) 0 0 (.ref 1))) 0 1 (.ref 26))) 0 2 (.ref 43))) 0 3 (.ref 45))) 0 4 (.ref 48))) 0 5 (.ref 56))) 0 6 (.ref 58))) 0 7 (.ref 59)
set_option maxRecDepth 4000 in
theorem i_X11_init_0 {G : Nat → Nat → Value} {A : AH} (hG : nl 1 G) (hA : zA 1 A) : CtI yX11_init mX11_init 4 59 3472 0 60 1 0 G A (60, g_X11_init_0 G, A) := by
  refine CtI.of rfl rfl rfl rfl rfl ?_
  refine wg_aload_n 1 dX11_init_0 rfl rfl ?_
  refine wg_obj 4 dX11_init_1 rfl olX11 (by decide) (Nat.le_of_ble_eq_true rfl) ?_
  refine wg_aload_n 5 dX11_init_4 rfl rfl ?_
  refine wg_new (x := 1) (n' := 2) (kc' := 1) (ks' := 7) 8 dX11_init_5 rfl nlX11_7 rfl rfl rfl (by decide) (hA.n (hG.mono (by decide)) (by decide)) rfl rfl ⟨by decide, by decide⟩ ?_
  refine wg_dup 9 dX11_init_8 rfl ?_
  refine wg_init (n1 := 26) (kc' := 25) (ks' := 1375) 12 dX11_init_9 rfl ilX11_9 (i_X5_init_1 (hG.mono (by decide)) (hA.mono (by decide))) (by decide) rfl rfl ⟨by decide, by decide⟩ ⟨by decide, by decide⟩ (Nat.le_of_ble_eq_true rfl) ?_
  have hg1 : nl 26 (g_X5_init_1 (_)) := nl_g_X5_init_1 (hG.mono (by decide)) (by decide)
  refine wg_putr 15 dX11_init_12 rfl fbX11_10 (by decide) rfl (fun _ _ _ => rfl) (Or.inr ⟨rfl, rfl, rfl⟩) (fun _ => rfl) (fun _ => rfl) ?_
  have hg2 := (hg1.mono (show _ ≤ 26 by decide)).up (x := 0) (f := 0) (v := .ref 1) (by decide)
  refine wg_aload_n 16 dX11_init_15 rfl rfl ?_
  refine wg_new (x := 26) (n' := 27) (kc' := 26) (ks' := 1383) 19 dX11_init_16 rfl nlX11_16 rfl rfl rfl (by decide) (hA.n (hg2.mono (by decide)) (by decide)) rfl rfl ⟨by decide, by decide⟩ ?_
  refine wg_dup 20 dX11_init_19 rfl ?_
  refine wg_init (n1 := 43) (kc' := 42) (ks' := 1783) 23 dX11_init_20 rfl ilX11_18 (i_X10_init_26 (hg2.mono (by decide)) (hA.mono (by decide))) (by decide) rfl rfl ⟨by decide, by decide⟩ ⟨by decide, by decide⟩ (Nat.le_of_ble_eq_true rfl) ?_
  have hg3 : nl 43 (g_X10_init_26 (_)) := nl_g_X10_init_26 (hg2.mono (by decide)) (by decide)
  refine wg_putr 26 dX11_init_23 rfl fbX11_19 (by decide) rfl (fun _ _ _ => rfl) (Or.inr ⟨rfl, rfl, rfl⟩) (fun _ => rfl) (fun _ => rfl) ?_
  have hg4 := (hg3.mono (show _ ≤ 43 by decide)).up (x := 0) (f := 1) (v := .ref 26) (by decide)
  refine wg_aload_n 27 dX11_init_26 rfl rfl ?_
  refine wg_new (x := 43) (n' := 44) (kc' := 43) (ks' := 1784) 30 dX11_init_27 rfl nlX11_23 rfl rfl rfl (by decide) (hA.n (hg4.mono (by decide)) (by decide)) rfl rfl ⟨by decide, by decide⟩ ?_
  refine wg_dup 31 dX11_init_30 rfl ?_
  refine wg_init (n1 := 45) (kc' := 44) (ks' := 1835) 34 dX11_init_31 rfl ilX11_25 (i_X7_init_43 (hg4.mono (by decide)) (hA.mono (by decide))) (by decide) rfl rfl ⟨by decide, by decide⟩ ⟨by decide, by decide⟩ (Nat.le_of_ble_eq_true rfl) ?_
  have hg5 : nl 45 (g_X7_init_43 (_)) := nl_g_X7_init_43 (hg4.mono (by decide)) (by decide)
  refine wg_putr 37 dX11_init_34 rfl fbX11_26 (by decide) rfl (fun _ _ _ => rfl) (Or.inr ⟨rfl, rfl, rfl⟩) (fun _ => rfl) (fun _ => rfl) ?_
  have hg6 := (hg5.mono (show _ ≤ 45 by decide)).up (x := 0) (f := 2) (v := .ref 43) (by decide)
  refine wg_aload_n 38 dX11_init_37 rfl rfl ?_
  refine wg_new (x := 45) (n' := 46) (kc' := 45) (ks' := 1840) 41 dX11_init_38 rfl nlX11_30 rfl rfl rfl (by decide) (hA.n (hg6.mono (by decide)) (by decide)) rfl rfl ⟨by decide, by decide⟩ ?_
  refine wg_dup 42 dX11_init_41 rfl ?_
  refine wg_init (n1 := 48) (kc' := 47) (ks' := 2809) 45 dX11_init_42 rfl ilX11_32 (i_X4_init_45 (hg6.mono (by decide)) (hA.mono (by decide))) (by decide) rfl rfl ⟨by decide, by decide⟩ ⟨by decide, by decide⟩ (Nat.le_of_ble_eq_true rfl) ?_
  have hg7 : nl 48 (g_X4_init_45 (_)) := nl_g_X4_init_45 (hg6.mono (by decide)) (by decide)
  refine wg_putr 48 dX11_init_45 rfl fbX11_33 (by decide) rfl (fun _ _ _ => rfl) (Or.inr ⟨rfl, rfl, rfl⟩) (fun _ => rfl) (fun _ => rfl) ?_
  have hg8 := (hg7.mono (show _ ≤ 48 by decide)).up (x := 0) (f := 3) (v := .ref 45) (by decide)
  refine wg_aload_n 49 dX11_init_48 rfl rfl ?_
  refine wg_new (x := 48) (n' := 49) (kc' := 48) (ks' := 2818) 52 dX11_init_49 rfl nlX11_37 rfl rfl rfl (by decide) (hA.n (hg8.mono (by decide)) (by decide)) rfl rfl ⟨by decide, by decide⟩ ?_
  refine wg_dup 53 dX11_init_52 rfl ?_
  refine wg_init (n1 := 56) (kc' := 55) (ks' := 3433) 56 dX11_init_53 rfl ilX11_39 (i_X0_init_48 (hg8.mono (by decide)) (hA.mono (by decide))) (by decide) rfl rfl ⟨by decide, by decide⟩ ⟨by decide, by decide⟩ (Nat.le_of_ble_eq_true rfl) ?_
  have hg9 : nl 56 (g_X0_init_48 (_)) := nl_g_X0_init_48 (hg8.mono (by decide)) (by decide)
  refine wg_putr 59 dX11_init_56 rfl fbX11_40 (by decide) rfl (fun _ _ _ => rfl) (Or.inr ⟨rfl, rfl, rfl⟩) (fun _ => rfl) (fun _ => rfl) ?_
  have hg10 := (hg9.mono (show _ ≤ 56 by decide)).up (x := 0) (f := 4) (v := .ref 48) (by decide)
  refine wg_aload_n 60 dX11_init_59 rfl rfl ?_
  refine wg_new (x := 56) (n' := 57) (kc' := 56) (ks' := 3436) 63 dX11_init_60 rfl nlX11_44 rfl rfl rfl (by decide) (hA.n (hg10.mono (by decide)) (by decide)) rfl rfl ⟨by decide, by decide⟩ ?_
  refine wg_dup 64 dX11_init_63 rfl ?_
  refine wg_init (n1 := 58) (kc' := 57) (ks' := 3468) 67 dX11_init_64 rfl ilX11_46 (i_X2_init_56 (hg10.mono (by decide)) (hA.mono (by decide))) (by decide) rfl rfl ⟨by decide, by decide⟩ ⟨by decide, by decide⟩ (Nat.le_of_ble_eq_true rfl) ?_
  have hg11 : nl 58 (g_X2_init_56 (_)) := nl_g_X2_init_56 (hg10.mono (by decide)) (by decide)
  refine wg_putr 70 dX11_init_67 rfl fbX11_47 (by decide) rfl (fun _ _ _ => rfl) (Or.inr ⟨rfl, rfl, rfl⟩) (fun _ => rfl) (fun _ => rfl) ?_
  have hg12 := (hg11.mono (show _ ≤ 58 by decide)).up (x := 0) (f := 5) (v := .ref 56) (by decide)
  refine wg_aload_n 71 dX11_init_70 rfl rfl ?_
  refine wg_new (x := 58) (n' := 59) (kc' := 58) (ks' := 3470) 74 dX11_init_71 rfl nlX11_51 rfl rfl rfl (by decide) (hA.n (hg12.mono (by decide)) (by decide)) rfl rfl ⟨by decide, by decide⟩ ?_
  refine wg_dup 75 dX11_init_74 rfl ?_
  refine wg_init (n1 := 59) (kc' := 58) (ks' := 3470) 78 dX11_init_75 rfl ilX11_53 (i_X1_init_58 (hg12.mono (by decide)) (hA.mono (by decide))) (by decide) rfl rfl ⟨by decide, by decide⟩ ⟨by decide, by decide⟩ (Nat.le_of_ble_eq_true rfl) ?_
  have hg13 : nl 59 (g_X1_init_58 (_)) := nl_g_X1_init_58 (hg12.mono (by decide)) (by decide)
  refine wg_putr 81 dX11_init_78 rfl fbX11_54 (by decide) rfl (fun _ _ _ => rfl) (Or.inr ⟨rfl, rfl, rfl⟩) (fun _ => rfl) (fun _ => rfl) ?_
  have hg14 := (hg13.mono (show _ ≤ 59 by decide)).up (x := 0) (f := 6) (v := .ref 58) (by decide)
  refine wg_aload_n 82 dX11_init_81 rfl rfl ?_
  refine wg_new (x := 59) (n' := 60) (kc' := 59) (ks' := 3472) 85 dX11_init_82 rfl nlX11_58 rfl rfl rfl (by decide) (hA.n (hg14.mono (by decide)) (by decide)) rfl rfl ⟨by decide, by decide⟩ ?_
  refine wg_dup 86 dX11_init_85 rfl ?_
  refine wg_init (n1 := 60) (kc' := 59) (ks' := 3472) 89 dX11_init_86 rfl ilX11_60 (i_X6_init_59 (hg14.mono (by decide)) (hA.mono (by decide))) (by decide) rfl rfl ⟨by decide, by decide⟩ ⟨by decide, by decide⟩ (Nat.le_of_ble_eq_true rfl) ?_
  have hg15 : nl 60 (g_X6_init_59 (_)) := nl_g_X6_init_59 (hg14.mono (by decide)) (by decide)
  refine wg_putr 92 dX11_init_89 rfl fbX11_61 (by decide) rfl (fun _ _ _ => rfl) (Or.inr ⟨rfl, rfl, rfl⟩) (fun _ => rfl) (fun _ => rfl) ?_
  have hg16 := (hg15.mono (show _ ≤ 60 by decide)).up (x := 0) (f := 7) (v := .ref 59) (by decide)
  exact wg_exit ⟨dX11_init_92, rfl, by decide, by decide, rfl, rfl, rfl⟩
theorem nl_g_X11_init_0 {z : Nat} {G : Nat → Nat → Value} (h : nl z G) (hz : 60 ≤ z) : nl z (g_X11_init_0 G) := by
  unfold g_X11_init_0
  exact ((nl_g_X6_init_59 (((nl_g_X1_init_58 (((nl_g_X2_init_56 (((nl_g_X0_init_48 (((nl_g_X4_init_45 (((nl_g_X7_init_43 (((nl_g_X10_init_26 (((nl_g_X5_init_1 (h) (by omega))).up (by omega)) (by omega))).up (by omega)) (by omega))).up (by omega)) (by omega))).up (by omega)) (by omega))).up (by omega)) (by omega))).up (by omega)) (by omega))).up (by omega)) (by omega))).up (by omega)
def g_X13_init_100 (G : Nat → Nat → Value) : Nat → Nat → Value := upd2 (upd2 (upd2 (upd2 (upd2 (upd2 (upd2 (upd2 (upd2 (upd2 (G) 100 5 (.ref 101)) 100 16 (.ref 102)) 100 17 (.ref 103)) 100 18 (.ref 104)) 100 19 (.ref 105)) 100 22 (.ref 106)) 100 23 (.ref 107)) 100 24 (.ref 108)) 100 27 (.ref 109)) 100 29 (.ref 110)
set_option maxRecDepth 4000 in
theorem i_X13_init_100 {G : Nat → Nat → Value} {A : AH} (hG : nl 101 G) (hA : zA 101 A) : CtI yX13_init mX13_init 1 10 1746 100 11 1 100 G A (11, g_X13_init_100 G, (upd2 A.1 100 2 (-1), A.2)) := by
  refine CtI.of rfl rfl rfl rfl rfl ?_
  refine wg_aload_n 1 dX13_init_0 rfl rfl ?_
  refine wg_obj 4 dX13_init_1 rfl olX13 (by decide) (Nat.le_of_ble_eq_true rfl) ?_
  refine wg_aload_n 5 dX13_init_4 rfl rfl ?_
  refine wg_iconst 6 dX13_init_5 rfl (v := (-1)) rfl ?_
  refine wg_puti 9 dX13_init_6 rfl fbX13_9 (by decide) rfl rfl rfl ?_
  have ha1 := hA.up (x := 100) (f := 2) (v := (-1)) (by decide)
  refine wg_aload_n 10 dX13_init_9 rfl rfl ?_
  refine wg_sipush 13 dX13_init_10 rfl (v := nI 900) rfl ?_
  refine wg_newa (t := 1) (x := 101) (n' := 2) (kc' := 1) (ks' := 900) 15 dX13_init_13 rfl rfl (by decide) ac1 rfl rfl rfl (by decide) (by decide) (ha1.z (by decide)) rfl rfl ⟨by decide, by decide⟩ ?_
  refine wg_putr 18 dX13_init_15 rfl fbX13_13 (by decide) rfl (fun _ _ _ => rfl) (Or.inr ⟨rfl, rfl, rfl⟩) (fun _ => rfl) (fun _ => rfl) ?_
  have hg1 := (hG.mono (show _ ≤ 102 by decide)).up (x := 100) (f := 5) (v := .ref 101) (by decide)
  refine wg_aload_n 19 dX13_init_18 rfl rfl ?_
  refine wg_bipush 21 dX13_init_19 rfl (v := nI 26) rfl ?_
  refine wg_newa (t := 0) (x := 102) (n' := 3) (kc' := 2) (ks' := 926) 23 dX13_init_21 rfl rfl (by decide) ac0 rfl rfl rfl (by decide) (by decide) (ha1.z (by decide)) rfl rfl ⟨by decide, by decide⟩ ?_
  refine wg_putr 26 dX13_init_23 rfl fbX13_17 (by decide) rfl (fun _ _ _ => rfl) (Or.inr ⟨rfl, rfl, rfl⟩) (fun _ => rfl) (fun _ => rfl) ?_
  have hg2 := (hg1.mono (show _ ≤ 103 by decide)).up (x := 100) (f := 16) (v := .ref 102) (by decide)
  refine wg_aload_n 27 dX13_init_26 rfl rfl ?_
  refine wg_bipush 29 dX13_init_27 rfl (v := nI 26) rfl ?_
  refine wg_newa (t := 0) (x := 103) (n' := 4) (kc' := 3) (ks' := 952) 31 dX13_init_29 rfl rfl (by decide) ac0 rfl rfl rfl (by decide) (by decide) (ha1.z (by decide)) rfl rfl ⟨by decide, by decide⟩ ?_
  refine wg_putr 34 dX13_init_31 rfl fbX13_21 (by decide) rfl (fun _ _ _ => rfl) (Or.inr ⟨rfl, rfl, rfl⟩) (fun _ => rfl) (fun _ => rfl) ?_
  have hg3 := (hg2.mono (show _ ≤ 104 by decide)).up (x := 100) (f := 17) (v := .ref 103) (by decide)
  refine wg_aload_n 35 dX13_init_34 rfl rfl ?_
  refine wg_sipush 38 dX13_init_35 rfl (v := nI 416) rfl ?_
  refine wg_newa (t := 0) (x := 104) (n' := 5) (kc' := 4) (ks' := 1368) 40 dX13_init_38 rfl rfl (by decide) ac0 rfl rfl rfl (by decide) (by decide) (ha1.z (by decide)) rfl rfl ⟨by decide, by decide⟩ ?_
  refine wg_putr 43 dX13_init_40 rfl fbX13_24 (by decide) rfl (fun _ _ _ => rfl) (Or.inr ⟨rfl, rfl, rfl⟩) (fun _ => rfl) (fun _ => rfl) ?_
  have hg4 := (hg3.mono (show _ ≤ 105 by decide)).up (x := 100) (f := 18) (v := .ref 104) (by decide)
  refine wg_aload_n 44 dX13_init_43 rfl rfl ?_
  refine wg_bipush 46 dX13_init_44 rfl (v := nI 78) rfl ?_
  refine wg_newa (t := 0) (x := 105) (n' := 6) (kc' := 5) (ks' := 1446) 48 dX13_init_46 rfl rfl (by decide) ac0 rfl rfl rfl (by decide) (by decide) (ha1.z (by decide)) rfl rfl ⟨by decide, by decide⟩ ?_
  refine wg_putr 51 dX13_init_48 rfl fbX13_27 (by decide) rfl (fun _ _ _ => rfl) (Or.inr ⟨rfl, rfl, rfl⟩) (fun _ => rfl) (fun _ => rfl) ?_
  have hg5 := (hg4.mono (show _ ≤ 106 by decide)).up (x := 100) (f := 19) (v := .ref 105) (by decide)
  refine wg_aload_n 52 dX13_init_51 rfl rfl ?_
  refine wg_bipush 54 dX13_init_52 rfl (v := nI 13) rfl ?_
  refine wg_newa (t := 0) (x := 106) (n' := 7) (kc' := 6) (ks' := 1459) 56 dX13_init_54 rfl rfl (by decide) ac0 rfl rfl rfl (by decide) (by decide) (ha1.z (by decide)) rfl rfl ⟨by decide, by decide⟩ ?_
  refine wg_putr 59 dX13_init_56 rfl fbX13_30 (by decide) rfl (fun _ _ _ => rfl) (Or.inr ⟨rfl, rfl, rfl⟩) (fun _ => rfl) (fun _ => rfl) ?_
  have hg6 := (hg5.mono (show _ ≤ 107 by decide)).up (x := 100) (f := 22) (v := .ref 106) (by decide)
  refine wg_aload_n 60 dX13_init_59 rfl rfl ?_
  refine wg_bipush 62 dX13_init_60 rfl (v := nI 13) rfl ?_
  refine wg_newa (t := 0) (x := 107) (n' := 8) (kc' := 7) (ks' := 1472) 64 dX13_init_62 rfl rfl (by decide) ac0 rfl rfl rfl (by decide) (by decide) (ha1.z (by decide)) rfl rfl ⟨by decide, by decide⟩ ?_
  refine wg_putr 67 dX13_init_64 rfl fbX13_33 (by decide) rfl (fun _ _ _ => rfl) (Or.inr ⟨rfl, rfl, rfl⟩) (fun _ => rfl) (fun _ => rfl) ?_
  have hg7 := (hg6.mono (show _ ≤ 108 by decide)).up (x := 100) (f := 23) (v := .ref 107) (by decide)
  refine wg_aload_n 68 dX13_init_67 rfl rfl ?_
  refine wg_bipush 70 dX13_init_68 rfl (v := nI 13) rfl ?_
  refine wg_newa (t := 0) (x := 108) (n' := 9) (kc' := 8) (ks' := 1485) 72 dX13_init_70 rfl rfl (by decide) ac0 rfl rfl rfl (by decide) (by decide) (ha1.z (by decide)) rfl rfl ⟨by decide, by decide⟩ ?_
  refine wg_putr 75 dX13_init_72 rfl fbX13_36 (by decide) rfl (fun _ _ _ => rfl) (Or.inr ⟨rfl, rfl, rfl⟩) (fun _ => rfl) (fun _ => rfl) ?_
  have hg8 := (hg7.mono (show _ ≤ 109 by decide)).up (x := 100) (f := 24) (v := .ref 108) (by decide)
  refine wg_aload_n 76 dX13_init_75 rfl rfl ?_
  refine wg_iconst 77 dX13_init_76 rfl (v := nI 5) rfl ?_
  refine wg_newa (t := 0) (x := 109) (n' := 10) (kc' := 9) (ks' := 1490) 79 dX13_init_77 rfl rfl (by decide) ac0 rfl rfl rfl (by decide) (by decide) (ha1.z (by decide)) rfl rfl ⟨by decide, by decide⟩ ?_
  refine wg_putr 82 dX13_init_79 rfl fbX13_39 (by decide) rfl (fun _ _ _ => rfl) (Or.inr ⟨rfl, rfl, rfl⟩) (fun _ => rfl) (fun _ => rfl) ?_
  have hg9 := (hg8.mono (show _ ≤ 110 by decide)).up (x := 100) (f := 27) (v := .ref 109) (by decide)
  refine wg_aload_n 83 dX13_init_82 rfl rfl ?_
  refine wg_sipush 86 dX13_init_83 rfl (v := nI 256) rfl ?_
  refine wg_newa (t := 2) (x := 110) (n' := 11) (kc' := 10) (ks' := 1746) 88 dX13_init_86 rfl rfl (by decide) ac2 rfl rfl rfl (by decide) (by decide) (ha1.z (by decide)) rfl rfl ⟨by decide, by decide⟩ ?_
  refine wg_putr 91 dX13_init_88 rfl fbX13_42 (by decide) rfl (fun _ _ _ => rfl) (Or.inr ⟨rfl, rfl, rfl⟩) (fun _ => rfl) (fun _ => rfl) ?_
  have hg10 := (hg9.mono (show _ ≤ 111 by decide)).up (x := 100) (f := 29) (v := .ref 110) (by decide)
  exact wg_exit ⟨dX13_init_91, rfl, by decide, by decide, rfl, rfl, rfl⟩
theorem nl_g_X13_init_100 {z : Nat} {G : Nat → Nat → Value} (h : nl z G) (hz : 111 ≤ z) : nl z (g_X13_init_100 G) := by
  unfold g_X13_init_100
  exact ((((((((((h).up (by omega)).up (by omega)).up (by omega)).up (by omega)).up (by omega)).up (by omega)).up (by omega)).up (by omega)).up (by omega)).up (by omega)
def g_X12_init_111 (G : Nat → Nat → Value) : Nat → Nat → Value := upd2 (upd2 (upd2 (upd2 (upd2 (upd2 (upd2 (upd2 (upd2 (upd2 (upd2 (upd2 (upd2 (upd2 (upd2 (upd2 (upd2 (upd2 (upd2 (upd2 (upd2 (G) 111 11 (.ref 112)) 111 12 (.ref 113)) 111 13 (.ref 114)) 111 14 (.ref 115)) 111 15 (.ref 116)) 111 16 (.ref 117)) 111 17 (.ref 118)) 111 18 (.ref 119)) 111 19 (.ref 120)) 111 20 (.ref 121)) 111 21 (.ref 122)) 111 22 (.ref 123)) 111 23 (.ref 124)) 111 24 (.ref 125)) 111 25 (.ref 126)) 111 26 (.ref 127)) 111 27 (.ref 128)) 111 28 (.ref 129)) 111 29 (.ref 130)) 111 30 (.ref 131)) 111 31 (.ref 132)
set_option maxRecDepth 4000 in
theorem i_X12_init_111 {G : Nat → Nat → Value} {A : AH} (hG : nl 112 G) (hA : zA 112 A) : CtI yX12_init mX12_init 1 21 149 100 33 12 111 G A (33, g_X12_init_111 G, (upd2 A.1 111 0 (-1), A.2)) := by
  refine CtI.of rfl rfl rfl rfl rfl ?_
  refine wg_aload_n 1 dX12_init_0 rfl rfl ?_
  refine wg_obj 4 dX12_init_1 rfl olX12 (by decide) (Nat.le_of_ble_eq_true rfl) ?_
  refine wg_aload_n 5 dX12_init_4 rfl rfl ?_
  refine wg_iconst 6 dX12_init_5 rfl (v := (-1)) rfl ?_
  refine wg_puti 9 dX12_init_6 rfl fbX12_9 (by decide) rfl rfl rfl ?_
  have ha1 := hA.up (x := 111) (f := 0) (v := (-1)) (by decide)
  refine wg_aload_n 10 dX12_init_9 rfl rfl ?_
  refine wg_bipush 12 dX12_init_10 rfl (v := nI 7) rfl ?_
  refine wg_newa (t := 0) (x := 112) (n' := 13) (kc' := 1) (ks' := 7) 14 dX12_init_12 rfl rfl (by decide) ac0 rfl rfl rfl (by decide) (by decide) (ha1.z (by decide)) rfl rfl ⟨by decide, by decide⟩ ?_
  refine wg_putr 17 dX12_init_14 rfl fbX12_15 (by decide) rfl (fun _ _ _ => rfl) (Or.inr ⟨rfl, rfl, rfl⟩) (fun _ => rfl) (fun _ => rfl) ?_
  have hg1 := (hG.mono (show _ ≤ 113 by decide)).up (x := 111) (f := 11) (v := .ref 112) (by decide)
  refine wg_aload_n 18 dX12_init_17 rfl rfl ?_
  refine wg_bipush 20 dX12_init_18 rfl (v := nI 7) rfl ?_
  refine wg_newa (t := 0) (x := 113) (n' := 14) (kc' := 2) (ks' := 14) 22 dX12_init_20 rfl rfl (by decide) ac0 rfl rfl rfl (by decide) (by decide) (ha1.z (by decide)) rfl rfl ⟨by decide, by decide⟩ ?_
  refine wg_putr 25 dX12_init_22 rfl fbX12_19 (by decide) rfl (fun _ _ _ => rfl) (Or.inr ⟨rfl, rfl, rfl⟩) (fun _ => rfl) (fun _ => rfl) ?_
  have hg2 := (hg1.mono (show _ ≤ 114 by decide)).up (x := 111) (f := 12) (v := .ref 113) (by decide)
  refine wg_aload_n 26 dX12_init_25 rfl rfl ?_
  refine wg_bipush 28 dX12_init_26 rfl (v := nI 7) rfl ?_
  refine wg_newa (t := 0) (x := 114) (n' := 15) (kc' := 3) (ks' := 21) 30 dX12_init_28 rfl rfl (by decide) ac0 rfl rfl rfl (by decide) (by decide) (ha1.z (by decide)) rfl rfl ⟨by decide, by decide⟩ ?_
  refine wg_putr 33 dX12_init_30 rfl fbX12_22 (by decide) rfl (fun _ _ _ => rfl) (Or.inr ⟨rfl, rfl, rfl⟩) (fun _ => rfl) (fun _ => rfl) ?_
  have hg3 := (hg2.mono (show _ ≤ 115 by decide)).up (x := 111) (f := 13) (v := .ref 114) (by decide)
  refine wg_aload_n 34 dX12_init_33 rfl rfl ?_
  refine wg_bipush 36 dX12_init_34 rfl (v := nI 7) rfl ?_
  refine wg_newa (t := 0) (x := 115) (n' := 16) (kc' := 4) (ks' := 28) 38 dX12_init_36 rfl rfl (by decide) ac0 rfl rfl rfl (by decide) (by decide) (ha1.z (by decide)) rfl rfl ⟨by decide, by decide⟩ ?_
  refine wg_putr 41 dX12_init_38 rfl fbX12_25 (by decide) rfl (fun _ _ _ => rfl) (Or.inr ⟨rfl, rfl, rfl⟩) (fun _ => rfl) (fun _ => rfl) ?_
  have hg4 := (hg3.mono (show _ ≤ 116 by decide)).up (x := 111) (f := 14) (v := .ref 115) (by decide)
  refine wg_aload_n 42 dX12_init_41 rfl rfl ?_
  refine wg_bipush 44 dX12_init_42 rfl (v := nI 7) rfl ?_
  refine wg_newa (t := 0) (x := 116) (n' := 17) (kc' := 5) (ks' := 35) 46 dX12_init_44 rfl rfl (by decide) ac0 rfl rfl rfl (by decide) (by decide) (ha1.z (by decide)) rfl rfl ⟨by decide, by decide⟩ ?_
  refine wg_putr 49 dX12_init_46 rfl fbX12_28 (by decide) rfl (fun _ _ _ => rfl) (Or.inr ⟨rfl, rfl, rfl⟩) (fun _ => rfl) (fun _ => rfl) ?_
  have hg5 := (hg4.mono (show _ ≤ 117 by decide)).up (x := 111) (f := 15) (v := .ref 116) (by decide)
  refine wg_aload_n 50 dX12_init_49 rfl rfl ?_
  refine wg_bipush 52 dX12_init_50 rfl (v := nI 7) rfl ?_
  refine wg_newa (t := 0) (x := 117) (n' := 18) (kc' := 6) (ks' := 42) 54 dX12_init_52 rfl rfl (by decide) ac0 rfl rfl rfl (by decide) (by decide) (ha1.z (by decide)) rfl rfl ⟨by decide, by decide⟩ ?_
  refine wg_putr 57 dX12_init_54 rfl fbX12_31 (by decide) rfl (fun _ _ _ => rfl) (Or.inr ⟨rfl, rfl, rfl⟩) (fun _ => rfl) (fun _ => rfl) ?_
  have hg6 := (hg5.mono (show _ ≤ 118 by decide)).up (x := 111) (f := 16) (v := .ref 117) (by decide)
  refine wg_aload_n 58 dX12_init_57 rfl rfl ?_
  refine wg_iconst 59 dX12_init_58 rfl (v := nI 4) rfl ?_
  refine wg_newa (t := 0) (x := 118) (n' := 19) (kc' := 7) (ks' := 46) 61 dX12_init_59 rfl rfl (by decide) ac0 rfl rfl rfl (by decide) (by decide) (ha1.z (by decide)) rfl rfl ⟨by decide, by decide⟩ ?_
  refine wg_putr 64 dX12_init_61 rfl fbX12_34 (by decide) rfl (fun _ _ _ => rfl) (Or.inr ⟨rfl, rfl, rfl⟩) (fun _ => rfl) (fun _ => rfl) ?_
  have hg7 := (hg6.mono (show _ ≤ 119 by decide)).up (x := 111) (f := 17) (v := .ref 118) (by decide)
  refine wg_aload_n 65 dX12_init_64 rfl rfl ?_
  refine wg_iconst 66 dX12_init_65 rfl (v := nI 4) rfl ?_
  refine wg_newa (t := 0) (x := 119) (n' := 20) (kc' := 8) (ks' := 50) 68 dX12_init_66 rfl rfl (by decide) ac0 rfl rfl rfl (by decide) (by decide) (ha1.z (by decide)) rfl rfl ⟨by decide, by decide⟩ ?_
  refine wg_putr 71 dX12_init_68 rfl fbX12_37 (by decide) rfl (fun _ _ _ => rfl) (Or.inr ⟨rfl, rfl, rfl⟩) (fun _ => rfl) (fun _ => rfl) ?_
  have hg8 := (hg7.mono (show _ ≤ 120 by decide)).up (x := 111) (f := 18) (v := .ref 119) (by decide)
  refine wg_aload_n 72 dX12_init_71 rfl rfl ?_
  refine wg_iconst 73 dX12_init_72 rfl (v := nI 4) rfl ?_
  refine wg_newa (t := 0) (x := 120) (n' := 21) (kc' := 9) (ks' := 54) 75 dX12_init_73 rfl rfl (by decide) ac0 rfl rfl rfl (by decide) (by decide) (ha1.z (by decide)) rfl rfl ⟨by decide, by decide⟩ ?_
  refine wg_putr 78 dX12_init_75 rfl fbX12_40 (by decide) rfl (fun _ _ _ => rfl) (Or.inr ⟨rfl, rfl, rfl⟩) (fun _ => rfl) (fun _ => rfl) ?_
  have hg9 := (hg8.mono (show _ ≤ 121 by decide)).up (x := 111) (f := 19) (v := .ref 120) (by decide)
  refine wg_aload_n 79 dX12_init_78 rfl rfl ?_
  refine wg_iconst 80 dX12_init_79 rfl (v := nI 5) rfl ?_
  refine wg_newa (t := 0) (x := 121) (n' := 22) (kc' := 10) (ks' := 59) 82 dX12_init_80 rfl rfl (by decide) ac0 rfl rfl rfl (by decide) (by decide) (ha1.z (by decide)) rfl rfl ⟨by decide, by decide⟩ ?_
  refine wg_putr 85 dX12_init_82 rfl fbX12_43 (by decide) rfl (fun _ _ _ => rfl) (Or.inr ⟨rfl, rfl, rfl⟩) (fun _ => rfl) (fun _ => rfl) ?_
  have hg10 := (hg9.mono (show _ ≤ 122 by decide)).up (x := 111) (f := 20) (v := .ref 121) (by decide)
  refine wg_aload_n 86 dX12_init_85 rfl rfl ?_
  refine wg_iconst 87 dX12_init_86 rfl (v := nI 5) rfl ?_
  refine wg_newa (t := 0) (x := 122) (n' := 23) (kc' := 11) (ks' := 64) 89 dX12_init_87 rfl rfl (by decide) ac0 rfl rfl rfl (by decide) (by decide) (ha1.z (by decide)) rfl rfl ⟨by decide, by decide⟩ ?_
  refine wg_putr 92 dX12_init_89 rfl fbX12_46 (by decide) rfl (fun _ _ _ => rfl) (Or.inr ⟨rfl, rfl, rfl⟩) (fun _ => rfl) (fun _ => rfl) ?_
  have hg11 := (hg10.mono (show _ ≤ 123 by decide)).up (x := 111) (f := 21) (v := .ref 122) (by decide)
  refine wg_aload_n 93 dX12_init_92 rfl rfl ?_
  refine wg_iconst 94 dX12_init_93 rfl (v := nI 5) rfl ?_
  refine wg_newa (t := 0) (x := 123) (n' := 24) (kc' := 12) (ks' := 69) 96 dX12_init_94 rfl rfl (by decide) ac0 rfl rfl rfl (by decide) (by decide) (ha1.z (by decide)) rfl rfl ⟨by decide, by decide⟩ ?_
  refine wg_putr 99 dX12_init_96 rfl fbX12_49 (by decide) rfl (fun _ _ _ => rfl) (Or.inr ⟨rfl, rfl, rfl⟩) (fun _ => rfl) (fun _ => rfl) ?_
  have hg12 := (hg11.mono (show _ ≤ 124 by decide)).up (x := 111) (f := 22) (v := .ref 123) (by decide)
  refine wg_aload_n 100 dX12_init_99 rfl rfl ?_
  refine wg_iconst 101 dX12_init_100 rfl (v := nI 5) rfl ?_
  refine wg_newa (t := 0) (x := 124) (n' := 25) (kc' := 13) (ks' := 74) 103 dX12_init_101 rfl rfl (by decide) ac0 rfl rfl rfl (by decide) (by decide) (ha1.z (by decide)) rfl rfl ⟨by decide, by decide⟩ ?_
  refine wg_putr 106 dX12_init_103 rfl fbX12_52 (by decide) rfl (fun _ _ _ => rfl) (Or.inr ⟨rfl, rfl, rfl⟩) (fun _ => rfl) (fun _ => rfl) ?_
  have hg13 := (hg12.mono (show _ ≤ 125 by decide)).up (x := 111) (f := 23) (v := .ref 124) (by decide)
  refine wg_aload_n 107 dX12_init_106 rfl rfl ?_
  refine wg_bipush 109 dX12_init_107 rfl (v := nI 8) rfl ?_
  refine wg_newa (t := 0) (x := 125) (n' := 26) (kc' := 14) (ks' := 82) 111 dX12_init_109 rfl rfl (by decide) ac0 rfl rfl rfl (by decide) (by decide) (ha1.z (by decide)) rfl rfl ⟨by decide, by decide⟩ ?_
  refine wg_putr 114 dX12_init_111 rfl fbX12_55 (by decide) rfl (fun _ _ _ => rfl) (Or.inr ⟨rfl, rfl, rfl⟩) (fun _ => rfl) (fun _ => rfl) ?_
  have hg14 := (hg13.mono (show _ ≤ 126 by decide)).up (x := 111) (f := 24) (v := .ref 125) (by decide)
  refine wg_aload_n 115 dX12_init_114 rfl rfl ?_
  refine wg_bipush 117 dX12_init_115 rfl (v := nI 8) rfl ?_
  refine wg_newa (t := 0) (x := 126) (n' := 27) (kc' := 15) (ks' := 90) 119 dX12_init_117 rfl rfl (by decide) ac0 rfl rfl rfl (by decide) (by decide) (ha1.z (by decide)) rfl rfl ⟨by decide, by decide⟩ ?_
  refine wg_putr 122 dX12_init_119 rfl fbX12_58 (by decide) rfl (fun _ _ _ => rfl) (Or.inr ⟨rfl, rfl, rfl⟩) (fun _ => rfl) (fun _ => rfl) ?_
  have hg15 := (hg14.mono (show _ ≤ 127 by decide)).up (x := 111) (f := 25) (v := .ref 126) (by decide)
  refine wg_aload_n 123 dX12_init_122 rfl rfl ?_
  refine wg_iconst 124 dX12_init_123 rfl (v := nI 5) rfl ?_
  refine wg_newa (t := 0) (x := 127) (n' := 28) (kc' := 16) (ks' := 95) 126 dX12_init_124 rfl rfl (by decide) ac0 rfl rfl rfl (by decide) (by decide) (ha1.z (by decide)) rfl rfl ⟨by decide, by decide⟩ ?_
  refine wg_putr 129 dX12_init_126 rfl fbX12_61 (by decide) rfl (fun _ _ _ => rfl) (Or.inr ⟨rfl, rfl, rfl⟩) (fun _ => rfl) (fun _ => rfl) ?_
  have hg16 := (hg15.mono (show _ ≤ 128 by decide)).up (x := 111) (f := 26) (v := .ref 127) (by decide)
  refine wg_aload_n 130 dX12_init_129 rfl rfl ?_
  refine wg_bipush 132 dX12_init_130 rfl (v := nI 6) rfl ?_
  refine wg_newa (t := 0) (x := 128) (n' := 29) (kc' := 17) (ks' := 101) 134 dX12_init_132 rfl rfl (by decide) ac0 rfl rfl rfl (by decide) (by decide) (ha1.z (by decide)) rfl rfl ⟨by decide, by decide⟩ ?_
  refine wg_putr 137 dX12_init_134 rfl fbX12_64 (by decide) rfl (fun _ _ _ => rfl) (Or.inr ⟨rfl, rfl, rfl⟩) (fun _ => rfl) (fun _ => rfl) ?_
  have hg17 := (hg16.mono (show _ ≤ 129 by decide)).up (x := 111) (f := 27) (v := .ref 128) (by decide)
  refine wg_aload_n 138 dX12_init_137 rfl rfl ?_
  refine wg_bipush 140 dX12_init_138 rfl (v := nI 6) rfl ?_
  refine wg_newa (t := 0) (x := 129) (n' := 30) (kc' := 18) (ks' := 107) 142 dX12_init_140 rfl rfl (by decide) ac0 rfl rfl rfl (by decide) (by decide) (ha1.z (by decide)) rfl rfl ⟨by decide, by decide⟩ ?_
  refine wg_putr 145 dX12_init_142 rfl fbX12_67 (by decide) rfl (fun _ _ _ => rfl) (Or.inr ⟨rfl, rfl, rfl⟩) (fun _ => rfl) (fun _ => rfl) ?_
  have hg18 := (hg17.mono (show _ ≤ 130 by decide)).up (x := 111) (f := 28) (v := .ref 129) (by decide)
  refine wg_aload_n 146 dX12_init_145 rfl rfl ?_
  refine wg_bipush 148 dX12_init_146 rfl (v := nI 14) rfl ?_
  refine wg_newa (t := 3) (x := 130) (n' := 31) (kc' := 19) (ks' := 121) 150 dX12_init_148 rfl rfl (by decide) ac3 rfl rfl rfl (by decide) (by decide) (ha1.z (by decide)) rfl rfl ⟨by decide, by decide⟩ ?_
  refine wg_putr 153 dX12_init_150 rfl fbX12_70 (by decide) rfl (fun _ _ _ => rfl) (Or.inr ⟨rfl, rfl, rfl⟩) (fun _ => rfl) (fun _ => rfl) ?_
  have hg19 := (hg18.mono (show _ ≤ 131 by decide)).up (x := 111) (f := 29) (v := .ref 130) (by decide)
  refine wg_aload_n 154 dX12_init_153 rfl rfl ?_
  refine wg_bipush 156 dX12_init_154 rfl (v := nI 14) rfl ?_
  refine wg_newa (t := 0) (x := 131) (n' := 32) (kc' := 20) (ks' := 135) 158 dX12_init_156 rfl rfl (by decide) ac0 rfl rfl rfl (by decide) (by decide) (ha1.z (by decide)) rfl rfl ⟨by decide, by decide⟩ ?_
  refine wg_putr 161 dX12_init_158 rfl fbX12_74 (by decide) rfl (fun _ _ _ => rfl) (Or.inr ⟨rfl, rfl, rfl⟩) (fun _ => rfl) (fun _ => rfl) ?_
  have hg20 := (hg19.mono (show _ ≤ 132 by decide)).up (x := 111) (f := 30) (v := .ref 131) (by decide)
  refine wg_aload_n 162 dX12_init_161 rfl rfl ?_
  refine wg_bipush 164 dX12_init_162 rfl (v := nI 14) rfl ?_
  refine wg_newa (t := 0) (x := 132) (n' := 33) (kc' := 21) (ks' := 149) 166 dX12_init_164 rfl rfl (by decide) ac0 rfl rfl rfl (by decide) (by decide) (ha1.z (by decide)) rfl rfl ⟨by decide, by decide⟩ ?_
  refine wg_putr 169 dX12_init_166 rfl fbX12_77 (by decide) rfl (fun _ _ _ => rfl) (Or.inr ⟨rfl, rfl, rfl⟩) (fun _ => rfl) (fun _ => rfl) ?_
  have hg21 := (hg20.mono (show _ ≤ 133 by decide)).up (x := 111) (f := 31) (v := .ref 132) (by decide)
  exact wg_exit ⟨dX12_init_169, rfl, by decide, by decide, rfl, rfl, rfl⟩
theorem nl_g_X12_init_111 {z : Nat} {G : Nat → Nat → Value} (h : nl z G) (hz : 133 ≤ z) : nl z (g_X12_init_111 G) := by
  unfold g_X12_init_111
  exact (((((((((((((((((((((h).up (by omega)).up (by omega)).up (by omega)).up (by omega)).up (by omega)).up (by omega)).up (by omega)).up (by omega)).up (by omega)).up (by omega)).up (by omega)).up (by omega)).up (by omega)).up (by omega)).up (by omega)).up (by omega)).up (by omega)).up (by omega)).up (by omega)).up (by omega)).up (by omega)
