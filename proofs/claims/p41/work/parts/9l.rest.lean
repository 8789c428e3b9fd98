/-! The law's turns: stops and works. -/
theorem d0_1243 : decode (m_code 0) 1243 = .ok (.iload 13, 2) := by decide +kernel
theorem d0_1245 : decode (m_code 0) 1245 = .ok (.iconst 1, 1) := by decide +kernel
theorem d0_1246 : decode (m_code 0) 1246 = .ok (.ishr, 1) := by decide +kernel
theorem d0_1247 : decode (m_code 0) 1247 = .ok (.iconst 2, 1) := by decide +kernel
theorem d0_1248 : decode (m_code 0) 1248 = .ok (.invokestatic 61, 3) := by decide +kernel
theorem d0_1251 : decode (m_code 0) 1251 = .ok (.ifCond .ne 102, 3) := by decide +kernel
theorem d0_1254 : decode (m_code 0) 1254 = .ok (.aload 5, 2) := by decide +kernel
theorem d0_1256 : decode (m_code 0) 1256 = .ok (.iload 15, 2) := by decide +kernel
theorem d0_1258 : decode (m_code 0) 1258 = .ok (.iconst 5, 1) := by decide +kernel
theorem d0_1259 : decode (m_code 0) 1259 = .ok (.iadd, 1) := by decide +kernel
theorem d0_1260 : decode (m_code 0) 1260 = .ok (.iaload, 1) := by decide +kernel
theorem d0_1261 : decode (m_code 0) 1261 = .ok (.istore 16, 2) := by decide +kernel
theorem d0_1263 : decode (m_code 0) 1263 = .ok (.iload 16, 2) := by decide +kernel
theorem d0_1265 : decode (m_code 0) 1265 = .ok (.ifCond .ne 25, 3) := by decide +kernel
theorem d0_1268 : decode (m_code 0) 1268 = .ok (.aload 5, 2) := by decide +kernel
theorem d0_1270 : decode (m_code 0) 1270 = .ok (.iload 15, 2) := by decide +kernel
theorem d0_1272 : decode (m_code 0) 1272 = .ok (.iaload, 1) := by decide +kernel
theorem d0_1273 : decode (m_code 0) 1273 = .ok (.ifCond .lt 13, 3) := by decide +kernel
theorem d0_1276 : decode (m_code 0) 1276 = .ok (.aload 5, 2) := by decide +kernel
theorem d0_1278 : decode (m_code 0) 1278 = .ok (.iload 15, 2) := by decide +kernel
theorem d0_1280 : decode (m_code 0) 1280 = .ok (.iconst 3, 1) := by decide +kernel
theorem d0_1281 : decode (m_code 0) 1281 = .ok (.iadd, 1) := by decide +kernel
theorem d0_1282 : decode (m_code 0) 1282 = .ok (.iaload, 1) := by decide +kernel
theorem d0_1283 : decode (m_code 0) 1283 = .ok (.ifCond .ne 7, 3) := by decide +kernel
theorem d0_1286 : decode (m_code 0) 1286 = .ok (.iconst 1, 1) := by decide +kernel
theorem d0_1287 : decode (m_code 0) 1287 = .ok (.goto 4, 3) := by decide +kernel
theorem d0_1290 : decode (m_code 0) 1290 = .ok (.iconst 0, 1) := by decide +kernel
theorem d0_1291 : decode (m_code 0) 1291 = .ok (.istore 17, 2) := by decide +kernel
theorem d0_1293 : decode (m_code 0) 1293 = .ok (.aload_n 1, 1) := by decide +kernel
theorem d0_1294 : decode (m_code 0) 1294 = .ok (.iload 14, 2) := by decide +kernel
theorem d0_1296 : decode (m_code 0) 1296 = .ok (.invokevirtual 106, 3) := by decide +kernel
theorem d0_1299 : decode (m_code 0) 1299 = .ok (.iload 17, 2) := by decide +kernel
theorem d0_1301 : decode (m_code 0) 1301 = .ok (.ifCond .eq 8, 3) := by decide +kernel
theorem d0_1304 : decode (m_code 0) 1304 = .ok (.bipush (-5), 2) := by decide +kernel
theorem d0_1306 : decode (m_code 0) 1306 = .ok (.goto 5, 3) := by decide +kernel
theorem d0_1309 : decode (m_code 0) 1309 = .ok (.iload 16, 2) := by decide +kernel
theorem d0_1311 : decode (m_code 0) 1311 = .ok (.if_icmp .eq 5, 3) := by decide +kernel
theorem d0_1316 : decode (m_code 0) 1316 = .ok (.aload 5, 2) := by decide +kernel
theorem d0_1318 : decode (m_code 0) 1318 = .ok (.iload 15, 2) := by decide +kernel
theorem d0_1320 : decode (m_code 0) 1320 = .ok (.iconst 5, 1) := by decide +kernel
theorem d0_1321 : decode (m_code 0) 1321 = .ok (.iadd, 1) := by decide +kernel
theorem d0_1322 : decode (m_code 0) 1322 = .ok (.iconst 0, 1) := by decide +kernel
theorem d0_1323 : decode (m_code 0) 1323 = .ok (.iastore, 1) := by decide +kernel
theorem d0_1324 : decode (m_code 0) 1324 = .ok (.aload 5, 2) := by decide +kernel
theorem d0_1326 : decode (m_code 0) 1326 = .ok (.iload 15, 2) := by decide +kernel
theorem d0_1328 : decode (m_code 0) 1328 = .ok (.iconst 3, 1) := by decide +kernel
theorem d0_1329 : decode (m_code 0) 1329 = .ok (.iadd, 1) := by decide +kernel
theorem d0_1330 : decode (m_code 0) 1330 = .ok (.aload 5, 2) := by decide +kernel
theorem d0_1332 : decode (m_code 0) 1332 = .ok (.iload 15, 2) := by decide +kernel
theorem d0_1334 : decode (m_code 0) 1334 = .ok (.iaload, 1) := by decide +kernel
theorem d0_1335 : decode (m_code 0) 1335 = .ok (.ifCond .ge 13, 3) := by decide +kernel
theorem d0_1338 : decode (m_code 0) 1338 = .ok (.aload 5, 2) := by decide +kernel
theorem d0_1340 : decode (m_code 0) 1340 = .ok (.iload 15, 2) := by decide +kernel
theorem d0_1342 : decode (m_code 0) 1342 = .ok (.iconst 3, 1) := by decide +kernel
theorem d0_1343 : decode (m_code 0) 1343 = .ok (.iadd, 1) := by decide +kernel
theorem d0_1344 : decode (m_code 0) 1344 = .ok (.iaload, 1) := by decide +kernel
theorem d0_1345 : decode (m_code 0) 1345 = .ok (.goto 4, 3) := by decide +kernel
theorem d0_1348 : decode (m_code 0) 1348 = .ok (.iconst 0, 1) := by decide +kernel
theorem d0_1349 : decode (m_code 0) 1349 = .ok (.iastore, 1) := by decide +kernel
theorem d0_1350 : decode (m_code 0) 1350 = .ok (.goto 159, 3) := by decide +kernel
theorem d0_1353 : decode (m_code 0) 1353 = .ok (.iload 13, 2) := by decide +kernel
theorem d0_1355 : decode (m_code 0) 1355 = .ok (.iconst 2, 1) := by decide +kernel
theorem d0_1356 : decode (m_code 0) 1356 = .ok (.ishr, 1) := by decide +kernel
theorem d0_1357 : decode (m_code 0) 1357 = .ok (.iconst 2, 1) := by decide +kernel
theorem d0_1358 : decode (m_code 0) 1358 = .ok (.invokestatic 61, 3) := by decide +kernel
theorem d0_1361 : decode (m_code 0) 1361 = .ok (.istore 16, 2) := by decide +kernel
theorem d0_1363 : decode (m_code 0) 1363 = .ok (.iconst 1, 1) := by decide +kernel
theorem d0_1364 : decode (m_code 0) 1364 = .ok (.iload 13, 2) := by decide +kernel
theorem d0_1366 : decode (m_code 0) 1366 = .ok (.iconst 3, 1) := by decide +kernel
theorem d0_1367 : decode (m_code 0) 1367 = .ok (.ishr, 1) := by decide +kernel
theorem d0_1368 : decode (m_code 0) 1368 = .ok (.iconst 3, 1) := by decide +kernel
theorem d0_1369 : decode (m_code 0) 1369 = .ok (.invokestatic 61, 3) := by decide +kernel
theorem d0_1372 : decode (m_code 0) 1372 = .ok (.iadd, 1) := by decide +kernel
theorem d0_1373 : decode (m_code 0) 1373 = .ok (.istore 17, 2) := by decide +kernel
theorem d0_1375 : decode (m_code 0) 1375 = .ok (.aload 7, 2) := by decide +kernel
theorem d0_1377 : decode (m_code 0) 1377 = .ok (.iconst 5, 1) := by decide +kernel
theorem d0_1378 : decode (m_code 0) 1378 = .ok (.iload 16, 2) := by decide +kernel
theorem d0_1380 : decode (m_code 0) 1380 = .ok (.imul, 1) := by decide +kernel
theorem d0_1381 : decode (m_code 0) 1381 = .ok (.iconst 1, 1) := by decide +kernel
theorem d0_1382 : decode (m_code 0) 1382 = .ok (.iadd, 1) := by decide +kernel
theorem d0_1383 : decode (m_code 0) 1383 = .ok (.iaload, 1) := by decide +kernel
theorem d0_1384 : decode (m_code 0) 1384 = .ok (.iload 17, 2) := by decide +kernel
theorem d0_1386 : decode (m_code 0) 1386 = .ok (.aload 4, 2) := by decide +kernel
theorem d0_1388 : decode (m_code 0) 1388 = .ok (.invokestatic 10, 3) := by decide +kernel
theorem d0_1391 : decode (m_code 0) 1391 = .ok (.istore 18, 2) := by decide +kernel
theorem d0_1393 : decode (m_code 0) 1393 = .ok (.iload 18, 2) := by decide +kernel
theorem d0_1395 : decode (m_code 0) 1395 = .ok (.ifCond .lt 51, 3) := by decide +kernel
theorem d0_1398 : decode (m_code 0) 1398 = .ok (.aload 7, 2) := by decide +kernel
theorem d0_1400 : decode (m_code 0) 1400 = .ok (.iconst 5, 1) := by decide +kernel
theorem d0_1401 : decode (m_code 0) 1401 = .ok (.iload 16, 2) := by decide +kernel
theorem d0_1403 : decode (m_code 0) 1403 = .ok (.imul, 1) := by decide +kernel
theorem d0_1404 : decode (m_code 0) 1404 = .ok (.iconst 1, 1) := by decide +kernel
theorem d0_1405 : decode (m_code 0) 1405 = .ok (.iadd, 1) := by decide +kernel
theorem d0_1406 : decode (m_code 0) 1406 = .ok (.iaload, 1) := by decide +kernel
theorem d0_1407 : decode (m_code 0) 1407 = .ok (.iload 17, 2) := by decide +kernel
theorem d0_1409 : decode (m_code 0) 1409 = .ok (.if_icmp .eq 37, 3) := by decide +kernel
theorem d0_1412 : decode (m_code 0) 1412 = .ok (.aload 7, 2) := by decide +kernel
theorem d0_1414 : decode (m_code 0) 1414 = .ok (.iconst 5, 1) := by decide +kernel
theorem d0_1415 : decode (m_code 0) 1415 = .ok (.iload 16, 2) := by decide +kernel
theorem d0_1417 : decode (m_code 0) 1417 = .ok (.imul, 1) := by decide +kernel
theorem d0_1418 : decode (m_code 0) 1418 = .ok (.iconst 1, 1) := by decide +kernel
theorem d0_1419 : decode (m_code 0) 1419 = .ok (.iadd, 1) := by decide +kernel
theorem d0_1420 : decode (m_code 0) 1420 = .ok (.iaload, 1) := by decide +kernel
theorem d0_1421 : decode (m_code 0) 1421 = .ok (.aload 5, 2) := by decide +kernel
theorem d0_1423 : decode (m_code 0) 1423 = .ok (.invokestatic 24, 3) := by decide +kernel
theorem d0_1426 : decode (m_code 0) 1426 = .ok (.ifCond .eq 20, 3) := by decide +kernel
theorem d0_1429 : decode (m_code 0) 1429 = .ok (.aload 7, 2) := by decide +kernel
theorem d0_1431 : decode (m_code 0) 1431 = .ok (.iconst 5, 1) := by decide +kernel
theorem d0_1432 : decode (m_code 0) 1432 = .ok (.iload 16, 2) := by decide +kernel
theorem d0_1434 : decode (m_code 0) 1434 = .ok (.imul, 1) := by decide +kernel
theorem d0_1435 : decode (m_code 0) 1435 = .ok (.iconst 3, 1) := by decide +kernel
theorem d0_1436 : decode (m_code 0) 1436 = .ok (.iadd, 1) := by decide +kernel
theorem d0_1437 : decode (m_code 0) 1437 = .ok (.iaload, 1) := by decide +kernel
theorem d0_1438 : decode (m_code 0) 1438 = .ok (.iconst 2, 1) := by decide +kernel
theorem d0_1439 : decode (m_code 0) 1439 = .ok (.if_icmp .eq 7, 3) := by decide +kernel
theorem d0_1442 : decode (m_code 0) 1442 = .ok (.iconst 1, 1) := by decide +kernel
theorem d0_1443 : decode (m_code 0) 1443 = .ok (.goto 4, 3) := by decide +kernel
theorem d0_1446 : decode (m_code 0) 1446 = .ok (.iconst 0, 1) := by decide +kernel
theorem d0_1447 : decode (m_code 0) 1447 = .ok (.istore 19, 2) := by decide +kernel
theorem d0_1449 : decode (m_code 0) 1449 = .ok (.aload_n 1, 1) := by decide +kernel
theorem d0_1450 : decode (m_code 0) 1450 = .ok (.iload 16, 2) := by decide +kernel
theorem d0_1452 : decode (m_code 0) 1452 = .ok (.iload 17, 2) := by decide +kernel
theorem d0_1454 : decode (m_code 0) 1454 = .ok (.invokevirtual 109, 3) := by decide +kernel
theorem d0_1457 : decode (m_code 0) 1457 = .ok (.iload 19, 2) := by decide +kernel
theorem d0_1459 : decode (m_code 0) 1459 = .ok (.ifCond .eq 15, 3) := by decide +kernel
theorem d0_1462 : decode (m_code 0) 1462 = .ok (.aload 4, 2) := by decide +kernel
theorem d0_1464 : decode (m_code 0) 1464 = .ok (.iconst 4, 1) := by decide +kernel
theorem d0_1465 : decode (m_code 0) 1465 = .ok (.iload 18, 2) := by decide +kernel
theorem d0_1467 : decode (m_code 0) 1467 = .ok (.imul, 1) := by decide +kernel
theorem d0_1468 : decode (m_code 0) 1468 = .ok (.iconst 2, 1) := by decide +kernel
theorem d0_1469 : decode (m_code 0) 1469 = .ok (.iadd, 1) := by decide +kernel
theorem d0_1470 : decode (m_code 0) 1470 = .ok (.iaload, 1) := by decide +kernel
theorem d0_1471 : decode (m_code 0) 1471 = .ok (.goto 5, 3) := by decide +kernel
theorem d0_1474 : decode (m_code 0) 1474 = .ok (.bipush (-4), 2) := by decide +kernel
theorem d0_1476 : decode (m_code 0) 1476 = .ok (.if_icmp .eq 5, 3) := by decide +kernel
theorem d0_1481 : decode (m_code 0) 1481 = .ok (.aload 7, 2) := by decide +kernel
theorem d0_1483 : decode (m_code 0) 1483 = .ok (.iconst 5, 1) := by decide +kernel
theorem d0_1484 : decode (m_code 0) 1484 = .ok (.iload 16, 2) := by decide +kernel
theorem d0_1486 : decode (m_code 0) 1486 = .ok (.imul, 1) := by decide +kernel
theorem d0_1487 : decode (m_code 0) 1487 = .ok (.iconst 1, 1) := by decide +kernel
theorem d0_1488 : decode (m_code 0) 1488 = .ok (.iadd, 1) := by decide +kernel
theorem d0_1489 : decode (m_code 0) 1489 = .ok (.iload 19, 2) := by decide +kernel
theorem d0_1491 : decode (m_code 0) 1491 = .ok (.ifCond .eq 8, 3) := by decide +kernel
theorem d0_1494 : decode (m_code 0) 1494 = .ok (.iload 17, 2) := by decide +kernel
theorem d0_1496 : decode (m_code 0) 1496 = .ok (.goto 12, 3) := by decide +kernel
theorem d0_1499 : decode (m_code 0) 1499 = .ok (.aload 7, 2) := by decide +kernel
theorem d0_1501 : decode (m_code 0) 1501 = .ok (.iconst 5, 1) := by decide +kernel
theorem d0_1502 : decode (m_code 0) 1502 = .ok (.iload 16, 2) := by decide +kernel
theorem d0_1504 : decode (m_code 0) 1504 = .ok (.imul, 1) := by decide +kernel
theorem d0_1505 : decode (m_code 0) 1505 = .ok (.iconst 1, 1) := by decide +kernel
theorem d0_1506 : decode (m_code 0) 1506 = .ok (.iadd, 1) := by decide +kernel
theorem d0_1507 : decode (m_code 0) 1507 = .ok (.iaload, 1) := by decide +kernel
theorem d0_1508 : decode (m_code 0) 1508 = .ok (.iastore, 1) := by decide +kernel
theorem D5_self {a : Nat} (h : a < 4) : D5 a a = -1 := by
  rcases (show a = 0 ∨ a = 1 ∨ a = 2 ∨ a = 3 by omega) with rfl | rfl | rfl | rfl <;> decide
theorem lw_stop {L : Nat} {xs : Nat → Int32} {Q : Option Value → mH → Prop} {h : mH} {σ : Nat → Int32} {S : Nat → Nat → Int32} {mi na t : Nat} (hL9 : L ≤ 260) (hw : Wm h σ S mi na) {y : Int32} {g : Nat} (hg : g < 2) {l11 l12 l16 l17 l18 l19 l20 l21 : Option Value} (K : ∀ h1 σ1 S1 mi1 na1, Wm h1 σ1 S1 mi1 na1 → ∀ x11 x12 x13 x14 x15 x16 x17 x18 x19 x20 x21, m_wp (L, xs) 0 1509 [some (.float 0), some (.ref 0), some (.ref 313), some (.ref 314), some (.ref 315), some (.ref 316), some (.ref 317), some (.ref 318), some (.ref 319), some (.ref 320), some (.int (nI t)), x11, x12, x13, x14, x15, x16, x17, x18, x19, x20, x21] [] h1 Q) : m_wp (L, xs) 0 1254 [some (.float 0), some (.ref 0), some (.ref 313), some (.ref 314), some (.ref 315), some (.ref 316), some (.ref 317), some (.ref 318), some (.ref 319), some (.ref 320), some (.int (nI t)), l11, l12, some (.int (y)), some (.int (nI g)), some (.int (nI (10 * g))), l16, l17, l18, l19, l20, l21] [] h Q := by
  obtain ⟨hI, hL, hQ, hmi, hna⟩ := hw
  have hF : Frm h h 313 8 := Frm.rf
  obtain ⟨fs0, h00⟩ := hI.at0
  obtain ⟨m, m8, hm, hO9⟩ := hQ.2.2.2.2.2.2.2.2.1 g hg
  obtain ⟨hg1, hg0⟩ := hQ.2.2.2.2.2.2.1 g hg
  have s5 : S 3 (10 * g + 5) = nI m := (hg1 5 (by omega) (by omega)).trans hm
  obtain ⟨Mc, Tc, cc, hC⟩ := hI.cp
  obtain ⟨-, -, -, p4⟩ := hC.2.2.2.2.2.2.1 g hg
  rcases p4 with ⟨r, s, r4, s9, e0, -, -, -, -, e3, -⟩ | ⟨t2, l, s, t4, -, -, -, e0, -, -, -, -, -, e3, -⟩
  · have s0 : S 3 (10 * g) = nI r := by
      rcases hg0 with ⟨z, -⟩ | ⟨r2, -, z2, z3⟩
      · exact absurd (e0.symm.trans z) (nI_ne5 (by omega))
      · exact z3.trans (z2.symm.trans e0)
    have s3 : S 3 (10 * g + 3) = nI s := (hg1 3 (by omega) (by omega)).trans e3
    refine wp_aload d0_1254 rfl ?_
    refine wp_iload d0_1256 rfl ?_
    refine wp_iconst d0_1258 (v := nI 5) (by decide) ?_
    refine wp_iaddv d0_1259 (v := nI (10 * g + 5)) (nI_add _ _) ?_
    refine wp_iald d0_1260 (la_3 hL) (nI_in (by omega) (by decide)) (v := nI m) ((congrArg (S 3) (nI_nat (by omega))).trans s5) ?_
    refine wp_istore d0_1261 (Nat.le_of_ble_eq_true rfl) rfl ?_
    refine wp_iload d0_1263 rfl ?_
    refine wp_if_ne d0_1265 (tgt := 1290) (by decide) (fun hc1265 => ?_) (fun hc1265 => ?_)
    · have hc1265 : ¬ (m = 0) := fun z => hc1265 ((nI_e0 (by omega)).mpr z)
      refine wp_iconst d0_1290 (v := nI 0) (by decide) ?_
      refine wp_istore d0_1291 (Nat.le_of_ble_eq_true rfl) rfl ?_
      refine wp_aload_n d0_1293 rfl ?_
      refine wp_iload d0_1294 rfl ?_
      refine wp_invv (e := 106) (j2 := 78) (n := 1) d0_1296 (by decide +kernel) (by decide +kernel) rfl rfl rfl ((hF.2.2 0 (Or.inl (by omega))).trans h00) (by decide +kernel) (Nat.le_of_ble_eq_true rfl) rfl rfl (Nat.le_of_ble_eq_true rfl) (by decide +kernel) (cl_stop_y (hI.ref hF) (g := g) (m := m) hg hm (by omega) (fun q => hc1265 q.1)) (fun v h hq => ?_)
      obtain ⟨rfl, hI, hO⟩ := hq
      show m_wp (L, xs) 0 _ _ [.int _] _ _
      have hL := hL.oth hO
      have hF : Frm h h 313 8 := Frm.rf
      obtain ⟨fs0, h00⟩ := hI.at0
      refine wp_iload d0_1299 rfl ?_
      refine wp_if_eq d0_1301 (tgt := 1309) (by decide) (fun _ => ?_) (fun hz => absurd hz (by decide))
      refine wp_iload d0_1309 rfl ?_
      refine wp_icmp_eq d0_1311 (tgt := 1316) (by decide) (fun _ => ?_) (fun hq9 => absurd rfl hq9)
      refine wp_aload d0_1316 rfl ?_
      refine wp_iload d0_1318 rfl ?_
      refine wp_iconst d0_1320 (v := nI 5) (by decide) ?_
      refine wp_iaddv d0_1321 (v := nI (10 * g + 5)) (nI_add _ _) ?_
      refine wp_iconst d0_1322 (v := nI 0) (by decide) ?_
      refine wp_iast d0_1323 (la_3 hL) (nI_in (by omega) (by decide)) ?_
      refine l_step (o := 3) (i := 10 * g + 5) (v := nI 0) hL hF (by decide) (by rw [nI_nat (by omega)]; rfl) (fun h hL hF => ?_)
      refine wp_aload d0_1324 rfl ?_
      refine wp_iload d0_1326 rfl ?_
      refine wp_iconst d0_1328 (v := nI 3) (by decide) ?_
      refine wp_iaddv d0_1329 (v := nI (10 * g + 3)) (nI_add _ _) ?_
      refine wp_aload d0_1330 rfl ?_
      refine wp_iload d0_1332 rfl ?_
      refine wp_iald d0_1334 (la_3 hL) (nI_in (by omega) (by decide)) (v := nI r) ((congrArg ((updM S 3 (10 * g + 5) (nI 0)) 3) (nI_nat (by omega))).trans ((updM_diff (by omega)).trans s0)) ?_
      refine wp_if_ge d0_1335 (tgt := 1348) (by decide) (fun _ => ?_) (fun hq9 => absurd (nI_pos' (by omega)) hq9)
      refine wp_iconst d0_1348 (v := nI 0) (by decide) ?_
      refine wp_iast d0_1349 (la_3 hL) (nI_in (by omega) (by decide)) ?_
      refine l_step (o := 3) (i := 10 * g + 3) (v := nI 0) hL hF (by decide) (by rw [nI_nat (by omega)]; rfl) (fun h hL hF => ?_)
      refine wp_goto d0_1350 (tgt := 1509) (by decide) ?_
      exact K _ _ _ _ _ ⟨hI.ref hF, hL, (hQ.stops hg (by omega) (by omega) rfl), hmi, hna⟩ _ _ _ _ _ _ _ _ _ _ _
    · have hc1265 : m = 0 := (nI_e0 (by omega)).mp hc1265
      refine wp_aload d0_1268 rfl ?_
      refine wp_iload d0_1270 rfl ?_
      refine wp_iald d0_1272 (la_3 hL) (nI_in (by omega) (by decide)) (v := nI r) ((congrArg (S 3) (nI_nat (by omega))).trans s0) ?_
      refine wp_if_lt d0_1273 (tgt := 1286) (by decide) (fun hq9 => absurd hq9 (Int32.not_lt.mpr (nI_pos' (by omega)))) (fun _ => ?_)
      refine wp_aload d0_1276 rfl ?_
      refine wp_iload d0_1278 rfl ?_
      refine wp_iconst d0_1280 (v := nI 3) (by decide) ?_
      refine wp_iaddv d0_1281 (v := nI (10 * g + 3)) (nI_add _ _) ?_
      refine wp_iald d0_1282 (la_3 hL) (nI_in (by omega) (by decide)) (v := nI s) ((congrArg (S 3) (nI_nat (by omega))).trans s3) ?_
      refine wp_if_ne d0_1283 (tgt := 1290) (by decide) (fun hc1283 => ?_) (fun hc1283 => ?_)
      · have hc1283 : ¬ (s = 0) := fun z => hc1283 ((nI_e0 (by omega)).mpr z)
        refine wp_iconst d0_1290 (v := nI 0) (by decide) ?_
        refine wp_istore d0_1291 (Nat.le_of_ble_eq_true rfl) rfl ?_
        refine wp_aload_n d0_1293 rfl ?_
        refine wp_iload d0_1294 rfl ?_
        refine wp_invv (e := 106) (j2 := 78) (n := 1) d0_1296 (by decide +kernel) (by decide +kernel) rfl rfl rfl ((hF.2.2 0 (Or.inl (by omega))).trans h00) (by decide +kernel) (Nat.le_of_ble_eq_true rfl) rfl rfl (Nat.le_of_ble_eq_true rfl) (by decide +kernel) (cl_stop_y (hI.ref hF) (g := g) (m := m) hg hm (by omega) (fun q => hc1283 ((nI_e0 (by omega)).mp (e3.symm.trans q.2)))) (fun v h hq => ?_)
        obtain ⟨rfl, hI, hO⟩ := hq
        show m_wp (L, xs) 0 _ _ [.int _] _ _
        have hL := hL.oth hO
        have hF : Frm h h 313 8 := Frm.rf
        obtain ⟨fs0, h00⟩ := hI.at0
        refine wp_iload d0_1299 rfl ?_
        refine wp_if_eq d0_1301 (tgt := 1309) (by decide) (fun _ => ?_) (fun hz => absurd hz (by decide))
        refine wp_iload d0_1309 rfl ?_
        refine wp_icmp_eq d0_1311 (tgt := 1316) (by decide) (fun _ => ?_) (fun hq9 => absurd rfl hq9)
        refine wp_aload d0_1316 rfl ?_
        refine wp_iload d0_1318 rfl ?_
        refine wp_iconst d0_1320 (v := nI 5) (by decide) ?_
        refine wp_iaddv d0_1321 (v := nI (10 * g + 5)) (nI_add _ _) ?_
        refine wp_iconst d0_1322 (v := nI 0) (by decide) ?_
        refine wp_iast d0_1323 (la_3 hL) (nI_in (by omega) (by decide)) ?_
        refine l_step (o := 3) (i := 10 * g + 5) (v := nI 0) hL hF (by decide) (by rw [nI_nat (by omega)]; rfl) (fun h hL hF => ?_)
        refine wp_aload d0_1324 rfl ?_
        refine wp_iload d0_1326 rfl ?_
        refine wp_iconst d0_1328 (v := nI 3) (by decide) ?_
        refine wp_iaddv d0_1329 (v := nI (10 * g + 3)) (nI_add _ _) ?_
        refine wp_aload d0_1330 rfl ?_
        refine wp_iload d0_1332 rfl ?_
        refine wp_iald d0_1334 (la_3 hL) (nI_in (by omega) (by decide)) (v := nI r) ((congrArg ((updM S 3 (10 * g + 5) (nI 0)) 3) (nI_nat (by omega))).trans ((updM_diff (by omega)).trans s0)) ?_
        refine wp_if_ge d0_1335 (tgt := 1348) (by decide) (fun _ => ?_) (fun hq9 => absurd (nI_pos' (by omega)) hq9)
        refine wp_iconst d0_1348 (v := nI 0) (by decide) ?_
        refine wp_iast d0_1349 (la_3 hL) (nI_in (by omega) (by decide)) ?_
        refine l_step (o := 3) (i := 10 * g + 3) (v := nI 0) hL hF (by decide) (by rw [nI_nat (by omega)]; rfl) (fun h hL hF => ?_)
        refine wp_goto d0_1350 (tgt := 1509) (by decide) ?_
        exact K _ _ _ _ _ ⟨hI.ref hF, hL, (hQ.stops hg (by omega) (by omega) rfl), hmi, hna⟩ _ _ _ _ _ _ _ _ _ _ _
      · have hc1283 : s = 0 := (nI_e0 (by omega)).mp hc1283
        refine wp_iconst d0_1286 (v := nI 1) (by decide) ?_
        refine wp_goto d0_1287 (tgt := 1291) (by decide) ?_
        refine wp_istore d0_1291 (Nat.le_of_ble_eq_true rfl) rfl ?_
        refine wp_aload_n d0_1293 rfl ?_
        refine wp_iload d0_1294 rfl ?_
        refine wp_invv (e := 106) (j2 := 78) (n := 1) d0_1296 (by decide +kernel) (by decide +kernel) rfl rfl rfl ((hF.2.2 0 (Or.inl (by omega))).trans h00) (by decide +kernel) (Nat.le_of_ble_eq_true rfl) rfl rfl (Nat.le_of_ble_eq_true rfl) (by decide +kernel) (cl_stop_n (hI.ref hF) (g := g) (m := m) hg hm (by omega) hc1265 (e3.trans (by rw [hc1283]; rfl))) (fun v h hq => ?_)
        obtain ⟨rfl, hI, hO⟩ := hq
        show m_wp (L, xs) 0 _ _ [.int _] _ _
        have hL := hL.oth hO
        have hF : Frm h h 313 8 := Frm.rf
        obtain ⟨fs0, h00⟩ := hI.at0
        refine wp_iload d0_1299 rfl ?_
        refine wp_if_eq d0_1301 (tgt := 1309) (by decide) (fun hz => absurd hz (by decide)) (fun _ => ?_)
        refine wp_bipush d0_1304 (v := (-5 : Int32)) (by decide) ?_
        refine wp_goto d0_1306 (tgt := 1311) (by decide) ?_
        refine wp_icmp_eq d0_1311 (tgt := 1316) (by decide) (fun _ => ?_) (fun hz => absurd hz (by decide))
        refine wp_aload d0_1316 rfl ?_
        refine wp_iload d0_1318 rfl ?_
        refine wp_iconst d0_1320 (v := nI 5) (by decide) ?_
        refine wp_iaddv d0_1321 (v := nI (10 * g + 5)) (nI_add _ _) ?_
        refine wp_iconst d0_1322 (v := nI 0) (by decide) ?_
        refine wp_iast d0_1323 (la_3 hL) (nI_in (by omega) (by decide)) ?_
        refine l_step (o := 3) (i := 10 * g + 5) (v := nI 0) hL hF (by decide) (by rw [nI_nat (by omega)]; rfl) (fun h hL hF => ?_)
        refine wp_aload d0_1324 rfl ?_
        refine wp_iload d0_1326 rfl ?_
        refine wp_iconst d0_1328 (v := nI 3) (by decide) ?_
        refine wp_iaddv d0_1329 (v := nI (10 * g + 3)) (nI_add _ _) ?_
        refine wp_aload d0_1330 rfl ?_
        refine wp_iload d0_1332 rfl ?_
        refine wp_iald d0_1334 (la_3 hL) (nI_in (by omega) (by decide)) (v := nI r) ((congrArg ((updM S 3 (10 * g + 5) (nI 0)) 3) (nI_nat (by omega))).trans ((updM_diff (by omega)).trans s0)) ?_
        refine wp_if_ge d0_1335 (tgt := 1348) (by decide) (fun _ => ?_) (fun hq9 => absurd (nI_pos' (by omega)) hq9)
        refine wp_iconst d0_1348 (v := nI 0) (by decide) ?_
        refine wp_iast d0_1349 (la_3 hL) (nI_in (by omega) (by decide)) ?_
        refine l_step (o := 3) (i := 10 * g + 3) (v := nI 0) hL hF (by decide) (by rw [nI_nat (by omega)]; rfl) (fun h hL hF => ?_)
        refine wp_goto d0_1350 (tgt := 1509) (by decide) ?_
        rw [updM_id (S := S) (o := 3) (i := 10 * g + 5) (v := nI 0) (by rw [s5, hc1265]), updM_id (S := S) (o := 3) (i := 10 * g + 3) (v := nI 0) (by rw [s3, hc1283])] at hL
        exact K _ _ _ _ _ ⟨hI.ref hF, hL, hQ, hmi, hna⟩ _ _ _ _ _ _ _ _ _ _ _
  · have s0 : S 3 (10 * g) = -1 := by
      rcases hg0 with ⟨-, z, -⟩ | ⟨r2, r4, z2, -⟩
      · exact z
      · exact absurd (z2.symm.trans e0) (nI_ne5 (by omega))
    have s3 : S 3 (10 * g + 3) = nI 0 := (hg1 3 (by omega) (by omega)).trans e3
    refine wp_aload d0_1254 rfl ?_
    refine wp_iload d0_1256 rfl ?_
    refine wp_iconst d0_1258 (v := nI 5) (by decide) ?_
    refine wp_iaddv d0_1259 (v := nI (10 * g + 5)) (nI_add _ _) ?_
    refine wp_iald d0_1260 (la_3 hL) (nI_in (by omega) (by decide)) (v := nI m) ((congrArg (S 3) (nI_nat (by omega))).trans s5) ?_
    refine wp_istore d0_1261 (Nat.le_of_ble_eq_true rfl) rfl ?_
    refine wp_iload d0_1263 rfl ?_
    refine wp_if_ne d0_1265 (tgt := 1290) (by decide) (fun hc1265 => ?_) (fun hc1265 => ?_)
    · have hc1265 : ¬ (m = 0) := fun z => hc1265 ((nI_e0 (by omega)).mpr z)
      refine wp_iconst d0_1290 (v := nI 0) (by decide) ?_
      refine wp_istore d0_1291 (Nat.le_of_ble_eq_true rfl) rfl ?_
      refine wp_aload_n d0_1293 rfl ?_
      refine wp_iload d0_1294 rfl ?_
      refine wp_invv (e := 106) (j2 := 78) (n := 1) d0_1296 (by decide +kernel) (by decide +kernel) rfl rfl rfl ((hF.2.2 0 (Or.inl (by omega))).trans h00) (by decide +kernel) (Nat.le_of_ble_eq_true rfl) rfl rfl (Nat.le_of_ble_eq_true rfl) (by decide +kernel) (cl_stop_y (hI.ref hF) (g := g) (m := m) hg hm (by omega) (fun q => hc1265 q.1)) (fun v h hq => ?_)
      obtain ⟨rfl, hI, hO⟩ := hq
      show m_wp (L, xs) 0 _ _ [.int _] _ _
      have hL := hL.oth hO
      have hF : Frm h h 313 8 := Frm.rf
      obtain ⟨fs0, h00⟩ := hI.at0
      refine wp_iload d0_1299 rfl ?_
      refine wp_if_eq d0_1301 (tgt := 1309) (by decide) (fun _ => ?_) (fun hz => absurd hz (by decide))
      refine wp_iload d0_1309 rfl ?_
      refine wp_icmp_eq d0_1311 (tgt := 1316) (by decide) (fun _ => ?_) (fun hq9 => absurd rfl hq9)
      refine wp_aload d0_1316 rfl ?_
      refine wp_iload d0_1318 rfl ?_
      refine wp_iconst d0_1320 (v := nI 5) (by decide) ?_
      refine wp_iaddv d0_1321 (v := nI (10 * g + 5)) (nI_add _ _) ?_
      refine wp_iconst d0_1322 (v := nI 0) (by decide) ?_
      refine wp_iast d0_1323 (la_3 hL) (nI_in (by omega) (by decide)) ?_
      refine l_step (o := 3) (i := 10 * g + 5) (v := nI 0) hL hF (by decide) (by rw [nI_nat (by omega)]; rfl) (fun h hL hF => ?_)
      refine wp_aload d0_1324 rfl ?_
      refine wp_iload d0_1326 rfl ?_
      refine wp_iconst d0_1328 (v := nI 3) (by decide) ?_
      refine wp_iaddv d0_1329 (v := nI (10 * g + 3)) (nI_add _ _) ?_
      refine wp_aload d0_1330 rfl ?_
      refine wp_iload d0_1332 rfl ?_
      refine wp_iald d0_1334 (la_3 hL) (nI_in (by omega) (by decide)) (v := (-1 : Int32)) ((congrArg ((updM S 3 (10 * g + 5) (nI 0)) 3) (nI_nat (by omega))).trans ((updM_diff (by omega)).trans s0)) ?_
      refine wp_if_ge d0_1335 (tgt := 1348) (by decide) (fun hq9 => absurd hq9 (by decide)) (fun _ => ?_)
      refine wp_aload d0_1338 rfl ?_
      refine wp_iload d0_1340 rfl ?_
      refine wp_iconst d0_1342 (v := nI 3) (by decide) ?_
      refine wp_iaddv d0_1343 (v := nI (10 * g + 3)) (nI_add _ _) ?_
      refine wp_iald d0_1344 (la_3 hL) (nI_in (by omega) (by decide)) (v := nI 0) ((congrArg ((updM S 3 (10 * g + 5) (nI 0)) 3) (nI_nat (by omega))).trans ((updM_diff (by omega)).trans s3)) ?_
      refine wp_goto d0_1345 (tgt := 1349) (by decide) ?_
      refine wp_iast d0_1349 (la_3 hL) (nI_in (by omega) (by decide)) ?_
      refine l_step (o := 3) (i := 10 * g + 3) (v := nI 0) hL hF (by decide) (by rw [nI_nat (by omega)]; rfl) (fun h hL hF => ?_)
      refine wp_goto d0_1350 (tgt := 1509) (by decide) ?_
      exact K _ _ _ _ _ ⟨hI.ref hF, hL, (hQ.stops hg (by omega) (by omega) rfl), hmi, hna⟩ _ _ _ _ _ _ _ _ _ _ _
    · have hc1265 : m = 0 := (nI_e0 (by omega)).mp hc1265
      refine wp_aload d0_1268 rfl ?_
      refine wp_iload d0_1270 rfl ?_
      refine wp_iald d0_1272 (la_3 hL) (nI_in (by omega) (by decide)) (v := (-1 : Int32)) ((congrArg (S 3) (nI_nat (by omega))).trans s0) ?_
      refine wp_if_lt d0_1273 (tgt := 1286) (by decide) (fun _ => ?_) (fun hq9 => absurd (by decide) hq9)
      refine wp_iconst d0_1286 (v := nI 1) (by decide) ?_
      refine wp_goto d0_1287 (tgt := 1291) (by decide) ?_
      refine wp_istore d0_1291 (Nat.le_of_ble_eq_true rfl) rfl ?_
      refine wp_aload_n d0_1293 rfl ?_
      refine wp_iload d0_1294 rfl ?_
      refine wp_invv (e := 106) (j2 := 78) (n := 1) d0_1296 (by decide +kernel) (by decide +kernel) rfl rfl rfl ((hF.2.2 0 (Or.inl (by omega))).trans h00) (by decide +kernel) (Nat.le_of_ble_eq_true rfl) rfl rfl (Nat.le_of_ble_eq_true rfl) (by decide +kernel) (cl_stop_n (hI.ref hF) (g := g) (m := m) hg hm (by omega) hc1265 e3) (fun v h hq => ?_)
      obtain ⟨rfl, hI, hO⟩ := hq
      show m_wp (L, xs) 0 _ _ [.int _] _ _
      have hL := hL.oth hO
      have hF : Frm h h 313 8 := Frm.rf
      obtain ⟨fs0, h00⟩ := hI.at0
      refine wp_iload d0_1299 rfl ?_
      refine wp_if_eq d0_1301 (tgt := 1309) (by decide) (fun hz => absurd hz (by decide)) (fun _ => ?_)
      refine wp_bipush d0_1304 (v := (-5 : Int32)) (by decide) ?_
      refine wp_goto d0_1306 (tgt := 1311) (by decide) ?_
      refine wp_icmp_eq d0_1311 (tgt := 1316) (by decide) (fun _ => ?_) (fun hz => absurd hz (by decide))
      refine wp_aload d0_1316 rfl ?_
      refine wp_iload d0_1318 rfl ?_
      refine wp_iconst d0_1320 (v := nI 5) (by decide) ?_
      refine wp_iaddv d0_1321 (v := nI (10 * g + 5)) (nI_add _ _) ?_
      refine wp_iconst d0_1322 (v := nI 0) (by decide) ?_
      refine wp_iast d0_1323 (la_3 hL) (nI_in (by omega) (by decide)) ?_
      refine l_step (o := 3) (i := 10 * g + 5) (v := nI 0) hL hF (by decide) (by rw [nI_nat (by omega)]; rfl) (fun h hL hF => ?_)
      refine wp_aload d0_1324 rfl ?_
      refine wp_iload d0_1326 rfl ?_
      refine wp_iconst d0_1328 (v := nI 3) (by decide) ?_
      refine wp_iaddv d0_1329 (v := nI (10 * g + 3)) (nI_add _ _) ?_
      refine wp_aload d0_1330 rfl ?_
      refine wp_iload d0_1332 rfl ?_
      refine wp_iald d0_1334 (la_3 hL) (nI_in (by omega) (by decide)) (v := (-1 : Int32)) ((congrArg ((updM S 3 (10 * g + 5) (nI 0)) 3) (nI_nat (by omega))).trans ((updM_diff (by omega)).trans s0)) ?_
      refine wp_if_ge d0_1335 (tgt := 1348) (by decide) (fun hq9 => absurd hq9 (by decide)) (fun _ => ?_)
      refine wp_aload d0_1338 rfl ?_
      refine wp_iload d0_1340 rfl ?_
      refine wp_iconst d0_1342 (v := nI 3) (by decide) ?_
      refine wp_iaddv d0_1343 (v := nI (10 * g + 3)) (nI_add _ _) ?_
      refine wp_iald d0_1344 (la_3 hL) (nI_in (by omega) (by decide)) (v := nI 0) ((congrArg ((updM S 3 (10 * g + 5) (nI 0)) 3) (nI_nat (by omega))).trans ((updM_diff (by omega)).trans s3)) ?_
      refine wp_goto d0_1345 (tgt := 1349) (by decide) ?_
      refine wp_iast d0_1349 (la_3 hL) (nI_in (by omega) (by decide)) ?_
      refine l_step (o := 3) (i := 10 * g + 3) (v := nI 0) hL hF (by decide) (by rw [nI_nat (by omega)]; rfl) (fun h hL hF => ?_)
      refine wp_goto d0_1350 (tgt := 1509) (by decide) ?_
      rw [updM_id (S := S) (o := 3) (i := 10 * g + 5) (v := nI 0) (by rw [s5, hc1265]), updM_id (S := S) (o := 3) (i := 10 * g + 3) (v := nI 0) (by rw [s3])] at hL
      exact K _ _ _ _ _ ⟨hI.ref hF, hL, hQ, hmi, hna⟩ _ _ _ _ _ _ _ _ _ _ _
theorem lw_m1 {L : Nat} {xs : Nat → Int32} {Q : Option Value → mH → Prop} {h : mH} {σ : Nat → Int32} {S : Nat → Nat → Int32} {mi na t : Nat} (hL9 : L ≤ 260) (hw : Wm h σ S mi na) {y : Int32} {g : Nat} {l11 l12 l16 l17 l18 l19 l20 l21 : Option Value} (K : ∀ w0 r, w0 < 2 → 0 < r → r < 4 → m_wp (L, xs) 0 1375 [some (.float 0), some (.ref 0), some (.ref 313), some (.ref 314), some (.ref 315), some (.ref 316), some (.ref 317), some (.ref 318), some (.ref 319), some (.ref 320), some (.int (nI t)), l11, l12, some (.int (y)), some (.int (nI g)), some (.int (nI (10 * g))), some (.int (nI w0)), some (.int (nI r)), l18, l19, l20, l21] [] h Q) : m_wp (L, xs) 0 1353 [some (.float 0), some (.ref 0), some (.ref 313), some (.ref 314), some (.ref 315), some (.ref 316), some (.ref 317), some (.ref 318), some (.ref 319), some (.ref 320), some (.int (nI t)), l11, l12, some (.int (y)), some (.int (nI g)), some (.int (nI (10 * g))), l16, l17, l18, l19, l20, l21] [] h Q := by
  obtain ⟨hI, hL, hQ, hmi, hna⟩ := hw
  have hF : Frm h h 313 8 := Frm.rf
  obtain ⟨fs0, h00⟩ := hI.at0
  refine wp_iload d0_1353 rfl ?_
  refine wp_iconst d0_1355 (v := nI 2) (by decide) ?_
  refine wp_ishr d0_1356 ?_
  refine wp_iconst d0_1357 (v := nI 2) (by decide) ?_
  refine wp_invsT (e := 61) (j2 := 293) (n := 2) d0_1358 (by decide +kernel) (by decide +kernel) rfl rfl rfl (Nat.le_of_ble_eq_true rfl) (Nat.le_of_ble_eq_true rfl) rfl rfl (Nat.le_of_ble_eq_true rfl) (by decide +kernel) (k_lowD ((y >>> ((nI 2) &&& 31))) (n := 2) (by decide) (by decide)) ?_
  obtain ⟨w0, hw0, ew0⟩ : ∃ v9, v9 < 2 ∧ lowN ((y >>> ((nI 2) &&& 31))) 2 = v9 := ⟨_, lowN_lt _ (by decide), rfl⟩
  rw [ew0]
  refine wp_istore d0_1361 (Nat.le_of_ble_eq_true rfl) rfl ?_
  refine wp_iconst d0_1363 (v := nI 1) (by decide) ?_
  refine wp_iload d0_1364 rfl ?_
  refine wp_iconst d0_1366 (v := nI 3) (by decide) ?_
  refine wp_ishr d0_1367 ?_
  refine wp_iconst d0_1368 (v := nI 3) (by decide) ?_
  refine wp_invsT (e := 61) (j2 := 293) (n := 2) d0_1369 (by decide +kernel) (by decide +kernel) rfl rfl rfl (Nat.le_of_ble_eq_true rfl) (Nat.le_of_ble_eq_true rfl) rfl rfl (Nat.le_of_ble_eq_true rfl) (by decide +kernel) (k_lowD ((y >>> ((nI 3) &&& 31))) (n := 3) (by decide) (by decide)) ?_
  obtain ⟨rm, hrm, erm⟩ : ∃ v9, v9 < 3 ∧ lowN ((y >>> ((nI 3) &&& 31))) 3 = v9 := ⟨_, lowN_lt _ (by decide), rfl⟩
  rw [erm]
  refine wp_iaddv d0_1372 (v := nI (1 + rm)) (nI_add _ _) ?_
  refine wp_istore d0_1373 (Nat.le_of_ble_eq_true rfl) rfl ?_
  exact K w0 (1 + rm) hw0 (by omega) (by omega)
theorem lw_m2 {L : Nat} {xs : Nat → Int32} {Q : Option Value → mH → Prop} {h : mH} {σ : Nat → Int32} {S : Nat → Nat → Int32} {mi na t : Nat} (hL9 : L ≤ 260) (hw : Wm h σ S mi na) {y : Int32} {g w0 r : Nat} (hw0 : w0 < 2) (hr0 : 0 < r) (hr : r < 4) {l11 l12 l18 l19 l20 l21 : Option Value} (K : ∀ h1 σ1 S1 mi1 na1, Wm h1 σ1 S1 mi1 na1 → ∀ x11 x12 x13 x14 x15 x16 x17 x18 x19 x20 x21, m_wp (L, xs) 0 1509 [some (.float 0), some (.ref 0), some (.ref 313), some (.ref 314), some (.ref 315), some (.ref 316), some (.ref 317), some (.ref 318), some (.ref 319), some (.ref 320), some (.int (nI t)), x11, x12, x13, x14, x15, x16, x17, x18, x19, x20, x21] [] h1 Q) : m_wp (L, xs) 0 1375 [some (.float 0), some (.ref 0), some (.ref 313), some (.ref 314), some (.ref 315), some (.ref 316), some (.ref 317), some (.ref 318), some (.ref 319), some (.ref 320), some (.int (nI t)), l11, l12, some (.int (y)), some (.int (nI g)), some (.int (nI (10 * g))), some (.int (nI w0)), some (.int (nI r)), l18, l19, l20, l21] [] h Q := by
  obtain ⟨hI, hL, hQ, hmi, hna⟩ := hw
  have hF : Frm h h 313 8 := Frm.rf
  obtain ⟨fs0, h00⟩ := hI.at0
  obtain ⟨hi5, hW⟩ := hQ.2.2.2.2.2.2.2.2.2.1
  obtain ⟨sv, lm, sv2, lm6, e3, e2⟩ := hW w0 hw0
  obtain ⟨Mc, Tc, cc, hC⟩ := hI.cp
  obtain ⟨-, -, ⟨p, p0, p4, ep⟩, -⟩ := hC.2.2.2.2.2.2.2.2.2.1 w0 hw0
  have s1 : S 5 (5 * w0 + 1) = nI p := (hi5 _ (by omega)).trans ((congrArg σ (by omega)).trans ep)
  have s3 : S 5 (5 * w0 + 3) = nI sv := (hi5 _ (by omega)).trans ((congrArg σ (by omega)).trans e3)
  have hD := hQ.2.2.2.2.2.1
  have hd4 : ∀ d, d < 4 → S 2 (4 * d) = nI d ∧ S 2 (4 * d + 1) = nI ((d + 1) % 4) := fun d hd => ⟨(hD d hd).1, (hD d hd).2.1⟩
  have n3 : ¬ σ (328 + 5 * w0 + 3) = nI 2 := fun z => absurd ((nI_eq (by omega) (by omega)).mp (e3.symm.trans z)) (by omega)
  rcases D5_db hD p4 hr with ⟨d5, db⟩ | ⟨d, d4, d5, db⟩
  · refine wp_aload d0_1375 rfl ?_
    refine wp_iconst d0_1377 (v := nI 5) (by decide) ?_
    refine wp_iload d0_1378 rfl ?_
    refine wp_imulv d0_1380 (v := nI (5 * w0)) (nI_mul _ _) ?_
    refine wp_iconst d0_1381 (v := nI 1) (by decide) ?_
    refine wp_iaddv d0_1382 (v := nI (5 * w0 + 1)) (nI_add _ _) ?_
    refine wp_iald d0_1383 (la_5 hL) (nI_in (by omega) (by decide)) (v := nI p) ((congrArg (S 5) (nI_nat (by omega))).trans s1) ?_
    refine wp_iload d0_1384 rfl ?_
    refine wp_aload d0_1386 rfl ?_
    refine wp_invsT (e := 10) (j2 := 294) (n := 3) d0_1388 (by decide +kernel) (by decide +kernel) rfl rfl rfl (Nat.le_of_ble_eq_true rfl) (Nat.le_of_ble_eq_true rfl) rfl rfl (Nat.le_of_ble_eq_true rfl) (by decide +kernel) (tells_to (r2 := -1) d5 (k_door hL p4 hr hd4)) ?_
    refine wp_istore d0_1391 (Nat.le_of_ble_eq_true rfl) rfl ?_
    refine wp_iload d0_1393 rfl ?_
    refine wp_if_lt d0_1395 (tgt := 1446) (by decide) (fun _ => ?_) (fun hq9 => absurd (by decide) hq9)
    refine wp_iconst d0_1446 (v := nI 0) (by decide) ?_
    refine wp_istore d0_1447 (Nat.le_of_ble_eq_true rfl) rfl ?_
    refine wp_aload_n d0_1449 rfl ?_
    refine wp_iload d0_1450 rfl ?_
    refine wp_iload d0_1452 rfl ?_
    refine wp_invv (e := 109) (j2 := 86) (n := 2) d0_1454 (by decide +kernel) (by decide +kernel) rfl rfl rfl ((hF.2.2 0 (Or.inl (by omega))).trans h00) (by decide +kernel) (Nat.le_of_ble_eq_true rfl) rfl rfl (Nat.le_of_ble_eq_true rfl) (by decide +kernel) (cl_moveWork_n (hI.ref hF) (w0 := w0) (r := r) hw0 hr0 hr n3 (Or.inr (by rw [ep]; exact db))) (fun v h hq => ?_)
    obtain ⟨rfl, hI, hO⟩ := hq
    show m_wp (L, xs) 0 _ _ [.int _] _ _
    have hL := hL.oth hO
    have hF : Frm h h 313 8 := Frm.rf
    obtain ⟨fs0, h00⟩ := hI.at0
    refine wp_iload d0_1457 rfl ?_
    refine wp_if_eq d0_1459 (tgt := 1474) (by decide) (fun _ => ?_) (fun hz => absurd hz (by decide))
    refine wp_bipush d0_1474 (v := (-4 : Int32)) (by decide) ?_
    refine wp_icmp_eq d0_1476 (tgt := 1481) (by decide) (fun _ => ?_) (fun hz => absurd hz (by decide))
    refine wp_aload d0_1481 rfl ?_
    refine wp_iconst d0_1483 (v := nI 5) (by decide) ?_
    refine wp_iload d0_1484 rfl ?_
    refine wp_imulv d0_1486 (v := nI (5 * w0)) (nI_mul _ _) ?_
    refine wp_iconst d0_1487 (v := nI 1) (by decide) ?_
    refine wp_iaddv d0_1488 (v := nI (5 * w0 + 1)) (nI_add _ _) ?_
    refine wp_iload d0_1489 rfl ?_
    refine wp_if_eq d0_1491 (tgt := 1499) (by decide) (fun _ => ?_) (fun hz => absurd hz (by decide))
    refine wp_aload d0_1499 rfl ?_
    refine wp_iconst d0_1501 (v := nI 5) (by decide) ?_
    refine wp_iload d0_1502 rfl ?_
    refine wp_imulv d0_1504 (v := nI (5 * w0)) (nI_mul _ _) ?_
    refine wp_iconst d0_1505 (v := nI 1) (by decide) ?_
    refine wp_iaddv d0_1506 (v := nI (5 * w0 + 1)) (nI_add _ _) ?_
    refine wp_iald d0_1507 (la_5 hL) (nI_in (by omega) (by decide)) (v := nI p) ((congrArg (S 5) (nI_nat (by omega))).trans s1) ?_
    refine wp_iast d0_1508 (la_5 hL) (nI_in (by omega) (by decide)) ?_
    refine l_step (o := 5) (i := 5 * w0 + 1) (v := nI p) hL hF (by decide) (by rw [nI_nat (by omega)]; rfl) (fun h hL hF => ?_)
    rw [updM_id s1.symm] at hL
    exact K _ _ _ _ _ ⟨hI.ref hF, hL, hQ, hmi, hna⟩ _ _ _ _ _ _ _ _ _ _ _
  · have pr : ¬ p = r := by
      intro e
      rw [← e, D5_self p4] at d5
      exact nI_ne1 (by omega) d5
    by_cases hs : S 3 0 = nI p ∨ S 3 10 = nI p
    · refine wp_aload d0_1375 rfl ?_
      refine wp_iconst d0_1377 (v := nI 5) (by decide) ?_
      refine wp_iload d0_1378 rfl ?_
      refine wp_imulv d0_1380 (v := nI (5 * w0)) (nI_mul _ _) ?_
      refine wp_iconst d0_1381 (v := nI 1) (by decide) ?_
      refine wp_iaddv d0_1382 (v := nI (5 * w0 + 1)) (nI_add _ _) ?_
      refine wp_iald d0_1383 (la_5 hL) (nI_in (by omega) (by decide)) (v := nI p) ((congrArg (S 5) (nI_nat (by omega))).trans s1) ?_
      refine wp_iload d0_1384 rfl ?_
      refine wp_aload d0_1386 rfl ?_
      refine wp_invsT (e := 10) (j2 := 294) (n := 3) d0_1388 (by decide +kernel) (by decide +kernel) rfl rfl rfl (Nat.le_of_ble_eq_true rfl) (Nat.le_of_ble_eq_true rfl) rfl rfl (Nat.le_of_ble_eq_true rfl) (by decide +kernel) (tells_to (r2 := nI d) d5 (k_door hL p4 hr hd4)) ?_
      refine wp_istore d0_1391 (Nat.le_of_ble_eq_true rfl) rfl ?_
      refine wp_iload d0_1393 rfl ?_
      refine wp_if_lt d0_1395 (tgt := 1446) (by decide) (fun hq9 => absurd hq9 (Int32.not_lt.mpr (nI_pos' (by omega)))) (fun _ => ?_)
      refine wp_aload d0_1398 rfl ?_
      refine wp_iconst d0_1400 (v := nI 5) (by decide) ?_
      refine wp_iload d0_1401 rfl ?_
      refine wp_imulv d0_1403 (v := nI (5 * w0)) (nI_mul _ _) ?_
      refine wp_iconst d0_1404 (v := nI 1) (by decide) ?_
      refine wp_iaddv d0_1405 (v := nI (5 * w0 + 1)) (nI_add _ _) ?_
      refine wp_iald d0_1406 (la_5 hL) (nI_in (by omega) (by decide)) (v := nI p) ((congrArg (S 5) (nI_nat (by omega))).trans s1) ?_
      refine wp_iload d0_1407 rfl ?_
      refine wp_icmp_eq d0_1409 (tgt := 1446) (by decide) (fun hq9 => absurd hq9 (fun z => pr ((nI_eq (by omega) (by omega)).mp z))) (fun _ => ?_)
      refine wp_aload d0_1412 rfl ?_
      refine wp_iconst d0_1414 (v := nI 5) (by decide) ?_
      refine wp_iload d0_1415 rfl ?_
      refine wp_imulv d0_1417 (v := nI (5 * w0)) (nI_mul _ _) ?_
      refine wp_iconst d0_1418 (v := nI 1) (by decide) ?_
      refine wp_iaddv d0_1419 (v := nI (5 * w0 + 1)) (nI_add _ _) ?_
      refine wp_iald d0_1420 (la_5 hL) (nI_in (by omega) (by decide)) (v := nI p) ((congrArg (S 5) (nI_nat (by omega))).trans s1) ?_
      refine wp_aload d0_1421 rfl ?_
      refine wp_invsT (e := 24) (j2 := 295) (n := 2) d0_1423 (by decide +kernel) (by decide +kernel) rfl rfl rfl (Nat.le_of_ble_eq_true rfl) (Nat.le_of_ble_eq_true rfl) rfl rfl (Nat.le_of_ble_eq_true rfl) (by decide +kernel) (tells_to (r2 := nI 1) ((m_b_t hs).trans rfl) (k_stands hL (r := p))) ?_
      refine wp_if_eq d0_1426 (tgt := 1446) (by decide) (fun hz => absurd hz (by decide)) (fun _ => ?_)
      refine wp_aload d0_1429 rfl ?_
      refine wp_iconst d0_1431 (v := nI 5) (by decide) ?_
      refine wp_iload d0_1432 rfl ?_
      refine wp_imulv d0_1434 (v := nI (5 * w0)) (nI_mul _ _) ?_
      refine wp_iconst d0_1435 (v := nI 3) (by decide) ?_
      refine wp_iaddv d0_1436 (v := nI (5 * w0 + 3)) (nI_add _ _) ?_
      refine wp_iald d0_1437 (la_5 hL) (nI_in (by omega) (by decide)) (v := nI sv) ((congrArg (S 5) (nI_nat (by omega))).trans s3) ?_
      refine wp_iconst d0_1438 (v := nI 2) (by decide) ?_
      refine wp_icmp_eq d0_1439 (tgt := 1446) (by decide) (fun hq9 => absurd hq9 (fun z => absurd ((nI_eq (by omega) (by omega)).mp z) (by omega))) (fun _ => ?_)
      refine wp_iconst d0_1442 (v := nI 1) (by decide) ?_
      refine wp_goto d0_1443 (tgt := 1447) (by decide) ?_
      refine wp_istore d0_1447 (Nat.le_of_ble_eq_true rfl) rfl ?_
      refine wp_aload_n d0_1449 rfl ?_
      refine wp_iload d0_1450 rfl ?_
      refine wp_iload d0_1452 rfl ?_
      refine wp_invv (e := 109) (j2 := 86) (n := 2) d0_1454 (by decide +kernel) (by decide +kernel) rfl rfl rfl ((hF.2.2 0 (Or.inl (by omega))).trans h00) (by decide +kernel) (Nat.le_of_ble_eq_true rfl) rfl rfl (Nat.le_of_ble_eq_true rfl) (by decide +kernel) (cl_moveWork_y (hI.ref hF) (w0 := w0) (r := r) (d := d) hw0 hr0 hr n3 (by rw [ep]; exact (hQ.stand p4).mp hs) d4 (by rw [ep]; exact db)) (fun v h hq => ?_)
      obtain ⟨rfl, hI, hO⟩ := hq
      show m_wp (L, xs) 0 _ _ [.int _] _ _
      have hL := hL.oth hO
      have hF : Frm h h 313 8 := Frm.rf
      obtain ⟨fs0, h00⟩ := hI.at0
      refine wp_iload d0_1457 rfl ?_
      refine wp_if_eq d0_1459 (tgt := 1474) (by decide) (fun hz => absurd hz (by decide)) (fun _ => ?_)
      refine wp_aload d0_1462 rfl ?_
      refine wp_iconst d0_1464 (v := nI 4) (by decide) ?_
      refine wp_iload d0_1465 rfl ?_
      refine wp_imulv d0_1467 (v := nI (4 * d)) (nI_mul _ _) ?_
      refine wp_iconst d0_1468 (v := nI 2) (by decide) ?_
      refine wp_iaddv d0_1469 (v := nI (4 * d + 2)) (nI_add _ _) ?_
      refine wp_iald d0_1470 (la_2 hL) (nI_in (by omega) (by decide)) (v := (σ (92 + 5 * d + 2))) ((congrArg (S 2) (nI_nat (by omega))).trans (hD d d4).2.2.1) ?_
      refine wp_goto d0_1471 (tgt := 1476) (by decide) ?_
      refine wp_icmp_eq d0_1476 (tgt := 1481) (by decide) (fun _ => ?_) (fun hq9 => absurd rfl hq9)
      refine wp_aload d0_1481 rfl ?_
      refine wp_iconst d0_1483 (v := nI 5) (by decide) ?_
      refine wp_iload d0_1484 rfl ?_
      refine wp_imulv d0_1486 (v := nI (5 * w0)) (nI_mul _ _) ?_
      refine wp_iconst d0_1487 (v := nI 1) (by decide) ?_
      refine wp_iaddv d0_1488 (v := nI (5 * w0 + 1)) (nI_add _ _) ?_
      refine wp_iload d0_1489 rfl ?_
      refine wp_if_eq d0_1491 (tgt := 1499) (by decide) (fun hz => absurd hz (by decide)) (fun _ => ?_)
      refine wp_iload d0_1494 rfl ?_
      refine wp_goto d0_1496 (tgt := 1508) (by decide) ?_
      refine wp_iast d0_1508 (la_5 hL) (nI_in (by omega) (by decide)) ?_
      refine l_step (o := 5) (i := 5 * w0 + 1) (v := nI r) hL hF (by decide) (by rw [nI_nat (by omega)]; rfl) (fun h hL hF => ?_)
      exact K _ _ _ _ _ ⟨hI.ref hF, hL, (hQ.moves hw0 (by omega) (by omega)), hmi, hna⟩ _ _ _ _ _ _ _ _ _ _ _
    · refine wp_aload d0_1375 rfl ?_
      refine wp_iconst d0_1377 (v := nI 5) (by decide) ?_
      refine wp_iload d0_1378 rfl ?_
      refine wp_imulv d0_1380 (v := nI (5 * w0)) (nI_mul _ _) ?_
      refine wp_iconst d0_1381 (v := nI 1) (by decide) ?_
      refine wp_iaddv d0_1382 (v := nI (5 * w0 + 1)) (nI_add _ _) ?_
      refine wp_iald d0_1383 (la_5 hL) (nI_in (by omega) (by decide)) (v := nI p) ((congrArg (S 5) (nI_nat (by omega))).trans s1) ?_
      refine wp_iload d0_1384 rfl ?_
      refine wp_aload d0_1386 rfl ?_
      refine wp_invsT (e := 10) (j2 := 294) (n := 3) d0_1388 (by decide +kernel) (by decide +kernel) rfl rfl rfl (Nat.le_of_ble_eq_true rfl) (Nat.le_of_ble_eq_true rfl) rfl rfl (Nat.le_of_ble_eq_true rfl) (by decide +kernel) (tells_to (r2 := nI d) d5 (k_door hL p4 hr hd4)) ?_
      refine wp_istore d0_1391 (Nat.le_of_ble_eq_true rfl) rfl ?_
      refine wp_iload d0_1393 rfl ?_
      refine wp_if_lt d0_1395 (tgt := 1446) (by decide) (fun hq9 => absurd hq9 (Int32.not_lt.mpr (nI_pos' (by omega)))) (fun _ => ?_)
      refine wp_aload d0_1398 rfl ?_
      refine wp_iconst d0_1400 (v := nI 5) (by decide) ?_
      refine wp_iload d0_1401 rfl ?_
      refine wp_imulv d0_1403 (v := nI (5 * w0)) (nI_mul _ _) ?_
      refine wp_iconst d0_1404 (v := nI 1) (by decide) ?_
      refine wp_iaddv d0_1405 (v := nI (5 * w0 + 1)) (nI_add _ _) ?_
      refine wp_iald d0_1406 (la_5 hL) (nI_in (by omega) (by decide)) (v := nI p) ((congrArg (S 5) (nI_nat (by omega))).trans s1) ?_
      refine wp_iload d0_1407 rfl ?_
      refine wp_icmp_eq d0_1409 (tgt := 1446) (by decide) (fun hq9 => absurd hq9 (fun z => pr ((nI_eq (by omega) (by omega)).mp z))) (fun _ => ?_)
      refine wp_aload d0_1412 rfl ?_
      refine wp_iconst d0_1414 (v := nI 5) (by decide) ?_
      refine wp_iload d0_1415 rfl ?_
      refine wp_imulv d0_1417 (v := nI (5 * w0)) (nI_mul _ _) ?_
      refine wp_iconst d0_1418 (v := nI 1) (by decide) ?_
      refine wp_iaddv d0_1419 (v := nI (5 * w0 + 1)) (nI_add _ _) ?_
      refine wp_iald d0_1420 (la_5 hL) (nI_in (by omega) (by decide)) (v := nI p) ((congrArg (S 5) (nI_nat (by omega))).trans s1) ?_
      refine wp_aload d0_1421 rfl ?_
      refine wp_invsT (e := 24) (j2 := 295) (n := 2) d0_1423 (by decide +kernel) (by decide +kernel) rfl rfl rfl (Nat.le_of_ble_eq_true rfl) (Nat.le_of_ble_eq_true rfl) rfl rfl (Nat.le_of_ble_eq_true rfl) (by decide +kernel) (tells_to (r2 := nI 0) ((m_b_f hs).trans rfl) (k_stands hL (r := p))) ?_
      refine wp_if_eq d0_1426 (tgt := 1446) (by decide) (fun _ => ?_) (fun hz => absurd hz (by decide))
      refine wp_iconst d0_1446 (v := nI 0) (by decide) ?_
      refine wp_istore d0_1447 (Nat.le_of_ble_eq_true rfl) rfl ?_
      refine wp_aload_n d0_1449 rfl ?_
      refine wp_iload d0_1450 rfl ?_
      refine wp_iload d0_1452 rfl ?_
      refine wp_invv (e := 109) (j2 := 86) (n := 2) d0_1454 (by decide +kernel) (by decide +kernel) rfl rfl rfl ((hF.2.2 0 (Or.inl (by omega))).trans h00) (by decide +kernel) (Nat.le_of_ble_eq_true rfl) rfl rfl (Nat.le_of_ble_eq_true rfl) (by decide +kernel) (cl_moveWork_n (hI.ref hF) (w0 := w0) (r := r) hw0 hr0 hr n3 (Or.inl (by rw [ep]; have hz : ¬ 0 < F_gi σ (nI p) 2 := fun z => hs ((hQ.stand p4).mpr z); omega))) (fun v h hq => ?_)
      obtain ⟨rfl, hI, hO⟩ := hq
      show m_wp (L, xs) 0 _ _ [.int _] _ _
      have hL := hL.oth hO
      have hF : Frm h h 313 8 := Frm.rf
      obtain ⟨fs0, h00⟩ := hI.at0
      refine wp_iload d0_1457 rfl ?_
      refine wp_if_eq d0_1459 (tgt := 1474) (by decide) (fun _ => ?_) (fun hz => absurd hz (by decide))
      refine wp_bipush d0_1474 (v := (-4 : Int32)) (by decide) ?_
      refine wp_icmp_eq d0_1476 (tgt := 1481) (by decide) (fun _ => ?_) (fun hz => absurd hz (by decide))
      refine wp_aload d0_1481 rfl ?_
      refine wp_iconst d0_1483 (v := nI 5) (by decide) ?_
      refine wp_iload d0_1484 rfl ?_
      refine wp_imulv d0_1486 (v := nI (5 * w0)) (nI_mul _ _) ?_
      refine wp_iconst d0_1487 (v := nI 1) (by decide) ?_
      refine wp_iaddv d0_1488 (v := nI (5 * w0 + 1)) (nI_add _ _) ?_
      refine wp_iload d0_1489 rfl ?_
      refine wp_if_eq d0_1491 (tgt := 1499) (by decide) (fun _ => ?_) (fun hz => absurd hz (by decide))
      refine wp_aload d0_1499 rfl ?_
      refine wp_iconst d0_1501 (v := nI 5) (by decide) ?_
      refine wp_iload d0_1502 rfl ?_
      refine wp_imulv d0_1504 (v := nI (5 * w0)) (nI_mul _ _) ?_
      refine wp_iconst d0_1505 (v := nI 1) (by decide) ?_
      refine wp_iaddv d0_1506 (v := nI (5 * w0 + 1)) (nI_add _ _) ?_
      refine wp_iald d0_1507 (la_5 hL) (nI_in (by omega) (by decide)) (v := nI p) ((congrArg (S 5) (nI_nat (by omega))).trans s1) ?_
      refine wp_iast d0_1508 (la_5 hL) (nI_in (by omega) (by decide)) ?_
      refine l_step (o := 5) (i := 5 * w0 + 1) (v := nI p) hL hF (by decide) (by rw [nI_nat (by omega)]; rfl) (fun h hL hF => ?_)
      rw [updM_id s1.symm] at hL
      exact K _ _ _ _ _ ⟨hI.ref hF, hL, hQ, hmi, hna⟩ _ _ _ _ _ _ _ _ _ _ _
theorem lw_move {L : Nat} {xs : Nat → Int32} {Q : Option Value → mH → Prop} {h : mH} {σ : Nat → Int32} {S : Nat → Nat → Int32} {mi na t : Nat} (hL9 : L ≤ 260) (hw : Wm h σ S mi na) {y : Int32} {g : Nat} {l11 l12 l16 l17 l18 l19 l20 l21 : Option Value} (K : ∀ h1 σ1 S1 mi1 na1, Wm h1 σ1 S1 mi1 na1 → ∀ x11 x12 x13 x14 x15 x16 x17 x18 x19 x20 x21, m_wp (L, xs) 0 1509 [some (.float 0), some (.ref 0), some (.ref 313), some (.ref 314), some (.ref 315), some (.ref 316), some (.ref 317), some (.ref 318), some (.ref 319), some (.ref 320), some (.int (nI t)), x11, x12, x13, x14, x15, x16, x17, x18, x19, x20, x21] [] h1 Q) : m_wp (L, xs) 0 1353 [some (.float 0), some (.ref 0), some (.ref 313), some (.ref 314), some (.ref 315), some (.ref 316), some (.ref 317), some (.ref 318), some (.ref 319), some (.ref 320), some (.int (nI t)), l11, l12, some (.int (y)), some (.int (nI g)), some (.int (nI (10 * g))), l16, l17, l18, l19, l20, l21] [] h Q :=
  lw_m1 hL9 hw (fun w0 r h1 h2 h3 => lw_m2 hL9 hw h1 h2 h3 K)
theorem lw_rest {L : Nat} {xs : Nat → Int32} {Q : Option Value → mH → Prop} {h : mH} {σ : Nat → Int32} {S : Nat → Nat → Int32} {mi na t : Nat} (hL9 : L ≤ 260) (hw : Wm h σ S mi na) {y : Int32} {g : Nat} (hg : g < 2) {l11 l12 l16 l17 l18 l19 l20 l21 : Option Value} (K : ∀ h1 σ1 S1 mi1 na1, Wm h1 σ1 S1 mi1 na1 → ∀ x11 x12 x13 x14 x15 x16 x17 x18 x19 x20 x21, m_wp (L, xs) 0 1509 [some (.float 0), some (.ref 0), some (.ref 313), some (.ref 314), some (.ref 315), some (.ref 316), some (.ref 317), some (.ref 318), some (.ref 319), some (.ref 320), some (.int (nI t)), x11, x12, x13, x14, x15, x16, x17, x18, x19, x20, x21] [] h1 Q) : m_wp (L, xs) 0 1243 [some (.float 0), some (.ref 0), some (.ref 313), some (.ref 314), some (.ref 315), some (.ref 316), some (.ref 317), some (.ref 318), some (.ref 319), some (.ref 320), some (.int (nI t)), l11, l12, some (.int (y)), some (.int (nI g)), some (.int (nI (10 * g))), l16, l17, l18, l19, l20, l21] [] h Q := by
  obtain ⟨hI, hL, hQ, hmi, hna⟩ := hw
  have hF : Frm h h 313 8 := Frm.rf
  obtain ⟨fs0, h00⟩ := hI.at0
  refine wp_iload d0_1243 rfl ?_
  refine wp_iconst d0_1245 (v := nI 1) (by decide) ?_
  refine wp_ishr d0_1246 ?_
  refine wp_iconst d0_1247 (v := nI 2) (by decide) ?_
  refine wp_invsT (e := 61) (j2 := 293) (n := 2) d0_1248 (by decide +kernel) (by decide +kernel) rfl rfl rfl (Nat.le_of_ble_eq_true rfl) (Nat.le_of_ble_eq_true rfl) rfl rfl (Nat.le_of_ble_eq_true rfl) (by decide +kernel) (k_lowD ((y >>> ((nI 1) &&& 31))) (n := 2) (by decide) (by decide)) ?_
  obtain ⟨v2, hv2, ev2⟩ : ∃ v9, v9 < 2 ∧ lowN ((y >>> ((nI 1) &&& 31))) 2 = v9 := ⟨_, lowN_lt _ (by decide), rfl⟩
  rw [ev2]
  refine wp_if_ne d0_1251 (tgt := 1353) (by decide) (fun hc1251 => ?_) (fun hc1251 => ?_)
  · have hc1251 : ¬ (v2 = 0) := fun z => hc1251 ((nI_e0 (by omega)).mpr z)
    exact lw_move hL9 ⟨hI, hL, hQ, hmi, hna⟩ K
  · have hc1251 : v2 = 0 := (nI_e0 (by omega)).mp hc1251
    exact lw_stop hL9 ⟨hI, hL, hQ, hmi, hna⟩ hg K
