/-! THE LAW: one call on both sides, further cases -/
theorem dL_law_1307 : decode code 1307 = .ok (.aload_n 1, 1) := by decide +kernel
theorem dL_law_1308 : decode code 1308 = .ok (.aload_n 0, 1) := by decide +kernel
theorem dL_law_1309 : decode code 1309 = .ok (.iload_n 3, 1) := by decide +kernel
theorem dL_law_1310 : decode code 1310 = .ok (.iconst 1, 1) := by decide +kernel
theorem dL_law_1311 : decode code 1311 = .ok (.iadd, 1) := by decide +kernel
theorem dL_law_1312 : decode code 1312 = .ok (.iaload, 1) := by decide +kernel
theorem dL_law_1313 : decode code 1313 = .ok (.aload_n 0, 1) := by decide +kernel
theorem dL_law_1314 : decode code 1314 = .ok (.iload_n 3, 1) := by decide +kernel
theorem dL_law_1315 : decode code 1315 = .ok (.iconst 2, 1) := by decide +kernel
theorem dL_law_1316 : decode code 1316 = .ok (.iadd, 1) := by decide +kernel
theorem dL_law_1317 : decode code 1317 = .ok (.iaload, 1) := by decide +kernel
theorem dL_law_1318 : decode code 1318 = .ok (.aload_n 0, 1) := by decide +kernel
theorem dL_law_1319 : decode code 1319 = .ok (.iload_n 3, 1) := by decide +kernel
theorem dL_law_1320 : decode code 1320 = .ok (.iconst 3, 1) := by decide +kernel
theorem dL_law_1321 : decode code 1321 = .ok (.iadd, 1) := by decide +kernel
theorem dL_law_1322 : decode code 1322 = .ok (.iaload, 1) := by decide +kernel
theorem dL_law_1323 : decode code 1323 = .ok (.invokevirtual 165, 3) := by decide +kernel
theorem dL_law_1326 : decode code 1326 = .ok (.aload_n 2, 1) := by decide +kernel
theorem dL_law_1327 : decode code 1327 = .ok (.aload_n 0, 1) := by decide +kernel
theorem dL_law_1328 : decode code 1328 = .ok (.iload_n 3, 1) := by decide +kernel
theorem dL_law_1329 : decode code 1329 = .ok (.iconst 1, 1) := by decide +kernel
theorem dL_law_1330 : decode code 1330 = .ok (.iadd, 1) := by decide +kernel
theorem dL_law_1331 : decode code 1331 = .ok (.iaload, 1) := by decide +kernel
theorem dL_law_1332 : decode code 1332 = .ok (.aload_n 0, 1) := by decide +kernel
theorem dL_law_1333 : decode code 1333 = .ok (.iload_n 3, 1) := by decide +kernel
theorem dL_law_1334 : decode code 1334 = .ok (.iconst 2, 1) := by decide +kernel
theorem dL_law_1335 : decode code 1335 = .ok (.iadd, 1) := by decide +kernel
theorem dL_law_1336 : decode code 1336 = .ok (.iaload, 1) := by decide +kernel
theorem dL_law_1337 : decode code 1337 = .ok (.aload_n 0, 1) := by decide +kernel
theorem dL_law_1338 : decode code 1338 = .ok (.iload_n 3, 1) := by decide +kernel
theorem dL_law_1339 : decode code 1339 = .ok (.iconst 3, 1) := by decide +kernel
theorem dL_law_1340 : decode code 1340 = .ok (.iadd, 1) := by decide +kernel
theorem dL_law_1341 : decode code 1341 = .ok (.iaload, 1) := by decide +kernel
theorem dL_law_1342 : decode code 1342 = .ok (.invokevirtual 168, 3) := by decide +kernel
theorem dL_law_1345 : decode code 1345 = .ok (.if_icmp .eq 117, 3) := by decide +kernel
set_option maxHeartbeats 4000000 in
set_option maxRecDepth 20000 in
theorem law_storm {E : EnT} {nm : String} {lay : LyT} {r : RfT} {h : HpT} {c b b0 L N : Nat} {sx : Int → Int} {i : Int} (hX : ScE E b0 L sx) (hi : 0 ≤ i ∧ i + 4 ≤ L) (hL : L ≤ 2048) (hcb : b = c + 101) (hLI : LI lay c b i r h) (K : ∀ r' h', LI lay c b (i + 4) r' h' → St E (mL_law nm) 1462 [some (.ref b0), some (.ref c), some (.ref b), some (vI i)] [] (122, 20801) N lay r' h') : St E (mL_law nm) 1307 [some (.ref b0), some (.ref c), some (.ref b), some (vI i)] [] (122, 20801) N lay r h := by
  obtain ⟨q, n, tx, ep, km, mp, F, ux, sz, ho, sn, row, hI, hM, hle⟩ := hLI
  have hP0 := hI.2.2.2.2.2.1 0 (by omega) (by omega) (by have := hI.2.2.2.2.1.2.1; omega)
  rw [hI.2.2.2.2.2.2.1.1] at hP0
  have hT := hP0.1
  have hR := hP0.2.1
  have hep := hI.2.2.2.2.1
  have cl0 : lay c = (8, 0) := hI.1.1
  obtain ⟨a1, ha1⟩ : ∃ z, sx (i + 1) = z := ⟨_, rfl⟩
  have g1 := sc_rng hX (i + 1)
  rw [ha1] at g1
  obtain ⟨a2, ha2⟩ : ∃ z, sx (i + 2) = z := ⟨_, rfl⟩
  have g2 := sc_rng hX (i + 2)
  rw [ha2] at g2
  obtain ⟨a3, ha3⟩ : ∃ z, sx (i + 3) = z := ⟨_, rfl⟩
  have g3 := sc_rng hX (i + 3)
  rw [ha3] at g3
  by_cases hc : (0 ≤ a1 ∧ a1 ≤ 9999) ∧ (1 ≤ a2 ∧ a2 ≤ 30) ∧ (0 ≤ a3 ∧ a3 ≤ 2)
  · rcases (show a3 = 0 ∨ a3 = 1 ∨ a3 = 2 by omega) with hv | hv | hv
    · refine r_aload_1 (pc := 1307) dL_law_1307 ?_
      refine r_aload_0 (pc := 1308) dL_law_1308 ?_
      refine r_iload_3 (pc := 1309) dL_law_1309 ?_
      refine r_iconst (pc := 1310) dL_law_1310 ?_
      refine r_iadd (pc := 1311) dL_law_1311 ?_
      refine r_sld (pc := 1312) hX dL_law_1312 (by omega) (by omega) (fun i_1312 => ?_)
      rw [ha1]
      refine r_aload_0 (pc := 1313) dL_law_1313 ?_
      refine r_iload_3 (pc := 1314) dL_law_1314 ?_
      refine r_iconst (pc := 1315) dL_law_1315 ?_
      refine r_iadd (pc := 1316) dL_law_1316 ?_
      refine r_sld (pc := 1317) hX dL_law_1317 (by omega) (by omega) (fun i_1317 => ?_)
      rw [ha2]
      refine r_aload_0 (pc := 1318) dL_law_1318 ?_
      refine r_iload_3 (pc := 1319) dL_law_1319 ?_
      refine r_iconst (pc := 1320) dL_law_1320 ?_
      refine r_iadd (pc := 1321) dL_law_1321 ?_
      refine r_sld (pc := 1322) hX dL_law_1322 (by omega) (by omega) (fun i_1322 => ?_)
      rw [ha3]
      refine k_VI3 (pc := 1323) c_X7_storm lk_L_165 ⟨(Nat.le_of_ble_eq_true rfl), (Nat.le_of_ble_eq_true rfl)⟩ ⟨rfl, rfl⟩ ⟨(Nat.le_of_ble_eq_true rfl), (Nat.le_of_ble_eq_true rfl)⟩ (k := 7) rfl (by decide) cl0 dL_law_1323 (Nat.le_of_ble_eq_true rfl) ?_
      refine ⟨c, q, n, tx, ep, km, mp, F, ux, sz, ho, sn, row, a1, a2, a3, rfl, hI, g1, g2, g3, fun z => absurd hc z, fun _ h2 f2 hI2 => ⟨fun _ => ?_, fun z => by omega, fun z => by omega⟩⟩
      have hM2 : MI lay r h2 b n tx ep km mp F ux sz ho sn row := hM.of (rfl) (fun x x0 x1 => f2 x (by omega))
      obtain ⟨hMd2, ⟨e0, e5, e17, e19⟩, ⟨e1, e2, e12, e14, e15, e17r⟩, hWa2, hz2, hkp2, hes2⟩ := id hM2
      refine r_aload_2 (pc := 1326) dL_law_1326 ?_
      refine r_aload_0 (pc := 1327) dL_law_1327 ?_
      refine r_iload_3 (pc := 1328) dL_law_1328 ?_
      refine r_iconst (pc := 1329) dL_law_1329 ?_
      refine r_iadd (pc := 1330) dL_law_1330 ?_
      refine r_sld (pc := 1331) hX dL_law_1331 (by omega) (by omega) (fun i_1331 => ?_)
      rw [ha1]
      refine r_aload_0 (pc := 1332) dL_law_1332 ?_
      refine r_iload_3 (pc := 1333) dL_law_1333 ?_
      refine r_iconst (pc := 1334) dL_law_1334 ?_
      refine r_iadd (pc := 1335) dL_law_1335 ?_
      refine r_sld (pc := 1336) hX dL_law_1336 (by omega) (by omega) (fun i_1336 => ?_)
      rw [ha2]
      refine r_aload_0 (pc := 1337) dL_law_1337 ?_
      refine r_iload_3 (pc := 1338) dL_law_1338 ?_
      refine r_iconst (pc := 1339) dL_law_1339 ?_
      refine r_iadd (pc := 1340) dL_law_1340 ?_
      refine r_sld (pc := 1341) hX dL_law_1341 (by omega) (by omega) (fun i_1341 => ?_)
      rw [ha3]
      refine k_VI3 (pc := 1342) c_X8_storm lk_L_168 ⟨(Nat.le_of_ble_eq_true rfl), (Nat.le_of_ble_eq_true rfl)⟩ ⟨rfl, rfl⟩ ⟨(Nat.le_of_ble_eq_true rfl), (Nat.le_of_ble_eq_true rfl)⟩ (k := 8) rfl (by decide) hMd2.1 dL_law_1342 (Nat.le_of_ble_eq_true rfl) ?_
      refine ⟨b, mp, a1, a2, a3, rfl, hMd2, e2, hT, hR, g1, g2, g3, hI.2.2.2.2.2.2.1.2, fun z => absurd hc z, fun _ h3 f3 => ⟨fun _ => ?_, fun z => by omega, fun z => by omega⟩⟩
      refine r_same (pc := 1345) (tgt := 1462) (by first | rfl | (simp only [e0, e5, e17, e19, e1, e2, e12, e14, e15, e17r])) dL_law_1345 (by decide) ?_
      exact K r h3 ⟨q, n, tx, ep, km, mp, F, ux, sz, ho, sn, row, hI2.fr (fun x x0 x1 => f3 x (by omega)), hM2.s (fun j hj => by rw [f3 _ (by omega)]) (fun x x0 x1 hx => f3 x (by omega)), by omega⟩
    · refine r_aload_1 (pc := 1307) dL_law_1307 ?_
      refine r_aload_0 (pc := 1308) dL_law_1308 ?_
      refine r_iload_3 (pc := 1309) dL_law_1309 ?_
      refine r_iconst (pc := 1310) dL_law_1310 ?_
      refine r_iadd (pc := 1311) dL_law_1311 ?_
      refine r_sld (pc := 1312) hX dL_law_1312 (by omega) (by omega) (fun i_1312 => ?_)
      rw [ha1]
      refine r_aload_0 (pc := 1313) dL_law_1313 ?_
      refine r_iload_3 (pc := 1314) dL_law_1314 ?_
      refine r_iconst (pc := 1315) dL_law_1315 ?_
      refine r_iadd (pc := 1316) dL_law_1316 ?_
      refine r_sld (pc := 1317) hX dL_law_1317 (by omega) (by omega) (fun i_1317 => ?_)
      rw [ha2]
      refine r_aload_0 (pc := 1318) dL_law_1318 ?_
      refine r_iload_3 (pc := 1319) dL_law_1319 ?_
      refine r_iconst (pc := 1320) dL_law_1320 ?_
      refine r_iadd (pc := 1321) dL_law_1321 ?_
      refine r_sld (pc := 1322) hX dL_law_1322 (by omega) (by omega) (fun i_1322 => ?_)
      rw [ha3]
      refine k_VI3 (pc := 1323) c_X7_storm lk_L_165 ⟨(Nat.le_of_ble_eq_true rfl), (Nat.le_of_ble_eq_true rfl)⟩ ⟨rfl, rfl⟩ ⟨(Nat.le_of_ble_eq_true rfl), (Nat.le_of_ble_eq_true rfl)⟩ (k := 7) rfl (by decide) cl0 dL_law_1323 (Nat.le_of_ble_eq_true rfl) ?_
      refine ⟨c, q, n, tx, ep, km, mp, F, ux, sz, ho, sn, row, a1, a2, a3, rfl, hI, g1, g2, g3, fun z => absurd hc z, fun _ h2 f2 hI2 => ⟨fun z => by omega, fun _ => ?_, fun z => by omega⟩⟩
      have hM2 : MI lay r h2 b n tx ep km mp F ux sz ho sn row := hM.of (rfl) (fun x x0 x1 => f2 x (by omega))
      obtain ⟨hMd2, ⟨e0, e5, e17, e19⟩, ⟨e1, e2, e12, e14, e15, e17r⟩, hWa2, hz2, hkp2, hes2⟩ := id hM2
      refine r_aload_2 (pc := 1326) dL_law_1326 ?_
      refine r_aload_0 (pc := 1327) dL_law_1327 ?_
      refine r_iload_3 (pc := 1328) dL_law_1328 ?_
      refine r_iconst (pc := 1329) dL_law_1329 ?_
      refine r_iadd (pc := 1330) dL_law_1330 ?_
      refine r_sld (pc := 1331) hX dL_law_1331 (by omega) (by omega) (fun i_1331 => ?_)
      rw [ha1]
      refine r_aload_0 (pc := 1332) dL_law_1332 ?_
      refine r_iload_3 (pc := 1333) dL_law_1333 ?_
      refine r_iconst (pc := 1334) dL_law_1334 ?_
      refine r_iadd (pc := 1335) dL_law_1335 ?_
      refine r_sld (pc := 1336) hX dL_law_1336 (by omega) (by omega) (fun i_1336 => ?_)
      rw [ha2]
      refine r_aload_0 (pc := 1337) dL_law_1337 ?_
      refine r_iload_3 (pc := 1338) dL_law_1338 ?_
      refine r_iconst (pc := 1339) dL_law_1339 ?_
      refine r_iadd (pc := 1340) dL_law_1340 ?_
      refine r_sld (pc := 1341) hX dL_law_1341 (by omega) (by omega) (fun i_1341 => ?_)
      rw [ha3]
      refine k_VI3 (pc := 1342) c_X8_storm lk_L_168 ⟨(Nat.le_of_ble_eq_true rfl), (Nat.le_of_ble_eq_true rfl)⟩ ⟨rfl, rfl⟩ ⟨(Nat.le_of_ble_eq_true rfl), (Nat.le_of_ble_eq_true rfl)⟩ (k := 8) rfl (by decide) hMd2.1 dL_law_1342 (Nat.le_of_ble_eq_true rfl) ?_
      refine ⟨b, mp, a1, a2, a3, rfl, hMd2, e2, hT, hR, g1, g2, g3, hI.2.2.2.2.2.2.1.2, fun z => absurd hc z, fun _ h3 f3 => ⟨fun z => by omega, fun _ => ?_, fun z => by omega⟩⟩
      refine r_same (pc := 1345) (tgt := 1462) (by first | rfl | (simp only [e0, e5, e17, e19, e1, e2, e12, e14, e15, e17r])) dL_law_1345 (by decide) ?_
      exact K r h3 ⟨q, n, tx, ep, km, mp, F, ux, sz, ho, sn, row, hI2.fr (fun x x0 x1 => f3 x (by omega)), hM2.s (fun j hj => by rw [f3 _ (by omega)]) (fun x x0 x1 hx => f3 x (by omega)), by omega⟩
    · refine r_aload_1 (pc := 1307) dL_law_1307 ?_
      refine r_aload_0 (pc := 1308) dL_law_1308 ?_
      refine r_iload_3 (pc := 1309) dL_law_1309 ?_
      refine r_iconst (pc := 1310) dL_law_1310 ?_
      refine r_iadd (pc := 1311) dL_law_1311 ?_
      refine r_sld (pc := 1312) hX dL_law_1312 (by omega) (by omega) (fun i_1312 => ?_)
      rw [ha1]
      refine r_aload_0 (pc := 1313) dL_law_1313 ?_
      refine r_iload_3 (pc := 1314) dL_law_1314 ?_
      refine r_iconst (pc := 1315) dL_law_1315 ?_
      refine r_iadd (pc := 1316) dL_law_1316 ?_
      refine r_sld (pc := 1317) hX dL_law_1317 (by omega) (by omega) (fun i_1317 => ?_)
      rw [ha2]
      refine r_aload_0 (pc := 1318) dL_law_1318 ?_
      refine r_iload_3 (pc := 1319) dL_law_1319 ?_
      refine r_iconst (pc := 1320) dL_law_1320 ?_
      refine r_iadd (pc := 1321) dL_law_1321 ?_
      refine r_sld (pc := 1322) hX dL_law_1322 (by omega) (by omega) (fun i_1322 => ?_)
      rw [ha3]
      refine k_VI3 (pc := 1323) c_X7_storm lk_L_165 ⟨(Nat.le_of_ble_eq_true rfl), (Nat.le_of_ble_eq_true rfl)⟩ ⟨rfl, rfl⟩ ⟨(Nat.le_of_ble_eq_true rfl), (Nat.le_of_ble_eq_true rfl)⟩ (k := 7) rfl (by decide) cl0 dL_law_1323 (Nat.le_of_ble_eq_true rfl) ?_
      refine ⟨c, q, n, tx, ep, km, mp, F, ux, sz, ho, sn, row, a1, a2, a3, rfl, hI, g1, g2, g3, fun z => absurd hc z, fun _ h2 f2 hI2 => ⟨fun z => by omega, fun z => by omega, fun _ => ?_⟩⟩
      have hM2 : MI lay r h2 b n tx ep km mp F ux sz ho sn row := hM.of (rfl) (fun x x0 x1 => f2 x (by omega))
      obtain ⟨hMd2, ⟨e0, e5, e17, e19⟩, ⟨e1, e2, e12, e14, e15, e17r⟩, hWa2, hz2, hkp2, hes2⟩ := id hM2
      refine r_aload_2 (pc := 1326) dL_law_1326 ?_
      refine r_aload_0 (pc := 1327) dL_law_1327 ?_
      refine r_iload_3 (pc := 1328) dL_law_1328 ?_
      refine r_iconst (pc := 1329) dL_law_1329 ?_
      refine r_iadd (pc := 1330) dL_law_1330 ?_
      refine r_sld (pc := 1331) hX dL_law_1331 (by omega) (by omega) (fun i_1331 => ?_)
      rw [ha1]
      refine r_aload_0 (pc := 1332) dL_law_1332 ?_
      refine r_iload_3 (pc := 1333) dL_law_1333 ?_
      refine r_iconst (pc := 1334) dL_law_1334 ?_
      refine r_iadd (pc := 1335) dL_law_1335 ?_
      refine r_sld (pc := 1336) hX dL_law_1336 (by omega) (by omega) (fun i_1336 => ?_)
      rw [ha2]
      refine r_aload_0 (pc := 1337) dL_law_1337 ?_
      refine r_iload_3 (pc := 1338) dL_law_1338 ?_
      refine r_iconst (pc := 1339) dL_law_1339 ?_
      refine r_iadd (pc := 1340) dL_law_1340 ?_
      refine r_sld (pc := 1341) hX dL_law_1341 (by omega) (by omega) (fun i_1341 => ?_)
      rw [ha3]
      refine k_VI3 (pc := 1342) c_X8_storm lk_L_168 ⟨(Nat.le_of_ble_eq_true rfl), (Nat.le_of_ble_eq_true rfl)⟩ ⟨rfl, rfl⟩ ⟨(Nat.le_of_ble_eq_true rfl), (Nat.le_of_ble_eq_true rfl)⟩ (k := 8) rfl (by decide) hMd2.1 dL_law_1342 (Nat.le_of_ble_eq_true rfl) ?_
      refine ⟨b, mp, a1, a2, a3, rfl, hMd2, e2, hT, hR, g1, g2, g3, hI.2.2.2.2.2.2.1.2, fun z => absurd hc z, fun _ h3 f3 => ⟨fun z => by omega, fun z => by omega, fun _ => ?_⟩⟩
      refine r_same (pc := 1345) (tgt := 1462) (by first | rfl | (simp only [e0, e5, e17, e19, e1, e2, e12, e14, e15, e17r])) dL_law_1345 (by decide) ?_
      exact K r h3 ⟨q, n, tx, ep, km, mp, F, ux, sz, ho, sn, row, hI2.fr (fun x x0 x1 => f3 x (by omega)), hM2.s (fun j hj => by rw [f3 _ (by omega)]) (fun x x0 x1 hx => f3 x (by omega)), by omega⟩
  · refine r_aload_1 (pc := 1307) dL_law_1307 ?_
    refine r_aload_0 (pc := 1308) dL_law_1308 ?_
    refine r_iload_3 (pc := 1309) dL_law_1309 ?_
    refine r_iconst (pc := 1310) dL_law_1310 ?_
    refine r_iadd (pc := 1311) dL_law_1311 ?_
    refine r_sld (pc := 1312) hX dL_law_1312 (by omega) (by omega) (fun i_1312 => ?_)
    rw [ha1]
    refine r_aload_0 (pc := 1313) dL_law_1313 ?_
    refine r_iload_3 (pc := 1314) dL_law_1314 ?_
    refine r_iconst (pc := 1315) dL_law_1315 ?_
    refine r_iadd (pc := 1316) dL_law_1316 ?_
    refine r_sld (pc := 1317) hX dL_law_1317 (by omega) (by omega) (fun i_1317 => ?_)
    rw [ha2]
    refine r_aload_0 (pc := 1318) dL_law_1318 ?_
    refine r_iload_3 (pc := 1319) dL_law_1319 ?_
    refine r_iconst (pc := 1320) dL_law_1320 ?_
    refine r_iadd (pc := 1321) dL_law_1321 ?_
    refine r_sld (pc := 1322) hX dL_law_1322 (by omega) (by omega) (fun i_1322 => ?_)
    rw [ha3]
    refine k_VI3 (pc := 1323) c_X7_storm lk_L_165 ⟨(Nat.le_of_ble_eq_true rfl), (Nat.le_of_ble_eq_true rfl)⟩ ⟨rfl, rfl⟩ ⟨(Nat.le_of_ble_eq_true rfl), (Nat.le_of_ble_eq_true rfl)⟩ (k := 7) rfl (by decide) cl0 dL_law_1323 (Nat.le_of_ble_eq_true rfl) ?_
    refine ⟨c, q, n, tx, ep, km, mp, F, ux, sz, ho, sn, row, a1, a2, a3, rfl, hI, g1, g2, g3, fun _ => ?_, fun z => absurd z hc⟩
    have hM2 := hM
    obtain ⟨hMd2, ⟨e0, e5, e17, e19⟩, ⟨e1, e2, e12, e14, e15, e17r⟩, hWa2, hz2, hkp2, hes2⟩ := id hM2
    refine r_aload_2 (pc := 1326) dL_law_1326 ?_
    refine r_aload_0 (pc := 1327) dL_law_1327 ?_
    refine r_iload_3 (pc := 1328) dL_law_1328 ?_
    refine r_iconst (pc := 1329) dL_law_1329 ?_
    refine r_iadd (pc := 1330) dL_law_1330 ?_
    refine r_sld (pc := 1331) hX dL_law_1331 (by omega) (by omega) (fun i_1331 => ?_)
    rw [ha1]
    refine r_aload_0 (pc := 1332) dL_law_1332 ?_
    refine r_iload_3 (pc := 1333) dL_law_1333 ?_
    refine r_iconst (pc := 1334) dL_law_1334 ?_
    refine r_iadd (pc := 1335) dL_law_1335 ?_
    refine r_sld (pc := 1336) hX dL_law_1336 (by omega) (by omega) (fun i_1336 => ?_)
    rw [ha2]
    refine r_aload_0 (pc := 1337) dL_law_1337 ?_
    refine r_iload_3 (pc := 1338) dL_law_1338 ?_
    refine r_iconst (pc := 1339) dL_law_1339 ?_
    refine r_iadd (pc := 1340) dL_law_1340 ?_
    refine r_sld (pc := 1341) hX dL_law_1341 (by omega) (by omega) (fun i_1341 => ?_)
    rw [ha3]
    refine k_VI3 (pc := 1342) c_X8_storm lk_L_168 ⟨(Nat.le_of_ble_eq_true rfl), (Nat.le_of_ble_eq_true rfl)⟩ ⟨rfl, rfl⟩ ⟨(Nat.le_of_ble_eq_true rfl), (Nat.le_of_ble_eq_true rfl)⟩ (k := 8) rfl (by decide) hMd2.1 dL_law_1342 (Nat.le_of_ble_eq_true rfl) ?_
    refine ⟨b, mp, a1, a2, a3, rfl, hMd2, e2, hT, hR, g1, g2, g3, hI.2.2.2.2.2.2.1.2, fun _ => ?_, fun z => absurd z hc⟩
    refine r_same (pc := 1345) (tgt := 1462) (by first | rfl | (simp only [e0, e5, e17, e19, e1, e2, e12, e14, e15, e17r])) dL_law_1345 (by decide) ?_
    exact K r h ⟨q, n, tx, ep, km, mp, F, ux, sz, ho, sn, row, hI, hM2, by omega⟩
theorem dL_law_344 : decode code 344 = .ok (.aload_n 1, 1) := by decide +kernel
theorem dL_law_345 : decode code 345 = .ok (.aload_n 0, 1) := by decide +kernel
theorem dL_law_346 : decode code 346 = .ok (.iload_n 3, 1) := by decide +kernel
theorem dL_law_347 : decode code 347 = .ok (.iconst 1, 1) := by decide +kernel
theorem dL_law_348 : decode code 348 = .ok (.iadd, 1) := by decide +kernel
theorem dL_law_349 : decode code 349 = .ok (.iaload, 1) := by decide +kernel
theorem dL_law_350 : decode code 350 = .ok (.aload_n 0, 1) := by decide +kernel
theorem dL_law_351 : decode code 351 = .ok (.iload_n 3, 1) := by decide +kernel
theorem dL_law_352 : decode code 352 = .ok (.iconst 2, 1) := by decide +kernel
theorem dL_law_353 : decode code 353 = .ok (.iadd, 1) := by decide +kernel
theorem dL_law_354 : decode code 354 = .ok (.iaload, 1) := by decide +kernel
theorem dL_law_355 : decode code 355 = .ok (.invokevirtual 40, 3) := by decide +kernel
theorem dL_law_358 : decode code 358 = .ok (.aload_n 2, 1) := by decide +kernel
theorem dL_law_359 : decode code 359 = .ok (.aload_n 0, 1) := by decide +kernel
theorem dL_law_360 : decode code 360 = .ok (.iload_n 3, 1) := by decide +kernel
theorem dL_law_361 : decode code 361 = .ok (.iconst 1, 1) := by decide +kernel
theorem dL_law_362 : decode code 362 = .ok (.iadd, 1) := by decide +kernel
theorem dL_law_363 : decode code 363 = .ok (.iaload, 1) := by decide +kernel
theorem dL_law_364 : decode code 364 = .ok (.aload_n 0, 1) := by decide +kernel
theorem dL_law_365 : decode code 365 = .ok (.iload_n 3, 1) := by decide +kernel
theorem dL_law_366 : decode code 366 = .ok (.iconst 2, 1) := by decide +kernel
theorem dL_law_367 : decode code 367 = .ok (.iadd, 1) := by decide +kernel
theorem dL_law_368 : decode code 368 = .ok (.iaload, 1) := by decide +kernel
theorem dL_law_369 : decode code 369 = .ok (.invokevirtual 43, 3) := by decide +kernel
theorem dL_law_372 : decode code 372 = .ok (.if_icmp .eq 1090, 3) := by decide +kernel
set_option maxHeartbeats 4000000 in
set_option maxRecDepth 20000 in
theorem law_weigh {E : EnT} {nm : String} {lay : LyT} {r : RfT} {h : HpT} {c b b0 L N : Nat} {sx : Int → Int} {i : Int} (hX : ScE E b0 L sx) (hi : 0 ≤ i ∧ i + 4 ≤ L) (hL : L ≤ 2048) (hcb : b = c + 101) (hLI : LI lay c b i r h) (K : ∀ r' h', LI lay c b (i + 4) r' h' → St E (mL_law nm) 1462 [some (.ref b0), some (.ref c), some (.ref b), some (vI i)] [] (122, 20801) N lay r' h') : St E (mL_law nm) 344 [some (.ref b0), some (.ref c), some (.ref b), some (vI i)] [] (122, 20801) N lay r h := by
  obtain ⟨q, n, tx, ep, km, mp, F, ux, sz, ho, sn, row, hI, hM, hle⟩ := hLI
  have hP0 := hI.2.2.2.2.2.1 0 (by omega) (by omega) (by have := hI.2.2.2.2.1.2.1; omega)
  rw [hI.2.2.2.2.2.2.1.1] at hP0
  have hT := hP0.1
  have hR := hP0.2.1
  have hep := hI.2.2.2.2.1
  have cl0 : lay c = (8, 0) := hI.1.1
  obtain ⟨a1, ha1⟩ : ∃ z, sx (i + 1) = z := ⟨_, rfl⟩
  have g1 := sc_rng hX (i + 1)
  rw [ha1] at g1
  obtain ⟨a2, ha2⟩ : ∃ z, sx (i + 2) = z := ⟨_, rfl⟩
  have g2 := sc_rng hX (i + 2)
  rw [ha2] at g2
  by_cases hc : (10 ≤ a1 ∧ a1 ≤ 9 + mp 130) ∧ (0 ≤ a2 ∧ a2 ≤ 40)
  · by_cases hs : mp (22 + a1) = a2
    · refine r_aload_1 (pc := 344) dL_law_344 ?_
      refine r_aload_0 (pc := 345) dL_law_345 ?_
      refine r_iload_3 (pc := 346) dL_law_346 ?_
      refine r_iconst (pc := 347) dL_law_347 ?_
      refine r_iadd (pc := 348) dL_law_348 ?_
      refine r_sld (pc := 349) hX dL_law_349 (by omega) (by omega) (fun i_349 => ?_)
      rw [ha1]
      refine r_aload_0 (pc := 350) dL_law_350 ?_
      refine r_iload_3 (pc := 351) dL_law_351 ?_
      refine r_iconst (pc := 352) dL_law_352 ?_
      refine r_iadd (pc := 353) dL_law_353 ?_
      refine r_sld (pc := 354) hX dL_law_354 (by omega) (by omega) (fun i_354 => ?_)
      rw [ha2]
      refine k_VI2 (pc := 355) c_X7_weigh lk_L_40 ⟨(Nat.le_of_ble_eq_true rfl), (Nat.le_of_ble_eq_true rfl)⟩ ⟨rfl, rfl⟩ ⟨(Nat.le_of_ble_eq_true rfl), (Nat.le_of_ble_eq_true rfl)⟩ (k := 7) rfl (by decide) cl0 dL_law_355 (Nat.le_of_ble_eq_true rfl) ?_
      refine ⟨c, q, n, tx, ep, km, mp, F, ux, sz, ho, sn, row, a1, a2, rfl, hI, by omega, g1, g2, fun z => absurd hc z, fun _ => ⟨fun _ => ?_, fun z => absurd hs z⟩⟩
      have hM2 := hM
      obtain ⟨hMd2, ⟨e0, e5, e17, e19⟩, ⟨e1, e2, e12, e14, e15, e17r⟩, hWa2, hz2, hkp2, hes2⟩ := id hM2
      refine r_aload_2 (pc := 358) dL_law_358 ?_
      refine r_aload_0 (pc := 359) dL_law_359 ?_
      refine r_iload_3 (pc := 360) dL_law_360 ?_
      refine r_iconst (pc := 361) dL_law_361 ?_
      refine r_iadd (pc := 362) dL_law_362 ?_
      refine r_sld (pc := 363) hX dL_law_363 (by omega) (by omega) (fun i_363 => ?_)
      rw [ha1]
      refine r_aload_0 (pc := 364) dL_law_364 ?_
      refine r_iload_3 (pc := 365) dL_law_365 ?_
      refine r_iconst (pc := 366) dL_law_366 ?_
      refine r_iadd (pc := 367) dL_law_367 ?_
      refine r_sld (pc := 368) hX dL_law_368 (by omega) (by omega) (fun i_368 => ?_)
      rw [ha2]
      refine k_VI2 (pc := 369) c_X8_weigh lk_L_43 ⟨(Nat.le_of_ble_eq_true rfl), (Nat.le_of_ble_eq_true rfl)⟩ ⟨rfl, rfl⟩ ⟨(Nat.le_of_ble_eq_true rfl), (Nat.le_of_ble_eq_true rfl)⟩ (k := 8) rfl (by decide) hMd2.1 dL_law_369 (Nat.le_of_ble_eq_true rfl) ?_
      refine ⟨b, mp, a1, a2, rfl, hMd2, e2, hT, hR, g1, g2, hWa2, (by rw [e5]; omega), fun z => absurd hc z, fun _ => ⟨fun _ => ?_, fun z => absurd hs z⟩⟩
      refine r_same (pc := 372) (tgt := 1462) (by first | rfl | (simp only [e0, e5, e17, e19, e1, e2, e12, e14, e15, e17r])) dL_law_372 (by decide) ?_
      exact K r h ⟨q, n, tx, ep, km, mp, F, ux, sz, ho, sn, row, hI, hM2, by omega⟩
    · refine r_aload_1 (pc := 344) dL_law_344 ?_
      refine r_aload_0 (pc := 345) dL_law_345 ?_
      refine r_iload_3 (pc := 346) dL_law_346 ?_
      refine r_iconst (pc := 347) dL_law_347 ?_
      refine r_iadd (pc := 348) dL_law_348 ?_
      refine r_sld (pc := 349) hX dL_law_349 (by omega) (by omega) (fun i_349 => ?_)
      rw [ha1]
      refine r_aload_0 (pc := 350) dL_law_350 ?_
      refine r_iload_3 (pc := 351) dL_law_351 ?_
      refine r_iconst (pc := 352) dL_law_352 ?_
      refine r_iadd (pc := 353) dL_law_353 ?_
      refine r_sld (pc := 354) hX dL_law_354 (by omega) (by omega) (fun i_354 => ?_)
      rw [ha2]
      refine k_VI2 (pc := 355) c_X7_weigh lk_L_40 ⟨(Nat.le_of_ble_eq_true rfl), (Nat.le_of_ble_eq_true rfl)⟩ ⟨rfl, rfl⟩ ⟨(Nat.le_of_ble_eq_true rfl), (Nat.le_of_ble_eq_true rfl)⟩ (k := 7) rfl (by decide) cl0 dL_law_355 (Nat.le_of_ble_eq_true rfl) ?_
      refine ⟨c, q, n, tx, ep, km, mp, F, ux, sz, ho, sn, row, a1, a2, rfl, hI, by omega, g1, g2, fun z => absurd hc z, fun _ => ⟨fun z => absurd z hs, fun _ r2 h2 fr2 f2 hI2 => ?_⟩⟩
      have hM2 : MI lay r2 h2 b n tx ep km mp F ux sz ho sn row := hM.of (fr2 b (by omega)) (fun x x0 x1 => f2 x (by omega))
      obtain ⟨hMd2, ⟨e0, e5, e17, e19⟩, ⟨e1, e2, e12, e14, e15, e17r⟩, hWa2, hz2, hkp2, hes2⟩ := id hM2
      refine r_aload_2 (pc := 358) dL_law_358 ?_
      refine r_aload_0 (pc := 359) dL_law_359 ?_
      refine r_iload_3 (pc := 360) dL_law_360 ?_
      refine r_iconst (pc := 361) dL_law_361 ?_
      refine r_iadd (pc := 362) dL_law_362 ?_
      refine r_sld (pc := 363) hX dL_law_363 (by omega) (by omega) (fun i_363 => ?_)
      rw [ha1]
      refine r_aload_0 (pc := 364) dL_law_364 ?_
      refine r_iload_3 (pc := 365) dL_law_365 ?_
      refine r_iconst (pc := 366) dL_law_366 ?_
      refine r_iadd (pc := 367) dL_law_367 ?_
      refine r_sld (pc := 368) hX dL_law_368 (by omega) (by omega) (fun i_368 => ?_)
      rw [ha2]
      refine k_VI2 (pc := 369) c_X8_weigh lk_L_43 ⟨(Nat.le_of_ble_eq_true rfl), (Nat.le_of_ble_eq_true rfl)⟩ ⟨rfl, rfl⟩ ⟨(Nat.le_of_ble_eq_true rfl), (Nat.le_of_ble_eq_true rfl)⟩ (k := 8) rfl (by decide) hMd2.1 dL_law_369 (Nat.le_of_ble_eq_true rfl) ?_
      refine ⟨b, mp, a1, a2, rfl, hMd2, e2, hT, hR, g1, g2, hWa2, (by rw [e5]; omega), fun z => absurd hc z, fun _ => ⟨fun z => absurd z hs, fun _ h3 hCh => ?_⟩⟩
      refine r_same (pc := 372) (tgt := 1462) (by first | rfl | (simp only [e0, e5, e17, e19, e1, e2, e12, e14, e15, e17r])) dL_law_372 (by decide) ?_
      exact K r2 h3 ⟨qN q, n, tx, ep + 1, kN km (up mp (22 + a1) a2), up mp (22 + a1) a2, h3 (b + 12), ux, sz, ho, sn, row, (hI2.fr (fun x x0 x1 => hCh.1 x (by omega))).cv (fun j j0 j1 => hCh.2.2.2.2.2 j j0 j1) (fun _ _ _ => rfl) (fun _ _ _ => rfl), hM2.ch hep.2.1 hCh (hz2.u (by have := hT.2.2.1; omega)) ⟨e0, e5, e17, e19⟩, by omega⟩
  · refine r_aload_1 (pc := 344) dL_law_344 ?_
    refine r_aload_0 (pc := 345) dL_law_345 ?_
    refine r_iload_3 (pc := 346) dL_law_346 ?_
    refine r_iconst (pc := 347) dL_law_347 ?_
    refine r_iadd (pc := 348) dL_law_348 ?_
    refine r_sld (pc := 349) hX dL_law_349 (by omega) (by omega) (fun i_349 => ?_)
    rw [ha1]
    refine r_aload_0 (pc := 350) dL_law_350 ?_
    refine r_iload_3 (pc := 351) dL_law_351 ?_
    refine r_iconst (pc := 352) dL_law_352 ?_
    refine r_iadd (pc := 353) dL_law_353 ?_
    refine r_sld (pc := 354) hX dL_law_354 (by omega) (by omega) (fun i_354 => ?_)
    rw [ha2]
    refine k_VI2 (pc := 355) c_X7_weigh lk_L_40 ⟨(Nat.le_of_ble_eq_true rfl), (Nat.le_of_ble_eq_true rfl)⟩ ⟨rfl, rfl⟩ ⟨(Nat.le_of_ble_eq_true rfl), (Nat.le_of_ble_eq_true rfl)⟩ (k := 7) rfl (by decide) cl0 dL_law_355 (Nat.le_of_ble_eq_true rfl) ?_
    refine ⟨c, q, n, tx, ep, km, mp, F, ux, sz, ho, sn, row, a1, a2, rfl, hI, by omega, g1, g2, fun _ => ?_, fun z => absurd z hc⟩
    have hM2 := hM
    obtain ⟨hMd2, ⟨e0, e5, e17, e19⟩, ⟨e1, e2, e12, e14, e15, e17r⟩, hWa2, hz2, hkp2, hes2⟩ := id hM2
    refine r_aload_2 (pc := 358) dL_law_358 ?_
    refine r_aload_0 (pc := 359) dL_law_359 ?_
    refine r_iload_3 (pc := 360) dL_law_360 ?_
    refine r_iconst (pc := 361) dL_law_361 ?_
    refine r_iadd (pc := 362) dL_law_362 ?_
    refine r_sld (pc := 363) hX dL_law_363 (by omega) (by omega) (fun i_363 => ?_)
    rw [ha1]
    refine r_aload_0 (pc := 364) dL_law_364 ?_
    refine r_iload_3 (pc := 365) dL_law_365 ?_
    refine r_iconst (pc := 366) dL_law_366 ?_
    refine r_iadd (pc := 367) dL_law_367 ?_
    refine r_sld (pc := 368) hX dL_law_368 (by omega) (by omega) (fun i_368 => ?_)
    rw [ha2]
    refine k_VI2 (pc := 369) c_X8_weigh lk_L_43 ⟨(Nat.le_of_ble_eq_true rfl), (Nat.le_of_ble_eq_true rfl)⟩ ⟨rfl, rfl⟩ ⟨(Nat.le_of_ble_eq_true rfl), (Nat.le_of_ble_eq_true rfl)⟩ (k := 8) rfl (by decide) hMd2.1 dL_law_369 (Nat.le_of_ble_eq_true rfl) ?_
    refine ⟨b, mp, a1, a2, rfl, hMd2, e2, hT, hR, g1, g2, hWa2, (by rw [e5]; omega), fun _ => ?_, fun z => absurd z hc⟩
    refine r_same (pc := 372) (tgt := 1462) (by first | rfl | (simp only [e0, e5, e17, e19, e1, e2, e12, e14, e15, e17r])) dL_law_372 (by decide) ?_
    exact K r h ⟨q, n, tx, ep, km, mp, F, ux, sz, ho, sn, row, hI, hM2, by omega⟩
theorem dL_law_377 : decode code 377 = .ok (.aload_n 1, 1) := by decide +kernel
theorem dL_law_378 : decode code 378 = .ok (.aload_n 0, 1) := by decide +kernel
theorem dL_law_379 : decode code 379 = .ok (.iload_n 3, 1) := by decide +kernel
theorem dL_law_380 : decode code 380 = .ok (.iconst 1, 1) := by decide +kernel
theorem dL_law_381 : decode code 381 = .ok (.iadd, 1) := by decide +kernel
theorem dL_law_382 : decode code 382 = .ok (.iaload, 1) := by decide +kernel
theorem dL_law_383 : decode code 383 = .ok (.aload_n 0, 1) := by decide +kernel
theorem dL_law_384 : decode code 384 = .ok (.iload_n 3, 1) := by decide +kernel
theorem dL_law_385 : decode code 385 = .ok (.iconst 2, 1) := by decide +kernel
theorem dL_law_386 : decode code 386 = .ok (.iadd, 1) := by decide +kernel
theorem dL_law_387 : decode code 387 = .ok (.iaload, 1) := by decide +kernel
theorem dL_law_388 : decode code 388 = .ok (.invokevirtual 44, 3) := by decide +kernel
theorem dL_law_391 : decode code 391 = .ok (.aload_n 2, 1) := by decide +kernel
theorem dL_law_392 : decode code 392 = .ok (.aload_n 0, 1) := by decide +kernel
theorem dL_law_393 : decode code 393 = .ok (.iload_n 3, 1) := by decide +kernel
theorem dL_law_394 : decode code 394 = .ok (.iconst 1, 1) := by decide +kernel
theorem dL_law_395 : decode code 395 = .ok (.iadd, 1) := by decide +kernel
theorem dL_law_396 : decode code 396 = .ok (.iaload, 1) := by decide +kernel
theorem dL_law_397 : decode code 397 = .ok (.aload_n 0, 1) := by decide +kernel
theorem dL_law_398 : decode code 398 = .ok (.iload_n 3, 1) := by decide +kernel
theorem dL_law_399 : decode code 399 = .ok (.iconst 2, 1) := by decide +kernel
theorem dL_law_400 : decode code 400 = .ok (.iadd, 1) := by decide +kernel
theorem dL_law_401 : decode code 401 = .ok (.iaload, 1) := by decide +kernel
theorem dL_law_402 : decode code 402 = .ok (.invokevirtual 47, 3) := by decide +kernel
theorem dL_law_405 : decode code 405 = .ok (.if_icmp .eq 1057, 3) := by decide +kernel
set_option maxHeartbeats 4000000 in
set_option maxRecDepth 20000 in
theorem law_reweigh {E : EnT} {nm : String} {lay : LyT} {r : RfT} {h : HpT} {c b b0 L N : Nat} {sx : Int → Int} {i : Int} (hX : ScE E b0 L sx) (hi : 0 ≤ i ∧ i + 4 ≤ L) (hL : L ≤ 2048) (hcb : b = c + 101) (hLI : LI lay c b i r h) (K : ∀ r' h', LI lay c b (i + 4) r' h' → St E (mL_law nm) 1462 [some (.ref b0), some (.ref c), some (.ref b), some (vI i)] [] (122, 20801) N lay r' h') : St E (mL_law nm) 377 [some (.ref b0), some (.ref c), some (.ref b), some (vI i)] [] (122, 20801) N lay r h := by
  obtain ⟨q, n, tx, ep, km, mp, F, ux, sz, ho, sn, row, hI, hM, hle⟩ := hLI
  have hP0 := hI.2.2.2.2.2.1 0 (by omega) (by omega) (by have := hI.2.2.2.2.1.2.1; omega)
  rw [hI.2.2.2.2.2.2.1.1] at hP0
  have hT := hP0.1
  have hR := hP0.2.1
  have hep := hI.2.2.2.2.1
  have cl0 : lay c = (8, 0) := hI.1.1
  obtain ⟨a1, ha1⟩ : ∃ z, sx (i + 1) = z := ⟨_, rfl⟩
  have g1 := sc_rng hX (i + 1)
  rw [ha1] at g1
  obtain ⟨a2, ha2⟩ : ∃ z, sx (i + 2) = z := ⟨_, rfl⟩
  have g2 := sc_rng hX (i + 2)
  rw [ha2] at g2
  by_cases hc : (10 ≤ a1 ∧ a1 ≤ 9 + mp 130) ∧ (0 ≤ a2 ∧ a2 ≤ 16)
  · by_cases hs : mp (66 + a1) = a2
    · refine r_aload_1 (pc := 377) dL_law_377 ?_
      refine r_aload_0 (pc := 378) dL_law_378 ?_
      refine r_iload_3 (pc := 379) dL_law_379 ?_
      refine r_iconst (pc := 380) dL_law_380 ?_
      refine r_iadd (pc := 381) dL_law_381 ?_
      refine r_sld (pc := 382) hX dL_law_382 (by omega) (by omega) (fun i_382 => ?_)
      rw [ha1]
      refine r_aload_0 (pc := 383) dL_law_383 ?_
      refine r_iload_3 (pc := 384) dL_law_384 ?_
      refine r_iconst (pc := 385) dL_law_385 ?_
      refine r_iadd (pc := 386) dL_law_386 ?_
      refine r_sld (pc := 387) hX dL_law_387 (by omega) (by omega) (fun i_387 => ?_)
      rw [ha2]
      refine k_VI2 (pc := 388) c_X7_reweigh lk_L_44 ⟨(Nat.le_of_ble_eq_true rfl), (Nat.le_of_ble_eq_true rfl)⟩ ⟨rfl, rfl⟩ ⟨(Nat.le_of_ble_eq_true rfl), (Nat.le_of_ble_eq_true rfl)⟩ (k := 7) rfl (by decide) cl0 dL_law_388 (Nat.le_of_ble_eq_true rfl) ?_
      refine ⟨c, q, n, tx, ep, km, mp, F, ux, sz, ho, sn, row, a1, a2, rfl, hI, by omega, g1, g2, fun z => absurd hc z, fun _ => ⟨fun _ => ?_, fun z => absurd hs z⟩⟩
      have hM2 := hM
      obtain ⟨hMd2, ⟨e0, e5, e17, e19⟩, ⟨e1, e2, e12, e14, e15, e17r⟩, hWa2, hz2, hkp2, hes2⟩ := id hM2
      refine r_aload_2 (pc := 391) dL_law_391 ?_
      refine r_aload_0 (pc := 392) dL_law_392 ?_
      refine r_iload_3 (pc := 393) dL_law_393 ?_
      refine r_iconst (pc := 394) dL_law_394 ?_
      refine r_iadd (pc := 395) dL_law_395 ?_
      refine r_sld (pc := 396) hX dL_law_396 (by omega) (by omega) (fun i_396 => ?_)
      rw [ha1]
      refine r_aload_0 (pc := 397) dL_law_397 ?_
      refine r_iload_3 (pc := 398) dL_law_398 ?_
      refine r_iconst (pc := 399) dL_law_399 ?_
      refine r_iadd (pc := 400) dL_law_400 ?_
      refine r_sld (pc := 401) hX dL_law_401 (by omega) (by omega) (fun i_401 => ?_)
      rw [ha2]
      refine k_VI2 (pc := 402) c_X8_reweigh lk_L_47 ⟨(Nat.le_of_ble_eq_true rfl), (Nat.le_of_ble_eq_true rfl)⟩ ⟨rfl, rfl⟩ ⟨(Nat.le_of_ble_eq_true rfl), (Nat.le_of_ble_eq_true rfl)⟩ (k := 8) rfl (by decide) hMd2.1 dL_law_402 (Nat.le_of_ble_eq_true rfl) ?_
      refine ⟨b, mp, a1, a2, rfl, hMd2, e2, hT, hR, g1, g2, hWa2, (by rw [e5]; omega), fun z => absurd hc z, fun _ => ⟨fun _ => ?_, fun z => absurd hs z⟩⟩
      refine r_same (pc := 405) (tgt := 1462) (by first | rfl | (simp only [e0, e5, e17, e19, e1, e2, e12, e14, e15, e17r])) dL_law_405 (by decide) ?_
      exact K r h ⟨q, n, tx, ep, km, mp, F, ux, sz, ho, sn, row, hI, hM2, by omega⟩
    · refine r_aload_1 (pc := 377) dL_law_377 ?_
      refine r_aload_0 (pc := 378) dL_law_378 ?_
      refine r_iload_3 (pc := 379) dL_law_379 ?_
      refine r_iconst (pc := 380) dL_law_380 ?_
      refine r_iadd (pc := 381) dL_law_381 ?_
      refine r_sld (pc := 382) hX dL_law_382 (by omega) (by omega) (fun i_382 => ?_)
      rw [ha1]
      refine r_aload_0 (pc := 383) dL_law_383 ?_
      refine r_iload_3 (pc := 384) dL_law_384 ?_
      refine r_iconst (pc := 385) dL_law_385 ?_
      refine r_iadd (pc := 386) dL_law_386 ?_
      refine r_sld (pc := 387) hX dL_law_387 (by omega) (by omega) (fun i_387 => ?_)
      rw [ha2]
      refine k_VI2 (pc := 388) c_X7_reweigh lk_L_44 ⟨(Nat.le_of_ble_eq_true rfl), (Nat.le_of_ble_eq_true rfl)⟩ ⟨rfl, rfl⟩ ⟨(Nat.le_of_ble_eq_true rfl), (Nat.le_of_ble_eq_true rfl)⟩ (k := 7) rfl (by decide) cl0 dL_law_388 (Nat.le_of_ble_eq_true rfl) ?_
      refine ⟨c, q, n, tx, ep, km, mp, F, ux, sz, ho, sn, row, a1, a2, rfl, hI, by omega, g1, g2, fun z => absurd hc z, fun _ => ⟨fun z => absurd z hs, fun _ r2 h2 fr2 f2 hI2 => ?_⟩⟩
      have hM2 : MI lay r2 h2 b n tx ep km mp F ux sz ho sn row := hM.of (fr2 b (by omega)) (fun x x0 x1 => f2 x (by omega))
      obtain ⟨hMd2, ⟨e0, e5, e17, e19⟩, ⟨e1, e2, e12, e14, e15, e17r⟩, hWa2, hz2, hkp2, hes2⟩ := id hM2
      refine r_aload_2 (pc := 391) dL_law_391 ?_
      refine r_aload_0 (pc := 392) dL_law_392 ?_
      refine r_iload_3 (pc := 393) dL_law_393 ?_
      refine r_iconst (pc := 394) dL_law_394 ?_
      refine r_iadd (pc := 395) dL_law_395 ?_
      refine r_sld (pc := 396) hX dL_law_396 (by omega) (by omega) (fun i_396 => ?_)
      rw [ha1]
      refine r_aload_0 (pc := 397) dL_law_397 ?_
      refine r_iload_3 (pc := 398) dL_law_398 ?_
      refine r_iconst (pc := 399) dL_law_399 ?_
      refine r_iadd (pc := 400) dL_law_400 ?_
      refine r_sld (pc := 401) hX dL_law_401 (by omega) (by omega) (fun i_401 => ?_)
      rw [ha2]
      refine k_VI2 (pc := 402) c_X8_reweigh lk_L_47 ⟨(Nat.le_of_ble_eq_true rfl), (Nat.le_of_ble_eq_true rfl)⟩ ⟨rfl, rfl⟩ ⟨(Nat.le_of_ble_eq_true rfl), (Nat.le_of_ble_eq_true rfl)⟩ (k := 8) rfl (by decide) hMd2.1 dL_law_402 (Nat.le_of_ble_eq_true rfl) ?_
      refine ⟨b, mp, a1, a2, rfl, hMd2, e2, hT, hR, g1, g2, hWa2, (by rw [e5]; omega), fun z => absurd hc z, fun _ => ⟨fun z => absurd z hs, fun _ h3 hCh => ?_⟩⟩
      refine r_same (pc := 405) (tgt := 1462) (by first | rfl | (simp only [e0, e5, e17, e19, e1, e2, e12, e14, e15, e17r])) dL_law_405 (by decide) ?_
      exact K r2 h3 ⟨qN q, n, tx, ep + 1, kN km (up mp (66 + a1) a2), up mp (66 + a1) a2, h3 (b + 12), ux, sz, ho, sn, row, (hI2.fr (fun x x0 x1 => hCh.1 x (by omega))).cv (fun j j0 j1 => hCh.2.2.2.2.2 j j0 j1) (fun _ _ _ => rfl) (fun _ _ _ => rfl), hM2.ch hep.2.1 hCh (hz2.u (by have := hT.2.2.1; omega)) ⟨e0, e5, e17, e19⟩, by omega⟩
  · refine r_aload_1 (pc := 377) dL_law_377 ?_
    refine r_aload_0 (pc := 378) dL_law_378 ?_
    refine r_iload_3 (pc := 379) dL_law_379 ?_
    refine r_iconst (pc := 380) dL_law_380 ?_
    refine r_iadd (pc := 381) dL_law_381 ?_
    refine r_sld (pc := 382) hX dL_law_382 (by omega) (by omega) (fun i_382 => ?_)
    rw [ha1]
    refine r_aload_0 (pc := 383) dL_law_383 ?_
    refine r_iload_3 (pc := 384) dL_law_384 ?_
    refine r_iconst (pc := 385) dL_law_385 ?_
    refine r_iadd (pc := 386) dL_law_386 ?_
    refine r_sld (pc := 387) hX dL_law_387 (by omega) (by omega) (fun i_387 => ?_)
    rw [ha2]
    refine k_VI2 (pc := 388) c_X7_reweigh lk_L_44 ⟨(Nat.le_of_ble_eq_true rfl), (Nat.le_of_ble_eq_true rfl)⟩ ⟨rfl, rfl⟩ ⟨(Nat.le_of_ble_eq_true rfl), (Nat.le_of_ble_eq_true rfl)⟩ (k := 7) rfl (by decide) cl0 dL_law_388 (Nat.le_of_ble_eq_true rfl) ?_
    refine ⟨c, q, n, tx, ep, km, mp, F, ux, sz, ho, sn, row, a1, a2, rfl, hI, by omega, g1, g2, fun _ => ?_, fun z => absurd z hc⟩
    have hM2 := hM
    obtain ⟨hMd2, ⟨e0, e5, e17, e19⟩, ⟨e1, e2, e12, e14, e15, e17r⟩, hWa2, hz2, hkp2, hes2⟩ := id hM2
    refine r_aload_2 (pc := 391) dL_law_391 ?_
    refine r_aload_0 (pc := 392) dL_law_392 ?_
    refine r_iload_3 (pc := 393) dL_law_393 ?_
    refine r_iconst (pc := 394) dL_law_394 ?_
    refine r_iadd (pc := 395) dL_law_395 ?_
    refine r_sld (pc := 396) hX dL_law_396 (by omega) (by omega) (fun i_396 => ?_)
    rw [ha1]
    refine r_aload_0 (pc := 397) dL_law_397 ?_
    refine r_iload_3 (pc := 398) dL_law_398 ?_
    refine r_iconst (pc := 399) dL_law_399 ?_
    refine r_iadd (pc := 400) dL_law_400 ?_
    refine r_sld (pc := 401) hX dL_law_401 (by omega) (by omega) (fun i_401 => ?_)
    rw [ha2]
    refine k_VI2 (pc := 402) c_X8_reweigh lk_L_47 ⟨(Nat.le_of_ble_eq_true rfl), (Nat.le_of_ble_eq_true rfl)⟩ ⟨rfl, rfl⟩ ⟨(Nat.le_of_ble_eq_true rfl), (Nat.le_of_ble_eq_true rfl)⟩ (k := 8) rfl (by decide) hMd2.1 dL_law_402 (Nat.le_of_ble_eq_true rfl) ?_
    refine ⟨b, mp, a1, a2, rfl, hMd2, e2, hT, hR, g1, g2, hWa2, (by rw [e5]; omega), fun _ => ?_, fun z => absurd z hc⟩
    refine r_same (pc := 405) (tgt := 1462) (by first | rfl | (simp only [e0, e5, e17, e19, e1, e2, e12, e14, e15, e17r])) dL_law_405 (by decide) ?_
    exact K r h ⟨q, n, tx, ep, km, mp, F, ux, sz, ho, sn, row, hI, hM2, by omega⟩
theorem dL_law_489 : decode code 489 = .ok (.aload_n 1, 1) := by decide +kernel
theorem dL_law_490 : decode code 490 = .ok (.aload_n 0, 1) := by decide +kernel
theorem dL_law_491 : decode code 491 = .ok (.iload_n 3, 1) := by decide +kernel
theorem dL_law_492 : decode code 492 = .ok (.iconst 1, 1) := by decide +kernel
theorem dL_law_493 : decode code 493 = .ok (.iadd, 1) := by decide +kernel
theorem dL_law_494 : decode code 494 = .ok (.iaload, 1) := by decide +kernel
theorem dL_law_495 : decode code 495 = .ok (.aload_n 0, 1) := by decide +kernel
theorem dL_law_496 : decode code 496 = .ok (.iload_n 3, 1) := by decide +kernel
theorem dL_law_497 : decode code 497 = .ok (.iconst 2, 1) := by decide +kernel
theorem dL_law_498 : decode code 498 = .ok (.iadd, 1) := by decide +kernel
theorem dL_law_499 : decode code 499 = .ok (.iaload, 1) := by decide +kernel
theorem dL_law_500 : decode code 500 = .ok (.aload_n 0, 1) := by decide +kernel
theorem dL_law_501 : decode code 501 = .ok (.iload_n 3, 1) := by decide +kernel
theorem dL_law_502 : decode code 502 = .ok (.iconst 3, 1) := by decide +kernel
theorem dL_law_503 : decode code 503 = .ok (.iadd, 1) := by decide +kernel
theorem dL_law_504 : decode code 504 = .ok (.iaload, 1) := by decide +kernel
theorem dL_law_505 : decode code 505 = .ok (.invokevirtual 61, 3) := by decide +kernel
theorem dL_law_508 : decode code 508 = .ok (.aload_n 2, 1) := by decide +kernel
theorem dL_law_509 : decode code 509 = .ok (.aload_n 0, 1) := by decide +kernel
theorem dL_law_510 : decode code 510 = .ok (.iload_n 3, 1) := by decide +kernel
theorem dL_law_511 : decode code 511 = .ok (.iconst 1, 1) := by decide +kernel
theorem dL_law_512 : decode code 512 = .ok (.iadd, 1) := by decide +kernel
theorem dL_law_513 : decode code 513 = .ok (.iaload, 1) := by decide +kernel
theorem dL_law_514 : decode code 514 = .ok (.aload_n 0, 1) := by decide +kernel
theorem dL_law_515 : decode code 515 = .ok (.iload_n 3, 1) := by decide +kernel
theorem dL_law_516 : decode code 516 = .ok (.iconst 2, 1) := by decide +kernel
theorem dL_law_517 : decode code 517 = .ok (.iadd, 1) := by decide +kernel
theorem dL_law_518 : decode code 518 = .ok (.iaload, 1) := by decide +kernel
theorem dL_law_519 : decode code 519 = .ok (.aload_n 0, 1) := by decide +kernel
theorem dL_law_520 : decode code 520 = .ok (.iload_n 3, 1) := by decide +kernel
theorem dL_law_521 : decode code 521 = .ok (.iconst 3, 1) := by decide +kernel
theorem dL_law_522 : decode code 522 = .ok (.iadd, 1) := by decide +kernel
theorem dL_law_523 : decode code 523 = .ok (.iaload, 1) := by decide +kernel
theorem dL_law_524 : decode code 524 = .ok (.invokevirtual 64, 3) := by decide +kernel
theorem dL_law_527 : decode code 527 = .ok (.if_icmp .eq 935, 3) := by decide +kernel
set_option maxHeartbeats 4000000 in
set_option maxRecDepth 20000 in
theorem law_rule {E : EnT} {nm : String} {lay : LyT} {r : RfT} {h : HpT} {c b b0 L N : Nat} {sx : Int → Int} {i : Int} (hX : ScE E b0 L sx) (hi : 0 ≤ i ∧ i + 4 ≤ L) (hL : L ≤ 2048) (hcb : b = c + 101) (hLI : LI lay c b i r h) (K : ∀ r' h', LI lay c b (i + 4) r' h' → St E (mL_law nm) 1462 [some (.ref b0), some (.ref c), some (.ref b), some (vI i)] [] (122, 20801) N lay r' h') : St E (mL_law nm) 489 [some (.ref b0), some (.ref c), some (.ref b), some (vI i)] [] (122, 20801) N lay r h := by
  obtain ⟨q, n, tx, ep, km, mp, F, ux, sz, ho, sn, row, hI, hM, hle⟩ := hLI
  have hP0 := hI.2.2.2.2.2.1 0 (by omega) (by omega) (by have := hI.2.2.2.2.1.2.1; omega)
  rw [hI.2.2.2.2.2.2.1.1] at hP0
  have hT := hP0.1
  have hR := hP0.2.1
  have hep := hI.2.2.2.2.1
  have cl0 : lay c = (8, 0) := hI.1.1
  obtain ⟨a1, ha1⟩ : ∃ z, sx (i + 1) = z := ⟨_, rfl⟩
  have g1 := sc_rng hX (i + 1)
  rw [ha1] at g1
  obtain ⟨a2, ha2⟩ : ∃ z, sx (i + 2) = z := ⟨_, rfl⟩
  have g2 := sc_rng hX (i + 2)
  rw [ha2] at g2
  obtain ⟨a3, ha3⟩ : ∃ z, sx (i + 3) = z := ⟨_, rfl⟩
  have g3 := sc_rng hX (i + 3)
  rw [ha3] at g3
  by_cases hc : (1 ≤ a1 ∧ a1 ≤ 4) ∧ (1 ≤ a2 ∧ a2 ≤ 3) ∧ (0 ≤ a3 ∧ a3 ≤ 1)
  · by_cases hs : 100 * mp 131 + 10 * mp 132 + mp 133 = 100 * a1 + 10 * a2 + a3
    · refine r_aload_1 (pc := 489) dL_law_489 ?_
      refine r_aload_0 (pc := 490) dL_law_490 ?_
      refine r_iload_3 (pc := 491) dL_law_491 ?_
      refine r_iconst (pc := 492) dL_law_492 ?_
      refine r_iadd (pc := 493) dL_law_493 ?_
      refine r_sld (pc := 494) hX dL_law_494 (by omega) (by omega) (fun i_494 => ?_)
      rw [ha1]
      refine r_aload_0 (pc := 495) dL_law_495 ?_
      refine r_iload_3 (pc := 496) dL_law_496 ?_
      refine r_iconst (pc := 497) dL_law_497 ?_
      refine r_iadd (pc := 498) dL_law_498 ?_
      refine r_sld (pc := 499) hX dL_law_499 (by omega) (by omega) (fun i_499 => ?_)
      rw [ha2]
      refine r_aload_0 (pc := 500) dL_law_500 ?_
      refine r_iload_3 (pc := 501) dL_law_501 ?_
      refine r_iconst (pc := 502) dL_law_502 ?_
      refine r_iadd (pc := 503) dL_law_503 ?_
      refine r_sld (pc := 504) hX dL_law_504 (by omega) (by omega) (fun i_504 => ?_)
      rw [ha3]
      refine k_VI3 (pc := 505) c_X7_rule lk_L_61 ⟨(Nat.le_of_ble_eq_true rfl), (Nat.le_of_ble_eq_true rfl)⟩ ⟨rfl, rfl⟩ ⟨(Nat.le_of_ble_eq_true rfl), (Nat.le_of_ble_eq_true rfl)⟩ (k := 7) rfl (by decide) cl0 dL_law_505 (Nat.le_of_ble_eq_true rfl) ?_
      refine ⟨c, q, n, tx, ep, km, mp, F, ux, sz, ho, sn, row, a1, a2, a3, rfl, hI, by omega, g1, g2, g3, fun z => absurd hc z, fun _ => ⟨fun _ => ?_, fun z => absurd hs z⟩⟩
      have hM2 := hM
      obtain ⟨hMd2, ⟨e0, e5, e17, e19⟩, ⟨e1, e2, e12, e14, e15, e17r⟩, hWa2, hz2, hkp2, hes2⟩ := id hM2
      refine r_aload_2 (pc := 508) dL_law_508 ?_
      refine r_aload_0 (pc := 509) dL_law_509 ?_
      refine r_iload_3 (pc := 510) dL_law_510 ?_
      refine r_iconst (pc := 511) dL_law_511 ?_
      refine r_iadd (pc := 512) dL_law_512 ?_
      refine r_sld (pc := 513) hX dL_law_513 (by omega) (by omega) (fun i_513 => ?_)
      rw [ha1]
      refine r_aload_0 (pc := 514) dL_law_514 ?_
      refine r_iload_3 (pc := 515) dL_law_515 ?_
      refine r_iconst (pc := 516) dL_law_516 ?_
      refine r_iadd (pc := 517) dL_law_517 ?_
      refine r_sld (pc := 518) hX dL_law_518 (by omega) (by omega) (fun i_518 => ?_)
      rw [ha2]
      refine r_aload_0 (pc := 519) dL_law_519 ?_
      refine r_iload_3 (pc := 520) dL_law_520 ?_
      refine r_iconst (pc := 521) dL_law_521 ?_
      refine r_iadd (pc := 522) dL_law_522 ?_
      refine r_sld (pc := 523) hX dL_law_523 (by omega) (by omega) (fun i_523 => ?_)
      rw [ha3]
      refine k_VI3 (pc := 524) c_X8_rule lk_L_64 ⟨(Nat.le_of_ble_eq_true rfl), (Nat.le_of_ble_eq_true rfl)⟩ ⟨rfl, rfl⟩ ⟨(Nat.le_of_ble_eq_true rfl), (Nat.le_of_ble_eq_true rfl)⟩ (k := 8) rfl (by decide) hMd2.1 dL_law_524 (Nat.le_of_ble_eq_true rfl) ?_
      refine ⟨b, mp, a1, a2, a3, rfl, hMd2, e2, hT, hR, g1, g2, g3, hWa2, (by rw [e5]; omega), fun z => absurd hc z, fun _ => ⟨fun _ => ?_, fun z => absurd hs z⟩⟩
      refine r_same (pc := 527) (tgt := 1462) (by first | rfl | (simp only [e0, e5, e17, e19, e1, e2, e12, e14, e15, e17r])) dL_law_527 (by decide) ?_
      exact K r h ⟨q, n, tx, ep, km, mp, F, ux, sz, ho, sn, row, hI, hM2, by omega⟩
    · refine r_aload_1 (pc := 489) dL_law_489 ?_
      refine r_aload_0 (pc := 490) dL_law_490 ?_
      refine r_iload_3 (pc := 491) dL_law_491 ?_
      refine r_iconst (pc := 492) dL_law_492 ?_
      refine r_iadd (pc := 493) dL_law_493 ?_
      refine r_sld (pc := 494) hX dL_law_494 (by omega) (by omega) (fun i_494 => ?_)
      rw [ha1]
      refine r_aload_0 (pc := 495) dL_law_495 ?_
      refine r_iload_3 (pc := 496) dL_law_496 ?_
      refine r_iconst (pc := 497) dL_law_497 ?_
      refine r_iadd (pc := 498) dL_law_498 ?_
      refine r_sld (pc := 499) hX dL_law_499 (by omega) (by omega) (fun i_499 => ?_)
      rw [ha2]
      refine r_aload_0 (pc := 500) dL_law_500 ?_
      refine r_iload_3 (pc := 501) dL_law_501 ?_
      refine r_iconst (pc := 502) dL_law_502 ?_
      refine r_iadd (pc := 503) dL_law_503 ?_
      refine r_sld (pc := 504) hX dL_law_504 (by omega) (by omega) (fun i_504 => ?_)
      rw [ha3]
      refine k_VI3 (pc := 505) c_X7_rule lk_L_61 ⟨(Nat.le_of_ble_eq_true rfl), (Nat.le_of_ble_eq_true rfl)⟩ ⟨rfl, rfl⟩ ⟨(Nat.le_of_ble_eq_true rfl), (Nat.le_of_ble_eq_true rfl)⟩ (k := 7) rfl (by decide) cl0 dL_law_505 (Nat.le_of_ble_eq_true rfl) ?_
      refine ⟨c, q, n, tx, ep, km, mp, F, ux, sz, ho, sn, row, a1, a2, a3, rfl, hI, by omega, g1, g2, g3, fun z => absurd hc z, fun _ => ⟨fun z => absurd z hs, fun _ r2 h2 fr2 f2 hI2 => ?_⟩⟩
      have hM2 : MI lay r2 h2 b n tx ep km mp F ux sz ho sn row := hM.of (fr2 b (by omega)) (fun x x0 x1 => f2 x (by omega))
      obtain ⟨hMd2, ⟨e0, e5, e17, e19⟩, ⟨e1, e2, e12, e14, e15, e17r⟩, hWa2, hz2, hkp2, hes2⟩ := id hM2
      refine r_aload_2 (pc := 508) dL_law_508 ?_
      refine r_aload_0 (pc := 509) dL_law_509 ?_
      refine r_iload_3 (pc := 510) dL_law_510 ?_
      refine r_iconst (pc := 511) dL_law_511 ?_
      refine r_iadd (pc := 512) dL_law_512 ?_
      refine r_sld (pc := 513) hX dL_law_513 (by omega) (by omega) (fun i_513 => ?_)
      rw [ha1]
      refine r_aload_0 (pc := 514) dL_law_514 ?_
      refine r_iload_3 (pc := 515) dL_law_515 ?_
      refine r_iconst (pc := 516) dL_law_516 ?_
      refine r_iadd (pc := 517) dL_law_517 ?_
      refine r_sld (pc := 518) hX dL_law_518 (by omega) (by omega) (fun i_518 => ?_)
      rw [ha2]
      refine r_aload_0 (pc := 519) dL_law_519 ?_
      refine r_iload_3 (pc := 520) dL_law_520 ?_
      refine r_iconst (pc := 521) dL_law_521 ?_
      refine r_iadd (pc := 522) dL_law_522 ?_
      refine r_sld (pc := 523) hX dL_law_523 (by omega) (by omega) (fun i_523 => ?_)
      rw [ha3]
      refine k_VI3 (pc := 524) c_X8_rule lk_L_64 ⟨(Nat.le_of_ble_eq_true rfl), (Nat.le_of_ble_eq_true rfl)⟩ ⟨rfl, rfl⟩ ⟨(Nat.le_of_ble_eq_true rfl), (Nat.le_of_ble_eq_true rfl)⟩ (k := 8) rfl (by decide) hMd2.1 dL_law_524 (Nat.le_of_ble_eq_true rfl) ?_
      refine ⟨b, mp, a1, a2, a3, rfl, hMd2, e2, hT, hR, g1, g2, g3, hWa2, (by rw [e5]; omega), fun z => absurd hc z, fun _ => ⟨fun z => absurd z hs, fun _ h3 hCh => ?_⟩⟩
      refine r_same (pc := 527) (tgt := 1462) (by first | rfl | (simp only [e0, e5, e17, e19, e1, e2, e12, e14, e15, e17r])) dL_law_527 (by decide) ?_
      exact K r2 h3 ⟨qN q, n, tx, ep + 1, kN km (up (up (up mp 131 a1) 132 a2) 133 a3), up (up (up mp 131 a1) 132 a2) 133 a3, h3 (b + 12), ux, sz, ho, sn, row, (hI2.fr (fun x x0 x1 => hCh.1 x (by omega))).cv (fun j j0 j1 => hCh.2.2.2.2.2 j j0 j1) (fun _ _ _ => rfl) (fun _ _ _ => rfl), hM2.ch hep.2.1 hCh (((hz2.u (by omega)).u (by omega)).u (by omega)) ⟨e0, e5, e17, e19⟩, by omega⟩
  · refine r_aload_1 (pc := 489) dL_law_489 ?_
    refine r_aload_0 (pc := 490) dL_law_490 ?_
    refine r_iload_3 (pc := 491) dL_law_491 ?_
    refine r_iconst (pc := 492) dL_law_492 ?_
    refine r_iadd (pc := 493) dL_law_493 ?_
    refine r_sld (pc := 494) hX dL_law_494 (by omega) (by omega) (fun i_494 => ?_)
    rw [ha1]
    refine r_aload_0 (pc := 495) dL_law_495 ?_
    refine r_iload_3 (pc := 496) dL_law_496 ?_
    refine r_iconst (pc := 497) dL_law_497 ?_
    refine r_iadd (pc := 498) dL_law_498 ?_
    refine r_sld (pc := 499) hX dL_law_499 (by omega) (by omega) (fun i_499 => ?_)
    rw [ha2]
    refine r_aload_0 (pc := 500) dL_law_500 ?_
    refine r_iload_3 (pc := 501) dL_law_501 ?_
    refine r_iconst (pc := 502) dL_law_502 ?_
    refine r_iadd (pc := 503) dL_law_503 ?_
    refine r_sld (pc := 504) hX dL_law_504 (by omega) (by omega) (fun i_504 => ?_)
    rw [ha3]
    refine k_VI3 (pc := 505) c_X7_rule lk_L_61 ⟨(Nat.le_of_ble_eq_true rfl), (Nat.le_of_ble_eq_true rfl)⟩ ⟨rfl, rfl⟩ ⟨(Nat.le_of_ble_eq_true rfl), (Nat.le_of_ble_eq_true rfl)⟩ (k := 7) rfl (by decide) cl0 dL_law_505 (Nat.le_of_ble_eq_true rfl) ?_
    refine ⟨c, q, n, tx, ep, km, mp, F, ux, sz, ho, sn, row, a1, a2, a3, rfl, hI, by omega, g1, g2, g3, fun _ => ?_, fun z => absurd z hc⟩
    have hM2 := hM
    obtain ⟨hMd2, ⟨e0, e5, e17, e19⟩, ⟨e1, e2, e12, e14, e15, e17r⟩, hWa2, hz2, hkp2, hes2⟩ := id hM2
    refine r_aload_2 (pc := 508) dL_law_508 ?_
    refine r_aload_0 (pc := 509) dL_law_509 ?_
    refine r_iload_3 (pc := 510) dL_law_510 ?_
    refine r_iconst (pc := 511) dL_law_511 ?_
    refine r_iadd (pc := 512) dL_law_512 ?_
    refine r_sld (pc := 513) hX dL_law_513 (by omega) (by omega) (fun i_513 => ?_)
    rw [ha1]
    refine r_aload_0 (pc := 514) dL_law_514 ?_
    refine r_iload_3 (pc := 515) dL_law_515 ?_
    refine r_iconst (pc := 516) dL_law_516 ?_
    refine r_iadd (pc := 517) dL_law_517 ?_
    refine r_sld (pc := 518) hX dL_law_518 (by omega) (by omega) (fun i_518 => ?_)
    rw [ha2]
    refine r_aload_0 (pc := 519) dL_law_519 ?_
    refine r_iload_3 (pc := 520) dL_law_520 ?_
    refine r_iconst (pc := 521) dL_law_521 ?_
    refine r_iadd (pc := 522) dL_law_522 ?_
    refine r_sld (pc := 523) hX dL_law_523 (by omega) (by omega) (fun i_523 => ?_)
    rw [ha3]
    refine k_VI3 (pc := 524) c_X8_rule lk_L_64 ⟨(Nat.le_of_ble_eq_true rfl), (Nat.le_of_ble_eq_true rfl)⟩ ⟨rfl, rfl⟩ ⟨(Nat.le_of_ble_eq_true rfl), (Nat.le_of_ble_eq_true rfl)⟩ (k := 8) rfl (by decide) hMd2.1 dL_law_524 (Nat.le_of_ble_eq_true rfl) ?_
    refine ⟨b, mp, a1, a2, a3, rfl, hMd2, e2, hT, hR, g1, g2, g3, hWa2, (by rw [e5]; omega), fun _ => ?_, fun z => absurd z hc⟩
    refine r_same (pc := 527) (tgt := 1462) (by first | rfl | (simp only [e0, e5, e17, e19, e1, e2, e12, e14, e15, e17r])) dL_law_527 (by decide) ?_
    exact K r h ⟨q, n, tx, ep, km, mp, F, ux, sz, ho, sn, row, hI, hM2, by omega⟩
