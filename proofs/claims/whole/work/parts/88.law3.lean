/-! THE LAW: one call on both sides, third part -/
theorem dL_law_278 : decode code 278 = .ok (.aload_n 1, 1) := by decide +kernel
theorem dL_law_279 : decode code 279 = .ok (.aload_n 0, 1) := by decide +kernel
theorem dL_law_280 : decode code 280 = .ok (.iload_n 3, 1) := by decide +kernel
theorem dL_law_281 : decode code 281 = .ok (.iconst 1, 1) := by decide +kernel
theorem dL_law_282 : decode code 282 = .ok (.iadd, 1) := by decide +kernel
theorem dL_law_283 : decode code 283 = .ok (.iaload, 1) := by decide +kernel
theorem dL_law_284 : decode code 284 = .ok (.aload_n 0, 1) := by decide +kernel
theorem dL_law_285 : decode code 285 = .ok (.iload_n 3, 1) := by decide +kernel
theorem dL_law_286 : decode code 286 = .ok (.iconst 2, 1) := by decide +kernel
theorem dL_law_287 : decode code 287 = .ok (.iadd, 1) := by decide +kernel
theorem dL_law_288 : decode code 288 = .ok (.iaload, 1) := by decide +kernel
theorem dL_law_289 : decode code 289 = .ok (.invokevirtual 31, 3) := by decide +kernel
theorem dL_law_292 : decode code 292 = .ok (.aload_n 2, 1) := by decide +kernel
theorem dL_law_293 : decode code 293 = .ok (.aload_n 0, 1) := by decide +kernel
theorem dL_law_294 : decode code 294 = .ok (.iload_n 3, 1) := by decide +kernel
theorem dL_law_295 : decode code 295 = .ok (.iconst 1, 1) := by decide +kernel
theorem dL_law_296 : decode code 296 = .ok (.iadd, 1) := by decide +kernel
theorem dL_law_297 : decode code 297 = .ok (.iaload, 1) := by decide +kernel
theorem dL_law_298 : decode code 298 = .ok (.aload_n 0, 1) := by decide +kernel
theorem dL_law_299 : decode code 299 = .ok (.iload_n 3, 1) := by decide +kernel
theorem dL_law_300 : decode code 300 = .ok (.iconst 2, 1) := by decide +kernel
theorem dL_law_301 : decode code 301 = .ok (.iadd, 1) := by decide +kernel
theorem dL_law_302 : decode code 302 = .ok (.iaload, 1) := by decide +kernel
theorem dL_law_303 : decode code 303 = .ok (.invokevirtual 35, 3) := by decide +kernel
theorem dL_law_306 : decode code 306 = .ok (.if_icmp .eq 1156, 3) := by decide +kernel
set_option maxHeartbeats 4000000 in
set_option maxRecDepth 20000 in
theorem law_node {E : EnT} {lay : LyT} {r : RfT} {h : HpT} {c b b0 L N : Nat} {sx : Int → Int} {i : Int} (hX : ScE E b0 L sx) (hi : 0 ≤ i ∧ i + 4 ≤ L) (hL : L ≤ 2048) (hcb : b = c + 101) (hLI : LI lay c b i r h) (K : ∀ r' h', LI lay c b (i + 4) r' h' → St E mL_law 1462 [some (.ref b0), some (.ref c), some (.ref b), some (vI i)] [] (122, 20801) N lay r' h') : St E mL_law 278 [some (.ref b0), some (.ref c), some (.ref b), some (vI i)] [] (122, 20801) N lay r h := by
  obtain ⟨q, n, tx, ep, km, mp, F, ux, sz, ho, sn, row, hI, hM, hle⟩ := hLI
  have hP0 := hI.2.2.2.2.2.1 0 (by omega) (by omega) (by have := hI.2.2.2.2.1.2.1; omega)
  rw [hI.2.2.2.2.2.2.1.1] at hP0
  have hT := hP0.1
  have hR := hP0.2.1
  have hep := hI.2.2.2.2.1
  have cl0 : lay c = (8, 0) := hI.1.1
  obtain ⟨a1, ha1⟩ : ∃ z, sx (i + 1) = z := ⟨_, rfl⟩
  have g1 := sc_rng hX (i + 1)
  rw [ha1] at g1
  obtain ⟨a2, ha2⟩ : ∃ z, sx (i + 2) = z := ⟨_, rfl⟩
  have g2 := sc_rng hX (i + 2)
  rw [ha2] at g2
  by_cases hc : isNd mp a1 ∧ (0 ≤ a2 ∧ a2 ≤ if 10 ≤ a1 ∧ a1 ≤ 9 + mp 130 then 6 else 2)
  · have hc6 : 0 ≤ a2 ∧ a2 ≤ 6 := by
      have z2 := hc.2
      split at z2 <;> omega
    rcases (show a2 = 0 ∨ a2 = 1 ∨ a2 = 2 ∨ a2 = 3 ∨ a2 = 4 ∨ a2 = 5 ∨ a2 = 6 by omega) with hv | hv | hv | hv | hv | hv | hv
    · refine r_aload_1 (pc := 278) dL_law_278 ?_
      refine r_aload_0 (pc := 279) dL_law_279 ?_
      refine r_iload_3 (pc := 280) dL_law_280 ?_
      refine r_iconst (pc := 281) dL_law_281 ?_
      refine r_iadd (pc := 282) dL_law_282 ?_
      refine r_sld (pc := 283) hX dL_law_283 (by omega) (by omega) (fun i_283 => ?_)
      rw [ha1]
      refine r_aload_0 (pc := 284) dL_law_284 ?_
      refine r_iload_3 (pc := 285) dL_law_285 ?_
      refine r_iconst (pc := 286) dL_law_286 ?_
      refine r_iadd (pc := 287) dL_law_287 ?_
      refine r_sld (pc := 288) hX dL_law_288 (by omega) (by omega) (fun i_288 => ?_)
      rw [ha2]
      refine k_VI2 (pc := 289) c_X7_node lk_L_31 ⟨(Nat.le_of_ble_eq_true rfl), (Nat.le_of_ble_eq_true rfl)⟩ ⟨rfl, rfl⟩ ⟨(Nat.le_of_ble_eq_true rfl), (Nat.le_of_ble_eq_true rfl)⟩ (k := 7) rfl (by decide) cl0 dL_law_289 (Nat.le_of_ble_eq_true rfl) ?_
      refine ⟨c, q, n, tx, ep, km, mp, F, ux, sz, ho, sn, row, a1, a2, rfl, hI, g1, g2, fun z => absurd hc z, fun _ => ⟨fun _ => ?_, fun z => by omega, fun z => by omega, fun z => by omega, fun z => by omega, fun z => by omega, fun z => by omega⟩⟩
      have hM2 := hM
      obtain ⟨hMd2, ⟨e0, e5, e17, e19⟩, ⟨e1, e2, e12, e14, e15, e17r⟩, hWa2, hz2, hkp2, hes2⟩ := id hM2
      refine r_aload_2 (pc := 292) dL_law_292 ?_
      refine r_aload_0 (pc := 293) dL_law_293 ?_
      refine r_iload_3 (pc := 294) dL_law_294 ?_
      refine r_iconst (pc := 295) dL_law_295 ?_
      refine r_iadd (pc := 296) dL_law_296 ?_
      refine r_sld (pc := 297) hX dL_law_297 (by omega) (by omega) (fun i_297 => ?_)
      rw [ha1]
      refine r_aload_0 (pc := 298) dL_law_298 ?_
      refine r_iload_3 (pc := 299) dL_law_299 ?_
      refine r_iconst (pc := 300) dL_law_300 ?_
      refine r_iadd (pc := 301) dL_law_301 ?_
      refine r_sld (pc := 302) hX dL_law_302 (by omega) (by omega) (fun i_302 => ?_)
      rw [ha2]
      refine k_VI2 (pc := 303) c_X8_node lk_L_35 ⟨(Nat.le_of_ble_eq_true rfl), (Nat.le_of_ble_eq_true rfl)⟩ ⟨rfl, rfl⟩ ⟨(Nat.le_of_ble_eq_true rfl), (Nat.le_of_ble_eq_true rfl)⟩ (k := 8) rfl (by decide) hMd2.1 dL_law_303 (Nat.le_of_ble_eq_true rfl) ?_
      refine ⟨b, mp, a1, a2, rfl, hMd2, e2, hT, hR, g1, g2, fun z => absurd hc z, fun _ => ⟨fun _ => ?_, fun z => by omega, fun z => by omega, fun z => by omega, fun z => by omega, fun z => by omega, fun z => by omega⟩⟩
      refine r_same (pc := 306) (tgt := 1462) (by first | rfl | (simp only [e0, e5, e17, e19, e1, e2, e12, e14, e15, e17r])) dL_law_306 (by decide) ?_
      exact K r h ⟨q, n, tx, ep, km, mp, F, ux, sz, ho, sn, row, hI, hM2, by omega⟩
    · by_cases h0 : a1 = 0
      · refine r_aload_1 (pc := 278) dL_law_278 ?_
        refine r_aload_0 (pc := 279) dL_law_279 ?_
        refine r_iload_3 (pc := 280) dL_law_280 ?_
        refine r_iconst (pc := 281) dL_law_281 ?_
        refine r_iadd (pc := 282) dL_law_282 ?_
        refine r_sld (pc := 283) hX dL_law_283 (by omega) (by omega) (fun i_283 => ?_)
        rw [ha1]
        refine r_aload_0 (pc := 284) dL_law_284 ?_
        refine r_iload_3 (pc := 285) dL_law_285 ?_
        refine r_iconst (pc := 286) dL_law_286 ?_
        refine r_iadd (pc := 287) dL_law_287 ?_
        refine r_sld (pc := 288) hX dL_law_288 (by omega) (by omega) (fun i_288 => ?_)
        rw [ha2]
        refine k_VI2 (pc := 289) c_X7_node lk_L_31 ⟨(Nat.le_of_ble_eq_true rfl), (Nat.le_of_ble_eq_true rfl)⟩ ⟨rfl, rfl⟩ ⟨(Nat.le_of_ble_eq_true rfl), (Nat.le_of_ble_eq_true rfl)⟩ (k := 7) rfl (by decide) cl0 dL_law_289 (Nat.le_of_ble_eq_true rfl) ?_
        refine ⟨c, q, n, tx, ep, km, mp, F, ux, sz, ho, sn, row, a1, a2, rfl, hI, g1, g2, fun z => absurd hc z, fun _ => ⟨fun z => by omega, fun _ => ⟨fun _ => ?_, fun z => absurd h0 z⟩, fun z => by omega, fun z => by omega, fun z => by omega, fun z => by omega, fun z => by omega⟩⟩
        have hM2 := hM
        obtain ⟨hMd2, ⟨e0, e5, e17, e19⟩, ⟨e1, e2, e12, e14, e15, e17r⟩, hWa2, hz2, hkp2, hes2⟩ := id hM2
        refine r_aload_2 (pc := 292) dL_law_292 ?_
        refine r_aload_0 (pc := 293) dL_law_293 ?_
        refine r_iload_3 (pc := 294) dL_law_294 ?_
        refine r_iconst (pc := 295) dL_law_295 ?_
        refine r_iadd (pc := 296) dL_law_296 ?_
        refine r_sld (pc := 297) hX dL_law_297 (by omega) (by omega) (fun i_297 => ?_)
        rw [ha1]
        refine r_aload_0 (pc := 298) dL_law_298 ?_
        refine r_iload_3 (pc := 299) dL_law_299 ?_
        refine r_iconst (pc := 300) dL_law_300 ?_
        refine r_iadd (pc := 301) dL_law_301 ?_
        refine r_sld (pc := 302) hX dL_law_302 (by omega) (by omega) (fun i_302 => ?_)
        rw [ha2]
        refine k_VI2 (pc := 303) c_X8_node lk_L_35 ⟨(Nat.le_of_ble_eq_true rfl), (Nat.le_of_ble_eq_true rfl)⟩ ⟨rfl, rfl⟩ ⟨(Nat.le_of_ble_eq_true rfl), (Nat.le_of_ble_eq_true rfl)⟩ (k := 8) rfl (by decide) hMd2.1 dL_law_303 (Nat.le_of_ble_eq_true rfl) ?_
        refine ⟨b, mp, a1, a2, rfl, hMd2, e2, hT, hR, g1, g2, fun z => absurd hc z, fun _ => ⟨fun z => by omega, fun _ => ⟨fun _ => ?_, fun z => absurd h0 z⟩, fun z => by omega, fun z => by omega, fun z => by omega, fun z => by omega, fun z => by omega⟩⟩
        refine r_same (pc := 306) (tgt := 1462) (by first | rfl | (simp only [e0, e5, e17, e19, e1, e2, e12, e14, e15, e17r])) dL_law_306 (by decide) ?_
        exact K r h ⟨q, n, tx, ep, km, mp, F, ux, sz, ho, sn, row, hI, hM2, by omega⟩
      · refine r_aload_1 (pc := 278) dL_law_278 ?_
        refine r_aload_0 (pc := 279) dL_law_279 ?_
        refine r_iload_3 (pc := 280) dL_law_280 ?_
        refine r_iconst (pc := 281) dL_law_281 ?_
        refine r_iadd (pc := 282) dL_law_282 ?_
        refine r_sld (pc := 283) hX dL_law_283 (by omega) (by omega) (fun i_283 => ?_)
        rw [ha1]
        refine r_aload_0 (pc := 284) dL_law_284 ?_
        refine r_iload_3 (pc := 285) dL_law_285 ?_
        refine r_iconst (pc := 286) dL_law_286 ?_
        refine r_iadd (pc := 287) dL_law_287 ?_
        refine r_sld (pc := 288) hX dL_law_288 (by omega) (by omega) (fun i_288 => ?_)
        rw [ha2]
        refine k_VI2 (pc := 289) c_X7_node lk_L_31 ⟨(Nat.le_of_ble_eq_true rfl), (Nat.le_of_ble_eq_true rfl)⟩ ⟨rfl, rfl⟩ ⟨(Nat.le_of_ble_eq_true rfl), (Nat.le_of_ble_eq_true rfl)⟩ (k := 7) rfl (by decide) cl0 dL_law_289 (Nat.le_of_ble_eq_true rfl) ?_
        refine ⟨c, q, n, tx, ep, km, mp, F, ux, sz, ho, sn, row, a1, a2, rfl, hI, g1, g2, fun z => absurd hc z, fun _ => ⟨fun z => by omega, fun _ => ⟨fun z => absurd z h0, fun _ => ?_⟩, fun z => by omega, fun z => by omega, fun z => by omega, fun z => by omega, fun z => by omega⟩⟩
        have hM2 := hM
        obtain ⟨hMd2, ⟨e0, e5, e17, e19⟩, ⟨e1, e2, e12, e14, e15, e17r⟩, hWa2, hz2, hkp2, hes2⟩ := id hM2
        refine r_aload_2 (pc := 292) dL_law_292 ?_
        refine r_aload_0 (pc := 293) dL_law_293 ?_
        refine r_iload_3 (pc := 294) dL_law_294 ?_
        refine r_iconst (pc := 295) dL_law_295 ?_
        refine r_iadd (pc := 296) dL_law_296 ?_
        refine r_sld (pc := 297) hX dL_law_297 (by omega) (by omega) (fun i_297 => ?_)
        rw [ha1]
        refine r_aload_0 (pc := 298) dL_law_298 ?_
        refine r_iload_3 (pc := 299) dL_law_299 ?_
        refine r_iconst (pc := 300) dL_law_300 ?_
        refine r_iadd (pc := 301) dL_law_301 ?_
        refine r_sld (pc := 302) hX dL_law_302 (by omega) (by omega) (fun i_302 => ?_)
        rw [ha2]
        refine k_VI2 (pc := 303) c_X8_node lk_L_35 ⟨(Nat.le_of_ble_eq_true rfl), (Nat.le_of_ble_eq_true rfl)⟩ ⟨rfl, rfl⟩ ⟨(Nat.le_of_ble_eq_true rfl), (Nat.le_of_ble_eq_true rfl)⟩ (k := 8) rfl (by decide) hMd2.1 dL_law_303 (Nat.le_of_ble_eq_true rfl) ?_
        refine ⟨b, mp, a1, a2, rfl, hMd2, e2, hT, hR, g1, g2, fun z => absurd hc z, fun _ => ⟨fun z => by omega, fun _ => ⟨fun z => absurd z h0, fun _ => ?_⟩, fun z => by omega, fun z => by omega, fun z => by omega, fun z => by omega, fun z => by omega⟩⟩
        refine r_same (pc := 306) (tgt := 1462) (by first | rfl | (simp only [e0, e5, e17, e19, e1, e2, e12, e14, e15, e17r])) dL_law_306 (by decide) ?_
        exact K r h ⟨q, n, tx, ep, km, mp, F, ux, sz, ho, sn, row, hI, hM2, by omega⟩
    · refine r_aload_1 (pc := 278) dL_law_278 ?_
      refine r_aload_0 (pc := 279) dL_law_279 ?_
      refine r_iload_3 (pc := 280) dL_law_280 ?_
      refine r_iconst (pc := 281) dL_law_281 ?_
      refine r_iadd (pc := 282) dL_law_282 ?_
      refine r_sld (pc := 283) hX dL_law_283 (by omega) (by omega) (fun i_283 => ?_)
      rw [ha1]
      refine r_aload_0 (pc := 284) dL_law_284 ?_
      refine r_iload_3 (pc := 285) dL_law_285 ?_
      refine r_iconst (pc := 286) dL_law_286 ?_
      refine r_iadd (pc := 287) dL_law_287 ?_
      refine r_sld (pc := 288) hX dL_law_288 (by omega) (by omega) (fun i_288 => ?_)
      rw [ha2]
      refine k_VI2 (pc := 289) c_X7_node lk_L_31 ⟨(Nat.le_of_ble_eq_true rfl), (Nat.le_of_ble_eq_true rfl)⟩ ⟨rfl, rfl⟩ ⟨(Nat.le_of_ble_eq_true rfl), (Nat.le_of_ble_eq_true rfl)⟩ (k := 7) rfl (by decide) cl0 dL_law_289 (Nat.le_of_ble_eq_true rfl) ?_
      refine ⟨c, q, n, tx, ep, km, mp, F, ux, sz, ho, sn, row, a1, a2, rfl, hI, g1, g2, fun z => absurd hc z, fun _ => ⟨fun z => by omega, fun z => by omega, fun _ => ?_, fun z => by omega, fun z => by omega, fun z => by omega, fun z => by omega⟩⟩
      have hM2 := hM
      obtain ⟨hMd2, ⟨e0, e5, e17, e19⟩, ⟨e1, e2, e12, e14, e15, e17r⟩, hWa2, hz2, hkp2, hes2⟩ := id hM2
      refine r_aload_2 (pc := 292) dL_law_292 ?_
      refine r_aload_0 (pc := 293) dL_law_293 ?_
      refine r_iload_3 (pc := 294) dL_law_294 ?_
      refine r_iconst (pc := 295) dL_law_295 ?_
      refine r_iadd (pc := 296) dL_law_296 ?_
      refine r_sld (pc := 297) hX dL_law_297 (by omega) (by omega) (fun i_297 => ?_)
      rw [ha1]
      refine r_aload_0 (pc := 298) dL_law_298 ?_
      refine r_iload_3 (pc := 299) dL_law_299 ?_
      refine r_iconst (pc := 300) dL_law_300 ?_
      refine r_iadd (pc := 301) dL_law_301 ?_
      refine r_sld (pc := 302) hX dL_law_302 (by omega) (by omega) (fun i_302 => ?_)
      rw [ha2]
      refine k_VI2 (pc := 303) c_X8_node lk_L_35 ⟨(Nat.le_of_ble_eq_true rfl), (Nat.le_of_ble_eq_true rfl)⟩ ⟨rfl, rfl⟩ ⟨(Nat.le_of_ble_eq_true rfl), (Nat.le_of_ble_eq_true rfl)⟩ (k := 8) rfl (by decide) hMd2.1 dL_law_303 (Nat.le_of_ble_eq_true rfl) ?_
      refine ⟨b, mp, a1, a2, rfl, hMd2, e2, hT, hR, g1, g2, fun z => absurd hc z, fun _ => ⟨fun z => by omega, fun z => by omega, fun _ => ?_, fun z => by omega, fun z => by omega, fun z => by omega, fun z => by omega⟩⟩
      refine r_same (pc := 306) (tgt := 1462) (by first | rfl | (simp only [e0, e5, e17, e19, e1, e2, e12, e14, e15, e17r])) dL_law_306 (by decide) ?_
      exact K r h ⟨q, n, tx, ep, km, mp, F, ux, sz, ho, sn, row, hI, hM2, by omega⟩
    · refine r_aload_1 (pc := 278) dL_law_278 ?_
      refine r_aload_0 (pc := 279) dL_law_279 ?_
      refine r_iload_3 (pc := 280) dL_law_280 ?_
      refine r_iconst (pc := 281) dL_law_281 ?_
      refine r_iadd (pc := 282) dL_law_282 ?_
      refine r_sld (pc := 283) hX dL_law_283 (by omega) (by omega) (fun i_283 => ?_)
      rw [ha1]
      refine r_aload_0 (pc := 284) dL_law_284 ?_
      refine r_iload_3 (pc := 285) dL_law_285 ?_
      refine r_iconst (pc := 286) dL_law_286 ?_
      refine r_iadd (pc := 287) dL_law_287 ?_
      refine r_sld (pc := 288) hX dL_law_288 (by omega) (by omega) (fun i_288 => ?_)
      rw [ha2]
      refine k_VI2 (pc := 289) c_X7_node lk_L_31 ⟨(Nat.le_of_ble_eq_true rfl), (Nat.le_of_ble_eq_true rfl)⟩ ⟨rfl, rfl⟩ ⟨(Nat.le_of_ble_eq_true rfl), (Nat.le_of_ble_eq_true rfl)⟩ (k := 7) rfl (by decide) cl0 dL_law_289 (Nat.le_of_ble_eq_true rfl) ?_
      refine ⟨c, q, n, tx, ep, km, mp, F, ux, sz, ho, sn, row, a1, a2, rfl, hI, g1, g2, fun z => absurd hc z, fun _ => ⟨fun z => by omega, fun z => by omega, fun z => by omega, fun _ => ?_, fun z => by omega, fun z => by omega, fun z => by omega⟩⟩
      have hM2 := hM
      obtain ⟨hMd2, ⟨e0, e5, e17, e19⟩, ⟨e1, e2, e12, e14, e15, e17r⟩, hWa2, hz2, hkp2, hes2⟩ := id hM2
      refine r_aload_2 (pc := 292) dL_law_292 ?_
      refine r_aload_0 (pc := 293) dL_law_293 ?_
      refine r_iload_3 (pc := 294) dL_law_294 ?_
      refine r_iconst (pc := 295) dL_law_295 ?_
      refine r_iadd (pc := 296) dL_law_296 ?_
      refine r_sld (pc := 297) hX dL_law_297 (by omega) (by omega) (fun i_297 => ?_)
      rw [ha1]
      refine r_aload_0 (pc := 298) dL_law_298 ?_
      refine r_iload_3 (pc := 299) dL_law_299 ?_
      refine r_iconst (pc := 300) dL_law_300 ?_
      refine r_iadd (pc := 301) dL_law_301 ?_
      refine r_sld (pc := 302) hX dL_law_302 (by omega) (by omega) (fun i_302 => ?_)
      rw [ha2]
      refine k_VI2 (pc := 303) c_X8_node lk_L_35 ⟨(Nat.le_of_ble_eq_true rfl), (Nat.le_of_ble_eq_true rfl)⟩ ⟨rfl, rfl⟩ ⟨(Nat.le_of_ble_eq_true rfl), (Nat.le_of_ble_eq_true rfl)⟩ (k := 8) rfl (by decide) hMd2.1 dL_law_303 (Nat.le_of_ble_eq_true rfl) ?_
      refine ⟨b, mp, a1, a2, rfl, hMd2, e2, hT, hR, g1, g2, fun z => absurd hc z, fun _ => ⟨fun z => by omega, fun z => by omega, fun z => by omega, fun _ => ?_, fun z => by omega, fun z => by omega, fun z => by omega⟩⟩
      refine r_same (pc := 306) (tgt := 1462) (by first | rfl | (simp only [e0, e5, e17, e19, e1, e2, e12, e14, e15, e17r])) dL_law_306 (by decide) ?_
      exact K r h ⟨q, n, tx, ep, km, mp, F, ux, sz, ho, sn, row, hI, hM2, by omega⟩
    · refine r_aload_1 (pc := 278) dL_law_278 ?_
      refine r_aload_0 (pc := 279) dL_law_279 ?_
      refine r_iload_3 (pc := 280) dL_law_280 ?_
      refine r_iconst (pc := 281) dL_law_281 ?_
      refine r_iadd (pc := 282) dL_law_282 ?_
      refine r_sld (pc := 283) hX dL_law_283 (by omega) (by omega) (fun i_283 => ?_)
      rw [ha1]
      refine r_aload_0 (pc := 284) dL_law_284 ?_
      refine r_iload_3 (pc := 285) dL_law_285 ?_
      refine r_iconst (pc := 286) dL_law_286 ?_
      refine r_iadd (pc := 287) dL_law_287 ?_
      refine r_sld (pc := 288) hX dL_law_288 (by omega) (by omega) (fun i_288 => ?_)
      rw [ha2]
      refine k_VI2 (pc := 289) c_X7_node lk_L_31 ⟨(Nat.le_of_ble_eq_true rfl), (Nat.le_of_ble_eq_true rfl)⟩ ⟨rfl, rfl⟩ ⟨(Nat.le_of_ble_eq_true rfl), (Nat.le_of_ble_eq_true rfl)⟩ (k := 7) rfl (by decide) cl0 dL_law_289 (Nat.le_of_ble_eq_true rfl) ?_
      refine ⟨c, q, n, tx, ep, km, mp, F, ux, sz, ho, sn, row, a1, a2, rfl, hI, g1, g2, fun z => absurd hc z, fun _ => ⟨fun z => by omega, fun z => by omega, fun z => by omega, fun z => by omega, fun _ => ?_, fun z => by omega, fun z => by omega⟩⟩
      have hM2 := hM
      obtain ⟨hMd2, ⟨e0, e5, e17, e19⟩, ⟨e1, e2, e12, e14, e15, e17r⟩, hWa2, hz2, hkp2, hes2⟩ := id hM2
      refine r_aload_2 (pc := 292) dL_law_292 ?_
      refine r_aload_0 (pc := 293) dL_law_293 ?_
      refine r_iload_3 (pc := 294) dL_law_294 ?_
      refine r_iconst (pc := 295) dL_law_295 ?_
      refine r_iadd (pc := 296) dL_law_296 ?_
      refine r_sld (pc := 297) hX dL_law_297 (by omega) (by omega) (fun i_297 => ?_)
      rw [ha1]
      refine r_aload_0 (pc := 298) dL_law_298 ?_
      refine r_iload_3 (pc := 299) dL_law_299 ?_
      refine r_iconst (pc := 300) dL_law_300 ?_
      refine r_iadd (pc := 301) dL_law_301 ?_
      refine r_sld (pc := 302) hX dL_law_302 (by omega) (by omega) (fun i_302 => ?_)
      rw [ha2]
      refine k_VI2 (pc := 303) c_X8_node lk_L_35 ⟨(Nat.le_of_ble_eq_true rfl), (Nat.le_of_ble_eq_true rfl)⟩ ⟨rfl, rfl⟩ ⟨(Nat.le_of_ble_eq_true rfl), (Nat.le_of_ble_eq_true rfl)⟩ (k := 8) rfl (by decide) hMd2.1 dL_law_303 (Nat.le_of_ble_eq_true rfl) ?_
      refine ⟨b, mp, a1, a2, rfl, hMd2, e2, hT, hR, g1, g2, fun z => absurd hc z, fun _ => ⟨fun z => by omega, fun z => by omega, fun z => by omega, fun z => by omega, fun _ => ?_, fun z => by omega, fun z => by omega⟩⟩
      refine r_same (pc := 306) (tgt := 1462) (by first | rfl | (simp only [e0, e5, e17, e19, e1, e2, e12, e14, e15, e17r])) dL_law_306 (by decide) ?_
      exact K r h ⟨q, n, tx, ep, km, mp, F, ux, sz, ho, sn, row, hI, hM2, by omega⟩
    · refine r_aload_1 (pc := 278) dL_law_278 ?_
      refine r_aload_0 (pc := 279) dL_law_279 ?_
      refine r_iload_3 (pc := 280) dL_law_280 ?_
      refine r_iconst (pc := 281) dL_law_281 ?_
      refine r_iadd (pc := 282) dL_law_282 ?_
      refine r_sld (pc := 283) hX dL_law_283 (by omega) (by omega) (fun i_283 => ?_)
      rw [ha1]
      refine r_aload_0 (pc := 284) dL_law_284 ?_
      refine r_iload_3 (pc := 285) dL_law_285 ?_
      refine r_iconst (pc := 286) dL_law_286 ?_
      refine r_iadd (pc := 287) dL_law_287 ?_
      refine r_sld (pc := 288) hX dL_law_288 (by omega) (by omega) (fun i_288 => ?_)
      rw [ha2]
      refine k_VI2 (pc := 289) c_X7_node lk_L_31 ⟨(Nat.le_of_ble_eq_true rfl), (Nat.le_of_ble_eq_true rfl)⟩ ⟨rfl, rfl⟩ ⟨(Nat.le_of_ble_eq_true rfl), (Nat.le_of_ble_eq_true rfl)⟩ (k := 7) rfl (by decide) cl0 dL_law_289 (Nat.le_of_ble_eq_true rfl) ?_
      refine ⟨c, q, n, tx, ep, km, mp, F, ux, sz, ho, sn, row, a1, a2, rfl, hI, g1, g2, fun z => absurd hc z, fun _ => ⟨fun z => by omega, fun z => by omega, fun z => by omega, fun z => by omega, fun z => by omega, fun _ => ?_, fun z => by omega⟩⟩
      have hM2 := hM
      obtain ⟨hMd2, ⟨e0, e5, e17, e19⟩, ⟨e1, e2, e12, e14, e15, e17r⟩, hWa2, hz2, hkp2, hes2⟩ := id hM2
      refine r_aload_2 (pc := 292) dL_law_292 ?_
      refine r_aload_0 (pc := 293) dL_law_293 ?_
      refine r_iload_3 (pc := 294) dL_law_294 ?_
      refine r_iconst (pc := 295) dL_law_295 ?_
      refine r_iadd (pc := 296) dL_law_296 ?_
      refine r_sld (pc := 297) hX dL_law_297 (by omega) (by omega) (fun i_297 => ?_)
      rw [ha1]
      refine r_aload_0 (pc := 298) dL_law_298 ?_
      refine r_iload_3 (pc := 299) dL_law_299 ?_
      refine r_iconst (pc := 300) dL_law_300 ?_
      refine r_iadd (pc := 301) dL_law_301 ?_
      refine r_sld (pc := 302) hX dL_law_302 (by omega) (by omega) (fun i_302 => ?_)
      rw [ha2]
      refine k_VI2 (pc := 303) c_X8_node lk_L_35 ⟨(Nat.le_of_ble_eq_true rfl), (Nat.le_of_ble_eq_true rfl)⟩ ⟨rfl, rfl⟩ ⟨(Nat.le_of_ble_eq_true rfl), (Nat.le_of_ble_eq_true rfl)⟩ (k := 8) rfl (by decide) hMd2.1 dL_law_303 (Nat.le_of_ble_eq_true rfl) ?_
      refine ⟨b, mp, a1, a2, rfl, hMd2, e2, hT, hR, g1, g2, fun z => absurd hc z, fun _ => ⟨fun z => by omega, fun z => by omega, fun z => by omega, fun z => by omega, fun z => by omega, fun _ => ?_, fun z => by omega⟩⟩
      refine r_same (pc := 306) (tgt := 1462) (by first | rfl | (simp only [e0, e5, e17, e19, e1, e2, e12, e14, e15, e17r])) dL_law_306 (by decide) ?_
      exact K r h ⟨q, n, tx, ep, km, mp, F, ux, sz, ho, sn, row, hI, hM2, by omega⟩
    · refine r_aload_1 (pc := 278) dL_law_278 ?_
      refine r_aload_0 (pc := 279) dL_law_279 ?_
      refine r_iload_3 (pc := 280) dL_law_280 ?_
      refine r_iconst (pc := 281) dL_law_281 ?_
      refine r_iadd (pc := 282) dL_law_282 ?_
      refine r_sld (pc := 283) hX dL_law_283 (by omega) (by omega) (fun i_283 => ?_)
      rw [ha1]
      refine r_aload_0 (pc := 284) dL_law_284 ?_
      refine r_iload_3 (pc := 285) dL_law_285 ?_
      refine r_iconst (pc := 286) dL_law_286 ?_
      refine r_iadd (pc := 287) dL_law_287 ?_
      refine r_sld (pc := 288) hX dL_law_288 (by omega) (by omega) (fun i_288 => ?_)
      rw [ha2]
      refine k_VI2 (pc := 289) c_X7_node lk_L_31 ⟨(Nat.le_of_ble_eq_true rfl), (Nat.le_of_ble_eq_true rfl)⟩ ⟨rfl, rfl⟩ ⟨(Nat.le_of_ble_eq_true rfl), (Nat.le_of_ble_eq_true rfl)⟩ (k := 7) rfl (by decide) cl0 dL_law_289 (Nat.le_of_ble_eq_true rfl) ?_
      refine ⟨c, q, n, tx, ep, km, mp, F, ux, sz, ho, sn, row, a1, a2, rfl, hI, g1, g2, fun z => absurd hc z, fun _ => ⟨fun z => by omega, fun z => by omega, fun z => by omega, fun z => by omega, fun z => by omega, fun z => by omega, fun _ => ?_⟩⟩
      have hM2 := hM
      obtain ⟨hMd2, ⟨e0, e5, e17, e19⟩, ⟨e1, e2, e12, e14, e15, e17r⟩, hWa2, hz2, hkp2, hes2⟩ := id hM2
      refine r_aload_2 (pc := 292) dL_law_292 ?_
      refine r_aload_0 (pc := 293) dL_law_293 ?_
      refine r_iload_3 (pc := 294) dL_law_294 ?_
      refine r_iconst (pc := 295) dL_law_295 ?_
      refine r_iadd (pc := 296) dL_law_296 ?_
      refine r_sld (pc := 297) hX dL_law_297 (by omega) (by omega) (fun i_297 => ?_)
      rw [ha1]
      refine r_aload_0 (pc := 298) dL_law_298 ?_
      refine r_iload_3 (pc := 299) dL_law_299 ?_
      refine r_iconst (pc := 300) dL_law_300 ?_
      refine r_iadd (pc := 301) dL_law_301 ?_
      refine r_sld (pc := 302) hX dL_law_302 (by omega) (by omega) (fun i_302 => ?_)
      rw [ha2]
      refine k_VI2 (pc := 303) c_X8_node lk_L_35 ⟨(Nat.le_of_ble_eq_true rfl), (Nat.le_of_ble_eq_true rfl)⟩ ⟨rfl, rfl⟩ ⟨(Nat.le_of_ble_eq_true rfl), (Nat.le_of_ble_eq_true rfl)⟩ (k := 8) rfl (by decide) hMd2.1 dL_law_303 (Nat.le_of_ble_eq_true rfl) ?_
      refine ⟨b, mp, a1, a2, rfl, hMd2, e2, hT, hR, g1, g2, fun z => absurd hc z, fun _ => ⟨fun z => by omega, fun z => by omega, fun z => by omega, fun z => by omega, fun z => by omega, fun z => by omega, fun _ => ?_⟩⟩
      refine r_same (pc := 306) (tgt := 1462) (by first | rfl | (simp only [e0, e5, e17, e19, e1, e2, e12, e14, e15, e17r])) dL_law_306 (by decide) ?_
      exact K r h ⟨q, n, tx, ep, km, mp, F, ux, sz, ho, sn, row, hI, hM2, by omega⟩
  · refine r_aload_1 (pc := 278) dL_law_278 ?_
    refine r_aload_0 (pc := 279) dL_law_279 ?_
    refine r_iload_3 (pc := 280) dL_law_280 ?_
    refine r_iconst (pc := 281) dL_law_281 ?_
    refine r_iadd (pc := 282) dL_law_282 ?_
    refine r_sld (pc := 283) hX dL_law_283 (by omega) (by omega) (fun i_283 => ?_)
    rw [ha1]
    refine r_aload_0 (pc := 284) dL_law_284 ?_
    refine r_iload_3 (pc := 285) dL_law_285 ?_
    refine r_iconst (pc := 286) dL_law_286 ?_
    refine r_iadd (pc := 287) dL_law_287 ?_
    refine r_sld (pc := 288) hX dL_law_288 (by omega) (by omega) (fun i_288 => ?_)
    rw [ha2]
    refine k_VI2 (pc := 289) c_X7_node lk_L_31 ⟨(Nat.le_of_ble_eq_true rfl), (Nat.le_of_ble_eq_true rfl)⟩ ⟨rfl, rfl⟩ ⟨(Nat.le_of_ble_eq_true rfl), (Nat.le_of_ble_eq_true rfl)⟩ (k := 7) rfl (by decide) cl0 dL_law_289 (Nat.le_of_ble_eq_true rfl) ?_
    refine ⟨c, q, n, tx, ep, km, mp, F, ux, sz, ho, sn, row, a1, a2, rfl, hI, g1, g2, fun _ => ?_, fun z => absurd z hc⟩
    have hM2 := hM
    obtain ⟨hMd2, ⟨e0, e5, e17, e19⟩, ⟨e1, e2, e12, e14, e15, e17r⟩, hWa2, hz2, hkp2, hes2⟩ := id hM2
    refine r_aload_2 (pc := 292) dL_law_292 ?_
    refine r_aload_0 (pc := 293) dL_law_293 ?_
    refine r_iload_3 (pc := 294) dL_law_294 ?_
    refine r_iconst (pc := 295) dL_law_295 ?_
    refine r_iadd (pc := 296) dL_law_296 ?_
    refine r_sld (pc := 297) hX dL_law_297 (by omega) (by omega) (fun i_297 => ?_)
    rw [ha1]
    refine r_aload_0 (pc := 298) dL_law_298 ?_
    refine r_iload_3 (pc := 299) dL_law_299 ?_
    refine r_iconst (pc := 300) dL_law_300 ?_
    refine r_iadd (pc := 301) dL_law_301 ?_
    refine r_sld (pc := 302) hX dL_law_302 (by omega) (by omega) (fun i_302 => ?_)
    rw [ha2]
    refine k_VI2 (pc := 303) c_X8_node lk_L_35 ⟨(Nat.le_of_ble_eq_true rfl), (Nat.le_of_ble_eq_true rfl)⟩ ⟨rfl, rfl⟩ ⟨(Nat.le_of_ble_eq_true rfl), (Nat.le_of_ble_eq_true rfl)⟩ (k := 8) rfl (by decide) hMd2.1 dL_law_303 (Nat.le_of_ble_eq_true rfl) ?_
    refine ⟨b, mp, a1, a2, rfl, hMd2, e2, hT, hR, g1, g2, fun _ => ?_, fun z => absurd z hc⟩
    refine r_same (pc := 306) (tgt := 1462) (by first | rfl | (simp only [e0, e5, e17, e19, e1, e2, e12, e14, e15, e17r])) dL_law_306 (by decide) ?_
    exact K r h ⟨q, n, tx, ep, km, mp, F, ux, sz, ho, sn, row, hI, hM2, by omega⟩
theorem dL_law_888 : decode code 888 = .ok (.aload_n 1, 1) := by decide +kernel
theorem dL_law_889 : decode code 889 = .ok (.aload_n 0, 1) := by decide +kernel
theorem dL_law_890 : decode code 890 = .ok (.iload_n 3, 1) := by decide +kernel
theorem dL_law_891 : decode code 891 = .ok (.iconst 1, 1) := by decide +kernel
theorem dL_law_892 : decode code 892 = .ok (.iadd, 1) := by decide +kernel
theorem dL_law_893 : decode code 893 = .ok (.iaload, 1) := by decide +kernel
theorem dL_law_894 : decode code 894 = .ok (.aload_n 0, 1) := by decide +kernel
theorem dL_law_895 : decode code 895 = .ok (.iload_n 3, 1) := by decide +kernel
theorem dL_law_896 : decode code 896 = .ok (.iconst 2, 1) := by decide +kernel
theorem dL_law_897 : decode code 897 = .ok (.iadd, 1) := by decide +kernel
theorem dL_law_898 : decode code 898 = .ok (.iaload, 1) := by decide +kernel
theorem dL_law_899 : decode code 899 = .ok (.invokevirtual 113, 3) := by decide +kernel
theorem dL_law_902 : decode code 902 = .ok (.aload_n 2, 1) := by decide +kernel
theorem dL_law_903 : decode code 903 = .ok (.aload_n 0, 1) := by decide +kernel
theorem dL_law_904 : decode code 904 = .ok (.iload_n 3, 1) := by decide +kernel
theorem dL_law_905 : decode code 905 = .ok (.iconst 1, 1) := by decide +kernel
theorem dL_law_906 : decode code 906 = .ok (.iadd, 1) := by decide +kernel
theorem dL_law_907 : decode code 907 = .ok (.iaload, 1) := by decide +kernel
theorem dL_law_908 : decode code 908 = .ok (.aload_n 0, 1) := by decide +kernel
theorem dL_law_909 : decode code 909 = .ok (.iload_n 3, 1) := by decide +kernel
theorem dL_law_910 : decode code 910 = .ok (.iconst 2, 1) := by decide +kernel
theorem dL_law_911 : decode code 911 = .ok (.iadd, 1) := by decide +kernel
theorem dL_law_912 : decode code 912 = .ok (.iaload, 1) := by decide +kernel
theorem dL_law_913 : decode code 913 = .ok (.invokevirtual 116, 3) := by decide +kernel
theorem dL_law_916 : decode code 916 = .ok (.if_icmp .eq 546, 3) := by decide +kernel
set_option maxHeartbeats 4000000 in
set_option maxRecDepth 20000 in
theorem law_share {E : EnT} {lay : LyT} {r : RfT} {h : HpT} {c b b0 L N : Nat} {sx : Int → Int} {i : Int} (hX : ScE E b0 L sx) (hi : 0 ≤ i ∧ i + 4 ≤ L) (hL : L ≤ 2048) (hcb : b = c + 101) (hLI : LI lay c b i r h) (K : ∀ r' h', LI lay c b (i + 4) r' h' → St E mL_law 1462 [some (.ref b0), some (.ref c), some (.ref b), some (vI i)] [] (122, 20801) N lay r' h') : St E mL_law 888 [some (.ref b0), some (.ref c), some (.ref b), some (vI i)] [] (122, 20801) N lay r h := by
  obtain ⟨q, n, tx, ep, km, mp, F, ux, sz, ho, sn, row, hI, hM, hle⟩ := hLI
  have hP0 := hI.2.2.2.2.2.1 0 (by omega) (by omega) (by have := hI.2.2.2.2.1.2.1; omega)
  rw [hI.2.2.2.2.2.2.1.1] at hP0
  have hT := hP0.1
  have hR := hP0.2.1
  have hep := hI.2.2.2.2.1
  have cl0 : lay c = (8, 0) := hI.1.1
  obtain ⟨a1, ha1⟩ : ∃ z, sx (i + 1) = z := ⟨_, rfl⟩
  have g1 := sc_rng hX (i + 1)
  rw [ha1] at g1
  obtain ⟨a2, ha2⟩ : ∃ z, sx (i + 2) = z := ⟨_, rfl⟩
  have g2 := sc_rng hX (i + 2)
  rw [ha2] at g2
  by_cases hc : isNd mp a1 ∧ (0 ≤ a2 ∧ a2 ≤ 1)
  · by_cases hw : wt mp 0 = 0
    · refine r_aload_1 (pc := 888) dL_law_888 ?_
      refine r_aload_0 (pc := 889) dL_law_889 ?_
      refine r_iload_3 (pc := 890) dL_law_890 ?_
      refine r_iconst (pc := 891) dL_law_891 ?_
      refine r_iadd (pc := 892) dL_law_892 ?_
      refine r_sld (pc := 893) hX dL_law_893 (by omega) (by omega) (fun i_893 => ?_)
      rw [ha1]
      refine r_aload_0 (pc := 894) dL_law_894 ?_
      refine r_iload_3 (pc := 895) dL_law_895 ?_
      refine r_iconst (pc := 896) dL_law_896 ?_
      refine r_iadd (pc := 897) dL_law_897 ?_
      refine r_sld (pc := 898) hX dL_law_898 (by omega) (by omega) (fun i_898 => ?_)
      rw [ha2]
      refine k_VI2 (pc := 899) c_X7_share lk_L_113 ⟨(Nat.le_of_ble_eq_true rfl), (Nat.le_of_ble_eq_true rfl)⟩ ⟨rfl, rfl⟩ ⟨(Nat.le_of_ble_eq_true rfl), (Nat.le_of_ble_eq_true rfl)⟩ (k := 7) rfl (by decide) cl0 dL_law_899 (Nat.le_of_ble_eq_true rfl) ?_
      refine ⟨c, q, n, tx, ep, km, mp, F, ux, sz, ho, sn, row, a1, a2, rfl, hI, g1, g2, fun z => absurd hc z, fun _ => ⟨fun _ => ?_, fun z => absurd hw z⟩⟩
      have hM2 := hM
      obtain ⟨hMd2, ⟨e0, e5, e17, e19⟩, ⟨e1, e2, e12, e14, e15, e17r⟩, hWa2, hz2, hkp2, hes2⟩ := id hM2
      refine r_aload_2 (pc := 902) dL_law_902 ?_
      refine r_aload_0 (pc := 903) dL_law_903 ?_
      refine r_iload_3 (pc := 904) dL_law_904 ?_
      refine r_iconst (pc := 905) dL_law_905 ?_
      refine r_iadd (pc := 906) dL_law_906 ?_
      refine r_sld (pc := 907) hX dL_law_907 (by omega) (by omega) (fun i_907 => ?_)
      rw [ha1]
      refine r_aload_0 (pc := 908) dL_law_908 ?_
      refine r_iload_3 (pc := 909) dL_law_909 ?_
      refine r_iconst (pc := 910) dL_law_910 ?_
      refine r_iadd (pc := 911) dL_law_911 ?_
      refine r_sld (pc := 912) hX dL_law_912 (by omega) (by omega) (fun i_912 => ?_)
      rw [ha2]
      refine k_VI2 (pc := 913) c_X8_share lk_L_116 ⟨(Nat.le_of_ble_eq_true rfl), (Nat.le_of_ble_eq_true rfl)⟩ ⟨rfl, rfl⟩ ⟨(Nat.le_of_ble_eq_true rfl), (Nat.le_of_ble_eq_true rfl)⟩ (k := 8) rfl (by decide) hMd2.1 dL_law_913 (Nat.le_of_ble_eq_true rfl) ?_
      refine ⟨b, mp, a1, a2, rfl, hMd2, e2, hT, hR, g1, g2, fun z => absurd hc z, fun _ => ⟨fun _ => ?_, fun z => absurd hw z⟩⟩
      refine r_same (pc := 916) (tgt := 1462) (by first | rfl | (simp only [e0, e5, e17, e19, e1, e2, e12, e14, e15, e17r])) dL_law_916 (by decide) ?_
      exact K r h ⟨q, n, tx, ep, km, mp, F, ux, sz, ho, sn, row, hI, hM2, by omega⟩
    · by_cases hp : a2 = 0
      · refine r_aload_1 (pc := 888) dL_law_888 ?_
        refine r_aload_0 (pc := 889) dL_law_889 ?_
        refine r_iload_3 (pc := 890) dL_law_890 ?_
        refine r_iconst (pc := 891) dL_law_891 ?_
        refine r_iadd (pc := 892) dL_law_892 ?_
        refine r_sld (pc := 893) hX dL_law_893 (by omega) (by omega) (fun i_893 => ?_)
        rw [ha1]
        refine r_aload_0 (pc := 894) dL_law_894 ?_
        refine r_iload_3 (pc := 895) dL_law_895 ?_
        refine r_iconst (pc := 896) dL_law_896 ?_
        refine r_iadd (pc := 897) dL_law_897 ?_
        refine r_sld (pc := 898) hX dL_law_898 (by omega) (by omega) (fun i_898 => ?_)
        rw [ha2]
        refine k_VI2 (pc := 899) c_X7_share lk_L_113 ⟨(Nat.le_of_ble_eq_true rfl), (Nat.le_of_ble_eq_true rfl)⟩ ⟨rfl, rfl⟩ ⟨(Nat.le_of_ble_eq_true rfl), (Nat.le_of_ble_eq_true rfl)⟩ (k := 7) rfl (by decide) cl0 dL_law_899 (Nat.le_of_ble_eq_true rfl) ?_
        refine ⟨c, q, n, tx, ep, km, mp, F, ux, sz, ho, sn, row, a1, a2, rfl, hI, g1, g2, fun z => absurd hc z, fun _ => ⟨fun z => absurd z hw, fun _ => ⟨fun _ => ?_, fun z => absurd hp z⟩⟩⟩
        have hM2 := hM
        obtain ⟨hMd2, ⟨e0, e5, e17, e19⟩, ⟨e1, e2, e12, e14, e15, e17r⟩, hWa2, hz2, hkp2, hes2⟩ := id hM2
        refine r_aload_2 (pc := 902) dL_law_902 ?_
        refine r_aload_0 (pc := 903) dL_law_903 ?_
        refine r_iload_3 (pc := 904) dL_law_904 ?_
        refine r_iconst (pc := 905) dL_law_905 ?_
        refine r_iadd (pc := 906) dL_law_906 ?_
        refine r_sld (pc := 907) hX dL_law_907 (by omega) (by omega) (fun i_907 => ?_)
        rw [ha1]
        refine r_aload_0 (pc := 908) dL_law_908 ?_
        refine r_iload_3 (pc := 909) dL_law_909 ?_
        refine r_iconst (pc := 910) dL_law_910 ?_
        refine r_iadd (pc := 911) dL_law_911 ?_
        refine r_sld (pc := 912) hX dL_law_912 (by omega) (by omega) (fun i_912 => ?_)
        rw [ha2]
        refine k_VI2 (pc := 913) c_X8_share lk_L_116 ⟨(Nat.le_of_ble_eq_true rfl), (Nat.le_of_ble_eq_true rfl)⟩ ⟨rfl, rfl⟩ ⟨(Nat.le_of_ble_eq_true rfl), (Nat.le_of_ble_eq_true rfl)⟩ (k := 8) rfl (by decide) hMd2.1 dL_law_913 (Nat.le_of_ble_eq_true rfl) ?_
        refine ⟨b, mp, a1, a2, rfl, hMd2, e2, hT, hR, g1, g2, fun z => absurd hc z, fun _ => ⟨fun z => absurd z hw, fun _ => ⟨fun _ => ?_, fun z => absurd hp z⟩⟩⟩
        refine r_same (pc := 916) (tgt := 1462) (by first | rfl | (simp only [e0, e5, e17, e19, e1, e2, e12, e14, e15, e17r])) dL_law_916 (by decide) ?_
        exact K r h ⟨q, n, tx, ep, km, mp, F, ux, sz, ho, sn, row, hI, hM2, by omega⟩
      · refine r_aload_1 (pc := 888) dL_law_888 ?_
        refine r_aload_0 (pc := 889) dL_law_889 ?_
        refine r_iload_3 (pc := 890) dL_law_890 ?_
        refine r_iconst (pc := 891) dL_law_891 ?_
        refine r_iadd (pc := 892) dL_law_892 ?_
        refine r_sld (pc := 893) hX dL_law_893 (by omega) (by omega) (fun i_893 => ?_)
        rw [ha1]
        refine r_aload_0 (pc := 894) dL_law_894 ?_
        refine r_iload_3 (pc := 895) dL_law_895 ?_
        refine r_iconst (pc := 896) dL_law_896 ?_
        refine r_iadd (pc := 897) dL_law_897 ?_
        refine r_sld (pc := 898) hX dL_law_898 (by omega) (by omega) (fun i_898 => ?_)
        rw [ha2]
        refine k_VI2 (pc := 899) c_X7_share lk_L_113 ⟨(Nat.le_of_ble_eq_true rfl), (Nat.le_of_ble_eq_true rfl)⟩ ⟨rfl, rfl⟩ ⟨(Nat.le_of_ble_eq_true rfl), (Nat.le_of_ble_eq_true rfl)⟩ (k := 7) rfl (by decide) cl0 dL_law_899 (Nat.le_of_ble_eq_true rfl) ?_
        refine ⟨c, q, n, tx, ep, km, mp, F, ux, sz, ho, sn, row, a1, a2, rfl, hI, g1, g2, fun z => absurd hc z, fun _ => ⟨fun z => absurd z hw, fun _ => ⟨fun z => absurd z hp, fun _ => ?_⟩⟩⟩
        have hM2 := hM
        obtain ⟨hMd2, ⟨e0, e5, e17, e19⟩, ⟨e1, e2, e12, e14, e15, e17r⟩, hWa2, hz2, hkp2, hes2⟩ := id hM2
        refine r_aload_2 (pc := 902) dL_law_902 ?_
        refine r_aload_0 (pc := 903) dL_law_903 ?_
        refine r_iload_3 (pc := 904) dL_law_904 ?_
        refine r_iconst (pc := 905) dL_law_905 ?_
        refine r_iadd (pc := 906) dL_law_906 ?_
        refine r_sld (pc := 907) hX dL_law_907 (by omega) (by omega) (fun i_907 => ?_)
        rw [ha1]
        refine r_aload_0 (pc := 908) dL_law_908 ?_
        refine r_iload_3 (pc := 909) dL_law_909 ?_
        refine r_iconst (pc := 910) dL_law_910 ?_
        refine r_iadd (pc := 911) dL_law_911 ?_
        refine r_sld (pc := 912) hX dL_law_912 (by omega) (by omega) (fun i_912 => ?_)
        rw [ha2]
        refine k_VI2 (pc := 913) c_X8_share lk_L_116 ⟨(Nat.le_of_ble_eq_true rfl), (Nat.le_of_ble_eq_true rfl)⟩ ⟨rfl, rfl⟩ ⟨(Nat.le_of_ble_eq_true rfl), (Nat.le_of_ble_eq_true rfl)⟩ (k := 8) rfl (by decide) hMd2.1 dL_law_913 (Nat.le_of_ble_eq_true rfl) ?_
        refine ⟨b, mp, a1, a2, rfl, hMd2, e2, hT, hR, g1, g2, fun z => absurd hc z, fun _ => ⟨fun z => absurd z hw, fun _ => ⟨fun z => absurd z hp, fun _ => ?_⟩⟩⟩
        refine r_same (pc := 916) (tgt := 1462) (by first | rfl | (simp only [e0, e5, e17, e19, e1, e2, e12, e14, e15, e17r])) dL_law_916 (by decide) ?_
        exact K r h ⟨q, n, tx, ep, km, mp, F, ux, sz, ho, sn, row, hI, hM2, by omega⟩
  · refine r_aload_1 (pc := 888) dL_law_888 ?_
    refine r_aload_0 (pc := 889) dL_law_889 ?_
    refine r_iload_3 (pc := 890) dL_law_890 ?_
    refine r_iconst (pc := 891) dL_law_891 ?_
    refine r_iadd (pc := 892) dL_law_892 ?_
    refine r_sld (pc := 893) hX dL_law_893 (by omega) (by omega) (fun i_893 => ?_)
    rw [ha1]
    refine r_aload_0 (pc := 894) dL_law_894 ?_
    refine r_iload_3 (pc := 895) dL_law_895 ?_
    refine r_iconst (pc := 896) dL_law_896 ?_
    refine r_iadd (pc := 897) dL_law_897 ?_
    refine r_sld (pc := 898) hX dL_law_898 (by omega) (by omega) (fun i_898 => ?_)
    rw [ha2]
    refine k_VI2 (pc := 899) c_X7_share lk_L_113 ⟨(Nat.le_of_ble_eq_true rfl), (Nat.le_of_ble_eq_true rfl)⟩ ⟨rfl, rfl⟩ ⟨(Nat.le_of_ble_eq_true rfl), (Nat.le_of_ble_eq_true rfl)⟩ (k := 7) rfl (by decide) cl0 dL_law_899 (Nat.le_of_ble_eq_true rfl) ?_
    refine ⟨c, q, n, tx, ep, km, mp, F, ux, sz, ho, sn, row, a1, a2, rfl, hI, g1, g2, fun _ => ?_, fun z => absurd z hc⟩
    have hM2 := hM
    obtain ⟨hMd2, ⟨e0, e5, e17, e19⟩, ⟨e1, e2, e12, e14, e15, e17r⟩, hWa2, hz2, hkp2, hes2⟩ := id hM2
    refine r_aload_2 (pc := 902) dL_law_902 ?_
    refine r_aload_0 (pc := 903) dL_law_903 ?_
    refine r_iload_3 (pc := 904) dL_law_904 ?_
    refine r_iconst (pc := 905) dL_law_905 ?_
    refine r_iadd (pc := 906) dL_law_906 ?_
    refine r_sld (pc := 907) hX dL_law_907 (by omega) (by omega) (fun i_907 => ?_)
    rw [ha1]
    refine r_aload_0 (pc := 908) dL_law_908 ?_
    refine r_iload_3 (pc := 909) dL_law_909 ?_
    refine r_iconst (pc := 910) dL_law_910 ?_
    refine r_iadd (pc := 911) dL_law_911 ?_
    refine r_sld (pc := 912) hX dL_law_912 (by omega) (by omega) (fun i_912 => ?_)
    rw [ha2]
    refine k_VI2 (pc := 913) c_X8_share lk_L_116 ⟨(Nat.le_of_ble_eq_true rfl), (Nat.le_of_ble_eq_true rfl)⟩ ⟨rfl, rfl⟩ ⟨(Nat.le_of_ble_eq_true rfl), (Nat.le_of_ble_eq_true rfl)⟩ (k := 8) rfl (by decide) hMd2.1 dL_law_913 (Nat.le_of_ble_eq_true rfl) ?_
    refine ⟨b, mp, a1, a2, rfl, hMd2, e2, hT, hR, g1, g2, fun _ => ?_, fun z => absurd z hc⟩
    refine r_same (pc := 916) (tgt := 1462) (by first | rfl | (simp only [e0, e5, e17, e19, e1, e2, e12, e14, e15, e17r])) dL_law_916 (by decide) ?_
    exact K r h ⟨q, n, tx, ep, km, mp, F, ux, sz, ho, sn, row, hI, hM2, by omega⟩
theorem dL_law_1439 : decode code 1439 = .ok (.aload_n 1, 1) := by decide +kernel
theorem dL_law_1440 : decode code 1440 = .ok (.aload_n 0, 1) := by decide +kernel
theorem dL_law_1441 : decode code 1441 = .ok (.iload_n 3, 1) := by decide +kernel
theorem dL_law_1442 : decode code 1442 = .ok (.iconst 1, 1) := by decide +kernel
theorem dL_law_1443 : decode code 1443 = .ok (.iadd, 1) := by decide +kernel
theorem dL_law_1444 : decode code 1444 = .ok (.iaload, 1) := by decide +kernel
theorem dL_law_1445 : decode code 1445 = .ok (.invokevirtual 181, 3) := by decide +kernel
theorem dL_law_1448 : decode code 1448 = .ok (.aload_n 2, 1) := by decide +kernel
theorem dL_law_1449 : decode code 1449 = .ok (.aload_n 0, 1) := by decide +kernel
theorem dL_law_1450 : decode code 1450 = .ok (.iload_n 3, 1) := by decide +kernel
theorem dL_law_1451 : decode code 1451 = .ok (.iconst 1, 1) := by decide +kernel
theorem dL_law_1452 : decode code 1452 = .ok (.iadd, 1) := by decide +kernel
theorem dL_law_1453 : decode code 1453 = .ok (.iaload, 1) := by decide +kernel
theorem dL_law_1454 : decode code 1454 = .ok (.invokevirtual 184, 3) := by decide +kernel
theorem dL_law_1457 : decode code 1457 = .ok (.if_icmp .eq 5, 3) := by decide +kernel
set_option maxHeartbeats 4000000 in
set_option maxRecDepth 20000 in
theorem law_count {E : EnT} {lay : LyT} {r : RfT} {h : HpT} {c b b0 L N : Nat} {sx : Int → Int} {i : Int} (hX : ScE E b0 L sx) (hi : 0 ≤ i ∧ i + 4 ≤ L) (hL : L ≤ 2048) (hcb : b = c + 101) (hLI : LI lay c b i r h) (K : ∀ r' h', LI lay c b (i + 4) r' h' → St E mL_law 1462 [some (.ref b0), some (.ref c), some (.ref b), some (vI i)] [] (122, 20801) N lay r' h') : St E mL_law 1439 [some (.ref b0), some (.ref c), some (.ref b), some (vI i)] [] (122, 20801) N lay r h := by
  obtain ⟨q, n, tx, ep, km, mp, F, ux, sz, ho, sn, row, hI, hM, hle⟩ := hLI
  have hP0 := hI.2.2.2.2.2.1 0 (by omega) (by omega) (by have := hI.2.2.2.2.1.2.1; omega)
  rw [hI.2.2.2.2.2.2.1.1] at hP0
  have hT := hP0.1
  have hR := hP0.2.1
  have hep := hI.2.2.2.2.1
  have cl0 : lay c = (8, 0) := hI.1.1
  obtain ⟨a1, ha1⟩ : ∃ z, sx (i + 1) = z := ⟨_, rfl⟩
  have g1 := sc_rng hX (i + 1)
  rw [ha1] at g1
  by_cases hc : 0 ≤ a1 ∧ a1 ≤ 16
  · rcases (show a1 < 8 ∨ a1 = 8 ∨ a1 = 9 ∨ a1 = 10 ∨ a1 = 11 ∨ (12 ≤ a1 ∧ a1 ≤ 14) ∨ a1 = 15 ∨ a1 = 16 by omega) with hv | hv | hv | hv | hv | hv | hv | hv
    · refine r_aload_1 (pc := 1439) dL_law_1439 ?_
      refine r_aload_0 (pc := 1440) dL_law_1440 ?_
      refine r_iload_3 (pc := 1441) dL_law_1441 ?_
      refine r_iconst (pc := 1442) dL_law_1442 ?_
      refine r_iadd (pc := 1443) dL_law_1443 ?_
      refine r_sld (pc := 1444) hX dL_law_1444 (by omega) (by omega) (fun i_1444 => ?_)
      rw [ha1]
      refine k_VI1 (pc := 1445) c_X7_count lk_L_181 ⟨(Nat.le_of_ble_eq_true rfl), (Nat.le_of_ble_eq_true rfl)⟩ ⟨rfl, rfl⟩ ⟨(Nat.le_of_ble_eq_true rfl), (Nat.le_of_ble_eq_true rfl)⟩ (k := 7) rfl (by decide) cl0 dL_law_1445 (Nat.le_of_ble_eq_true rfl) ?_
      refine ⟨c, q, n, tx, ep, km, mp, F, ux, sz, ho, sn, row, a1, rfl, hI, g1, fun z => absurd hc z, fun _ => ⟨fun _ => ?_, fun z => by omega, fun z => by omega, fun z => by omega, fun z => by omega, fun z _ => by omega, fun z => by omega, fun z => by omega⟩⟩
      have hM2 := hM
      obtain ⟨hMd2, ⟨e0, e5, e17, e19⟩, ⟨e1, e2, e12, e14, e15, e17r⟩, hWa2, hz2, hkp2, hes2⟩ := id hM2
      refine r_aload_2 (pc := 1448) dL_law_1448 ?_
      refine r_aload_0 (pc := 1449) dL_law_1449 ?_
      refine r_iload_3 (pc := 1450) dL_law_1450 ?_
      refine r_iconst (pc := 1451) dL_law_1451 ?_
      refine r_iadd (pc := 1452) dL_law_1452 ?_
      refine r_sld (pc := 1453) hX dL_law_1453 (by omega) (by omega) (fun i_1453 => ?_)
      rw [ha1]
      refine k_VI1 (pc := 1454) c_X8_count lk_L_184 ⟨(Nat.le_of_ble_eq_true rfl), (Nat.le_of_ble_eq_true rfl)⟩ ⟨rfl, rfl⟩ ⟨(Nat.le_of_ble_eq_true rfl), (Nat.le_of_ble_eq_true rfl)⟩ (k := 8) rfl (by decide) hMd2.1 dL_law_1454 (Nat.le_of_ble_eq_true rfl) ?_
      refine ⟨b, mp, a1, rfl, hMd2, e2, hT, hR, g1, fun z => absurd hc z, fun _ => ⟨fun _ => ?_, fun z => by omega, fun z => by omega, fun z => by omega, fun z => by omega, fun z _ => by omega, fun z => by omega, fun z => by omega⟩⟩
      refine r_same (pc := 1457) (tgt := 1462) (by first | rfl | (simp only [e0, e5, e17, e19, e1, e2, e12, e14, e15, e17r])) dL_law_1457 (by decide) ?_
      exact K r h ⟨q, n, tx, ep, km, mp, F, ux, sz, ho, sn, row, hI, hM2, by omega⟩
    · refine r_aload_1 (pc := 1439) dL_law_1439 ?_
      refine r_aload_0 (pc := 1440) dL_law_1440 ?_
      refine r_iload_3 (pc := 1441) dL_law_1441 ?_
      refine r_iconst (pc := 1442) dL_law_1442 ?_
      refine r_iadd (pc := 1443) dL_law_1443 ?_
      refine r_sld (pc := 1444) hX dL_law_1444 (by omega) (by omega) (fun i_1444 => ?_)
      rw [ha1]
      refine k_VI1 (pc := 1445) c_X7_count lk_L_181 ⟨(Nat.le_of_ble_eq_true rfl), (Nat.le_of_ble_eq_true rfl)⟩ ⟨rfl, rfl⟩ ⟨(Nat.le_of_ble_eq_true rfl), (Nat.le_of_ble_eq_true rfl)⟩ (k := 7) rfl (by decide) cl0 dL_law_1445 (Nat.le_of_ble_eq_true rfl) ?_
      refine ⟨c, q, n, tx, ep, km, mp, F, ux, sz, ho, sn, row, a1, rfl, hI, g1, fun z => absurd hc z, fun _ => ⟨fun z => by omega, fun _ => ?_, fun z => by omega, fun z => by omega, fun z => by omega, fun z _ => by omega, fun z => by omega, fun z => by omega⟩⟩
      have hM2 := hM
      obtain ⟨hMd2, ⟨e0, e5, e17, e19⟩, ⟨e1, e2, e12, e14, e15, e17r⟩, hWa2, hz2, hkp2, hes2⟩ := id hM2
      refine r_aload_2 (pc := 1448) dL_law_1448 ?_
      refine r_aload_0 (pc := 1449) dL_law_1449 ?_
      refine r_iload_3 (pc := 1450) dL_law_1450 ?_
      refine r_iconst (pc := 1451) dL_law_1451 ?_
      refine r_iadd (pc := 1452) dL_law_1452 ?_
      refine r_sld (pc := 1453) hX dL_law_1453 (by omega) (by omega) (fun i_1453 => ?_)
      rw [ha1]
      refine k_VI1 (pc := 1454) c_X8_count lk_L_184 ⟨(Nat.le_of_ble_eq_true rfl), (Nat.le_of_ble_eq_true rfl)⟩ ⟨rfl, rfl⟩ ⟨(Nat.le_of_ble_eq_true rfl), (Nat.le_of_ble_eq_true rfl)⟩ (k := 8) rfl (by decide) hMd2.1 dL_law_1454 (Nat.le_of_ble_eq_true rfl) ?_
      refine ⟨b, mp, a1, rfl, hMd2, e2, hT, hR, g1, fun z => absurd hc z, fun _ => ⟨fun z => by omega, fun _ => ?_, fun z => by omega, fun z => by omega, fun z => by omega, fun z _ => by omega, fun z => by omega, fun z => by omega⟩⟩
      refine r_same (pc := 1457) (tgt := 1462) (by first | rfl | (simp only [e0, e5, e17, e19, e1, e2, e12, e14, e15, e17r])) dL_law_1457 (by decide) ?_
      exact K r h ⟨q, n, tx, ep, km, mp, F, ux, sz, ho, sn, row, hI, hM2, by omega⟩
    · refine r_aload_1 (pc := 1439) dL_law_1439 ?_
      refine r_aload_0 (pc := 1440) dL_law_1440 ?_
      refine r_iload_3 (pc := 1441) dL_law_1441 ?_
      refine r_iconst (pc := 1442) dL_law_1442 ?_
      refine r_iadd (pc := 1443) dL_law_1443 ?_
      refine r_sld (pc := 1444) hX dL_law_1444 (by omega) (by omega) (fun i_1444 => ?_)
      rw [ha1]
      refine k_VI1 (pc := 1445) c_X7_count lk_L_181 ⟨(Nat.le_of_ble_eq_true rfl), (Nat.le_of_ble_eq_true rfl)⟩ ⟨rfl, rfl⟩ ⟨(Nat.le_of_ble_eq_true rfl), (Nat.le_of_ble_eq_true rfl)⟩ (k := 7) rfl (by decide) cl0 dL_law_1445 (Nat.le_of_ble_eq_true rfl) ?_
      refine ⟨c, q, n, tx, ep, km, mp, F, ux, sz, ho, sn, row, a1, rfl, hI, g1, fun z => absurd hc z, fun _ => ⟨fun z => by omega, fun z => by omega, fun _ => ?_, fun z => by omega, fun z => by omega, fun z _ => by omega, fun z => by omega, fun z => by omega⟩⟩
      have hM2 := hM
      obtain ⟨hMd2, ⟨e0, e5, e17, e19⟩, ⟨e1, e2, e12, e14, e15, e17r⟩, hWa2, hz2, hkp2, hes2⟩ := id hM2
      refine r_aload_2 (pc := 1448) dL_law_1448 ?_
      refine r_aload_0 (pc := 1449) dL_law_1449 ?_
      refine r_iload_3 (pc := 1450) dL_law_1450 ?_
      refine r_iconst (pc := 1451) dL_law_1451 ?_
      refine r_iadd (pc := 1452) dL_law_1452 ?_
      refine r_sld (pc := 1453) hX dL_law_1453 (by omega) (by omega) (fun i_1453 => ?_)
      rw [ha1]
      refine k_VI1 (pc := 1454) c_X8_count lk_L_184 ⟨(Nat.le_of_ble_eq_true rfl), (Nat.le_of_ble_eq_true rfl)⟩ ⟨rfl, rfl⟩ ⟨(Nat.le_of_ble_eq_true rfl), (Nat.le_of_ble_eq_true rfl)⟩ (k := 8) rfl (by decide) hMd2.1 dL_law_1454 (Nat.le_of_ble_eq_true rfl) ?_
      refine ⟨b, mp, a1, rfl, hMd2, e2, hT, hR, g1, fun z => absurd hc z, fun _ => ⟨fun z => by omega, fun z => by omega, fun _ => ?_, fun z => by omega, fun z => by omega, fun z _ => by omega, fun z => by omega, fun z => by omega⟩⟩
      refine r_same (pc := 1457) (tgt := 1462) (by exact kn_cnt hep.2.1 hes2) dL_law_1457 (by decide) ?_
      exact K r h ⟨q, n, tx, ep, km, mp, F, ux, sz, ho, sn, row, hI, hM2, by omega⟩
    · refine r_aload_1 (pc := 1439) dL_law_1439 ?_
      refine r_aload_0 (pc := 1440) dL_law_1440 ?_
      refine r_iload_3 (pc := 1441) dL_law_1441 ?_
      refine r_iconst (pc := 1442) dL_law_1442 ?_
      refine r_iadd (pc := 1443) dL_law_1443 ?_
      refine r_sld (pc := 1444) hX dL_law_1444 (by omega) (by omega) (fun i_1444 => ?_)
      rw [ha1]
      refine k_VI1 (pc := 1445) c_X7_count lk_L_181 ⟨(Nat.le_of_ble_eq_true rfl), (Nat.le_of_ble_eq_true rfl)⟩ ⟨rfl, rfl⟩ ⟨(Nat.le_of_ble_eq_true rfl), (Nat.le_of_ble_eq_true rfl)⟩ (k := 7) rfl (by decide) cl0 dL_law_1445 (Nat.le_of_ble_eq_true rfl) ?_
      refine ⟨c, q, n, tx, ep, km, mp, F, ux, sz, ho, sn, row, a1, rfl, hI, g1, fun z => absurd hc z, fun _ => ⟨fun z => by omega, fun z => by omega, fun z => by omega, fun _ => ?_, fun z => by omega, fun z _ => by omega, fun z => by omega, fun z => by omega⟩⟩
      have hM2 := hM
      obtain ⟨hMd2, ⟨e0, e5, e17, e19⟩, ⟨e1, e2, e12, e14, e15, e17r⟩, hWa2, hz2, hkp2, hes2⟩ := id hM2
      refine r_aload_2 (pc := 1448) dL_law_1448 ?_
      refine r_aload_0 (pc := 1449) dL_law_1449 ?_
      refine r_iload_3 (pc := 1450) dL_law_1450 ?_
      refine r_iconst (pc := 1451) dL_law_1451 ?_
      refine r_iadd (pc := 1452) dL_law_1452 ?_
      refine r_sld (pc := 1453) hX dL_law_1453 (by omega) (by omega) (fun i_1453 => ?_)
      rw [ha1]
      refine k_VI1 (pc := 1454) c_X8_count lk_L_184 ⟨(Nat.le_of_ble_eq_true rfl), (Nat.le_of_ble_eq_true rfl)⟩ ⟨rfl, rfl⟩ ⟨(Nat.le_of_ble_eq_true rfl), (Nat.le_of_ble_eq_true rfl)⟩ (k := 8) rfl (by decide) hMd2.1 dL_law_1454 (Nat.le_of_ble_eq_true rfl) ?_
      refine ⟨b, mp, a1, rfl, hMd2, e2, hT, hR, g1, fun z => absurd hc z, fun _ => ⟨fun z => by omega, fun z => by omega, fun z => by omega, fun _ => ?_, fun z => by omega, fun z _ => by omega, fun z => by omega, fun z => by omega⟩⟩
      refine r_same (pc := 1457) (tgt := 1462) (by first | rfl | (simp only [e0, e5, e17, e19, e1, e2, e12, e14, e15, e17r])) dL_law_1457 (by decide) ?_
      exact K r h ⟨q, n, tx, ep, km, mp, F, ux, sz, ho, sn, row, hI, hM2, by omega⟩
    · refine r_aload_1 (pc := 1439) dL_law_1439 ?_
      refine r_aload_0 (pc := 1440) dL_law_1440 ?_
      refine r_iload_3 (pc := 1441) dL_law_1441 ?_
      refine r_iconst (pc := 1442) dL_law_1442 ?_
      refine r_iadd (pc := 1443) dL_law_1443 ?_
      refine r_sld (pc := 1444) hX dL_law_1444 (by omega) (by omega) (fun i_1444 => ?_)
      rw [ha1]
      refine k_VI1 (pc := 1445) c_X7_count lk_L_181 ⟨(Nat.le_of_ble_eq_true rfl), (Nat.le_of_ble_eq_true rfl)⟩ ⟨rfl, rfl⟩ ⟨(Nat.le_of_ble_eq_true rfl), (Nat.le_of_ble_eq_true rfl)⟩ (k := 7) rfl (by decide) cl0 dL_law_1445 (Nat.le_of_ble_eq_true rfl) ?_
      refine ⟨c, q, n, tx, ep, km, mp, F, ux, sz, ho, sn, row, a1, rfl, hI, g1, fun z => absurd hc z, fun _ => ⟨fun z => by omega, fun z => by omega, fun z => by omega, fun z => by omega, fun _ => ?_, fun z _ => by omega, fun z => by omega, fun z => by omega⟩⟩
      have hM2 := hM
      obtain ⟨hMd2, ⟨e0, e5, e17, e19⟩, ⟨e1, e2, e12, e14, e15, e17r⟩, hWa2, hz2, hkp2, hes2⟩ := id hM2
      refine r_aload_2 (pc := 1448) dL_law_1448 ?_
      refine r_aload_0 (pc := 1449) dL_law_1449 ?_
      refine r_iload_3 (pc := 1450) dL_law_1450 ?_
      refine r_iconst (pc := 1451) dL_law_1451 ?_
      refine r_iadd (pc := 1452) dL_law_1452 ?_
      refine r_sld (pc := 1453) hX dL_law_1453 (by omega) (by omega) (fun i_1453 => ?_)
      rw [ha1]
      refine k_VI1 (pc := 1454) c_X8_count lk_L_184 ⟨(Nat.le_of_ble_eq_true rfl), (Nat.le_of_ble_eq_true rfl)⟩ ⟨rfl, rfl⟩ ⟨(Nat.le_of_ble_eq_true rfl), (Nat.le_of_ble_eq_true rfl)⟩ (k := 8) rfl (by decide) hMd2.1 dL_law_1454 (Nat.le_of_ble_eq_true rfl) ?_
      refine ⟨b, mp, a1, rfl, hMd2, e2, hT, hR, g1, fun z => absurd hc z, fun _ => ⟨fun z => by omega, fun z => by omega, fun z => by omega, fun z => by omega, fun _ => ?_, fun z _ => by omega, fun z => by omega, fun z => by omega⟩⟩
      refine r_same (pc := 1457) (tgt := 1462) (by first | rfl | (simp only [e0, e5, e17, e19, e1, e2, e12, e14, e15, e17r])) dL_law_1457 (by decide) ?_
      exact K r h ⟨q, n, tx, ep, km, mp, F, ux, sz, ho, sn, row, hI, hM2, by omega⟩
    · refine r_aload_1 (pc := 1439) dL_law_1439 ?_
      refine r_aload_0 (pc := 1440) dL_law_1440 ?_
      refine r_iload_3 (pc := 1441) dL_law_1441 ?_
      refine r_iconst (pc := 1442) dL_law_1442 ?_
      refine r_iadd (pc := 1443) dL_law_1443 ?_
      refine r_sld (pc := 1444) hX dL_law_1444 (by omega) (by omega) (fun i_1444 => ?_)
      rw [ha1]
      refine k_VI1 (pc := 1445) c_X7_count lk_L_181 ⟨(Nat.le_of_ble_eq_true rfl), (Nat.le_of_ble_eq_true rfl)⟩ ⟨rfl, rfl⟩ ⟨(Nat.le_of_ble_eq_true rfl), (Nat.le_of_ble_eq_true rfl)⟩ (k := 7) rfl (by decide) cl0 dL_law_1445 (Nat.le_of_ble_eq_true rfl) ?_
      refine ⟨c, q, n, tx, ep, km, mp, F, ux, sz, ho, sn, row, a1, rfl, hI, g1, fun z => absurd hc z, fun _ => ⟨fun z => by omega, fun z => by omega, fun z => by omega, fun z => by omega, fun z => by omega, fun _ _ => ?_, fun z => by omega, fun z => by omega⟩⟩
      have hM2 := hM
      obtain ⟨hMd2, ⟨e0, e5, e17, e19⟩, ⟨e1, e2, e12, e14, e15, e17r⟩, hWa2, hz2, hkp2, hes2⟩ := id hM2
      refine r_aload_2 (pc := 1448) dL_law_1448 ?_
      refine r_aload_0 (pc := 1449) dL_law_1449 ?_
      refine r_iload_3 (pc := 1450) dL_law_1450 ?_
      refine r_iconst (pc := 1451) dL_law_1451 ?_
      refine r_iadd (pc := 1452) dL_law_1452 ?_
      refine r_sld (pc := 1453) hX dL_law_1453 (by omega) (by omega) (fun i_1453 => ?_)
      rw [ha1]
      refine k_VI1 (pc := 1454) c_X8_count lk_L_184 ⟨(Nat.le_of_ble_eq_true rfl), (Nat.le_of_ble_eq_true rfl)⟩ ⟨rfl, rfl⟩ ⟨(Nat.le_of_ble_eq_true rfl), (Nat.le_of_ble_eq_true rfl)⟩ (k := 8) rfl (by decide) hMd2.1 dL_law_1454 (Nat.le_of_ble_eq_true rfl) ?_
      refine ⟨b, mp, a1, rfl, hMd2, e2, hT, hR, g1, fun z => absurd hc z, fun _ => ⟨fun z => by omega, fun z => by omega, fun z => by omega, fun z => by omega, fun z => by omega, fun _ _ => ?_, fun z => by omega, fun z => by omega⟩⟩
      refine r_same (pc := 1457) (tgt := 1462) (by first | rfl | (simp only [e0, e5, e17, e19, e1, e2, e12, e14, e15, e17r])) dL_law_1457 (by decide) ?_
      exact K r h ⟨q, n, tx, ep, km, mp, F, ux, sz, ho, sn, row, hI, hM2, by omega⟩
    · refine r_aload_1 (pc := 1439) dL_law_1439 ?_
      refine r_aload_0 (pc := 1440) dL_law_1440 ?_
      refine r_iload_3 (pc := 1441) dL_law_1441 ?_
      refine r_iconst (pc := 1442) dL_law_1442 ?_
      refine r_iadd (pc := 1443) dL_law_1443 ?_
      refine r_sld (pc := 1444) hX dL_law_1444 (by omega) (by omega) (fun i_1444 => ?_)
      rw [ha1]
      refine k_VI1 (pc := 1445) c_X7_count lk_L_181 ⟨(Nat.le_of_ble_eq_true rfl), (Nat.le_of_ble_eq_true rfl)⟩ ⟨rfl, rfl⟩ ⟨(Nat.le_of_ble_eq_true rfl), (Nat.le_of_ble_eq_true rfl)⟩ (k := 7) rfl (by decide) cl0 dL_law_1445 (Nat.le_of_ble_eq_true rfl) ?_
      refine ⟨c, q, n, tx, ep, km, mp, F, ux, sz, ho, sn, row, a1, rfl, hI, g1, fun z => absurd hc z, fun _ => ⟨fun z => by omega, fun z => by omega, fun z => by omega, fun z => by omega, fun z => by omega, fun z _ => by omega, fun _ => ?_, fun z => by omega⟩⟩
      have hM2 := hM
      obtain ⟨hMd2, ⟨e0, e5, e17, e19⟩, ⟨e1, e2, e12, e14, e15, e17r⟩, hWa2, hz2, hkp2, hes2⟩ := id hM2
      refine r_aload_2 (pc := 1448) dL_law_1448 ?_
      refine r_aload_0 (pc := 1449) dL_law_1449 ?_
      refine r_iload_3 (pc := 1450) dL_law_1450 ?_
      refine r_iconst (pc := 1451) dL_law_1451 ?_
      refine r_iadd (pc := 1452) dL_law_1452 ?_
      refine r_sld (pc := 1453) hX dL_law_1453 (by omega) (by omega) (fun i_1453 => ?_)
      rw [ha1]
      refine k_VI1 (pc := 1454) c_X8_count lk_L_184 ⟨(Nat.le_of_ble_eq_true rfl), (Nat.le_of_ble_eq_true rfl)⟩ ⟨rfl, rfl⟩ ⟨(Nat.le_of_ble_eq_true rfl), (Nat.le_of_ble_eq_true rfl)⟩ (k := 8) rfl (by decide) hMd2.1 dL_law_1454 (Nat.le_of_ble_eq_true rfl) ?_
      refine ⟨b, mp, a1, rfl, hMd2, e2, hT, hR, g1, fun z => absurd hc z, fun _ => ⟨fun z => by omega, fun z => by omega, fun z => by omega, fun z => by omega, fun z => by omega, fun z _ => by omega, fun _ => ?_, fun z => by omega⟩⟩
      refine r_same (pc := 1457) (tgt := 1462) (by first | rfl | (simp only [e0, e5, e17, e19, e1, e2, e12, e14, e15, e17r])) dL_law_1457 (by decide) ?_
      exact K r h ⟨q, n, tx, ep, km, mp, F, ux, sz, ho, sn, row, hI, hM2, by omega⟩
    · refine r_aload_1 (pc := 1439) dL_law_1439 ?_
      refine r_aload_0 (pc := 1440) dL_law_1440 ?_
      refine r_iload_3 (pc := 1441) dL_law_1441 ?_
      refine r_iconst (pc := 1442) dL_law_1442 ?_
      refine r_iadd (pc := 1443) dL_law_1443 ?_
      refine r_sld (pc := 1444) hX dL_law_1444 (by omega) (by omega) (fun i_1444 => ?_)
      rw [ha1]
      refine k_VI1 (pc := 1445) c_X7_count lk_L_181 ⟨(Nat.le_of_ble_eq_true rfl), (Nat.le_of_ble_eq_true rfl)⟩ ⟨rfl, rfl⟩ ⟨(Nat.le_of_ble_eq_true rfl), (Nat.le_of_ble_eq_true rfl)⟩ (k := 7) rfl (by decide) cl0 dL_law_1445 (Nat.le_of_ble_eq_true rfl) ?_
      refine ⟨c, q, n, tx, ep, km, mp, F, ux, sz, ho, sn, row, a1, rfl, hI, g1, fun z => absurd hc z, fun _ => ⟨fun z => by omega, fun z => by omega, fun z => by omega, fun z => by omega, fun z => by omega, fun z _ => by omega, fun z => by omega, fun _ => ?_⟩⟩
      have hM2 := hM
      obtain ⟨hMd2, ⟨e0, e5, e17, e19⟩, ⟨e1, e2, e12, e14, e15, e17r⟩, hWa2, hz2, hkp2, hes2⟩ := id hM2
      refine r_aload_2 (pc := 1448) dL_law_1448 ?_
      refine r_aload_0 (pc := 1449) dL_law_1449 ?_
      refine r_iload_3 (pc := 1450) dL_law_1450 ?_
      refine r_iconst (pc := 1451) dL_law_1451 ?_
      refine r_iadd (pc := 1452) dL_law_1452 ?_
      refine r_sld (pc := 1453) hX dL_law_1453 (by omega) (by omega) (fun i_1453 => ?_)
      rw [ha1]
      refine k_VI1 (pc := 1454) c_X8_count lk_L_184 ⟨(Nat.le_of_ble_eq_true rfl), (Nat.le_of_ble_eq_true rfl)⟩ ⟨rfl, rfl⟩ ⟨(Nat.le_of_ble_eq_true rfl), (Nat.le_of_ble_eq_true rfl)⟩ (k := 8) rfl (by decide) hMd2.1 dL_law_1454 (Nat.le_of_ble_eq_true rfl) ?_
      refine ⟨b, mp, a1, rfl, hMd2, e2, hT, hR, g1, fun z => absurd hc z, fun _ => ⟨fun z => by omega, fun z => by omega, fun z => by omega, fun z => by omega, fun z => by omega, fun z _ => by omega, fun z => by omega, fun _ => ?_⟩⟩
      refine r_same (pc := 1457) (tgt := 1462) (by first | rfl | (simp only [e0, e5, e17, e19, e1, e2, e12, e14, e15, e17r])) dL_law_1457 (by decide) ?_
      exact K r h ⟨q, n, tx, ep, km, mp, F, ux, sz, ho, sn, row, hI, hM2, by omega⟩
  · refine r_aload_1 (pc := 1439) dL_law_1439 ?_
    refine r_aload_0 (pc := 1440) dL_law_1440 ?_
    refine r_iload_3 (pc := 1441) dL_law_1441 ?_
    refine r_iconst (pc := 1442) dL_law_1442 ?_
    refine r_iadd (pc := 1443) dL_law_1443 ?_
    refine r_sld (pc := 1444) hX dL_law_1444 (by omega) (by omega) (fun i_1444 => ?_)
    rw [ha1]
    refine k_VI1 (pc := 1445) c_X7_count lk_L_181 ⟨(Nat.le_of_ble_eq_true rfl), (Nat.le_of_ble_eq_true rfl)⟩ ⟨rfl, rfl⟩ ⟨(Nat.le_of_ble_eq_true rfl), (Nat.le_of_ble_eq_true rfl)⟩ (k := 7) rfl (by decide) cl0 dL_law_1445 (Nat.le_of_ble_eq_true rfl) ?_
    refine ⟨c, q, n, tx, ep, km, mp, F, ux, sz, ho, sn, row, a1, rfl, hI, g1, fun _ => ?_, fun z => absurd z hc⟩
    have hM2 := hM
    obtain ⟨hMd2, ⟨e0, e5, e17, e19⟩, ⟨e1, e2, e12, e14, e15, e17r⟩, hWa2, hz2, hkp2, hes2⟩ := id hM2
    refine r_aload_2 (pc := 1448) dL_law_1448 ?_
    refine r_aload_0 (pc := 1449) dL_law_1449 ?_
    refine r_iload_3 (pc := 1450) dL_law_1450 ?_
    refine r_iconst (pc := 1451) dL_law_1451 ?_
    refine r_iadd (pc := 1452) dL_law_1452 ?_
    refine r_sld (pc := 1453) hX dL_law_1453 (by omega) (by omega) (fun i_1453 => ?_)
    rw [ha1]
    refine k_VI1 (pc := 1454) c_X8_count lk_L_184 ⟨(Nat.le_of_ble_eq_true rfl), (Nat.le_of_ble_eq_true rfl)⟩ ⟨rfl, rfl⟩ ⟨(Nat.le_of_ble_eq_true rfl), (Nat.le_of_ble_eq_true rfl)⟩ (k := 8) rfl (by decide) hMd2.1 dL_law_1454 (Nat.le_of_ble_eq_true rfl) ?_
    refine ⟨b, mp, a1, rfl, hMd2, e2, hT, hR, g1, fun _ => ?_, fun z => absurd z hc⟩
    refine r_same (pc := 1457) (tgt := 1462) (by first | rfl | (simp only [e0, e5, e17, e19, e1, e2, e12, e14, e15, e17r])) dL_law_1457 (by decide) ?_
    exact K r h ⟨q, n, tx, ep, km, mp, F, ux, sz, ho, sn, row, hI, hM2, by omega⟩
theorem dL_law_921 : decode code 921 = .ok (.aload_n 1, 1) := by decide +kernel
theorem dL_law_922 : decode code 922 = .ok (.aload_n 0, 1) := by decide +kernel
theorem dL_law_923 : decode code 923 = .ok (.iload_n 3, 1) := by decide +kernel
theorem dL_law_924 : decode code 924 = .ok (.iconst 1, 1) := by decide +kernel
theorem dL_law_925 : decode code 925 = .ok (.iadd, 1) := by decide +kernel
theorem dL_law_926 : decode code 926 = .ok (.iaload, 1) := by decide +kernel
theorem dL_law_927 : decode code 927 = .ok (.aload_n 0, 1) := by decide +kernel
theorem dL_law_928 : decode code 928 = .ok (.iload_n 3, 1) := by decide +kernel
theorem dL_law_929 : decode code 929 = .ok (.iconst 2, 1) := by decide +kernel
theorem dL_law_930 : decode code 930 = .ok (.iadd, 1) := by decide +kernel
theorem dL_law_931 : decode code 931 = .ok (.iaload, 1) := by decide +kernel
theorem dL_law_932 : decode code 932 = .ok (.aload_n 0, 1) := by decide +kernel
theorem dL_law_933 : decode code 933 = .ok (.iload_n 3, 1) := by decide +kernel
theorem dL_law_934 : decode code 934 = .ok (.iconst 3, 1) := by decide +kernel
theorem dL_law_935 : decode code 935 = .ok (.iadd, 1) := by decide +kernel
theorem dL_law_936 : decode code 936 = .ok (.iaload, 1) := by decide +kernel
theorem dL_law_937 : decode code 937 = .ok (.invokevirtual 117, 3) := by decide +kernel
theorem dL_law_940 : decode code 940 = .ok (.aload_n 2, 1) := by decide +kernel
theorem dL_law_941 : decode code 941 = .ok (.aload_n 0, 1) := by decide +kernel
theorem dL_law_942 : decode code 942 = .ok (.iload_n 3, 1) := by decide +kernel
theorem dL_law_943 : decode code 943 = .ok (.iconst 1, 1) := by decide +kernel
theorem dL_law_944 : decode code 944 = .ok (.iadd, 1) := by decide +kernel
theorem dL_law_945 : decode code 945 = .ok (.iaload, 1) := by decide +kernel
theorem dL_law_946 : decode code 946 = .ok (.aload_n 0, 1) := by decide +kernel
theorem dL_law_947 : decode code 947 = .ok (.iload_n 3, 1) := by decide +kernel
theorem dL_law_948 : decode code 948 = .ok (.iconst 2, 1) := by decide +kernel
theorem dL_law_949 : decode code 949 = .ok (.iadd, 1) := by decide +kernel
theorem dL_law_950 : decode code 950 = .ok (.iaload, 1) := by decide +kernel
theorem dL_law_951 : decode code 951 = .ok (.aload_n 0, 1) := by decide +kernel
theorem dL_law_952 : decode code 952 = .ok (.iload_n 3, 1) := by decide +kernel
theorem dL_law_953 : decode code 953 = .ok (.iconst 3, 1) := by decide +kernel
theorem dL_law_954 : decode code 954 = .ok (.iadd, 1) := by decide +kernel
theorem dL_law_955 : decode code 955 = .ok (.iaload, 1) := by decide +kernel
theorem dL_law_956 : decode code 956 = .ok (.invokevirtual 120, 3) := by decide +kernel
theorem dL_law_959 : decode code 959 = .ok (.if_icmp .eq 503, 3) := by decide +kernel
set_option maxHeartbeats 4000000 in
set_option maxRecDepth 20000 in
theorem law_old {E : EnT} {lay : LyT} {r : RfT} {h : HpT} {c b b0 L N : Nat} {sx : Int → Int} {i : Int} (hX : ScE E b0 L sx) (hi : 0 ≤ i ∧ i + 4 ≤ L) (hL : L ≤ 2048) (hcb : b = c + 101) (hLI : LI lay c b i r h) (K : ∀ r' h', LI lay c b (i + 4) r' h' → St E mL_law 1462 [some (.ref b0), some (.ref c), some (.ref b), some (vI i)] [] (122, 20801) N lay r' h') : St E mL_law 921 [some (.ref b0), some (.ref c), some (.ref b), some (vI i)] [] (122, 20801) N lay r h := by
  obtain ⟨q, n, tx, ep, km, mp, F, ux, sz, ho, sn, row, hI, hM, hle⟩ := hLI
  have hP0 := hI.2.2.2.2.2.1 0 (by omega) (by omega) (by have := hI.2.2.2.2.1.2.1; omega)
  rw [hI.2.2.2.2.2.2.1.1] at hP0
  have hT := hP0.1
  have hR := hP0.2.1
  have hep := hI.2.2.2.2.1
  have cl0 : lay c = (8, 0) := hI.1.1
  obtain ⟨a1, ha1⟩ : ∃ z, sx (i + 1) = z := ⟨_, rfl⟩
  have g1 := sc_rng hX (i + 1)
  rw [ha1] at g1
  obtain ⟨a2, ha2⟩ : ∃ z, sx (i + 2) = z := ⟨_, rfl⟩
  have g2 := sc_rng hX (i + 2)
  rw [ha2] at g2
  obtain ⟨a3, ha3⟩ : ∃ z, sx (i + 3) = z := ⟨_, rfl⟩
  have g3 := sc_rng hX (i + 3)
  rw [ha3] at g3
  by_cases hc : (0 ≤ a2 ∧ a2 < 16) ∧ (0 ≤ a3 ∧ a3 ≤ 3)
  · by_cases hk : (1 ≤ a1 ∧ a1 ≤ ep ∧ ep - a1 < 5)
    · refine r_aload_1 (pc := 921) dL_law_921 ?_
      refine r_aload_0 (pc := 922) dL_law_922 ?_
      refine r_iload_3 (pc := 923) dL_law_923 ?_
      refine r_iconst (pc := 924) dL_law_924 ?_
      refine r_iadd (pc := 925) dL_law_925 ?_
      refine r_sld (pc := 926) hX dL_law_926 (by omega) (by omega) (fun i_926 => ?_)
      rw [ha1]
      refine r_aload_0 (pc := 927) dL_law_927 ?_
      refine r_iload_3 (pc := 928) dL_law_928 ?_
      refine r_iconst (pc := 929) dL_law_929 ?_
      refine r_iadd (pc := 930) dL_law_930 ?_
      refine r_sld (pc := 931) hX dL_law_931 (by omega) (by omega) (fun i_931 => ?_)
      rw [ha2]
      refine r_aload_0 (pc := 932) dL_law_932 ?_
      refine r_iload_3 (pc := 933) dL_law_933 ?_
      refine r_iconst (pc := 934) dL_law_934 ?_
      refine r_iadd (pc := 935) dL_law_935 ?_
      refine r_sld (pc := 936) hX dL_law_936 (by omega) (by omega) (fun i_936 => ?_)
      rw [ha3]
      refine k_VI3 (pc := 937) c_X7_old lk_L_117 ⟨(Nat.le_of_ble_eq_true rfl), (Nat.le_of_ble_eq_true rfl)⟩ ⟨rfl, rfl⟩ ⟨(Nat.le_of_ble_eq_true rfl), (Nat.le_of_ble_eq_true rfl)⟩ (k := 7) rfl (by decide) cl0 dL_law_937 (Nat.le_of_ble_eq_true rfl) ?_
      refine ⟨c, q, n, tx, ep, km, mp, F, ux, sz, ho, sn, row, a1, a2, a3, rfl, hI, g1, g2, g3, fun z => absurd hc z, fun _ => ⟨fun z => absurd hk z, fun _ => ?_⟩⟩
      have hM2 := hM
      obtain ⟨hMd2, ⟨e0, e5, e17, e19⟩, ⟨e1, e2, e12, e14, e15, e17r⟩, hWa2, hz2, hkp2, hes2⟩ := id hM2
      refine r_aload_2 (pc := 940) dL_law_940 ?_
      refine r_aload_0 (pc := 941) dL_law_941 ?_
      refine r_iload_3 (pc := 942) dL_law_942 ?_
      refine r_iconst (pc := 943) dL_law_943 ?_
      refine r_iadd (pc := 944) dL_law_944 ?_
      refine r_sld (pc := 945) hX dL_law_945 (by omega) (by omega) (fun i_945 => ?_)
      rw [ha1]
      refine r_aload_0 (pc := 946) dL_law_946 ?_
      refine r_iload_3 (pc := 947) dL_law_947 ?_
      refine r_iconst (pc := 948) dL_law_948 ?_
      refine r_iadd (pc := 949) dL_law_949 ?_
      refine r_sld (pc := 950) hX dL_law_950 (by omega) (by omega) (fun i_950 => ?_)
      rw [ha2]
      refine r_aload_0 (pc := 951) dL_law_951 ?_
      refine r_iload_3 (pc := 952) dL_law_952 ?_
      refine r_iconst (pc := 953) dL_law_953 ?_
      refine r_iadd (pc := 954) dL_law_954 ?_
      refine r_sld (pc := 955) hX dL_law_955 (by omega) (by omega) (fun i_955 => ?_)
      rw [ha3]
      have z9 := hM2.tr a1 ((hM2.no a1 hep.2.1).mpr hk) hep.2.1
      refine k_VI3 (pc := 956) c_X8_old lk_L_120 ⟨(Nat.le_of_ble_eq_true rfl), (Nat.le_of_ble_eq_true rfl)⟩ ⟨rfl, rfl⟩ ⟨(Nat.le_of_ble_eq_true rfl), (Nat.le_of_ble_eq_true rfl)⟩ (k := 8) rfl (by decide) hMd2.1 dL_law_956 (Nat.le_of_ble_eq_true rfl) ?_
      refine ⟨b, mp, a1, a2, a3, rfl, hMd2, e2, hT, hR, g1, g2, g3, hWa2, (fun e9 k1 _ k3 => by
        have z9 := hM2.tr e9 ⟨k1, k3⟩ hep.2.1
        have pm := hI.2.2.2.2.2.1 (ep - e9) (by omega) (by omega) (by omega)
        rw [z9.2]; exact ⟨pm.1, pm.2.1⟩), fun z => absurd hc z, fun _ => ⟨fun z => absurd ((hM2.no a1 hep.2.1).mpr hk) z, fun _ h3 f3 => ?_⟩⟩
      refine r_same (pc := 959) (tgt := 1462) (by rw [z9.2]) dL_law_959 (by decide) ?_
      exact K r h3 ⟨q, n, tx, ep, km, mp, F, ux, sz, ho, sn, row, hI.fr (fun x x0 x1 => f3 x (by omega)), hM2.s (fun j hj => by rw [f3 _ (by omega)]) (fun x x0 x1 hx => f3 x (by omega)), by omega⟩
    · refine r_aload_1 (pc := 921) dL_law_921 ?_
      refine r_aload_0 (pc := 922) dL_law_922 ?_
      refine r_iload_3 (pc := 923) dL_law_923 ?_
      refine r_iconst (pc := 924) dL_law_924 ?_
      refine r_iadd (pc := 925) dL_law_925 ?_
      refine r_sld (pc := 926) hX dL_law_926 (by omega) (by omega) (fun i_926 => ?_)
      rw [ha1]
      refine r_aload_0 (pc := 927) dL_law_927 ?_
      refine r_iload_3 (pc := 928) dL_law_928 ?_
      refine r_iconst (pc := 929) dL_law_929 ?_
      refine r_iadd (pc := 930) dL_law_930 ?_
      refine r_sld (pc := 931) hX dL_law_931 (by omega) (by omega) (fun i_931 => ?_)
      rw [ha2]
      refine r_aload_0 (pc := 932) dL_law_932 ?_
      refine r_iload_3 (pc := 933) dL_law_933 ?_
      refine r_iconst (pc := 934) dL_law_934 ?_
      refine r_iadd (pc := 935) dL_law_935 ?_
      refine r_sld (pc := 936) hX dL_law_936 (by omega) (by omega) (fun i_936 => ?_)
      rw [ha3]
      refine k_VI3 (pc := 937) c_X7_old lk_L_117 ⟨(Nat.le_of_ble_eq_true rfl), (Nat.le_of_ble_eq_true rfl)⟩ ⟨rfl, rfl⟩ ⟨(Nat.le_of_ble_eq_true rfl), (Nat.le_of_ble_eq_true rfl)⟩ (k := 7) rfl (by decide) cl0 dL_law_937 (Nat.le_of_ble_eq_true rfl) ?_
      refine ⟨c, q, n, tx, ep, km, mp, F, ux, sz, ho, sn, row, a1, a2, a3, rfl, hI, g1, g2, g3, fun z => absurd hc z, fun _ => ⟨fun _ => ?_, fun z => absurd z hk⟩⟩
      have hM2 := hM
      obtain ⟨hMd2, ⟨e0, e5, e17, e19⟩, ⟨e1, e2, e12, e14, e15, e17r⟩, hWa2, hz2, hkp2, hes2⟩ := id hM2
      refine r_aload_2 (pc := 940) dL_law_940 ?_
      refine r_aload_0 (pc := 941) dL_law_941 ?_
      refine r_iload_3 (pc := 942) dL_law_942 ?_
      refine r_iconst (pc := 943) dL_law_943 ?_
      refine r_iadd (pc := 944) dL_law_944 ?_
      refine r_sld (pc := 945) hX dL_law_945 (by omega) (by omega) (fun i_945 => ?_)
      rw [ha1]
      refine r_aload_0 (pc := 946) dL_law_946 ?_
      refine r_iload_3 (pc := 947) dL_law_947 ?_
      refine r_iconst (pc := 948) dL_law_948 ?_
      refine r_iadd (pc := 949) dL_law_949 ?_
      refine r_sld (pc := 950) hX dL_law_950 (by omega) (by omega) (fun i_950 => ?_)
      rw [ha2]
      refine r_aload_0 (pc := 951) dL_law_951 ?_
      refine r_iload_3 (pc := 952) dL_law_952 ?_
      refine r_iconst (pc := 953) dL_law_953 ?_
      refine r_iadd (pc := 954) dL_law_954 ?_
      refine r_sld (pc := 955) hX dL_law_955 (by omega) (by omega) (fun i_955 => ?_)
      rw [ha3]
      refine k_VI3 (pc := 956) c_X8_old lk_L_120 ⟨(Nat.le_of_ble_eq_true rfl), (Nat.le_of_ble_eq_true rfl)⟩ ⟨rfl, rfl⟩ ⟨(Nat.le_of_ble_eq_true rfl), (Nat.le_of_ble_eq_true rfl)⟩ (k := 8) rfl (by decide) hMd2.1 dL_law_956 (Nat.le_of_ble_eq_true rfl) ?_
      refine ⟨b, mp, a1, a2, a3, rfl, hMd2, e2, hT, hR, g1, g2, g3, hWa2, (fun e9 k1 _ k3 => by
        have z9 := hM2.tr e9 ⟨k1, k3⟩ hep.2.1
        have pm := hI.2.2.2.2.2.1 (ep - e9) (by omega) (by omega) (by omega)
        rw [z9.2]; exact ⟨pm.1, pm.2.1⟩), fun z => absurd hc z, fun _ => ⟨fun _ => ?_, fun z => absurd ((hM2.no a1 hep.2.1).mp z) hk⟩⟩
      refine r_same (pc := 959) (tgt := 1462) (by first | rfl | (simp only [e0, e5, e17, e19, e1, e2, e12, e14, e15, e17r])) dL_law_959 (by decide) ?_
      exact K r h ⟨q, n, tx, ep, km, mp, F, ux, sz, ho, sn, row, hI, hM2, by omega⟩
  · refine r_aload_1 (pc := 921) dL_law_921 ?_
    refine r_aload_0 (pc := 922) dL_law_922 ?_
    refine r_iload_3 (pc := 923) dL_law_923 ?_
    refine r_iconst (pc := 924) dL_law_924 ?_
    refine r_iadd (pc := 925) dL_law_925 ?_
    refine r_sld (pc := 926) hX dL_law_926 (by omega) (by omega) (fun i_926 => ?_)
    rw [ha1]
    refine r_aload_0 (pc := 927) dL_law_927 ?_
    refine r_iload_3 (pc := 928) dL_law_928 ?_
    refine r_iconst (pc := 929) dL_law_929 ?_
    refine r_iadd (pc := 930) dL_law_930 ?_
    refine r_sld (pc := 931) hX dL_law_931 (by omega) (by omega) (fun i_931 => ?_)
    rw [ha2]
    refine r_aload_0 (pc := 932) dL_law_932 ?_
    refine r_iload_3 (pc := 933) dL_law_933 ?_
    refine r_iconst (pc := 934) dL_law_934 ?_
    refine r_iadd (pc := 935) dL_law_935 ?_
    refine r_sld (pc := 936) hX dL_law_936 (by omega) (by omega) (fun i_936 => ?_)
    rw [ha3]
    refine k_VI3 (pc := 937) c_X7_old lk_L_117 ⟨(Nat.le_of_ble_eq_true rfl), (Nat.le_of_ble_eq_true rfl)⟩ ⟨rfl, rfl⟩ ⟨(Nat.le_of_ble_eq_true rfl), (Nat.le_of_ble_eq_true rfl)⟩ (k := 7) rfl (by decide) cl0 dL_law_937 (Nat.le_of_ble_eq_true rfl) ?_
    refine ⟨c, q, n, tx, ep, km, mp, F, ux, sz, ho, sn, row, a1, a2, a3, rfl, hI, g1, g2, g3, fun _ => ?_, fun z => absurd z hc⟩
    have hM2 := hM
    obtain ⟨hMd2, ⟨e0, e5, e17, e19⟩, ⟨e1, e2, e12, e14, e15, e17r⟩, hWa2, hz2, hkp2, hes2⟩ := id hM2
    refine r_aload_2 (pc := 940) dL_law_940 ?_
    refine r_aload_0 (pc := 941) dL_law_941 ?_
    refine r_iload_3 (pc := 942) dL_law_942 ?_
    refine r_iconst (pc := 943) dL_law_943 ?_
    refine r_iadd (pc := 944) dL_law_944 ?_
    refine r_sld (pc := 945) hX dL_law_945 (by omega) (by omega) (fun i_945 => ?_)
    rw [ha1]
    refine r_aload_0 (pc := 946) dL_law_946 ?_
    refine r_iload_3 (pc := 947) dL_law_947 ?_
    refine r_iconst (pc := 948) dL_law_948 ?_
    refine r_iadd (pc := 949) dL_law_949 ?_
    refine r_sld (pc := 950) hX dL_law_950 (by omega) (by omega) (fun i_950 => ?_)
    rw [ha2]
    refine r_aload_0 (pc := 951) dL_law_951 ?_
    refine r_iload_3 (pc := 952) dL_law_952 ?_
    refine r_iconst (pc := 953) dL_law_953 ?_
    refine r_iadd (pc := 954) dL_law_954 ?_
    refine r_sld (pc := 955) hX dL_law_955 (by omega) (by omega) (fun i_955 => ?_)
    rw [ha3]
    refine k_VI3 (pc := 956) c_X8_old lk_L_120 ⟨(Nat.le_of_ble_eq_true rfl), (Nat.le_of_ble_eq_true rfl)⟩ ⟨rfl, rfl⟩ ⟨(Nat.le_of_ble_eq_true rfl), (Nat.le_of_ble_eq_true rfl)⟩ (k := 8) rfl (by decide) hMd2.1 dL_law_956 (Nat.le_of_ble_eq_true rfl) ?_
    refine ⟨b, mp, a1, a2, a3, rfl, hMd2, e2, hT, hR, g1, g2, g3, hWa2, (fun e9 k1 _ k3 => by
      have z9 := hM2.tr e9 ⟨k1, k3⟩ hep.2.1
      have pm := hI.2.2.2.2.2.1 (ep - e9) (by omega) (by omega) (by omega)
      rw [z9.2]; exact ⟨pm.1, pm.2.1⟩), fun _ => ?_, fun z => absurd z hc⟩
    refine r_same (pc := 959) (tgt := 1462) (by first | rfl | (simp only [e0, e5, e17, e19, e1, e2, e12, e14, e15, e17r])) dL_law_959 (by decide) ?_
    exact K r h ⟨q, n, tx, ep, km, mp, F, ux, sz, ho, sn, row, hI, hM2, by omega⟩
theorem dL_law_964 : decode code 964 = .ok (.aload_n 1, 1) := by decide +kernel
theorem dL_law_965 : decode code 965 = .ok (.aload_n 0, 1) := by decide +kernel
theorem dL_law_966 : decode code 966 = .ok (.iload_n 3, 1) := by decide +kernel
theorem dL_law_967 : decode code 967 = .ok (.iconst 1, 1) := by decide +kernel
theorem dL_law_968 : decode code 968 = .ok (.iadd, 1) := by decide +kernel
theorem dL_law_969 : decode code 969 = .ok (.iaload, 1) := by decide +kernel
theorem dL_law_970 : decode code 970 = .ok (.aload_n 0, 1) := by decide +kernel
theorem dL_law_971 : decode code 971 = .ok (.iload_n 3, 1) := by decide +kernel
theorem dL_law_972 : decode code 972 = .ok (.iconst 2, 1) := by decide +kernel
theorem dL_law_973 : decode code 973 = .ok (.iadd, 1) := by decide +kernel
theorem dL_law_974 : decode code 974 = .ok (.iaload, 1) := by decide +kernel
theorem dL_law_975 : decode code 975 = .ok (.invokevirtual 121, 3) := by decide +kernel
theorem dL_law_978 : decode code 978 = .ok (.aload_n 2, 1) := by decide +kernel
theorem dL_law_979 : decode code 979 = .ok (.aload_n 0, 1) := by decide +kernel
theorem dL_law_980 : decode code 980 = .ok (.iload_n 3, 1) := by decide +kernel
theorem dL_law_981 : decode code 981 = .ok (.iconst 1, 1) := by decide +kernel
theorem dL_law_982 : decode code 982 = .ok (.iadd, 1) := by decide +kernel
theorem dL_law_983 : decode code 983 = .ok (.iaload, 1) := by decide +kernel
theorem dL_law_984 : decode code 984 = .ok (.aload_n 0, 1) := by decide +kernel
theorem dL_law_985 : decode code 985 = .ok (.iload_n 3, 1) := by decide +kernel
theorem dL_law_986 : decode code 986 = .ok (.iconst 2, 1) := by decide +kernel
theorem dL_law_987 : decode code 987 = .ok (.iadd, 1) := by decide +kernel
theorem dL_law_988 : decode code 988 = .ok (.iaload, 1) := by decide +kernel
theorem dL_law_989 : decode code 989 = .ok (.invokevirtual 124, 3) := by decide +kernel
theorem dL_law_992 : decode code 992 = .ok (.if_icmp .eq 470, 3) := by decide +kernel
set_option maxHeartbeats 4000000 in
set_option maxRecDepth 20000 in
theorem law_since {E : EnT} {lay : LyT} {r : RfT} {h : HpT} {c b b0 L N : Nat} {sx : Int → Int} {i : Int} (hX : ScE E b0 L sx) (hi : 0 ≤ i ∧ i + 4 ≤ L) (hL : L ≤ 2048) (hcb : b = c + 101) (hLI : LI lay c b i r h) (K : ∀ r' h', LI lay c b (i + 4) r' h' → St E mL_law 1462 [some (.ref b0), some (.ref c), some (.ref b), some (vI i)] [] (122, 20801) N lay r' h') : St E mL_law 964 [some (.ref b0), some (.ref c), some (.ref b), some (vI i)] [] (122, 20801) N lay r h := by
  obtain ⟨q, n, tx, ep, km, mp, F, ux, sz, ho, sn, row, hI, hM, hle⟩ := hLI
  have hP0 := hI.2.2.2.2.2.1 0 (by omega) (by omega) (by have := hI.2.2.2.2.1.2.1; omega)
  rw [hI.2.2.2.2.2.2.1.1] at hP0
  have hT := hP0.1
  have hR := hP0.2.1
  have hep := hI.2.2.2.2.1
  have cl0 : lay c = (8, 0) := hI.1.1
  obtain ⟨a1, ha1⟩ : ∃ z, sx (i + 1) = z := ⟨_, rfl⟩
  have g1 := sc_rng hX (i + 1)
  rw [ha1] at g1
  obtain ⟨a2, ha2⟩ : ∃ z, sx (i + 2) = z := ⟨_, rfl⟩
  have g2 := sc_rng hX (i + 2)
  rw [ha2] at g2
  by_cases hc : 0 ≤ a2 ∧ a2 ≤ 2
  · by_cases hk : (1 ≤ a1 ∧ a1 ≤ ep ∧ ep - a1 < 5)
    · rcases (show a2 = 0 ∨ a2 = 1 ∨ a2 = 2 by omega) with hv | hv | hv
      · refine r_aload_1 (pc := 964) dL_law_964 ?_
        refine r_aload_0 (pc := 965) dL_law_965 ?_
        refine r_iload_3 (pc := 966) dL_law_966 ?_
        refine r_iconst (pc := 967) dL_law_967 ?_
        refine r_iadd (pc := 968) dL_law_968 ?_
        refine r_sld (pc := 969) hX dL_law_969 (by omega) (by omega) (fun i_969 => ?_)
        rw [ha1]
        refine r_aload_0 (pc := 970) dL_law_970 ?_
        refine r_iload_3 (pc := 971) dL_law_971 ?_
        refine r_iconst (pc := 972) dL_law_972 ?_
        refine r_iadd (pc := 973) dL_law_973 ?_
        refine r_sld (pc := 974) hX dL_law_974 (by omega) (by omega) (fun i_974 => ?_)
        rw [ha2]
        refine k_VI2 (pc := 975) c_X7_since lk_L_121 ⟨(Nat.le_of_ble_eq_true rfl), (Nat.le_of_ble_eq_true rfl)⟩ ⟨rfl, rfl⟩ ⟨(Nat.le_of_ble_eq_true rfl), (Nat.le_of_ble_eq_true rfl)⟩ (k := 7) rfl (by decide) cl0 dL_law_975 (Nat.le_of_ble_eq_true rfl) ?_
        refine ⟨c, q, n, tx, ep, km, mp, F, ux, sz, ho, sn, row, a1, a2, rfl, hI, g1, g2, fun z => absurd hc z, fun _ => ⟨fun z => absurd hk z, fun _ => ⟨fun _ => ?_, fun z => by omega, fun z => by omega⟩⟩⟩
        have hM2 := hM
        obtain ⟨hMd2, ⟨e0, e5, e17, e19⟩, ⟨e1, e2, e12, e14, e15, e17r⟩, hWa2, hz2, hkp2, hes2⟩ := id hM2
        refine r_aload_2 (pc := 978) dL_law_978 ?_
        refine r_aload_0 (pc := 979) dL_law_979 ?_
        refine r_iload_3 (pc := 980) dL_law_980 ?_
        refine r_iconst (pc := 981) dL_law_981 ?_
        refine r_iadd (pc := 982) dL_law_982 ?_
        refine r_sld (pc := 983) hX dL_law_983 (by omega) (by omega) (fun i_983 => ?_)
        rw [ha1]
        refine r_aload_0 (pc := 984) dL_law_984 ?_
        refine r_iload_3 (pc := 985) dL_law_985 ?_
        refine r_iconst (pc := 986) dL_law_986 ?_
        refine r_iadd (pc := 987) dL_law_987 ?_
        refine r_sld (pc := 988) hX dL_law_988 (by omega) (by omega) (fun i_988 => ?_)
        rw [ha2]
        have z9 := hM2.tr a1 ((hM2.no a1 hep.2.1).mpr hk) hep.2.1
        refine k_VI2 (pc := 989) c_X8_since lk_L_124 ⟨(Nat.le_of_ble_eq_true rfl), (Nat.le_of_ble_eq_true rfl)⟩ ⟨rfl, rfl⟩ ⟨(Nat.le_of_ble_eq_true rfl), (Nat.le_of_ble_eq_true rfl)⟩ (k := 8) rfl (by decide) hMd2.1 dL_law_989 (Nat.le_of_ble_eq_true rfl) ?_
        refine ⟨b, mp, a1, a2, rfl, hMd2, e2, hT, hR, g1, g2, hWa2, (fun e9 k1 _ k3 => by
          have z9 := hM2.tr e9 ⟨k1, k3⟩ hep.2.1
          have pm := hI.2.2.2.2.2.1 (ep - e9) (by omega) (by omega) (by omega)
          rw [z9.2]; exact ⟨pm.1, pm.2.1⟩), fun z => absurd hc z, fun _ => ⟨fun z => absurd ((hM2.no a1 hep.2.1).mpr hk) z, fun _ h3 f3 => ⟨fun _ => ?_, fun z => by omega, fun z => by omega⟩⟩⟩
        refine r_same (pc := 992) (tgt := 1462) (by rw [z9.2, e12]) dL_law_992 (by decide) ?_
        exact K r h3 ⟨q, n, tx, ep, km, mp, F, ux, sz, ho, sn, row, hI.fr (fun x x0 x1 => f3 x (by omega)), hM2.s (fun j hj => by rw [f3 _ (by omega)]) (fun x x0 x1 hx => f3 x (by omega)), by omega⟩
      · refine r_aload_1 (pc := 964) dL_law_964 ?_
        refine r_aload_0 (pc := 965) dL_law_965 ?_
        refine r_iload_3 (pc := 966) dL_law_966 ?_
        refine r_iconst (pc := 967) dL_law_967 ?_
        refine r_iadd (pc := 968) dL_law_968 ?_
        refine r_sld (pc := 969) hX dL_law_969 (by omega) (by omega) (fun i_969 => ?_)
        rw [ha1]
        refine r_aload_0 (pc := 970) dL_law_970 ?_
        refine r_iload_3 (pc := 971) dL_law_971 ?_
        refine r_iconst (pc := 972) dL_law_972 ?_
        refine r_iadd (pc := 973) dL_law_973 ?_
        refine r_sld (pc := 974) hX dL_law_974 (by omega) (by omega) (fun i_974 => ?_)
        rw [ha2]
        refine k_VI2 (pc := 975) c_X7_since lk_L_121 ⟨(Nat.le_of_ble_eq_true rfl), (Nat.le_of_ble_eq_true rfl)⟩ ⟨rfl, rfl⟩ ⟨(Nat.le_of_ble_eq_true rfl), (Nat.le_of_ble_eq_true rfl)⟩ (k := 7) rfl (by decide) cl0 dL_law_975 (Nat.le_of_ble_eq_true rfl) ?_
        refine ⟨c, q, n, tx, ep, km, mp, F, ux, sz, ho, sn, row, a1, a2, rfl, hI, g1, g2, fun z => absurd hc z, fun _ => ⟨fun z => absurd hk z, fun _ => ⟨fun z => by omega, fun _ => ?_, fun z => by omega⟩⟩⟩
        have hM2 := hM
        obtain ⟨hMd2, ⟨e0, e5, e17, e19⟩, ⟨e1, e2, e12, e14, e15, e17r⟩, hWa2, hz2, hkp2, hes2⟩ := id hM2
        refine r_aload_2 (pc := 978) dL_law_978 ?_
        refine r_aload_0 (pc := 979) dL_law_979 ?_
        refine r_iload_3 (pc := 980) dL_law_980 ?_
        refine r_iconst (pc := 981) dL_law_981 ?_
        refine r_iadd (pc := 982) dL_law_982 ?_
        refine r_sld (pc := 983) hX dL_law_983 (by omega) (by omega) (fun i_983 => ?_)
        rw [ha1]
        refine r_aload_0 (pc := 984) dL_law_984 ?_
        refine r_iload_3 (pc := 985) dL_law_985 ?_
        refine r_iconst (pc := 986) dL_law_986 ?_
        refine r_iadd (pc := 987) dL_law_987 ?_
        refine r_sld (pc := 988) hX dL_law_988 (by omega) (by omega) (fun i_988 => ?_)
        rw [ha2]
        have z9 := hM2.tr a1 ((hM2.no a1 hep.2.1).mpr hk) hep.2.1
        refine k_VI2 (pc := 989) c_X8_since lk_L_124 ⟨(Nat.le_of_ble_eq_true rfl), (Nat.le_of_ble_eq_true rfl)⟩ ⟨rfl, rfl⟩ ⟨(Nat.le_of_ble_eq_true rfl), (Nat.le_of_ble_eq_true rfl)⟩ (k := 8) rfl (by decide) hMd2.1 dL_law_989 (Nat.le_of_ble_eq_true rfl) ?_
        refine ⟨b, mp, a1, a2, rfl, hMd2, e2, hT, hR, g1, g2, hWa2, (fun e9 k1 _ k3 => by
          have z9 := hM2.tr e9 ⟨k1, k3⟩ hep.2.1
          have pm := hI.2.2.2.2.2.1 (ep - e9) (by omega) (by omega) (by omega)
          rw [z9.2]; exact ⟨pm.1, pm.2.1⟩), fun z => absurd hc z, fun _ => ⟨fun z => absurd ((hM2.no a1 hep.2.1).mpr hk) z, fun _ h3 f3 => ⟨fun z => by omega, fun _ => ?_, fun z => by omega⟩⟩⟩
        refine r_same (pc := 992) (tgt := 1462) (by rw [z9.2, e12]) dL_law_992 (by decide) ?_
        exact K r h3 ⟨q, n, tx, ep, km, mp, F, ux, sz, ho, sn, row, hI.fr (fun x x0 x1 => f3 x (by omega)), hM2.s (fun j hj => by rw [f3 _ (by omega)]) (fun x x0 x1 hx => f3 x (by omega)), by omega⟩
      · refine r_aload_1 (pc := 964) dL_law_964 ?_
        refine r_aload_0 (pc := 965) dL_law_965 ?_
        refine r_iload_3 (pc := 966) dL_law_966 ?_
        refine r_iconst (pc := 967) dL_law_967 ?_
        refine r_iadd (pc := 968) dL_law_968 ?_
        refine r_sld (pc := 969) hX dL_law_969 (by omega) (by omega) (fun i_969 => ?_)
        rw [ha1]
        refine r_aload_0 (pc := 970) dL_law_970 ?_
        refine r_iload_3 (pc := 971) dL_law_971 ?_
        refine r_iconst (pc := 972) dL_law_972 ?_
        refine r_iadd (pc := 973) dL_law_973 ?_
        refine r_sld (pc := 974) hX dL_law_974 (by omega) (by omega) (fun i_974 => ?_)
        rw [ha2]
        refine k_VI2 (pc := 975) c_X7_since lk_L_121 ⟨(Nat.le_of_ble_eq_true rfl), (Nat.le_of_ble_eq_true rfl)⟩ ⟨rfl, rfl⟩ ⟨(Nat.le_of_ble_eq_true rfl), (Nat.le_of_ble_eq_true rfl)⟩ (k := 7) rfl (by decide) cl0 dL_law_975 (Nat.le_of_ble_eq_true rfl) ?_
        refine ⟨c, q, n, tx, ep, km, mp, F, ux, sz, ho, sn, row, a1, a2, rfl, hI, g1, g2, fun z => absurd hc z, fun _ => ⟨fun z => absurd hk z, fun _ => ⟨fun z => by omega, fun z => by omega, fun _ => ?_⟩⟩⟩
        have hM2 := hM
        obtain ⟨hMd2, ⟨e0, e5, e17, e19⟩, ⟨e1, e2, e12, e14, e15, e17r⟩, hWa2, hz2, hkp2, hes2⟩ := id hM2
        refine r_aload_2 (pc := 978) dL_law_978 ?_
        refine r_aload_0 (pc := 979) dL_law_979 ?_
        refine r_iload_3 (pc := 980) dL_law_980 ?_
        refine r_iconst (pc := 981) dL_law_981 ?_
        refine r_iadd (pc := 982) dL_law_982 ?_
        refine r_sld (pc := 983) hX dL_law_983 (by omega) (by omega) (fun i_983 => ?_)
        rw [ha1]
        refine r_aload_0 (pc := 984) dL_law_984 ?_
        refine r_iload_3 (pc := 985) dL_law_985 ?_
        refine r_iconst (pc := 986) dL_law_986 ?_
        refine r_iadd (pc := 987) dL_law_987 ?_
        refine r_sld (pc := 988) hX dL_law_988 (by omega) (by omega) (fun i_988 => ?_)
        rw [ha2]
        have z9 := hM2.tr a1 ((hM2.no a1 hep.2.1).mpr hk) hep.2.1
        refine k_VI2 (pc := 989) c_X8_since lk_L_124 ⟨(Nat.le_of_ble_eq_true rfl), (Nat.le_of_ble_eq_true rfl)⟩ ⟨rfl, rfl⟩ ⟨(Nat.le_of_ble_eq_true rfl), (Nat.le_of_ble_eq_true rfl)⟩ (k := 8) rfl (by decide) hMd2.1 dL_law_989 (Nat.le_of_ble_eq_true rfl) ?_
        refine ⟨b, mp, a1, a2, rfl, hMd2, e2, hT, hR, g1, g2, hWa2, (fun e9 k1 _ k3 => by
          have z9 := hM2.tr e9 ⟨k1, k3⟩ hep.2.1
          have pm := hI.2.2.2.2.2.1 (ep - e9) (by omega) (by omega) (by omega)
          rw [z9.2]; exact ⟨pm.1, pm.2.1⟩), fun z => absurd hc z, fun _ => ⟨fun z => absurd ((hM2.no a1 hep.2.1).mpr hk) z, fun _ h3 f3 => ⟨fun z => by omega, fun z => by omega, fun _ => ?_⟩⟩⟩
        refine r_same (pc := 992) (tgt := 1462) (by rw [z9.2, e12]) dL_law_992 (by decide) ?_
        exact K r h3 ⟨q, n, tx, ep, km, mp, F, ux, sz, ho, sn, row, hI.fr (fun x x0 x1 => f3 x (by omega)), hM2.s (fun j hj => by rw [f3 _ (by omega)]) (fun x x0 x1 hx => f3 x (by omega)), by omega⟩
    · refine r_aload_1 (pc := 964) dL_law_964 ?_
      refine r_aload_0 (pc := 965) dL_law_965 ?_
      refine r_iload_3 (pc := 966) dL_law_966 ?_
      refine r_iconst (pc := 967) dL_law_967 ?_
      refine r_iadd (pc := 968) dL_law_968 ?_
      refine r_sld (pc := 969) hX dL_law_969 (by omega) (by omega) (fun i_969 => ?_)
      rw [ha1]
      refine r_aload_0 (pc := 970) dL_law_970 ?_
      refine r_iload_3 (pc := 971) dL_law_971 ?_
      refine r_iconst (pc := 972) dL_law_972 ?_
      refine r_iadd (pc := 973) dL_law_973 ?_
      refine r_sld (pc := 974) hX dL_law_974 (by omega) (by omega) (fun i_974 => ?_)
      rw [ha2]
      refine k_VI2 (pc := 975) c_X7_since lk_L_121 ⟨(Nat.le_of_ble_eq_true rfl), (Nat.le_of_ble_eq_true rfl)⟩ ⟨rfl, rfl⟩ ⟨(Nat.le_of_ble_eq_true rfl), (Nat.le_of_ble_eq_true rfl)⟩ (k := 7) rfl (by decide) cl0 dL_law_975 (Nat.le_of_ble_eq_true rfl) ?_
      refine ⟨c, q, n, tx, ep, km, mp, F, ux, sz, ho, sn, row, a1, a2, rfl, hI, g1, g2, fun z => absurd hc z, fun _ => ⟨fun _ => ?_, fun z => absurd z hk⟩⟩
      have hM2 := hM
      obtain ⟨hMd2, ⟨e0, e5, e17, e19⟩, ⟨e1, e2, e12, e14, e15, e17r⟩, hWa2, hz2, hkp2, hes2⟩ := id hM2
      refine r_aload_2 (pc := 978) dL_law_978 ?_
      refine r_aload_0 (pc := 979) dL_law_979 ?_
      refine r_iload_3 (pc := 980) dL_law_980 ?_
      refine r_iconst (pc := 981) dL_law_981 ?_
      refine r_iadd (pc := 982) dL_law_982 ?_
      refine r_sld (pc := 983) hX dL_law_983 (by omega) (by omega) (fun i_983 => ?_)
      rw [ha1]
      refine r_aload_0 (pc := 984) dL_law_984 ?_
      refine r_iload_3 (pc := 985) dL_law_985 ?_
      refine r_iconst (pc := 986) dL_law_986 ?_
      refine r_iadd (pc := 987) dL_law_987 ?_
      refine r_sld (pc := 988) hX dL_law_988 (by omega) (by omega) (fun i_988 => ?_)
      rw [ha2]
      refine k_VI2 (pc := 989) c_X8_since lk_L_124 ⟨(Nat.le_of_ble_eq_true rfl), (Nat.le_of_ble_eq_true rfl)⟩ ⟨rfl, rfl⟩ ⟨(Nat.le_of_ble_eq_true rfl), (Nat.le_of_ble_eq_true rfl)⟩ (k := 8) rfl (by decide) hMd2.1 dL_law_989 (Nat.le_of_ble_eq_true rfl) ?_
      refine ⟨b, mp, a1, a2, rfl, hMd2, e2, hT, hR, g1, g2, hWa2, (fun e9 k1 _ k3 => by
        have z9 := hM2.tr e9 ⟨k1, k3⟩ hep.2.1
        have pm := hI.2.2.2.2.2.1 (ep - e9) (by omega) (by omega) (by omega)
        rw [z9.2]; exact ⟨pm.1, pm.2.1⟩), fun z => absurd hc z, fun _ => ⟨fun _ => ?_, fun z => absurd ((hM2.no a1 hep.2.1).mp z) hk⟩⟩
      refine r_same (pc := 992) (tgt := 1462) (by first | rfl | (simp only [e0, e5, e17, e19, e1, e2, e12, e14, e15, e17r])) dL_law_992 (by decide) ?_
      exact K r h ⟨q, n, tx, ep, km, mp, F, ux, sz, ho, sn, row, hI, hM2, by omega⟩
  · refine r_aload_1 (pc := 964) dL_law_964 ?_
    refine r_aload_0 (pc := 965) dL_law_965 ?_
    refine r_iload_3 (pc := 966) dL_law_966 ?_
    refine r_iconst (pc := 967) dL_law_967 ?_
    refine r_iadd (pc := 968) dL_law_968 ?_
    refine r_sld (pc := 969) hX dL_law_969 (by omega) (by omega) (fun i_969 => ?_)
    rw [ha1]
    refine r_aload_0 (pc := 970) dL_law_970 ?_
    refine r_iload_3 (pc := 971) dL_law_971 ?_
    refine r_iconst (pc := 972) dL_law_972 ?_
    refine r_iadd (pc := 973) dL_law_973 ?_
    refine r_sld (pc := 974) hX dL_law_974 (by omega) (by omega) (fun i_974 => ?_)
    rw [ha2]
    refine k_VI2 (pc := 975) c_X7_since lk_L_121 ⟨(Nat.le_of_ble_eq_true rfl), (Nat.le_of_ble_eq_true rfl)⟩ ⟨rfl, rfl⟩ ⟨(Nat.le_of_ble_eq_true rfl), (Nat.le_of_ble_eq_true rfl)⟩ (k := 7) rfl (by decide) cl0 dL_law_975 (Nat.le_of_ble_eq_true rfl) ?_
    refine ⟨c, q, n, tx, ep, km, mp, F, ux, sz, ho, sn, row, a1, a2, rfl, hI, g1, g2, fun _ => ?_, fun z => absurd z hc⟩
    have hM2 := hM
    obtain ⟨hMd2, ⟨e0, e5, e17, e19⟩, ⟨e1, e2, e12, e14, e15, e17r⟩, hWa2, hz2, hkp2, hes2⟩ := id hM2
    refine r_aload_2 (pc := 978) dL_law_978 ?_
    refine r_aload_0 (pc := 979) dL_law_979 ?_
    refine r_iload_3 (pc := 980) dL_law_980 ?_
    refine r_iconst (pc := 981) dL_law_981 ?_
    refine r_iadd (pc := 982) dL_law_982 ?_
    refine r_sld (pc := 983) hX dL_law_983 (by omega) (by omega) (fun i_983 => ?_)
    rw [ha1]
    refine r_aload_0 (pc := 984) dL_law_984 ?_
    refine r_iload_3 (pc := 985) dL_law_985 ?_
    refine r_iconst (pc := 986) dL_law_986 ?_
    refine r_iadd (pc := 987) dL_law_987 ?_
    refine r_sld (pc := 988) hX dL_law_988 (by omega) (by omega) (fun i_988 => ?_)
    rw [ha2]
    refine k_VI2 (pc := 989) c_X8_since lk_L_124 ⟨(Nat.le_of_ble_eq_true rfl), (Nat.le_of_ble_eq_true rfl)⟩ ⟨rfl, rfl⟩ ⟨(Nat.le_of_ble_eq_true rfl), (Nat.le_of_ble_eq_true rfl)⟩ (k := 8) rfl (by decide) hMd2.1 dL_law_989 (Nat.le_of_ble_eq_true rfl) ?_
    refine ⟨b, mp, a1, a2, rfl, hMd2, e2, hT, hR, g1, g2, hWa2, (fun e9 k1 _ k3 => by
      have z9 := hM2.tr e9 ⟨k1, k3⟩ hep.2.1
      have pm := hI.2.2.2.2.2.1 (ep - e9) (by omega) (by omega) (by omega)
      rw [z9.2]; exact ⟨pm.1, pm.2.1⟩), fun _ => ?_, fun z => absurd z hc⟩
    refine r_same (pc := 992) (tgt := 1462) (by first | rfl | (simp only [e0, e5, e17, e19, e1, e2, e12, e14, e15, e17r])) dL_law_992 (by decide) ?_
    exact K r h ⟨q, n, tx, ep, km, mp, F, ux, sz, ho, sn, row, hI, hM2, by omega⟩
theorem dL_law_1073 : decode code 1073 = .ok (.aload_n 1, 1) := by decide +kernel
theorem dL_law_1074 : decode code 1074 = .ok (.aload_n 0, 1) := by decide +kernel
theorem dL_law_1075 : decode code 1075 = .ok (.iload_n 3, 1) := by decide +kernel
theorem dL_law_1076 : decode code 1076 = .ok (.iconst 1, 1) := by decide +kernel
theorem dL_law_1077 : decode code 1077 = .ok (.iadd, 1) := by decide +kernel
theorem dL_law_1078 : decode code 1078 = .ok (.iaload, 1) := by decide +kernel
theorem dL_law_1079 : decode code 1079 = .ok (.invokevirtual 133, 3) := by decide +kernel
theorem dL_law_1082 : decode code 1082 = .ok (.aload_n 2, 1) := by decide +kernel
theorem dL_law_1083 : decode code 1083 = .ok (.aload_n 0, 1) := by decide +kernel
theorem dL_law_1084 : decode code 1084 = .ok (.iload_n 3, 1) := by decide +kernel
theorem dL_law_1085 : decode code 1085 = .ok (.iconst 1, 1) := by decide +kernel
theorem dL_law_1086 : decode code 1086 = .ok (.iadd, 1) := by decide +kernel
theorem dL_law_1087 : decode code 1087 = .ok (.iaload, 1) := by decide +kernel
theorem dL_law_1088 : decode code 1088 = .ok (.invokevirtual 136, 3) := by decide +kernel
theorem dL_law_1091 : decode code 1091 = .ok (.if_icmp .eq 371, 3) := by decide +kernel
set_option maxHeartbeats 4000000 in
set_option maxRecDepth 20000 in
theorem law_even {E : EnT} {lay : LyT} {r : RfT} {h : HpT} {c b b0 L N : Nat} {sx : Int → Int} {i : Int} (hX : ScE E b0 L sx) (hi : 0 ≤ i ∧ i + 4 ≤ L) (hL : L ≤ 2048) (hcb : b = c + 101) (hLI : LI lay c b i r h) (K : ∀ r' h', LI lay c b (i + 4) r' h' → St E mL_law 1462 [some (.ref b0), some (.ref c), some (.ref b), some (vI i)] [] (122, 20801) N lay r' h') : St E mL_law 1073 [some (.ref b0), some (.ref c), some (.ref b), some (vI i)] [] (122, 20801) N lay r h := by
  obtain ⟨q, n, tx, ep, km, mp, F, ux, sz, ho, sn, row, hI, hM, hle⟩ := hLI
  have hP0 := hI.2.2.2.2.2.1 0 (by omega) (by omega) (by have := hI.2.2.2.2.1.2.1; omega)
  rw [hI.2.2.2.2.2.2.1.1] at hP0
  have hT := hP0.1
  have hR := hP0.2.1
  have hep := hI.2.2.2.2.1
  have cl0 : lay c = (8, 0) := hI.1.1
  obtain ⟨a1, ha1⟩ : ∃ z, sx (i + 1) = z := ⟨_, rfl⟩
  have g1 := sc_rng hX (i + 1)
  rw [ha1] at g1
  by_cases hc : 0 ≤ a1 ∧ a1 ≤ 2
  · by_cases hb : (evk mp (spr mp F) (mp 130).toNat).2.1 < 0
    · refine r_aload_1 (pc := 1073) dL_law_1073 ?_
      refine r_aload_0 (pc := 1074) dL_law_1074 ?_
      refine r_iload_3 (pc := 1075) dL_law_1075 ?_
      refine r_iconst (pc := 1076) dL_law_1076 ?_
      refine r_iadd (pc := 1077) dL_law_1077 ?_
      refine r_sld (pc := 1078) hX dL_law_1078 (by omega) (by omega) (fun i_1078 => ?_)
      rw [ha1]
      refine k_VI1 (pc := 1079) c_X7_even lk_L_133 ⟨(Nat.le_of_ble_eq_true rfl), (Nat.le_of_ble_eq_true rfl)⟩ ⟨rfl, rfl⟩ ⟨(Nat.le_of_ble_eq_true rfl), (Nat.le_of_ble_eq_true rfl)⟩ (k := 7) rfl (by decide) cl0 dL_law_1079 (Nat.le_of_ble_eq_true rfl) ?_
      refine ⟨c, q, n, tx, ep, km, mp, F, ux, sz, ho, sn, row, a1, rfl, hI, g1, fun z => absurd hc z, fun _ h2 f2 hI2 => ⟨fun _ => ?_, fun z => absurd z (by omega)⟩⟩
      have hM2 : MI lay r h2 b n tx ep km mp F ux sz ho sn row := hM.of (rfl) (fun x x0 x1 => f2 x (by omega))
      obtain ⟨hMd2, ⟨e0, e5, e17, e19⟩, ⟨e1, e2, e12, e14, e15, e17r⟩, hWa2, hz2, hkp2, hes2⟩ := id hM2
      refine r_aload_2 (pc := 1082) dL_law_1082 ?_
      refine r_aload_0 (pc := 1083) dL_law_1083 ?_
      refine r_iload_3 (pc := 1084) dL_law_1084 ?_
      refine r_iconst (pc := 1085) dL_law_1085 ?_
      refine r_iadd (pc := 1086) dL_law_1086 ?_
      refine r_sld (pc := 1087) hX dL_law_1087 (by omega) (by omega) (fun i_1087 => ?_)
      rw [ha1]
      refine k_VI1 (pc := 1088) c_X8_even lk_L_136 ⟨(Nat.le_of_ble_eq_true rfl), (Nat.le_of_ble_eq_true rfl)⟩ ⟨rfl, rfl⟩ ⟨(Nat.le_of_ble_eq_true rfl), (Nat.le_of_ble_eq_true rfl)⟩ (k := 8) rfl (by decide) hMd2.1 dL_law_1088 (Nat.le_of_ble_eq_true rfl) ?_
      refine ⟨b, mp, a1, rfl, hMd2, e2, hT, hR, g1, hWa2, fun z => absurd hc z, fun _ h3 f3 => ⟨fun _ => ?_, fun z => absurd (by rw [e12] at z; exact z) (show ¬ 0 ≤ (evk mp (spr mp F) (mp 130).toNat).2.1 by omega)⟩⟩
      refine r_same (pc := 1091) (tgt := 1462) (by first | rfl | (simp only [e0, e5, e17, e19, e1, e2, e12, e14, e15, e17r])) dL_law_1091 (by decide) ?_
      exact K r h3 ⟨q, n, tx, ep, km, mp, F, ux, sz, ho, sn, row, hI2.fr (fun x x0 x1 => f3 x (by omega)), hM2.s (fun j hj => by rw [f3 _ (by omega)]) (fun x x0 x1 hx => f3 x (by omega)), by omega⟩
    · rcases (show a1 = 0 ∨ a1 = 1 ∨ a1 = 2 by omega) with hv | hv | hv
      · refine r_aload_1 (pc := 1073) dL_law_1073 ?_
        refine r_aload_0 (pc := 1074) dL_law_1074 ?_
        refine r_iload_3 (pc := 1075) dL_law_1075 ?_
        refine r_iconst (pc := 1076) dL_law_1076 ?_
        refine r_iadd (pc := 1077) dL_law_1077 ?_
        refine r_sld (pc := 1078) hX dL_law_1078 (by omega) (by omega) (fun i_1078 => ?_)
        rw [ha1]
        refine k_VI1 (pc := 1079) c_X7_even lk_L_133 ⟨(Nat.le_of_ble_eq_true rfl), (Nat.le_of_ble_eq_true rfl)⟩ ⟨rfl, rfl⟩ ⟨(Nat.le_of_ble_eq_true rfl), (Nat.le_of_ble_eq_true rfl)⟩ (k := 7) rfl (by decide) cl0 dL_law_1079 (Nat.le_of_ble_eq_true rfl) ?_
        refine ⟨c, q, n, tx, ep, km, mp, F, ux, sz, ho, sn, row, a1, rfl, hI, g1, fun z => absurd hc z, fun _ h2 f2 hI2 => ⟨fun z => absurd z hb, fun _ => ⟨fun _ => ?_, fun z => by omega, fun z => by omega⟩⟩⟩
        have hM2 : MI lay r h2 b n tx ep km mp F ux sz ho sn row := hM.of (rfl) (fun x x0 x1 => f2 x (by omega))
        obtain ⟨hMd2, ⟨e0, e5, e17, e19⟩, ⟨e1, e2, e12, e14, e15, e17r⟩, hWa2, hz2, hkp2, hes2⟩ := id hM2
        refine r_aload_2 (pc := 1082) dL_law_1082 ?_
        refine r_aload_0 (pc := 1083) dL_law_1083 ?_
        refine r_iload_3 (pc := 1084) dL_law_1084 ?_
        refine r_iconst (pc := 1085) dL_law_1085 ?_
        refine r_iadd (pc := 1086) dL_law_1086 ?_
        refine r_sld (pc := 1087) hX dL_law_1087 (by omega) (by omega) (fun i_1087 => ?_)
        rw [ha1]
        refine k_VI1 (pc := 1088) c_X8_even lk_L_136 ⟨(Nat.le_of_ble_eq_true rfl), (Nat.le_of_ble_eq_true rfl)⟩ ⟨rfl, rfl⟩ ⟨(Nat.le_of_ble_eq_true rfl), (Nat.le_of_ble_eq_true rfl)⟩ (k := 8) rfl (by decide) hMd2.1 dL_law_1088 (Nat.le_of_ble_eq_true rfl) ?_
        refine ⟨b, mp, a1, rfl, hMd2, e2, hT, hR, g1, hWa2, fun z => absurd hc z, fun _ h3 f3 => ⟨fun z => absurd (by rw [e12] at z; exact z) hb, fun _ => ⟨fun _ => ?_, fun z => by omega, fun z => by omega⟩⟩⟩
        refine r_same (pc := 1091) (tgt := 1462) (by first | rfl | (simp only [e0, e5, e17, e19, e1, e2, e12, e14, e15, e17r])) dL_law_1091 (by decide) ?_
        exact K r h3 ⟨q, n, tx, ep, km, mp, F, ux, sz, ho, sn, row, hI2.fr (fun x x0 x1 => f3 x (by omega)), hM2.s (fun j hj => by rw [f3 _ (by omega)]) (fun x x0 x1 hx => f3 x (by omega)), by omega⟩
      · refine r_aload_1 (pc := 1073) dL_law_1073 ?_
        refine r_aload_0 (pc := 1074) dL_law_1074 ?_
        refine r_iload_3 (pc := 1075) dL_law_1075 ?_
        refine r_iconst (pc := 1076) dL_law_1076 ?_
        refine r_iadd (pc := 1077) dL_law_1077 ?_
        refine r_sld (pc := 1078) hX dL_law_1078 (by omega) (by omega) (fun i_1078 => ?_)
        rw [ha1]
        refine k_VI1 (pc := 1079) c_X7_even lk_L_133 ⟨(Nat.le_of_ble_eq_true rfl), (Nat.le_of_ble_eq_true rfl)⟩ ⟨rfl, rfl⟩ ⟨(Nat.le_of_ble_eq_true rfl), (Nat.le_of_ble_eq_true rfl)⟩ (k := 7) rfl (by decide) cl0 dL_law_1079 (Nat.le_of_ble_eq_true rfl) ?_
        refine ⟨c, q, n, tx, ep, km, mp, F, ux, sz, ho, sn, row, a1, rfl, hI, g1, fun z => absurd hc z, fun _ h2 f2 hI2 => ⟨fun z => absurd z hb, fun _ => ⟨fun z => by omega, fun _ => ?_, fun z => by omega⟩⟩⟩
        have hM2 : MI lay r h2 b n tx ep km mp F ux sz ho sn row := hM.of (rfl) (fun x x0 x1 => f2 x (by omega))
        obtain ⟨hMd2, ⟨e0, e5, e17, e19⟩, ⟨e1, e2, e12, e14, e15, e17r⟩, hWa2, hz2, hkp2, hes2⟩ := id hM2
        refine r_aload_2 (pc := 1082) dL_law_1082 ?_
        refine r_aload_0 (pc := 1083) dL_law_1083 ?_
        refine r_iload_3 (pc := 1084) dL_law_1084 ?_
        refine r_iconst (pc := 1085) dL_law_1085 ?_
        refine r_iadd (pc := 1086) dL_law_1086 ?_
        refine r_sld (pc := 1087) hX dL_law_1087 (by omega) (by omega) (fun i_1087 => ?_)
        rw [ha1]
        refine k_VI1 (pc := 1088) c_X8_even lk_L_136 ⟨(Nat.le_of_ble_eq_true rfl), (Nat.le_of_ble_eq_true rfl)⟩ ⟨rfl, rfl⟩ ⟨(Nat.le_of_ble_eq_true rfl), (Nat.le_of_ble_eq_true rfl)⟩ (k := 8) rfl (by decide) hMd2.1 dL_law_1088 (Nat.le_of_ble_eq_true rfl) ?_
        refine ⟨b, mp, a1, rfl, hMd2, e2, hT, hR, g1, hWa2, fun z => absurd hc z, fun _ h3 f3 => ⟨fun z => absurd (by rw [e12] at z; exact z) hb, fun _ => ⟨fun z => by omega, fun _ => ?_, fun z => by omega⟩⟩⟩
        refine r_same (pc := 1091) (tgt := 1462) (by first | rfl | (simp only [e0, e5, e17, e19, e1, e2, e12, e14, e15, e17r])) dL_law_1091 (by decide) ?_
        exact K r h3 ⟨q, n, tx, ep, km, mp, F, ux, sz, ho, sn, row, hI2.fr (fun x x0 x1 => f3 x (by omega)), hM2.s (fun j hj => by rw [f3 _ (by omega)]) (fun x x0 x1 hx => f3 x (by omega)), by omega⟩
      · refine r_aload_1 (pc := 1073) dL_law_1073 ?_
        refine r_aload_0 (pc := 1074) dL_law_1074 ?_
        refine r_iload_3 (pc := 1075) dL_law_1075 ?_
        refine r_iconst (pc := 1076) dL_law_1076 ?_
        refine r_iadd (pc := 1077) dL_law_1077 ?_
        refine r_sld (pc := 1078) hX dL_law_1078 (by omega) (by omega) (fun i_1078 => ?_)
        rw [ha1]
        refine k_VI1 (pc := 1079) c_X7_even lk_L_133 ⟨(Nat.le_of_ble_eq_true rfl), (Nat.le_of_ble_eq_true rfl)⟩ ⟨rfl, rfl⟩ ⟨(Nat.le_of_ble_eq_true rfl), (Nat.le_of_ble_eq_true rfl)⟩ (k := 7) rfl (by decide) cl0 dL_law_1079 (Nat.le_of_ble_eq_true rfl) ?_
        refine ⟨c, q, n, tx, ep, km, mp, F, ux, sz, ho, sn, row, a1, rfl, hI, g1, fun z => absurd hc z, fun _ h2 f2 hI2 => ⟨fun z => absurd z hb, fun _ => ⟨fun z => by omega, fun z => by omega, fun _ => ?_⟩⟩⟩
        have hM2 : MI lay r h2 b n tx ep km mp F ux sz ho sn row := hM.of (rfl) (fun x x0 x1 => f2 x (by omega))
        obtain ⟨hMd2, ⟨e0, e5, e17, e19⟩, ⟨e1, e2, e12, e14, e15, e17r⟩, hWa2, hz2, hkp2, hes2⟩ := id hM2
        refine r_aload_2 (pc := 1082) dL_law_1082 ?_
        refine r_aload_0 (pc := 1083) dL_law_1083 ?_
        refine r_iload_3 (pc := 1084) dL_law_1084 ?_
        refine r_iconst (pc := 1085) dL_law_1085 ?_
        refine r_iadd (pc := 1086) dL_law_1086 ?_
        refine r_sld (pc := 1087) hX dL_law_1087 (by omega) (by omega) (fun i_1087 => ?_)
        rw [ha1]
        refine k_VI1 (pc := 1088) c_X8_even lk_L_136 ⟨(Nat.le_of_ble_eq_true rfl), (Nat.le_of_ble_eq_true rfl)⟩ ⟨rfl, rfl⟩ ⟨(Nat.le_of_ble_eq_true rfl), (Nat.le_of_ble_eq_true rfl)⟩ (k := 8) rfl (by decide) hMd2.1 dL_law_1088 (Nat.le_of_ble_eq_true rfl) ?_
        refine ⟨b, mp, a1, rfl, hMd2, e2, hT, hR, g1, hWa2, fun z => absurd hc z, fun _ h3 f3 => ⟨fun z => absurd (by rw [e12] at z; exact z) hb, fun _ => ⟨fun z => by omega, fun z => by omega, fun _ => ?_⟩⟩⟩
        refine r_same (pc := 1091) (tgt := 1462) (by first | rfl | (simp only [e0, e5, e17, e19, e1, e2, e12, e14, e15, e17r])) dL_law_1091 (by decide) ?_
        exact K r h3 ⟨q, n, tx, ep, km, mp, F, ux, sz, ho, sn, row, hI2.fr (fun x x0 x1 => f3 x (by omega)), hM2.s (fun j hj => by rw [f3 _ (by omega)]) (fun x x0 x1 hx => f3 x (by omega)), by omega⟩
  · refine r_aload_1 (pc := 1073) dL_law_1073 ?_
    refine r_aload_0 (pc := 1074) dL_law_1074 ?_
    refine r_iload_3 (pc := 1075) dL_law_1075 ?_
    refine r_iconst (pc := 1076) dL_law_1076 ?_
    refine r_iadd (pc := 1077) dL_law_1077 ?_
    refine r_sld (pc := 1078) hX dL_law_1078 (by omega) (by omega) (fun i_1078 => ?_)
    rw [ha1]
    refine k_VI1 (pc := 1079) c_X7_even lk_L_133 ⟨(Nat.le_of_ble_eq_true rfl), (Nat.le_of_ble_eq_true rfl)⟩ ⟨rfl, rfl⟩ ⟨(Nat.le_of_ble_eq_true rfl), (Nat.le_of_ble_eq_true rfl)⟩ (k := 7) rfl (by decide) cl0 dL_law_1079 (Nat.le_of_ble_eq_true rfl) ?_
    refine ⟨c, q, n, tx, ep, km, mp, F, ux, sz, ho, sn, row, a1, rfl, hI, g1, fun _ => ?_, fun z => absurd z hc⟩
    have hM2 := hM
    obtain ⟨hMd2, ⟨e0, e5, e17, e19⟩, ⟨e1, e2, e12, e14, e15, e17r⟩, hWa2, hz2, hkp2, hes2⟩ := id hM2
    refine r_aload_2 (pc := 1082) dL_law_1082 ?_
    refine r_aload_0 (pc := 1083) dL_law_1083 ?_
    refine r_iload_3 (pc := 1084) dL_law_1084 ?_
    refine r_iconst (pc := 1085) dL_law_1085 ?_
    refine r_iadd (pc := 1086) dL_law_1086 ?_
    refine r_sld (pc := 1087) hX dL_law_1087 (by omega) (by omega) (fun i_1087 => ?_)
    rw [ha1]
    refine k_VI1 (pc := 1088) c_X8_even lk_L_136 ⟨(Nat.le_of_ble_eq_true rfl), (Nat.le_of_ble_eq_true rfl)⟩ ⟨rfl, rfl⟩ ⟨(Nat.le_of_ble_eq_true rfl), (Nat.le_of_ble_eq_true rfl)⟩ (k := 8) rfl (by decide) hMd2.1 dL_law_1088 (Nat.le_of_ble_eq_true rfl) ?_
    refine ⟨b, mp, a1, rfl, hMd2, e2, hT, hR, g1, hWa2, fun _ => ?_, fun z => absurd z hc⟩
    refine r_same (pc := 1091) (tgt := 1462) (by first | rfl | (simp only [e0, e5, e17, e19, e1, e2, e12, e14, e15, e17r])) dL_law_1091 (by decide) ?_
    exact K r h ⟨q, n, tx, ep, km, mp, F, ux, sz, ho, sn, row, hI, hM2, by omega⟩
theorem dL_law_1406 : decode code 1406 = .ok (.aload_n 1, 1) := by decide +kernel
theorem dL_law_1407 : decode code 1407 = .ok (.aload_n 0, 1) := by decide +kernel
theorem dL_law_1408 : decode code 1408 = .ok (.iload_n 3, 1) := by decide +kernel
theorem dL_law_1409 : decode code 1409 = .ok (.iconst 1, 1) := by decide +kernel
theorem dL_law_1410 : decode code 1410 = .ok (.iadd, 1) := by decide +kernel
theorem dL_law_1411 : decode code 1411 = .ok (.iaload, 1) := by decide +kernel
theorem dL_law_1412 : decode code 1412 = .ok (.aload_n 0, 1) := by decide +kernel
theorem dL_law_1413 : decode code 1413 = .ok (.iload_n 3, 1) := by decide +kernel
theorem dL_law_1414 : decode code 1414 = .ok (.iconst 2, 1) := by decide +kernel
theorem dL_law_1415 : decode code 1415 = .ok (.iadd, 1) := by decide +kernel
theorem dL_law_1416 : decode code 1416 = .ok (.iaload, 1) := by decide +kernel
theorem dL_law_1417 : decode code 1417 = .ok (.invokevirtual 177, 3) := by decide +kernel
theorem dL_law_1420 : decode code 1420 = .ok (.aload_n 2, 1) := by decide +kernel
theorem dL_law_1421 : decode code 1421 = .ok (.aload_n 0, 1) := by decide +kernel
theorem dL_law_1422 : decode code 1422 = .ok (.iload_n 3, 1) := by decide +kernel
theorem dL_law_1423 : decode code 1423 = .ok (.iconst 1, 1) := by decide +kernel
theorem dL_law_1424 : decode code 1424 = .ok (.iadd, 1) := by decide +kernel
theorem dL_law_1425 : decode code 1425 = .ok (.iaload, 1) := by decide +kernel
theorem dL_law_1426 : decode code 1426 = .ok (.aload_n 0, 1) := by decide +kernel
theorem dL_law_1427 : decode code 1427 = .ok (.iload_n 3, 1) := by decide +kernel
theorem dL_law_1428 : decode code 1428 = .ok (.iconst 2, 1) := by decide +kernel
theorem dL_law_1429 : decode code 1429 = .ok (.iadd, 1) := by decide +kernel
theorem dL_law_1430 : decode code 1430 = .ok (.iaload, 1) := by decide +kernel
theorem dL_law_1431 : decode code 1431 = .ok (.invokevirtual 180, 3) := by decide +kernel
theorem dL_law_1434 : decode code 1434 = .ok (.if_icmp .eq 28, 3) := by decide +kernel
set_option maxHeartbeats 4000000 in
set_option maxRecDepth 20000 in
theorem law_weights {E : EnT} {lay : LyT} {r : RfT} {h : HpT} {c b b0 L N : Nat} {sx : Int → Int} {i : Int} (hX : ScE E b0 L sx) (hi : 0 ≤ i ∧ i + 4 ≤ L) (hL : L ≤ 2048) (hcb : b = c + 101) (hLI : LI lay c b i r h) (K : ∀ r' h', LI lay c b (i + 4) r' h' → St E mL_law 1462 [some (.ref b0), some (.ref c), some (.ref b), some (vI i)] [] (122, 20801) N lay r' h') : St E mL_law 1406 [some (.ref b0), some (.ref c), some (.ref b), some (vI i)] [] (122, 20801) N lay r h := by
  obtain ⟨q, n, tx, ep, km, mp, F, ux, sz, ho, sn, row, hI, hM, hle⟩ := hLI
  have hP0 := hI.2.2.2.2.2.1 0 (by omega) (by omega) (by have := hI.2.2.2.2.1.2.1; omega)
  rw [hI.2.2.2.2.2.2.1.1] at hP0
  have hT := hP0.1
  have hR := hP0.2.1
  have hep := hI.2.2.2.2.1
  have cl0 : lay c = (8, 0) := hI.1.1
  obtain ⟨a1, ha1⟩ : ∃ z, sx (i + 1) = z := ⟨_, rfl⟩
  have g1 := sc_rng hX (i + 1)
  rw [ha1] at g1
  obtain ⟨a2, ha2⟩ : ∃ z, sx (i + 2) = z := ⟨_, rfl⟩
  have g2 := sc_rng hX (i + 2)
  rw [ha2] at g2
  by_cases hc : (10 ≤ a1 ∧ a1 ≤ 9 + mp 130) ∧ (0 ≤ a2 ∧ a2 ≤ 2)
  · rcases (show a2 = 0 ∨ a2 = 1 ∨ a2 = 2 by omega) with hv | hv | hv
    · refine r_aload_1 (pc := 1406) dL_law_1406 ?_
      refine r_aload_0 (pc := 1407) dL_law_1407 ?_
      refine r_iload_3 (pc := 1408) dL_law_1408 ?_
      refine r_iconst (pc := 1409) dL_law_1409 ?_
      refine r_iadd (pc := 1410) dL_law_1410 ?_
      refine r_sld (pc := 1411) hX dL_law_1411 (by omega) (by omega) (fun i_1411 => ?_)
      rw [ha1]
      refine r_aload_0 (pc := 1412) dL_law_1412 ?_
      refine r_iload_3 (pc := 1413) dL_law_1413 ?_
      refine r_iconst (pc := 1414) dL_law_1414 ?_
      refine r_iadd (pc := 1415) dL_law_1415 ?_
      refine r_sld (pc := 1416) hX dL_law_1416 (by omega) (by omega) (fun i_1416 => ?_)
      rw [ha2]
      refine k_VI2 (pc := 1417) c_X7_weights lk_L_177 ⟨(Nat.le_of_ble_eq_true rfl), (Nat.le_of_ble_eq_true rfl)⟩ ⟨rfl, rfl⟩ ⟨(Nat.le_of_ble_eq_true rfl), (Nat.le_of_ble_eq_true rfl)⟩ (k := 7) rfl (by decide) cl0 dL_law_1417 (Nat.le_of_ble_eq_true rfl) ?_
      refine ⟨c, q, n, tx, ep, km, mp, F, ux, sz, ho, sn, row, a1, a2, rfl, hI, g1, g2, fun z => absurd hc z, fun _ h2 f2 hI2 => ⟨fun _ => ?_, fun z => by omega, fun z => by omega⟩⟩
      have hM2 : MI lay r h2 b n tx ep km mp F ux sz ho sn row := hM.of (rfl) (fun x x0 x1 => f2 x (by omega))
      obtain ⟨hMd2, ⟨e0, e5, e17, e19⟩, ⟨e1, e2, e12, e14, e15, e17r⟩, hWa2, hz2, hkp2, hes2⟩ := id hM2
      refine r_aload_2 (pc := 1420) dL_law_1420 ?_
      refine r_aload_0 (pc := 1421) dL_law_1421 ?_
      refine r_iload_3 (pc := 1422) dL_law_1422 ?_
      refine r_iconst (pc := 1423) dL_law_1423 ?_
      refine r_iadd (pc := 1424) dL_law_1424 ?_
      refine r_sld (pc := 1425) hX dL_law_1425 (by omega) (by omega) (fun i_1425 => ?_)
      rw [ha1]
      refine r_aload_0 (pc := 1426) dL_law_1426 ?_
      refine r_iload_3 (pc := 1427) dL_law_1427 ?_
      refine r_iconst (pc := 1428) dL_law_1428 ?_
      refine r_iadd (pc := 1429) dL_law_1429 ?_
      refine r_sld (pc := 1430) hX dL_law_1430 (by omega) (by omega) (fun i_1430 => ?_)
      rw [ha2]
      refine k_VI2 (pc := 1431) c_X8_weights lk_L_180 ⟨(Nat.le_of_ble_eq_true rfl), (Nat.le_of_ble_eq_true rfl)⟩ ⟨rfl, rfl⟩ ⟨(Nat.le_of_ble_eq_true rfl), (Nat.le_of_ble_eq_true rfl)⟩ (k := 8) rfl (by decide) hMd2.1 dL_law_1431 (Nat.le_of_ble_eq_true rfl) ?_
      refine ⟨b, mp, a1, a2, rfl, hMd2, e2, hT, hR, g1, g2, hWa2, (by rw [e19, e17r]; exact hI.2.2.2.2.2.2.2.2.2.2), fun z => absurd hc z, fun _ h3 f3 => ⟨fun _ => ?_, fun z => by omega, fun z => by omega⟩⟩
      refine r_same (pc := 1434) (tgt := 1462) (by first | rfl | (simp only [e0, e5, e17, e19, e1, e2, e12, e14, e15, e17r])) dL_law_1434 (by decide) ?_
      exact K r h3 ⟨q, n, tx, ep, km, mp, F, ux, sz, ho, sn, row, hI2.fr (fun x x0 x1 => f3 x (by omega)), hM2.s (fun j hj => by rw [f3 _ (by omega)]) (fun x x0 x1 hx => f3 x (by omega)), by omega⟩
    · refine r_aload_1 (pc := 1406) dL_law_1406 ?_
      refine r_aload_0 (pc := 1407) dL_law_1407 ?_
      refine r_iload_3 (pc := 1408) dL_law_1408 ?_
      refine r_iconst (pc := 1409) dL_law_1409 ?_
      refine r_iadd (pc := 1410) dL_law_1410 ?_
      refine r_sld (pc := 1411) hX dL_law_1411 (by omega) (by omega) (fun i_1411 => ?_)
      rw [ha1]
      refine r_aload_0 (pc := 1412) dL_law_1412 ?_
      refine r_iload_3 (pc := 1413) dL_law_1413 ?_
      refine r_iconst (pc := 1414) dL_law_1414 ?_
      refine r_iadd (pc := 1415) dL_law_1415 ?_
      refine r_sld (pc := 1416) hX dL_law_1416 (by omega) (by omega) (fun i_1416 => ?_)
      rw [ha2]
      refine k_VI2 (pc := 1417) c_X7_weights lk_L_177 ⟨(Nat.le_of_ble_eq_true rfl), (Nat.le_of_ble_eq_true rfl)⟩ ⟨rfl, rfl⟩ ⟨(Nat.le_of_ble_eq_true rfl), (Nat.le_of_ble_eq_true rfl)⟩ (k := 7) rfl (by decide) cl0 dL_law_1417 (Nat.le_of_ble_eq_true rfl) ?_
      refine ⟨c, q, n, tx, ep, km, mp, F, ux, sz, ho, sn, row, a1, a2, rfl, hI, g1, g2, fun z => absurd hc z, fun _ h2 f2 hI2 => ⟨fun z => by omega, fun _ => ?_, fun z => by omega⟩⟩
      have hM2 : MI lay r h2 b n tx ep km mp F ux sz ho sn row := hM.of (rfl) (fun x x0 x1 => f2 x (by omega))
      obtain ⟨hMd2, ⟨e0, e5, e17, e19⟩, ⟨e1, e2, e12, e14, e15, e17r⟩, hWa2, hz2, hkp2, hes2⟩ := id hM2
      refine r_aload_2 (pc := 1420) dL_law_1420 ?_
      refine r_aload_0 (pc := 1421) dL_law_1421 ?_
      refine r_iload_3 (pc := 1422) dL_law_1422 ?_
      refine r_iconst (pc := 1423) dL_law_1423 ?_
      refine r_iadd (pc := 1424) dL_law_1424 ?_
      refine r_sld (pc := 1425) hX dL_law_1425 (by omega) (by omega) (fun i_1425 => ?_)
      rw [ha1]
      refine r_aload_0 (pc := 1426) dL_law_1426 ?_
      refine r_iload_3 (pc := 1427) dL_law_1427 ?_
      refine r_iconst (pc := 1428) dL_law_1428 ?_
      refine r_iadd (pc := 1429) dL_law_1429 ?_
      refine r_sld (pc := 1430) hX dL_law_1430 (by omega) (by omega) (fun i_1430 => ?_)
      rw [ha2]
      refine k_VI2 (pc := 1431) c_X8_weights lk_L_180 ⟨(Nat.le_of_ble_eq_true rfl), (Nat.le_of_ble_eq_true rfl)⟩ ⟨rfl, rfl⟩ ⟨(Nat.le_of_ble_eq_true rfl), (Nat.le_of_ble_eq_true rfl)⟩ (k := 8) rfl (by decide) hMd2.1 dL_law_1431 (Nat.le_of_ble_eq_true rfl) ?_
      refine ⟨b, mp, a1, a2, rfl, hMd2, e2, hT, hR, g1, g2, hWa2, (by rw [e19, e17r]; exact hI.2.2.2.2.2.2.2.2.2.2), fun z => absurd hc z, fun _ h3 f3 => ⟨fun z => by omega, fun _ => ?_, fun z => by omega⟩⟩
      refine r_same (pc := 1434) (tgt := 1462) (by first | rfl | (simp only [e0, e5, e17, e19, e1, e2, e12, e14, e15, e17r])) dL_law_1434 (by decide) ?_
      exact K r h3 ⟨q, n, tx, ep, km, mp, F, ux, sz, ho, sn, row, hI2.fr (fun x x0 x1 => f3 x (by omega)), hM2.s (fun j hj => by rw [f3 _ (by omega)]) (fun x x0 x1 hx => f3 x (by omega)), by omega⟩
    · refine r_aload_1 (pc := 1406) dL_law_1406 ?_
      refine r_aload_0 (pc := 1407) dL_law_1407 ?_
      refine r_iload_3 (pc := 1408) dL_law_1408 ?_
      refine r_iconst (pc := 1409) dL_law_1409 ?_
      refine r_iadd (pc := 1410) dL_law_1410 ?_
      refine r_sld (pc := 1411) hX dL_law_1411 (by omega) (by omega) (fun i_1411 => ?_)
      rw [ha1]
      refine r_aload_0 (pc := 1412) dL_law_1412 ?_
      refine r_iload_3 (pc := 1413) dL_law_1413 ?_
      refine r_iconst (pc := 1414) dL_law_1414 ?_
      refine r_iadd (pc := 1415) dL_law_1415 ?_
      refine r_sld (pc := 1416) hX dL_law_1416 (by omega) (by omega) (fun i_1416 => ?_)
      rw [ha2]
      refine k_VI2 (pc := 1417) c_X7_weights lk_L_177 ⟨(Nat.le_of_ble_eq_true rfl), (Nat.le_of_ble_eq_true rfl)⟩ ⟨rfl, rfl⟩ ⟨(Nat.le_of_ble_eq_true rfl), (Nat.le_of_ble_eq_true rfl)⟩ (k := 7) rfl (by decide) cl0 dL_law_1417 (Nat.le_of_ble_eq_true rfl) ?_
      refine ⟨c, q, n, tx, ep, km, mp, F, ux, sz, ho, sn, row, a1, a2, rfl, hI, g1, g2, fun z => absurd hc z, fun _ h2 f2 hI2 => ⟨fun z => by omega, fun z => by omega, fun _ => ?_⟩⟩
      have hM2 : MI lay r h2 b n tx ep km mp F ux sz ho sn row := hM.of (rfl) (fun x x0 x1 => f2 x (by omega))
      obtain ⟨hMd2, ⟨e0, e5, e17, e19⟩, ⟨e1, e2, e12, e14, e15, e17r⟩, hWa2, hz2, hkp2, hes2⟩ := id hM2
      refine r_aload_2 (pc := 1420) dL_law_1420 ?_
      refine r_aload_0 (pc := 1421) dL_law_1421 ?_
      refine r_iload_3 (pc := 1422) dL_law_1422 ?_
      refine r_iconst (pc := 1423) dL_law_1423 ?_
      refine r_iadd (pc := 1424) dL_law_1424 ?_
      refine r_sld (pc := 1425) hX dL_law_1425 (by omega) (by omega) (fun i_1425 => ?_)
      rw [ha1]
      refine r_aload_0 (pc := 1426) dL_law_1426 ?_
      refine r_iload_3 (pc := 1427) dL_law_1427 ?_
      refine r_iconst (pc := 1428) dL_law_1428 ?_
      refine r_iadd (pc := 1429) dL_law_1429 ?_
      refine r_sld (pc := 1430) hX dL_law_1430 (by omega) (by omega) (fun i_1430 => ?_)
      rw [ha2]
      refine k_VI2 (pc := 1431) c_X8_weights lk_L_180 ⟨(Nat.le_of_ble_eq_true rfl), (Nat.le_of_ble_eq_true rfl)⟩ ⟨rfl, rfl⟩ ⟨(Nat.le_of_ble_eq_true rfl), (Nat.le_of_ble_eq_true rfl)⟩ (k := 8) rfl (by decide) hMd2.1 dL_law_1431 (Nat.le_of_ble_eq_true rfl) ?_
      refine ⟨b, mp, a1, a2, rfl, hMd2, e2, hT, hR, g1, g2, hWa2, (by rw [e19, e17r]; exact hI.2.2.2.2.2.2.2.2.2.2), fun z => absurd hc z, fun _ h3 f3 => ⟨fun z => by omega, fun z => by omega, fun _ => ?_⟩⟩
      refine r_same (pc := 1434) (tgt := 1462) (by first | rfl | (simp only [e0, e5, e17, e19, e1, e2, e12, e14, e15, e17r])) dL_law_1434 (by decide) ?_
      exact K r h3 ⟨q, n, tx, ep, km, mp, F, ux, sz, ho, sn, row, hI2.fr (fun x x0 x1 => f3 x (by omega)), hM2.s (fun j hj => by rw [f3 _ (by omega)]) (fun x x0 x1 hx => f3 x (by omega)), by omega⟩
  · refine r_aload_1 (pc := 1406) dL_law_1406 ?_
    refine r_aload_0 (pc := 1407) dL_law_1407 ?_
    refine r_iload_3 (pc := 1408) dL_law_1408 ?_
    refine r_iconst (pc := 1409) dL_law_1409 ?_
    refine r_iadd (pc := 1410) dL_law_1410 ?_
    refine r_sld (pc := 1411) hX dL_law_1411 (by omega) (by omega) (fun i_1411 => ?_)
    rw [ha1]
    refine r_aload_0 (pc := 1412) dL_law_1412 ?_
    refine r_iload_3 (pc := 1413) dL_law_1413 ?_
    refine r_iconst (pc := 1414) dL_law_1414 ?_
    refine r_iadd (pc := 1415) dL_law_1415 ?_
    refine r_sld (pc := 1416) hX dL_law_1416 (by omega) (by omega) (fun i_1416 => ?_)
    rw [ha2]
    refine k_VI2 (pc := 1417) c_X7_weights lk_L_177 ⟨(Nat.le_of_ble_eq_true rfl), (Nat.le_of_ble_eq_true rfl)⟩ ⟨rfl, rfl⟩ ⟨(Nat.le_of_ble_eq_true rfl), (Nat.le_of_ble_eq_true rfl)⟩ (k := 7) rfl (by decide) cl0 dL_law_1417 (Nat.le_of_ble_eq_true rfl) ?_
    refine ⟨c, q, n, tx, ep, km, mp, F, ux, sz, ho, sn, row, a1, a2, rfl, hI, g1, g2, fun _ => ?_, fun z => absurd z hc⟩
    have hM2 := hM
    obtain ⟨hMd2, ⟨e0, e5, e17, e19⟩, ⟨e1, e2, e12, e14, e15, e17r⟩, hWa2, hz2, hkp2, hes2⟩ := id hM2
    refine r_aload_2 (pc := 1420) dL_law_1420 ?_
    refine r_aload_0 (pc := 1421) dL_law_1421 ?_
    refine r_iload_3 (pc := 1422) dL_law_1422 ?_
    refine r_iconst (pc := 1423) dL_law_1423 ?_
    refine r_iadd (pc := 1424) dL_law_1424 ?_
    refine r_sld (pc := 1425) hX dL_law_1425 (by omega) (by omega) (fun i_1425 => ?_)
    rw [ha1]
    refine r_aload_0 (pc := 1426) dL_law_1426 ?_
    refine r_iload_3 (pc := 1427) dL_law_1427 ?_
    refine r_iconst (pc := 1428) dL_law_1428 ?_
    refine r_iadd (pc := 1429) dL_law_1429 ?_
    refine r_sld (pc := 1430) hX dL_law_1430 (by omega) (by omega) (fun i_1430 => ?_)
    rw [ha2]
    refine k_VI2 (pc := 1431) c_X8_weights lk_L_180 ⟨(Nat.le_of_ble_eq_true rfl), (Nat.le_of_ble_eq_true rfl)⟩ ⟨rfl, rfl⟩ ⟨(Nat.le_of_ble_eq_true rfl), (Nat.le_of_ble_eq_true rfl)⟩ (k := 8) rfl (by decide) hMd2.1 dL_law_1431 (Nat.le_of_ble_eq_true rfl) ?_
    refine ⟨b, mp, a1, a2, rfl, hMd2, e2, hT, hR, g1, g2, hWa2, (by rw [e19, e17r]; exact hI.2.2.2.2.2.2.2.2.2.2), fun _ => ?_, fun z => absurd z hc⟩
    refine r_same (pc := 1434) (tgt := 1462) (by first | rfl | (simp only [e0, e5, e17, e19, e1, e2, e12, e14, e15, e17r])) dL_law_1434 (by decide) ?_
    exact K r h ⟨q, n, tx, ep, km, mp, F, ux, sz, ho, sn, row, hI, hM2, by omega⟩
theorem dL_law_1307 : decode code 1307 = .ok (.aload_n 1, 1) := by decide +kernel
theorem dL_law_1308 : decode code 1308 = .ok (.aload_n 0, 1) := by decide +kernel
theorem dL_law_1309 : decode code 1309 = .ok (.iload_n 3, 1) := by decide +kernel
theorem dL_law_1310 : decode code 1310 = .ok (.iconst 1, 1) := by decide +kernel
theorem dL_law_1311 : decode code 1311 = .ok (.iadd, 1) := by decide +kernel
theorem dL_law_1312 : decode code 1312 = .ok (.iaload, 1) := by decide +kernel
theorem dL_law_1313 : decode code 1313 = .ok (.aload_n 0, 1) := by decide +kernel
theorem dL_law_1314 : decode code 1314 = .ok (.iload_n 3, 1) := by decide +kernel
theorem dL_law_1315 : decode code 1315 = .ok (.iconst 2, 1) := by decide +kernel
theorem dL_law_1316 : decode code 1316 = .ok (.iadd, 1) := by decide +kernel
theorem dL_law_1317 : decode code 1317 = .ok (.iaload, 1) := by decide +kernel
theorem dL_law_1318 : decode code 1318 = .ok (.aload_n 0, 1) := by decide +kernel
theorem dL_law_1319 : decode code 1319 = .ok (.iload_n 3, 1) := by decide +kernel
theorem dL_law_1320 : decode code 1320 = .ok (.iconst 3, 1) := by decide +kernel
theorem dL_law_1321 : decode code 1321 = .ok (.iadd, 1) := by decide +kernel
theorem dL_law_1322 : decode code 1322 = .ok (.iaload, 1) := by decide +kernel
theorem dL_law_1323 : decode code 1323 = .ok (.invokevirtual 165, 3) := by decide +kernel
theorem dL_law_1326 : decode code 1326 = .ok (.aload_n 2, 1) := by decide +kernel
theorem dL_law_1327 : decode code 1327 = .ok (.aload_n 0, 1) := by decide +kernel
theorem dL_law_1328 : decode code 1328 = .ok (.iload_n 3, 1) := by decide +kernel
theorem dL_law_1329 : decode code 1329 = .ok (.iconst 1, 1) := by decide +kernel
theorem dL_law_1330 : decode code 1330 = .ok (.iadd, 1) := by decide +kernel
theorem dL_law_1331 : decode code 1331 = .ok (.iaload, 1) := by decide +kernel
theorem dL_law_1332 : decode code 1332 = .ok (.aload_n 0, 1) := by decide +kernel
theorem dL_law_1333 : decode code 1333 = .ok (.iload_n 3, 1) := by decide +kernel
theorem dL_law_1334 : decode code 1334 = .ok (.iconst 2, 1) := by decide +kernel
theorem dL_law_1335 : decode code 1335 = .ok (.iadd, 1) := by decide +kernel
theorem dL_law_1336 : decode code 1336 = .ok (.iaload, 1) := by decide +kernel
theorem dL_law_1337 : decode code 1337 = .ok (.aload_n 0, 1) := by decide +kernel
theorem dL_law_1338 : decode code 1338 = .ok (.iload_n 3, 1) := by decide +kernel
theorem dL_law_1339 : decode code 1339 = .ok (.iconst 3, 1) := by decide +kernel
theorem dL_law_1340 : decode code 1340 = .ok (.iadd, 1) := by decide +kernel
theorem dL_law_1341 : decode code 1341 = .ok (.iaload, 1) := by decide +kernel
theorem dL_law_1342 : decode code 1342 = .ok (.invokevirtual 168, 3) := by decide +kernel
theorem dL_law_1345 : decode code 1345 = .ok (.if_icmp .eq 117, 3) := by decide +kernel
set_option maxHeartbeats 4000000 in
set_option maxRecDepth 20000 in
theorem law_storm {E : EnT} {lay : LyT} {r : RfT} {h : HpT} {c b b0 L N : Nat} {sx : Int → Int} {i : Int} (hX : ScE E b0 L sx) (hi : 0 ≤ i ∧ i + 4 ≤ L) (hL : L ≤ 2048) (hcb : b = c + 101) (hLI : LI lay c b i r h) (K : ∀ r' h', LI lay c b (i + 4) r' h' → St E mL_law 1462 [some (.ref b0), some (.ref c), some (.ref b), some (vI i)] [] (122, 20801) N lay r' h') : St E mL_law 1307 [some (.ref b0), some (.ref c), some (.ref b), some (vI i)] [] (122, 20801) N lay r h := by
  obtain ⟨q, n, tx, ep, km, mp, F, ux, sz, ho, sn, row, hI, hM, hle⟩ := hLI
  have hP0 := hI.2.2.2.2.2.1 0 (by omega) (by omega) (by have := hI.2.2.2.2.1.2.1; omega)
  rw [hI.2.2.2.2.2.2.1.1] at hP0
  have hT := hP0.1
  have hR := hP0.2.1
  have hep := hI.2.2.2.2.1
  have cl0 : lay c = (8, 0) := hI.1.1
  obtain ⟨a1, ha1⟩ : ∃ z, sx (i + 1) = z := ⟨_, rfl⟩
  have g1 := sc_rng hX (i + 1)
  rw [ha1] at g1
  obtain ⟨a2, ha2⟩ : ∃ z, sx (i + 2) = z := ⟨_, rfl⟩
  have g2 := sc_rng hX (i + 2)
  rw [ha2] at g2
  obtain ⟨a3, ha3⟩ : ∃ z, sx (i + 3) = z := ⟨_, rfl⟩
  have g3 := sc_rng hX (i + 3)
  rw [ha3] at g3
  by_cases hc : (0 ≤ a1 ∧ a1 ≤ 9999) ∧ (1 ≤ a2 ∧ a2 ≤ 30) ∧ (0 ≤ a3 ∧ a3 ≤ 2)
  · rcases (show a3 = 0 ∨ a3 = 1 ∨ a3 = 2 by omega) with hv | hv | hv
    · refine r_aload_1 (pc := 1307) dL_law_1307 ?_
      refine r_aload_0 (pc := 1308) dL_law_1308 ?_
      refine r_iload_3 (pc := 1309) dL_law_1309 ?_
      refine r_iconst (pc := 1310) dL_law_1310 ?_
      refine r_iadd (pc := 1311) dL_law_1311 ?_
      refine r_sld (pc := 1312) hX dL_law_1312 (by omega) (by omega) (fun i_1312 => ?_)
      rw [ha1]
      refine r_aload_0 (pc := 1313) dL_law_1313 ?_
      refine r_iload_3 (pc := 1314) dL_law_1314 ?_
      refine r_iconst (pc := 1315) dL_law_1315 ?_
      refine r_iadd (pc := 1316) dL_law_1316 ?_
      refine r_sld (pc := 1317) hX dL_law_1317 (by omega) (by omega) (fun i_1317 => ?_)
      rw [ha2]
      refine r_aload_0 (pc := 1318) dL_law_1318 ?_
      refine r_iload_3 (pc := 1319) dL_law_1319 ?_
      refine r_iconst (pc := 1320) dL_law_1320 ?_
      refine r_iadd (pc := 1321) dL_law_1321 ?_
      refine r_sld (pc := 1322) hX dL_law_1322 (by omega) (by omega) (fun i_1322 => ?_)
      rw [ha3]
      refine k_VI3 (pc := 1323) c_X7_storm lk_L_165 ⟨(Nat.le_of_ble_eq_true rfl), (Nat.le_of_ble_eq_true rfl)⟩ ⟨rfl, rfl⟩ ⟨(Nat.le_of_ble_eq_true rfl), (Nat.le_of_ble_eq_true rfl)⟩ (k := 7) rfl (by decide) cl0 dL_law_1323 (Nat.le_of_ble_eq_true rfl) ?_
      refine ⟨c, q, n, tx, ep, km, mp, F, ux, sz, ho, sn, row, a1, a2, a3, rfl, hI, g1, g2, g3, fun z => absurd hc z, fun _ h2 f2 hI2 => ⟨fun _ => ?_, fun z => by omega, fun z => by omega⟩⟩
      have hM2 : MI lay r h2 b n tx ep km mp F ux sz ho sn row := hM.of (rfl) (fun x x0 x1 => f2 x (by omega))
      obtain ⟨hMd2, ⟨e0, e5, e17, e19⟩, ⟨e1, e2, e12, e14, e15, e17r⟩, hWa2, hz2, hkp2, hes2⟩ := id hM2
      refine r_aload_2 (pc := 1326) dL_law_1326 ?_
      refine r_aload_0 (pc := 1327) dL_law_1327 ?_
      refine r_iload_3 (pc := 1328) dL_law_1328 ?_
      refine r_iconst (pc := 1329) dL_law_1329 ?_
      refine r_iadd (pc := 1330) dL_law_1330 ?_
      refine r_sld (pc := 1331) hX dL_law_1331 (by omega) (by omega) (fun i_1331 => ?_)
      rw [ha1]
      refine r_aload_0 (pc := 1332) dL_law_1332 ?_
      refine r_iload_3 (pc := 1333) dL_law_1333 ?_
      refine r_iconst (pc := 1334) dL_law_1334 ?_
      refine r_iadd (pc := 1335) dL_law_1335 ?_
      refine r_sld (pc := 1336) hX dL_law_1336 (by omega) (by omega) (fun i_1336 => ?_)
      rw [ha2]
      refine r_aload_0 (pc := 1337) dL_law_1337 ?_
      refine r_iload_3 (pc := 1338) dL_law_1338 ?_
      refine r_iconst (pc := 1339) dL_law_1339 ?_
      refine r_iadd (pc := 1340) dL_law_1340 ?_
      refine r_sld (pc := 1341) hX dL_law_1341 (by omega) (by omega) (fun i_1341 => ?_)
      rw [ha3]
      refine k_VI3 (pc := 1342) c_X8_storm lk_L_168 ⟨(Nat.le_of_ble_eq_true rfl), (Nat.le_of_ble_eq_true rfl)⟩ ⟨rfl, rfl⟩ ⟨(Nat.le_of_ble_eq_true rfl), (Nat.le_of_ble_eq_true rfl)⟩ (k := 8) rfl (by decide) hMd2.1 dL_law_1342 (Nat.le_of_ble_eq_true rfl) ?_
      refine ⟨b, mp, a1, a2, a3, rfl, hMd2, e2, hT, hR, g1, g2, g3, hI.2.2.2.2.2.2.1.2, fun z => absurd hc z, fun _ h3 f3 => ⟨fun _ => ?_, fun z => by omega, fun z => by omega⟩⟩
      refine r_same (pc := 1345) (tgt := 1462) (by first | rfl | (simp only [e0, e5, e17, e19, e1, e2, e12, e14, e15, e17r])) dL_law_1345 (by decide) ?_
      exact K r h3 ⟨q, n, tx, ep, km, mp, F, ux, sz, ho, sn, row, hI2.fr (fun x x0 x1 => f3 x (by omega)), hM2.s (fun j hj => by rw [f3 _ (by omega)]) (fun x x0 x1 hx => f3 x (by omega)), by omega⟩
    · refine r_aload_1 (pc := 1307) dL_law_1307 ?_
      refine r_aload_0 (pc := 1308) dL_law_1308 ?_
      refine r_iload_3 (pc := 1309) dL_law_1309 ?_
      refine r_iconst (pc := 1310) dL_law_1310 ?_
      refine r_iadd (pc := 1311) dL_law_1311 ?_
      refine r_sld (pc := 1312) hX dL_law_1312 (by omega) (by omega) (fun i_1312 => ?_)
      rw [ha1]
      refine r_aload_0 (pc := 1313) dL_law_1313 ?_
      refine r_iload_3 (pc := 1314) dL_law_1314 ?_
      refine r_iconst (pc := 1315) dL_law_1315 ?_
      refine r_iadd (pc := 1316) dL_law_1316 ?_
      refine r_sld (pc := 1317) hX dL_law_1317 (by omega) (by omega) (fun i_1317 => ?_)
      rw [ha2]
      refine r_aload_0 (pc := 1318) dL_law_1318 ?_
      refine r_iload_3 (pc := 1319) dL_law_1319 ?_
      refine r_iconst (pc := 1320) dL_law_1320 ?_
      refine r_iadd (pc := 1321) dL_law_1321 ?_
      refine r_sld (pc := 1322) hX dL_law_1322 (by omega) (by omega) (fun i_1322 => ?_)
      rw [ha3]
      refine k_VI3 (pc := 1323) c_X7_storm lk_L_165 ⟨(Nat.le_of_ble_eq_true rfl), (Nat.le_of_ble_eq_true rfl)⟩ ⟨rfl, rfl⟩ ⟨(Nat.le_of_ble_eq_true rfl), (Nat.le_of_ble_eq_true rfl)⟩ (k := 7) rfl (by decide) cl0 dL_law_1323 (Nat.le_of_ble_eq_true rfl) ?_
      refine ⟨c, q, n, tx, ep, km, mp, F, ux, sz, ho, sn, row, a1, a2, a3, rfl, hI, g1, g2, g3, fun z => absurd hc z, fun _ h2 f2 hI2 => ⟨fun z => by omega, fun _ => ?_, fun z => by omega⟩⟩
      have hM2 : MI lay r h2 b n tx ep km mp F ux sz ho sn row := hM.of (rfl) (fun x x0 x1 => f2 x (by omega))
      obtain ⟨hMd2, ⟨e0, e5, e17, e19⟩, ⟨e1, e2, e12, e14, e15, e17r⟩, hWa2, hz2, hkp2, hes2⟩ := id hM2
      refine r_aload_2 (pc := 1326) dL_law_1326 ?_
      refine r_aload_0 (pc := 1327) dL_law_1327 ?_
      refine r_iload_3 (pc := 1328) dL_law_1328 ?_
      refine r_iconst (pc := 1329) dL_law_1329 ?_
      refine r_iadd (pc := 1330) dL_law_1330 ?_
      refine r_sld (pc := 1331) hX dL_law_1331 (by omega) (by omega) (fun i_1331 => ?_)
      rw [ha1]
      refine r_aload_0 (pc := 1332) dL_law_1332 ?_
      refine r_iload_3 (pc := 1333) dL_law_1333 ?_
      refine r_iconst (pc := 1334) dL_law_1334 ?_
      refine r_iadd (pc := 1335) dL_law_1335 ?_
      refine r_sld (pc := 1336) hX dL_law_1336 (by omega) (by omega) (fun i_1336 => ?_)
      rw [ha2]
      refine r_aload_0 (pc := 1337) dL_law_1337 ?_
      refine r_iload_3 (pc := 1338) dL_law_1338 ?_
      refine r_iconst (pc := 1339) dL_law_1339 ?_
      refine r_iadd (pc := 1340) dL_law_1340 ?_
      refine r_sld (pc := 1341) hX dL_law_1341 (by omega) (by omega) (fun i_1341 => ?_)
      rw [ha3]
      refine k_VI3 (pc := 1342) c_X8_storm lk_L_168 ⟨(Nat.le_of_ble_eq_true rfl), (Nat.le_of_ble_eq_true rfl)⟩ ⟨rfl, rfl⟩ ⟨(Nat.le_of_ble_eq_true rfl), (Nat.le_of_ble_eq_true rfl)⟩ (k := 8) rfl (by decide) hMd2.1 dL_law_1342 (Nat.le_of_ble_eq_true rfl) ?_
      refine ⟨b, mp, a1, a2, a3, rfl, hMd2, e2, hT, hR, g1, g2, g3, hI.2.2.2.2.2.2.1.2, fun z => absurd hc z, fun _ h3 f3 => ⟨fun z => by omega, fun _ => ?_, fun z => by omega⟩⟩
      refine r_same (pc := 1345) (tgt := 1462) (by first | rfl | (simp only [e0, e5, e17, e19, e1, e2, e12, e14, e15, e17r])) dL_law_1345 (by decide) ?_
      exact K r h3 ⟨q, n, tx, ep, km, mp, F, ux, sz, ho, sn, row, hI2.fr (fun x x0 x1 => f3 x (by omega)), hM2.s (fun j hj => by rw [f3 _ (by omega)]) (fun x x0 x1 hx => f3 x (by omega)), by omega⟩
    · refine r_aload_1 (pc := 1307) dL_law_1307 ?_
      refine r_aload_0 (pc := 1308) dL_law_1308 ?_
      refine r_iload_3 (pc := 1309) dL_law_1309 ?_
      refine r_iconst (pc := 1310) dL_law_1310 ?_
      refine r_iadd (pc := 1311) dL_law_1311 ?_
      refine r_sld (pc := 1312) hX dL_law_1312 (by omega) (by omega) (fun i_1312 => ?_)
      rw [ha1]
      refine r_aload_0 (pc := 1313) dL_law_1313 ?_
      refine r_iload_3 (pc := 1314) dL_law_1314 ?_
      refine r_iconst (pc := 1315) dL_law_1315 ?_
      refine r_iadd (pc := 1316) dL_law_1316 ?_
      refine r_sld (pc := 1317) hX dL_law_1317 (by omega) (by omega) (fun i_1317 => ?_)
      rw [ha2]
      refine r_aload_0 (pc := 1318) dL_law_1318 ?_
      refine r_iload_3 (pc := 1319) dL_law_1319 ?_
      refine r_iconst (pc := 1320) dL_law_1320 ?_
      refine r_iadd (pc := 1321) dL_law_1321 ?_
      refine r_sld (pc := 1322) hX dL_law_1322 (by omega) (by omega) (fun i_1322 => ?_)
      rw [ha3]
      refine k_VI3 (pc := 1323) c_X7_storm lk_L_165 ⟨(Nat.le_of_ble_eq_true rfl), (Nat.le_of_ble_eq_true rfl)⟩ ⟨rfl, rfl⟩ ⟨(Nat.le_of_ble_eq_true rfl), (Nat.le_of_ble_eq_true rfl)⟩ (k := 7) rfl (by decide) cl0 dL_law_1323 (Nat.le_of_ble_eq_true rfl) ?_
      refine ⟨c, q, n, tx, ep, km, mp, F, ux, sz, ho, sn, row, a1, a2, a3, rfl, hI, g1, g2, g3, fun z => absurd hc z, fun _ h2 f2 hI2 => ⟨fun z => by omega, fun z => by omega, fun _ => ?_⟩⟩
      have hM2 : MI lay r h2 b n tx ep km mp F ux sz ho sn row := hM.of (rfl) (fun x x0 x1 => f2 x (by omega))
      obtain ⟨hMd2, ⟨e0, e5, e17, e19⟩, ⟨e1, e2, e12, e14, e15, e17r⟩, hWa2, hz2, hkp2, hes2⟩ := id hM2
      refine r_aload_2 (pc := 1326) dL_law_1326 ?_
      refine r_aload_0 (pc := 1327) dL_law_1327 ?_
      refine r_iload_3 (pc := 1328) dL_law_1328 ?_
      refine r_iconst (pc := 1329) dL_law_1329 ?_
      refine r_iadd (pc := 1330) dL_law_1330 ?_
      refine r_sld (pc := 1331) hX dL_law_1331 (by omega) (by omega) (fun i_1331 => ?_)
      rw [ha1]
      refine r_aload_0 (pc := 1332) dL_law_1332 ?_
      refine r_iload_3 (pc := 1333) dL_law_1333 ?_
      refine r_iconst (pc := 1334) dL_law_1334 ?_
      refine r_iadd (pc := 1335) dL_law_1335 ?_
      refine r_sld (pc := 1336) hX dL_law_1336 (by omega) (by omega) (fun i_1336 => ?_)
      rw [ha2]
      refine r_aload_0 (pc := 1337) dL_law_1337 ?_
      refine r_iload_3 (pc := 1338) dL_law_1338 ?_
      refine r_iconst (pc := 1339) dL_law_1339 ?_
      refine r_iadd (pc := 1340) dL_law_1340 ?_
      refine r_sld (pc := 1341) hX dL_law_1341 (by omega) (by omega) (fun i_1341 => ?_)
      rw [ha3]
      refine k_VI3 (pc := 1342) c_X8_storm lk_L_168 ⟨(Nat.le_of_ble_eq_true rfl), (Nat.le_of_ble_eq_true rfl)⟩ ⟨rfl, rfl⟩ ⟨(Nat.le_of_ble_eq_true rfl), (Nat.le_of_ble_eq_true rfl)⟩ (k := 8) rfl (by decide) hMd2.1 dL_law_1342 (Nat.le_of_ble_eq_true rfl) ?_
      refine ⟨b, mp, a1, a2, a3, rfl, hMd2, e2, hT, hR, g1, g2, g3, hI.2.2.2.2.2.2.1.2, fun z => absurd hc z, fun _ h3 f3 => ⟨fun z => by omega, fun z => by omega, fun _ => ?_⟩⟩
      refine r_same (pc := 1345) (tgt := 1462) (by first | rfl | (simp only [e0, e5, e17, e19, e1, e2, e12, e14, e15, e17r])) dL_law_1345 (by decide) ?_
      exact K r h3 ⟨q, n, tx, ep, km, mp, F, ux, sz, ho, sn, row, hI2.fr (fun x x0 x1 => f3 x (by omega)), hM2.s (fun j hj => by rw [f3 _ (by omega)]) (fun x x0 x1 hx => f3 x (by omega)), by omega⟩
  · refine r_aload_1 (pc := 1307) dL_law_1307 ?_
    refine r_aload_0 (pc := 1308) dL_law_1308 ?_
    refine r_iload_3 (pc := 1309) dL_law_1309 ?_
    refine r_iconst (pc := 1310) dL_law_1310 ?_
    refine r_iadd (pc := 1311) dL_law_1311 ?_
    refine r_sld (pc := 1312) hX dL_law_1312 (by omega) (by omega) (fun i_1312 => ?_)
    rw [ha1]
    refine r_aload_0 (pc := 1313) dL_law_1313 ?_
    refine r_iload_3 (pc := 1314) dL_law_1314 ?_
    refine r_iconst (pc := 1315) dL_law_1315 ?_
    refine r_iadd (pc := 1316) dL_law_1316 ?_
    refine r_sld (pc := 1317) hX dL_law_1317 (by omega) (by omega) (fun i_1317 => ?_)
    rw [ha2]
    refine r_aload_0 (pc := 1318) dL_law_1318 ?_
    refine r_iload_3 (pc := 1319) dL_law_1319 ?_
    refine r_iconst (pc := 1320) dL_law_1320 ?_
    refine r_iadd (pc := 1321) dL_law_1321 ?_
    refine r_sld (pc := 1322) hX dL_law_1322 (by omega) (by omega) (fun i_1322 => ?_)
    rw [ha3]
    refine k_VI3 (pc := 1323) c_X7_storm lk_L_165 ⟨(Nat.le_of_ble_eq_true rfl), (Nat.le_of_ble_eq_true rfl)⟩ ⟨rfl, rfl⟩ ⟨(Nat.le_of_ble_eq_true rfl), (Nat.le_of_ble_eq_true rfl)⟩ (k := 7) rfl (by decide) cl0 dL_law_1323 (Nat.le_of_ble_eq_true rfl) ?_
    refine ⟨c, q, n, tx, ep, km, mp, F, ux, sz, ho, sn, row, a1, a2, a3, rfl, hI, g1, g2, g3, fun _ => ?_, fun z => absurd z hc⟩
    have hM2 := hM
    obtain ⟨hMd2, ⟨e0, e5, e17, e19⟩, ⟨e1, e2, e12, e14, e15, e17r⟩, hWa2, hz2, hkp2, hes2⟩ := id hM2
    refine r_aload_2 (pc := 1326) dL_law_1326 ?_
    refine r_aload_0 (pc := 1327) dL_law_1327 ?_
    refine r_iload_3 (pc := 1328) dL_law_1328 ?_
    refine r_iconst (pc := 1329) dL_law_1329 ?_
    refine r_iadd (pc := 1330) dL_law_1330 ?_
    refine r_sld (pc := 1331) hX dL_law_1331 (by omega) (by omega) (fun i_1331 => ?_)
    rw [ha1]
    refine r_aload_0 (pc := 1332) dL_law_1332 ?_
    refine r_iload_3 (pc := 1333) dL_law_1333 ?_
    refine r_iconst (pc := 1334) dL_law_1334 ?_
    refine r_iadd (pc := 1335) dL_law_1335 ?_
    refine r_sld (pc := 1336) hX dL_law_1336 (by omega) (by omega) (fun i_1336 => ?_)
    rw [ha2]
    refine r_aload_0 (pc := 1337) dL_law_1337 ?_
    refine r_iload_3 (pc := 1338) dL_law_1338 ?_
    refine r_iconst (pc := 1339) dL_law_1339 ?_
    refine r_iadd (pc := 1340) dL_law_1340 ?_
    refine r_sld (pc := 1341) hX dL_law_1341 (by omega) (by omega) (fun i_1341 => ?_)
    rw [ha3]
    refine k_VI3 (pc := 1342) c_X8_storm lk_L_168 ⟨(Nat.le_of_ble_eq_true rfl), (Nat.le_of_ble_eq_true rfl)⟩ ⟨rfl, rfl⟩ ⟨(Nat.le_of_ble_eq_true rfl), (Nat.le_of_ble_eq_true rfl)⟩ (k := 8) rfl (by decide) hMd2.1 dL_law_1342 (Nat.le_of_ble_eq_true rfl) ?_
    refine ⟨b, mp, a1, a2, a3, rfl, hMd2, e2, hT, hR, g1, g2, g3, hI.2.2.2.2.2.2.1.2, fun _ => ?_, fun z => absurd z hc⟩
    refine r_same (pc := 1345) (tgt := 1462) (by first | rfl | (simp only [e0, e5, e17, e19, e1, e2, e12, e14, e15, e17r])) dL_law_1345 (by decide) ?_
    exact K r h ⟨q, n, tx, ep, km, mp, F, ux, sz, ho, sn, row, hI, hM2, by omega⟩
theorem dL_law_344 : decode code 344 = .ok (.aload_n 1, 1) := by decide +kernel
theorem dL_law_345 : decode code 345 = .ok (.aload_n 0, 1) := by decide +kernel
theorem dL_law_346 : decode code 346 = .ok (.iload_n 3, 1) := by decide +kernel
theorem dL_law_347 : decode code 347 = .ok (.iconst 1, 1) := by decide +kernel
theorem dL_law_348 : decode code 348 = .ok (.iadd, 1) := by decide +kernel
theorem dL_law_349 : decode code 349 = .ok (.iaload, 1) := by decide +kernel
theorem dL_law_350 : decode code 350 = .ok (.aload_n 0, 1) := by decide +kernel
theorem dL_law_351 : decode code 351 = .ok (.iload_n 3, 1) := by decide +kernel
theorem dL_law_352 : decode code 352 = .ok (.iconst 2, 1) := by decide +kernel
theorem dL_law_353 : decode code 353 = .ok (.iadd, 1) := by decide +kernel
theorem dL_law_354 : decode code 354 = .ok (.iaload, 1) := by decide +kernel
theorem dL_law_355 : decode code 355 = .ok (.invokevirtual 40, 3) := by decide +kernel
theorem dL_law_358 : decode code 358 = .ok (.aload_n 2, 1) := by decide +kernel
theorem dL_law_359 : decode code 359 = .ok (.aload_n 0, 1) := by decide +kernel
theorem dL_law_360 : decode code 360 = .ok (.iload_n 3, 1) := by decide +kernel
theorem dL_law_361 : decode code 361 = .ok (.iconst 1, 1) := by decide +kernel
theorem dL_law_362 : decode code 362 = .ok (.iadd, 1) := by decide +kernel
theorem dL_law_363 : decode code 363 = .ok (.iaload, 1) := by decide +kernel
theorem dL_law_364 : decode code 364 = .ok (.aload_n 0, 1) := by decide +kernel
theorem dL_law_365 : decode code 365 = .ok (.iload_n 3, 1) := by decide +kernel
theorem dL_law_366 : decode code 366 = .ok (.iconst 2, 1) := by decide +kernel
theorem dL_law_367 : decode code 367 = .ok (.iadd, 1) := by decide +kernel
theorem dL_law_368 : decode code 368 = .ok (.iaload, 1) := by decide +kernel
theorem dL_law_369 : decode code 369 = .ok (.invokevirtual 43, 3) := by decide +kernel
theorem dL_law_372 : decode code 372 = .ok (.if_icmp .eq 1090, 3) := by decide +kernel
set_option maxHeartbeats 4000000 in
set_option maxRecDepth 20000 in
theorem law_weigh {E : EnT} {lay : LyT} {r : RfT} {h : HpT} {c b b0 L N : Nat} {sx : Int → Int} {i : Int} (hX : ScE E b0 L sx) (hi : 0 ≤ i ∧ i + 4 ≤ L) (hL : L ≤ 2048) (hcb : b = c + 101) (hLI : LI lay c b i r h) (K : ∀ r' h', LI lay c b (i + 4) r' h' → St E mL_law 1462 [some (.ref b0), some (.ref c), some (.ref b), some (vI i)] [] (122, 20801) N lay r' h') : St E mL_law 344 [some (.ref b0), some (.ref c), some (.ref b), some (vI i)] [] (122, 20801) N lay r h := by
  obtain ⟨q, n, tx, ep, km, mp, F, ux, sz, ho, sn, row, hI, hM, hle⟩ := hLI
  have hP0 := hI.2.2.2.2.2.1 0 (by omega) (by omega) (by have := hI.2.2.2.2.1.2.1; omega)
  rw [hI.2.2.2.2.2.2.1.1] at hP0
  have hT := hP0.1
  have hR := hP0.2.1
  have hep := hI.2.2.2.2.1
  have cl0 : lay c = (8, 0) := hI.1.1
  obtain ⟨a1, ha1⟩ : ∃ z, sx (i + 1) = z := ⟨_, rfl⟩
  have g1 := sc_rng hX (i + 1)
  rw [ha1] at g1
  obtain ⟨a2, ha2⟩ : ∃ z, sx (i + 2) = z := ⟨_, rfl⟩
  have g2 := sc_rng hX (i + 2)
  rw [ha2] at g2
  by_cases hc : (10 ≤ a1 ∧ a1 ≤ 9 + mp 130) ∧ (0 ≤ a2 ∧ a2 ≤ 40)
  · by_cases hs : mp (22 + a1) = a2
    · refine r_aload_1 (pc := 344) dL_law_344 ?_
      refine r_aload_0 (pc := 345) dL_law_345 ?_
      refine r_iload_3 (pc := 346) dL_law_346 ?_
      refine r_iconst (pc := 347) dL_law_347 ?_
      refine r_iadd (pc := 348) dL_law_348 ?_
      refine r_sld (pc := 349) hX dL_law_349 (by omega) (by omega) (fun i_349 => ?_)
      rw [ha1]
      refine r_aload_0 (pc := 350) dL_law_350 ?_
      refine r_iload_3 (pc := 351) dL_law_351 ?_
      refine r_iconst (pc := 352) dL_law_352 ?_
      refine r_iadd (pc := 353) dL_law_353 ?_
      refine r_sld (pc := 354) hX dL_law_354 (by omega) (by omega) (fun i_354 => ?_)
      rw [ha2]
      refine k_VI2 (pc := 355) c_X7_weigh lk_L_40 ⟨(Nat.le_of_ble_eq_true rfl), (Nat.le_of_ble_eq_true rfl)⟩ ⟨rfl, rfl⟩ ⟨(Nat.le_of_ble_eq_true rfl), (Nat.le_of_ble_eq_true rfl)⟩ (k := 7) rfl (by decide) cl0 dL_law_355 (Nat.le_of_ble_eq_true rfl) ?_
      refine ⟨c, q, n, tx, ep, km, mp, F, ux, sz, ho, sn, row, a1, a2, rfl, hI, by omega, g1, g2, fun z => absurd hc z, fun _ => ⟨fun _ => ?_, fun z => absurd hs z⟩⟩
      have hM2 := hM
      obtain ⟨hMd2, ⟨e0, e5, e17, e19⟩, ⟨e1, e2, e12, e14, e15, e17r⟩, hWa2, hz2, hkp2, hes2⟩ := id hM2
      refine r_aload_2 (pc := 358) dL_law_358 ?_
      refine r_aload_0 (pc := 359) dL_law_359 ?_
      refine r_iload_3 (pc := 360) dL_law_360 ?_
      refine r_iconst (pc := 361) dL_law_361 ?_
      refine r_iadd (pc := 362) dL_law_362 ?_
      refine r_sld (pc := 363) hX dL_law_363 (by omega) (by omega) (fun i_363 => ?_)
      rw [ha1]
      refine r_aload_0 (pc := 364) dL_law_364 ?_
      refine r_iload_3 (pc := 365) dL_law_365 ?_
      refine r_iconst (pc := 366) dL_law_366 ?_
      refine r_iadd (pc := 367) dL_law_367 ?_
      refine r_sld (pc := 368) hX dL_law_368 (by omega) (by omega) (fun i_368 => ?_)
      rw [ha2]
      refine k_VI2 (pc := 369) c_X8_weigh lk_L_43 ⟨(Nat.le_of_ble_eq_true rfl), (Nat.le_of_ble_eq_true rfl)⟩ ⟨rfl, rfl⟩ ⟨(Nat.le_of_ble_eq_true rfl), (Nat.le_of_ble_eq_true rfl)⟩ (k := 8) rfl (by decide) hMd2.1 dL_law_369 (Nat.le_of_ble_eq_true rfl) ?_
      refine ⟨b, mp, a1, a2, rfl, hMd2, e2, hT, hR, g1, g2, hWa2, (by rw [e5]; omega), fun z => absurd hc z, fun _ => ⟨fun _ => ?_, fun z => absurd hs z⟩⟩
      refine r_same (pc := 372) (tgt := 1462) (by first | rfl | (simp only [e0, e5, e17, e19, e1, e2, e12, e14, e15, e17r])) dL_law_372 (by decide) ?_
      exact K r h ⟨q, n, tx, ep, km, mp, F, ux, sz, ho, sn, row, hI, hM2, by omega⟩
    · refine r_aload_1 (pc := 344) dL_law_344 ?_
      refine r_aload_0 (pc := 345) dL_law_345 ?_
      refine r_iload_3 (pc := 346) dL_law_346 ?_
      refine r_iconst (pc := 347) dL_law_347 ?_
      refine r_iadd (pc := 348) dL_law_348 ?_
      refine r_sld (pc := 349) hX dL_law_349 (by omega) (by omega) (fun i_349 => ?_)
      rw [ha1]
      refine r_aload_0 (pc := 350) dL_law_350 ?_
      refine r_iload_3 (pc := 351) dL_law_351 ?_
      refine r_iconst (pc := 352) dL_law_352 ?_
      refine r_iadd (pc := 353) dL_law_353 ?_
      refine r_sld (pc := 354) hX dL_law_354 (by omega) (by omega) (fun i_354 => ?_)
      rw [ha2]
      refine k_VI2 (pc := 355) c_X7_weigh lk_L_40 ⟨(Nat.le_of_ble_eq_true rfl), (Nat.le_of_ble_eq_true rfl)⟩ ⟨rfl, rfl⟩ ⟨(Nat.le_of_ble_eq_true rfl), (Nat.le_of_ble_eq_true rfl)⟩ (k := 7) rfl (by decide) cl0 dL_law_355 (Nat.le_of_ble_eq_true rfl) ?_
      refine ⟨c, q, n, tx, ep, km, mp, F, ux, sz, ho, sn, row, a1, a2, rfl, hI, by omega, g1, g2, fun z => absurd hc z, fun _ => ⟨fun z => absurd z hs, fun _ r2 h2 fr2 f2 hI2 => ?_⟩⟩
      have hM2 : MI lay r2 h2 b n tx ep km mp F ux sz ho sn row := hM.of (fr2 b (by omega)) (fun x x0 x1 => f2 x (by omega))
      obtain ⟨hMd2, ⟨e0, e5, e17, e19⟩, ⟨e1, e2, e12, e14, e15, e17r⟩, hWa2, hz2, hkp2, hes2⟩ := id hM2
      refine r_aload_2 (pc := 358) dL_law_358 ?_
      refine r_aload_0 (pc := 359) dL_law_359 ?_
      refine r_iload_3 (pc := 360) dL_law_360 ?_
      refine r_iconst (pc := 361) dL_law_361 ?_
      refine r_iadd (pc := 362) dL_law_362 ?_
      refine r_sld (pc := 363) hX dL_law_363 (by omega) (by omega) (fun i_363 => ?_)
      rw [ha1]
      refine r_aload_0 (pc := 364) dL_law_364 ?_
      refine r_iload_3 (pc := 365) dL_law_365 ?_
      refine r_iconst (pc := 366) dL_law_366 ?_
      refine r_iadd (pc := 367) dL_law_367 ?_
      refine r_sld (pc := 368) hX dL_law_368 (by omega) (by omega) (fun i_368 => ?_)
      rw [ha2]
      refine k_VI2 (pc := 369) c_X8_weigh lk_L_43 ⟨(Nat.le_of_ble_eq_true rfl), (Nat.le_of_ble_eq_true rfl)⟩ ⟨rfl, rfl⟩ ⟨(Nat.le_of_ble_eq_true rfl), (Nat.le_of_ble_eq_true rfl)⟩ (k := 8) rfl (by decide) hMd2.1 dL_law_369 (Nat.le_of_ble_eq_true rfl) ?_
      refine ⟨b, mp, a1, a2, rfl, hMd2, e2, hT, hR, g1, g2, hWa2, (by rw [e5]; omega), fun z => absurd hc z, fun _ => ⟨fun z => absurd z hs, fun _ h3 hCh => ?_⟩⟩
      refine r_same (pc := 372) (tgt := 1462) (by first | rfl | (simp only [e0, e5, e17, e19, e1, e2, e12, e14, e15, e17r])) dL_law_372 (by decide) ?_
      exact K r2 h3 ⟨qN q, n, tx, ep + 1, kN km (up mp (22 + a1) a2), up mp (22 + a1) a2, h3 (b + 12), ux, sz, ho, sn, row, (hI2.fr (fun x x0 x1 => hCh.1 x (by omega))).cv (fun j j0 j1 => hCh.2.2.2.2.2 j j0 j1) (fun _ _ _ => rfl) (fun _ _ _ => rfl), hM2.ch hep.2.1 hCh (hz2.u (by have := hT.2.2.1; omega)) ⟨e0, e5, e17, e19⟩, by omega⟩
  · refine r_aload_1 (pc := 344) dL_law_344 ?_
    refine r_aload_0 (pc := 345) dL_law_345 ?_
    refine r_iload_3 (pc := 346) dL_law_346 ?_
    refine r_iconst (pc := 347) dL_law_347 ?_
    refine r_iadd (pc := 348) dL_law_348 ?_
    refine r_sld (pc := 349) hX dL_law_349 (by omega) (by omega) (fun i_349 => ?_)
    rw [ha1]
    refine r_aload_0 (pc := 350) dL_law_350 ?_
    refine r_iload_3 (pc := 351) dL_law_351 ?_
    refine r_iconst (pc := 352) dL_law_352 ?_
    refine r_iadd (pc := 353) dL_law_353 ?_
    refine r_sld (pc := 354) hX dL_law_354 (by omega) (by omega) (fun i_354 => ?_)
    rw [ha2]
    refine k_VI2 (pc := 355) c_X7_weigh lk_L_40 ⟨(Nat.le_of_ble_eq_true rfl), (Nat.le_of_ble_eq_true rfl)⟩ ⟨rfl, rfl⟩ ⟨(Nat.le_of_ble_eq_true rfl), (Nat.le_of_ble_eq_true rfl)⟩ (k := 7) rfl (by decide) cl0 dL_law_355 (Nat.le_of_ble_eq_true rfl) ?_
    refine ⟨c, q, n, tx, ep, km, mp, F, ux, sz, ho, sn, row, a1, a2, rfl, hI, by omega, g1, g2, fun _ => ?_, fun z => absurd z hc⟩
    have hM2 := hM
    obtain ⟨hMd2, ⟨e0, e5, e17, e19⟩, ⟨e1, e2, e12, e14, e15, e17r⟩, hWa2, hz2, hkp2, hes2⟩ := id hM2
    refine r_aload_2 (pc := 358) dL_law_358 ?_
    refine r_aload_0 (pc := 359) dL_law_359 ?_
    refine r_iload_3 (pc := 360) dL_law_360 ?_
    refine r_iconst (pc := 361) dL_law_361 ?_
    refine r_iadd (pc := 362) dL_law_362 ?_
    refine r_sld (pc := 363) hX dL_law_363 (by omega) (by omega) (fun i_363 => ?_)
    rw [ha1]
    refine r_aload_0 (pc := 364) dL_law_364 ?_
    refine r_iload_3 (pc := 365) dL_law_365 ?_
    refine r_iconst (pc := 366) dL_law_366 ?_
    refine r_iadd (pc := 367) dL_law_367 ?_
    refine r_sld (pc := 368) hX dL_law_368 (by omega) (by omega) (fun i_368 => ?_)
    rw [ha2]
    refine k_VI2 (pc := 369) c_X8_weigh lk_L_43 ⟨(Nat.le_of_ble_eq_true rfl), (Nat.le_of_ble_eq_true rfl)⟩ ⟨rfl, rfl⟩ ⟨(Nat.le_of_ble_eq_true rfl), (Nat.le_of_ble_eq_true rfl)⟩ (k := 8) rfl (by decide) hMd2.1 dL_law_369 (Nat.le_of_ble_eq_true rfl) ?_
    refine ⟨b, mp, a1, a2, rfl, hMd2, e2, hT, hR, g1, g2, hWa2, (by rw [e5]; omega), fun _ => ?_, fun z => absurd z hc⟩
    refine r_same (pc := 372) (tgt := 1462) (by first | rfl | (simp only [e0, e5, e17, e19, e1, e2, e12, e14, e15, e17r])) dL_law_372 (by decide) ?_
    exact K r h ⟨q, n, tx, ep, km, mp, F, ux, sz, ho, sn, row, hI, hM2, by omega⟩
theorem dL_law_377 : decode code 377 = .ok (.aload_n 1, 1) := by decide +kernel
theorem dL_law_378 : decode code 378 = .ok (.aload_n 0, 1) := by decide +kernel
theorem dL_law_379 : decode code 379 = .ok (.iload_n 3, 1) := by decide +kernel
theorem dL_law_380 : decode code 380 = .ok (.iconst 1, 1) := by decide +kernel
theorem dL_law_381 : decode code 381 = .ok (.iadd, 1) := by decide +kernel
theorem dL_law_382 : decode code 382 = .ok (.iaload, 1) := by decide +kernel
theorem dL_law_383 : decode code 383 = .ok (.aload_n 0, 1) := by decide +kernel
theorem dL_law_384 : decode code 384 = .ok (.iload_n 3, 1) := by decide +kernel
theorem dL_law_385 : decode code 385 = .ok (.iconst 2, 1) := by decide +kernel
theorem dL_law_386 : decode code 386 = .ok (.iadd, 1) := by decide +kernel
theorem dL_law_387 : decode code 387 = .ok (.iaload, 1) := by decide +kernel
theorem dL_law_388 : decode code 388 = .ok (.invokevirtual 44, 3) := by decide +kernel
theorem dL_law_391 : decode code 391 = .ok (.aload_n 2, 1) := by decide +kernel
theorem dL_law_392 : decode code 392 = .ok (.aload_n 0, 1) := by decide +kernel
theorem dL_law_393 : decode code 393 = .ok (.iload_n 3, 1) := by decide +kernel
theorem dL_law_394 : decode code 394 = .ok (.iconst 1, 1) := by decide +kernel
theorem dL_law_395 : decode code 395 = .ok (.iadd, 1) := by decide +kernel
theorem dL_law_396 : decode code 396 = .ok (.iaload, 1) := by decide +kernel
theorem dL_law_397 : decode code 397 = .ok (.aload_n 0, 1) := by decide +kernel
theorem dL_law_398 : decode code 398 = .ok (.iload_n 3, 1) := by decide +kernel
theorem dL_law_399 : decode code 399 = .ok (.iconst 2, 1) := by decide +kernel
theorem dL_law_400 : decode code 400 = .ok (.iadd, 1) := by decide +kernel
theorem dL_law_401 : decode code 401 = .ok (.iaload, 1) := by decide +kernel
theorem dL_law_402 : decode code 402 = .ok (.invokevirtual 47, 3) := by decide +kernel
theorem dL_law_405 : decode code 405 = .ok (.if_icmp .eq 1057, 3) := by decide +kernel
set_option maxHeartbeats 4000000 in
set_option maxRecDepth 20000 in
theorem law_reweigh {E : EnT} {lay : LyT} {r : RfT} {h : HpT} {c b b0 L N : Nat} {sx : Int → Int} {i : Int} (hX : ScE E b0 L sx) (hi : 0 ≤ i ∧ i + 4 ≤ L) (hL : L ≤ 2048) (hcb : b = c + 101) (hLI : LI lay c b i r h) (K : ∀ r' h', LI lay c b (i + 4) r' h' → St E mL_law 1462 [some (.ref b0), some (.ref c), some (.ref b), some (vI i)] [] (122, 20801) N lay r' h') : St E mL_law 377 [some (.ref b0), some (.ref c), some (.ref b), some (vI i)] [] (122, 20801) N lay r h := by
  obtain ⟨q, n, tx, ep, km, mp, F, ux, sz, ho, sn, row, hI, hM, hle⟩ := hLI
  have hP0 := hI.2.2.2.2.2.1 0 (by omega) (by omega) (by have := hI.2.2.2.2.1.2.1; omega)
  rw [hI.2.2.2.2.2.2.1.1] at hP0
  have hT := hP0.1
  have hR := hP0.2.1
  have hep := hI.2.2.2.2.1
  have cl0 : lay c = (8, 0) := hI.1.1
  obtain ⟨a1, ha1⟩ : ∃ z, sx (i + 1) = z := ⟨_, rfl⟩
  have g1 := sc_rng hX (i + 1)
  rw [ha1] at g1
  obtain ⟨a2, ha2⟩ : ∃ z, sx (i + 2) = z := ⟨_, rfl⟩
  have g2 := sc_rng hX (i + 2)
  rw [ha2] at g2
  by_cases hc : (10 ≤ a1 ∧ a1 ≤ 9 + mp 130) ∧ (0 ≤ a2 ∧ a2 ≤ 16)
  · by_cases hs : mp (66 + a1) = a2
    · refine r_aload_1 (pc := 377) dL_law_377 ?_
      refine r_aload_0 (pc := 378) dL_law_378 ?_
      refine r_iload_3 (pc := 379) dL_law_379 ?_
      refine r_iconst (pc := 380) dL_law_380 ?_
      refine r_iadd (pc := 381) dL_law_381 ?_
      refine r_sld (pc := 382) hX dL_law_382 (by omega) (by omega) (fun i_382 => ?_)
      rw [ha1]
      refine r_aload_0 (pc := 383) dL_law_383 ?_
      refine r_iload_3 (pc := 384) dL_law_384 ?_
      refine r_iconst (pc := 385) dL_law_385 ?_
      refine r_iadd (pc := 386) dL_law_386 ?_
      refine r_sld (pc := 387) hX dL_law_387 (by omega) (by omega) (fun i_387 => ?_)
      rw [ha2]
      refine k_VI2 (pc := 388) c_X7_reweigh lk_L_44 ⟨(Nat.le_of_ble_eq_true rfl), (Nat.le_of_ble_eq_true rfl)⟩ ⟨rfl, rfl⟩ ⟨(Nat.le_of_ble_eq_true rfl), (Nat.le_of_ble_eq_true rfl)⟩ (k := 7) rfl (by decide) cl0 dL_law_388 (Nat.le_of_ble_eq_true rfl) ?_
      refine ⟨c, q, n, tx, ep, km, mp, F, ux, sz, ho, sn, row, a1, a2, rfl, hI, by omega, g1, g2, fun z => absurd hc z, fun _ => ⟨fun _ => ?_, fun z => absurd hs z⟩⟩
      have hM2 := hM
      obtain ⟨hMd2, ⟨e0, e5, e17, e19⟩, ⟨e1, e2, e12, e14, e15, e17r⟩, hWa2, hz2, hkp2, hes2⟩ := id hM2
      refine r_aload_2 (pc := 391) dL_law_391 ?_
      refine r_aload_0 (pc := 392) dL_law_392 ?_
      refine r_iload_3 (pc := 393) dL_law_393 ?_
      refine r_iconst (pc := 394) dL_law_394 ?_
      refine r_iadd (pc := 395) dL_law_395 ?_
      refine r_sld (pc := 396) hX dL_law_396 (by omega) (by omega) (fun i_396 => ?_)
      rw [ha1]
      refine r_aload_0 (pc := 397) dL_law_397 ?_
      refine r_iload_3 (pc := 398) dL_law_398 ?_
      refine r_iconst (pc := 399) dL_law_399 ?_
      refine r_iadd (pc := 400) dL_law_400 ?_
      refine r_sld (pc := 401) hX dL_law_401 (by omega) (by omega) (fun i_401 => ?_)
      rw [ha2]
      refine k_VI2 (pc := 402) c_X8_reweigh lk_L_47 ⟨(Nat.le_of_ble_eq_true rfl), (Nat.le_of_ble_eq_true rfl)⟩ ⟨rfl, rfl⟩ ⟨(Nat.le_of_ble_eq_true rfl), (Nat.le_of_ble_eq_true rfl)⟩ (k := 8) rfl (by decide) hMd2.1 dL_law_402 (Nat.le_of_ble_eq_true rfl) ?_
      refine ⟨b, mp, a1, a2, rfl, hMd2, e2, hT, hR, g1, g2, hWa2, (by rw [e5]; omega), fun z => absurd hc z, fun _ => ⟨fun _ => ?_, fun z => absurd hs z⟩⟩
      refine r_same (pc := 405) (tgt := 1462) (by first | rfl | (simp only [e0, e5, e17, e19, e1, e2, e12, e14, e15, e17r])) dL_law_405 (by decide) ?_
      exact K r h ⟨q, n, tx, ep, km, mp, F, ux, sz, ho, sn, row, hI, hM2, by omega⟩
    · refine r_aload_1 (pc := 377) dL_law_377 ?_
      refine r_aload_0 (pc := 378) dL_law_378 ?_
      refine r_iload_3 (pc := 379) dL_law_379 ?_
      refine r_iconst (pc := 380) dL_law_380 ?_
      refine r_iadd (pc := 381) dL_law_381 ?_
      refine r_sld (pc := 382) hX dL_law_382 (by omega) (by omega) (fun i_382 => ?_)
      rw [ha1]
      refine r_aload_0 (pc := 383) dL_law_383 ?_
      refine r_iload_3 (pc := 384) dL_law_384 ?_
      refine r_iconst (pc := 385) dL_law_385 ?_
      refine r_iadd (pc := 386) dL_law_386 ?_
      refine r_sld (pc := 387) hX dL_law_387 (by omega) (by omega) (fun i_387 => ?_)
      rw [ha2]
      refine k_VI2 (pc := 388) c_X7_reweigh lk_L_44 ⟨(Nat.le_of_ble_eq_true rfl), (Nat.le_of_ble_eq_true rfl)⟩ ⟨rfl, rfl⟩ ⟨(Nat.le_of_ble_eq_true rfl), (Nat.le_of_ble_eq_true rfl)⟩ (k := 7) rfl (by decide) cl0 dL_law_388 (Nat.le_of_ble_eq_true rfl) ?_
      refine ⟨c, q, n, tx, ep, km, mp, F, ux, sz, ho, sn, row, a1, a2, rfl, hI, by omega, g1, g2, fun z => absurd hc z, fun _ => ⟨fun z => absurd z hs, fun _ r2 h2 fr2 f2 hI2 => ?_⟩⟩
      have hM2 : MI lay r2 h2 b n tx ep km mp F ux sz ho sn row := hM.of (fr2 b (by omega)) (fun x x0 x1 => f2 x (by omega))
      obtain ⟨hMd2, ⟨e0, e5, e17, e19⟩, ⟨e1, e2, e12, e14, e15, e17r⟩, hWa2, hz2, hkp2, hes2⟩ := id hM2
      refine r_aload_2 (pc := 391) dL_law_391 ?_
      refine r_aload_0 (pc := 392) dL_law_392 ?_
      refine r_iload_3 (pc := 393) dL_law_393 ?_
      refine r_iconst (pc := 394) dL_law_394 ?_
      refine r_iadd (pc := 395) dL_law_395 ?_
      refine r_sld (pc := 396) hX dL_law_396 (by omega) (by omega) (fun i_396 => ?_)
      rw [ha1]
      refine r_aload_0 (pc := 397) dL_law_397 ?_
      refine r_iload_3 (pc := 398) dL_law_398 ?_
      refine r_iconst (pc := 399) dL_law_399 ?_
      refine r_iadd (pc := 400) dL_law_400 ?_
      refine r_sld (pc := 401) hX dL_law_401 (by omega) (by omega) (fun i_401 => ?_)
      rw [ha2]
      refine k_VI2 (pc := 402) c_X8_reweigh lk_L_47 ⟨(Nat.le_of_ble_eq_true rfl), (Nat.le_of_ble_eq_true rfl)⟩ ⟨rfl, rfl⟩ ⟨(Nat.le_of_ble_eq_true rfl), (Nat.le_of_ble_eq_true rfl)⟩ (k := 8) rfl (by decide) hMd2.1 dL_law_402 (Nat.le_of_ble_eq_true rfl) ?_
      refine ⟨b, mp, a1, a2, rfl, hMd2, e2, hT, hR, g1, g2, hWa2, (by rw [e5]; omega), fun z => absurd hc z, fun _ => ⟨fun z => absurd z hs, fun _ h3 hCh => ?_⟩⟩
      refine r_same (pc := 405) (tgt := 1462) (by first | rfl | (simp only [e0, e5, e17, e19, e1, e2, e12, e14, e15, e17r])) dL_law_405 (by decide) ?_
      exact K r2 h3 ⟨qN q, n, tx, ep + 1, kN km (up mp (66 + a1) a2), up mp (66 + a1) a2, h3 (b + 12), ux, sz, ho, sn, row, (hI2.fr (fun x x0 x1 => hCh.1 x (by omega))).cv (fun j j0 j1 => hCh.2.2.2.2.2 j j0 j1) (fun _ _ _ => rfl) (fun _ _ _ => rfl), hM2.ch hep.2.1 hCh (hz2.u (by have := hT.2.2.1; omega)) ⟨e0, e5, e17, e19⟩, by omega⟩
  · refine r_aload_1 (pc := 377) dL_law_377 ?_
    refine r_aload_0 (pc := 378) dL_law_378 ?_
    refine r_iload_3 (pc := 379) dL_law_379 ?_
    refine r_iconst (pc := 380) dL_law_380 ?_
    refine r_iadd (pc := 381) dL_law_381 ?_
    refine r_sld (pc := 382) hX dL_law_382 (by omega) (by omega) (fun i_382 => ?_)
    rw [ha1]
    refine r_aload_0 (pc := 383) dL_law_383 ?_
    refine r_iload_3 (pc := 384) dL_law_384 ?_
    refine r_iconst (pc := 385) dL_law_385 ?_
    refine r_iadd (pc := 386) dL_law_386 ?_
    refine r_sld (pc := 387) hX dL_law_387 (by omega) (by omega) (fun i_387 => ?_)
    rw [ha2]
    refine k_VI2 (pc := 388) c_X7_reweigh lk_L_44 ⟨(Nat.le_of_ble_eq_true rfl), (Nat.le_of_ble_eq_true rfl)⟩ ⟨rfl, rfl⟩ ⟨(Nat.le_of_ble_eq_true rfl), (Nat.le_of_ble_eq_true rfl)⟩ (k := 7) rfl (by decide) cl0 dL_law_388 (Nat.le_of_ble_eq_true rfl) ?_
    refine ⟨c, q, n, tx, ep, km, mp, F, ux, sz, ho, sn, row, a1, a2, rfl, hI, by omega, g1, g2, fun _ => ?_, fun z => absurd z hc⟩
    have hM2 := hM
    obtain ⟨hMd2, ⟨e0, e5, e17, e19⟩, ⟨e1, e2, e12, e14, e15, e17r⟩, hWa2, hz2, hkp2, hes2⟩ := id hM2
    refine r_aload_2 (pc := 391) dL_law_391 ?_
    refine r_aload_0 (pc := 392) dL_law_392 ?_
    refine r_iload_3 (pc := 393) dL_law_393 ?_
    refine r_iconst (pc := 394) dL_law_394 ?_
    refine r_iadd (pc := 395) dL_law_395 ?_
    refine r_sld (pc := 396) hX dL_law_396 (by omega) (by omega) (fun i_396 => ?_)
    rw [ha1]
    refine r_aload_0 (pc := 397) dL_law_397 ?_
    refine r_iload_3 (pc := 398) dL_law_398 ?_
    refine r_iconst (pc := 399) dL_law_399 ?_
    refine r_iadd (pc := 400) dL_law_400 ?_
    refine r_sld (pc := 401) hX dL_law_401 (by omega) (by omega) (fun i_401 => ?_)
    rw [ha2]
    refine k_VI2 (pc := 402) c_X8_reweigh lk_L_47 ⟨(Nat.le_of_ble_eq_true rfl), (Nat.le_of_ble_eq_true rfl)⟩ ⟨rfl, rfl⟩ ⟨(Nat.le_of_ble_eq_true rfl), (Nat.le_of_ble_eq_true rfl)⟩ (k := 8) rfl (by decide) hMd2.1 dL_law_402 (Nat.le_of_ble_eq_true rfl) ?_
    refine ⟨b, mp, a1, a2, rfl, hMd2, e2, hT, hR, g1, g2, hWa2, (by rw [e5]; omega), fun _ => ?_, fun z => absurd z hc⟩
    refine r_same (pc := 405) (tgt := 1462) (by first | rfl | (simp only [e0, e5, e17, e19, e1, e2, e12, e14, e15, e17r])) dL_law_405 (by decide) ?_
    exact K r h ⟨q, n, tx, ep, km, mp, F, ux, sz, ho, sn, row, hI, hM2, by omega⟩
theorem dL_law_489 : decode code 489 = .ok (.aload_n 1, 1) := by decide +kernel
theorem dL_law_490 : decode code 490 = .ok (.aload_n 0, 1) := by decide +kernel
theorem dL_law_491 : decode code 491 = .ok (.iload_n 3, 1) := by decide +kernel
theorem dL_law_492 : decode code 492 = .ok (.iconst 1, 1) := by decide +kernel
theorem dL_law_493 : decode code 493 = .ok (.iadd, 1) := by decide +kernel
theorem dL_law_494 : decode code 494 = .ok (.iaload, 1) := by decide +kernel
theorem dL_law_495 : decode code 495 = .ok (.aload_n 0, 1) := by decide +kernel
theorem dL_law_496 : decode code 496 = .ok (.iload_n 3, 1) := by decide +kernel
theorem dL_law_497 : decode code 497 = .ok (.iconst 2, 1) := by decide +kernel
theorem dL_law_498 : decode code 498 = .ok (.iadd, 1) := by decide +kernel
theorem dL_law_499 : decode code 499 = .ok (.iaload, 1) := by decide +kernel
theorem dL_law_500 : decode code 500 = .ok (.aload_n 0, 1) := by decide +kernel
theorem dL_law_501 : decode code 501 = .ok (.iload_n 3, 1) := by decide +kernel
theorem dL_law_502 : decode code 502 = .ok (.iconst 3, 1) := by decide +kernel
theorem dL_law_503 : decode code 503 = .ok (.iadd, 1) := by decide +kernel
theorem dL_law_504 : decode code 504 = .ok (.iaload, 1) := by decide +kernel
theorem dL_law_505 : decode code 505 = .ok (.invokevirtual 61, 3) := by decide +kernel
theorem dL_law_508 : decode code 508 = .ok (.aload_n 2, 1) := by decide +kernel
theorem dL_law_509 : decode code 509 = .ok (.aload_n 0, 1) := by decide +kernel
theorem dL_law_510 : decode code 510 = .ok (.iload_n 3, 1) := by decide +kernel
theorem dL_law_511 : decode code 511 = .ok (.iconst 1, 1) := by decide +kernel
theorem dL_law_512 : decode code 512 = .ok (.iadd, 1) := by decide +kernel
theorem dL_law_513 : decode code 513 = .ok (.iaload, 1) := by decide +kernel
theorem dL_law_514 : decode code 514 = .ok (.aload_n 0, 1) := by decide +kernel
theorem dL_law_515 : decode code 515 = .ok (.iload_n 3, 1) := by decide +kernel
theorem dL_law_516 : decode code 516 = .ok (.iconst 2, 1) := by decide +kernel
theorem dL_law_517 : decode code 517 = .ok (.iadd, 1) := by decide +kernel
theorem dL_law_518 : decode code 518 = .ok (.iaload, 1) := by decide +kernel
theorem dL_law_519 : decode code 519 = .ok (.aload_n 0, 1) := by decide +kernel
theorem dL_law_520 : decode code 520 = .ok (.iload_n 3, 1) := by decide +kernel
theorem dL_law_521 : decode code 521 = .ok (.iconst 3, 1) := by decide +kernel
theorem dL_law_522 : decode code 522 = .ok (.iadd, 1) := by decide +kernel
theorem dL_law_523 : decode code 523 = .ok (.iaload, 1) := by decide +kernel
theorem dL_law_524 : decode code 524 = .ok (.invokevirtual 64, 3) := by decide +kernel
theorem dL_law_527 : decode code 527 = .ok (.if_icmp .eq 935, 3) := by decide +kernel
set_option maxHeartbeats 4000000 in
set_option maxRecDepth 20000 in
theorem law_rule {E : EnT} {lay : LyT} {r : RfT} {h : HpT} {c b b0 L N : Nat} {sx : Int → Int} {i : Int} (hX : ScE E b0 L sx) (hi : 0 ≤ i ∧ i + 4 ≤ L) (hL : L ≤ 2048) (hcb : b = c + 101) (hLI : LI lay c b i r h) (K : ∀ r' h', LI lay c b (i + 4) r' h' → St E mL_law 1462 [some (.ref b0), some (.ref c), some (.ref b), some (vI i)] [] (122, 20801) N lay r' h') : St E mL_law 489 [some (.ref b0), some (.ref c), some (.ref b), some (vI i)] [] (122, 20801) N lay r h := by
  obtain ⟨q, n, tx, ep, km, mp, F, ux, sz, ho, sn, row, hI, hM, hle⟩ := hLI
  have hP0 := hI.2.2.2.2.2.1 0 (by omega) (by omega) (by have := hI.2.2.2.2.1.2.1; omega)
  rw [hI.2.2.2.2.2.2.1.1] at hP0
  have hT := hP0.1
  have hR := hP0.2.1
  have hep := hI.2.2.2.2.1
  have cl0 : lay c = (8, 0) := hI.1.1
  obtain ⟨a1, ha1⟩ : ∃ z, sx (i + 1) = z := ⟨_, rfl⟩
  have g1 := sc_rng hX (i + 1)
  rw [ha1] at g1
  obtain ⟨a2, ha2⟩ : ∃ z, sx (i + 2) = z := ⟨_, rfl⟩
  have g2 := sc_rng hX (i + 2)
  rw [ha2] at g2
  obtain ⟨a3, ha3⟩ : ∃ z, sx (i + 3) = z := ⟨_, rfl⟩
  have g3 := sc_rng hX (i + 3)
  rw [ha3] at g3
  by_cases hc : (1 ≤ a1 ∧ a1 ≤ 4) ∧ (1 ≤ a2 ∧ a2 ≤ 3) ∧ (0 ≤ a3 ∧ a3 ≤ 1)
  · by_cases hs : 100 * mp 131 + 10 * mp 132 + mp 133 = 100 * a1 + 10 * a2 + a3
    · refine r_aload_1 (pc := 489) dL_law_489 ?_
      refine r_aload_0 (pc := 490) dL_law_490 ?_
      refine r_iload_3 (pc := 491) dL_law_491 ?_
      refine r_iconst (pc := 492) dL_law_492 ?_
      refine r_iadd (pc := 493) dL_law_493 ?_
      refine r_sld (pc := 494) hX dL_law_494 (by omega) (by omega) (fun i_494 => ?_)
      rw [ha1]
      refine r_aload_0 (pc := 495) dL_law_495 ?_
      refine r_iload_3 (pc := 496) dL_law_496 ?_
      refine r_iconst (pc := 497) dL_law_497 ?_
      refine r_iadd (pc := 498) dL_law_498 ?_
      refine r_sld (pc := 499) hX dL_law_499 (by omega) (by omega) (fun i_499 => ?_)
      rw [ha2]
      refine r_aload_0 (pc := 500) dL_law_500 ?_
      refine r_iload_3 (pc := 501) dL_law_501 ?_
      refine r_iconst (pc := 502) dL_law_502 ?_
      refine r_iadd (pc := 503) dL_law_503 ?_
      refine r_sld (pc := 504) hX dL_law_504 (by omega) (by omega) (fun i_504 => ?_)
      rw [ha3]
      refine k_VI3 (pc := 505) c_X7_rule lk_L_61 ⟨(Nat.le_of_ble_eq_true rfl), (Nat.le_of_ble_eq_true rfl)⟩ ⟨rfl, rfl⟩ ⟨(Nat.le_of_ble_eq_true rfl), (Nat.le_of_ble_eq_true rfl)⟩ (k := 7) rfl (by decide) cl0 dL_law_505 (Nat.le_of_ble_eq_true rfl) ?_
      refine ⟨c, q, n, tx, ep, km, mp, F, ux, sz, ho, sn, row, a1, a2, a3, rfl, hI, by omega, g1, g2, g3, fun z => absurd hc z, fun _ => ⟨fun _ => ?_, fun z => absurd hs z⟩⟩
      have hM2 := hM
      obtain ⟨hMd2, ⟨e0, e5, e17, e19⟩, ⟨e1, e2, e12, e14, e15, e17r⟩, hWa2, hz2, hkp2, hes2⟩ := id hM2
      refine r_aload_2 (pc := 508) dL_law_508 ?_
      refine r_aload_0 (pc := 509) dL_law_509 ?_
      refine r_iload_3 (pc := 510) dL_law_510 ?_
      refine r_iconst (pc := 511) dL_law_511 ?_
      refine r_iadd (pc := 512) dL_law_512 ?_
      refine r_sld (pc := 513) hX dL_law_513 (by omega) (by omega) (fun i_513 => ?_)
      rw [ha1]
      refine r_aload_0 (pc := 514) dL_law_514 ?_
      refine r_iload_3 (pc := 515) dL_law_515 ?_
      refine r_iconst (pc := 516) dL_law_516 ?_
      refine r_iadd (pc := 517) dL_law_517 ?_
      refine r_sld (pc := 518) hX dL_law_518 (by omega) (by omega) (fun i_518 => ?_)
      rw [ha2]
      refine r_aload_0 (pc := 519) dL_law_519 ?_
      refine r_iload_3 (pc := 520) dL_law_520 ?_
      refine r_iconst (pc := 521) dL_law_521 ?_
      refine r_iadd (pc := 522) dL_law_522 ?_
      refine r_sld (pc := 523) hX dL_law_523 (by omega) (by omega) (fun i_523 => ?_)
      rw [ha3]
      refine k_VI3 (pc := 524) c_X8_rule lk_L_64 ⟨(Nat.le_of_ble_eq_true rfl), (Nat.le_of_ble_eq_true rfl)⟩ ⟨rfl, rfl⟩ ⟨(Nat.le_of_ble_eq_true rfl), (Nat.le_of_ble_eq_true rfl)⟩ (k := 8) rfl (by decide) hMd2.1 dL_law_524 (Nat.le_of_ble_eq_true rfl) ?_
      refine ⟨b, mp, a1, a2, a3, rfl, hMd2, e2, hT, hR, g1, g2, g3, hWa2, (by rw [e5]; omega), fun z => absurd hc z, fun _ => ⟨fun _ => ?_, fun z => absurd hs z⟩⟩
      refine r_same (pc := 527) (tgt := 1462) (by first | rfl | (simp only [e0, e5, e17, e19, e1, e2, e12, e14, e15, e17r])) dL_law_527 (by decide) ?_
      exact K r h ⟨q, n, tx, ep, km, mp, F, ux, sz, ho, sn, row, hI, hM2, by omega⟩
    · refine r_aload_1 (pc := 489) dL_law_489 ?_
      refine r_aload_0 (pc := 490) dL_law_490 ?_
      refine r_iload_3 (pc := 491) dL_law_491 ?_
      refine r_iconst (pc := 492) dL_law_492 ?_
      refine r_iadd (pc := 493) dL_law_493 ?_
      refine r_sld (pc := 494) hX dL_law_494 (by omega) (by omega) (fun i_494 => ?_)
      rw [ha1]
      refine r_aload_0 (pc := 495) dL_law_495 ?_
      refine r_iload_3 (pc := 496) dL_law_496 ?_
      refine r_iconst (pc := 497) dL_law_497 ?_
      refine r_iadd (pc := 498) dL_law_498 ?_
      refine r_sld (pc := 499) hX dL_law_499 (by omega) (by omega) (fun i_499 => ?_)
      rw [ha2]
      refine r_aload_0 (pc := 500) dL_law_500 ?_
      refine r_iload_3 (pc := 501) dL_law_501 ?_
      refine r_iconst (pc := 502) dL_law_502 ?_
      refine r_iadd (pc := 503) dL_law_503 ?_
      refine r_sld (pc := 504) hX dL_law_504 (by omega) (by omega) (fun i_504 => ?_)
      rw [ha3]
      refine k_VI3 (pc := 505) c_X7_rule lk_L_61 ⟨(Nat.le_of_ble_eq_true rfl), (Nat.le_of_ble_eq_true rfl)⟩ ⟨rfl, rfl⟩ ⟨(Nat.le_of_ble_eq_true rfl), (Nat.le_of_ble_eq_true rfl)⟩ (k := 7) rfl (by decide) cl0 dL_law_505 (Nat.le_of_ble_eq_true rfl) ?_
      refine ⟨c, q, n, tx, ep, km, mp, F, ux, sz, ho, sn, row, a1, a2, a3, rfl, hI, by omega, g1, g2, g3, fun z => absurd hc z, fun _ => ⟨fun z => absurd z hs, fun _ r2 h2 fr2 f2 hI2 => ?_⟩⟩
      have hM2 : MI lay r2 h2 b n tx ep km mp F ux sz ho sn row := hM.of (fr2 b (by omega)) (fun x x0 x1 => f2 x (by omega))
      obtain ⟨hMd2, ⟨e0, e5, e17, e19⟩, ⟨e1, e2, e12, e14, e15, e17r⟩, hWa2, hz2, hkp2, hes2⟩ := id hM2
      refine r_aload_2 (pc := 508) dL_law_508 ?_
      refine r_aload_0 (pc := 509) dL_law_509 ?_
      refine r_iload_3 (pc := 510) dL_law_510 ?_
      refine r_iconst (pc := 511) dL_law_511 ?_
      refine r_iadd (pc := 512) dL_law_512 ?_
      refine r_sld (pc := 513) hX dL_law_513 (by omega) (by omega) (fun i_513 => ?_)
      rw [ha1]
      refine r_aload_0 (pc := 514) dL_law_514 ?_
      refine r_iload_3 (pc := 515) dL_law_515 ?_
      refine r_iconst (pc := 516) dL_law_516 ?_
      refine r_iadd (pc := 517) dL_law_517 ?_
      refine r_sld (pc := 518) hX dL_law_518 (by omega) (by omega) (fun i_518 => ?_)
      rw [ha2]
      refine r_aload_0 (pc := 519) dL_law_519 ?_
      refine r_iload_3 (pc := 520) dL_law_520 ?_
      refine r_iconst (pc := 521) dL_law_521 ?_
      refine r_iadd (pc := 522) dL_law_522 ?_
      refine r_sld (pc := 523) hX dL_law_523 (by omega) (by omega) (fun i_523 => ?_)
      rw [ha3]
      refine k_VI3 (pc := 524) c_X8_rule lk_L_64 ⟨(Nat.le_of_ble_eq_true rfl), (Nat.le_of_ble_eq_true rfl)⟩ ⟨rfl, rfl⟩ ⟨(Nat.le_of_ble_eq_true rfl), (Nat.le_of_ble_eq_true rfl)⟩ (k := 8) rfl (by decide) hMd2.1 dL_law_524 (Nat.le_of_ble_eq_true rfl) ?_
      refine ⟨b, mp, a1, a2, a3, rfl, hMd2, e2, hT, hR, g1, g2, g3, hWa2, (by rw [e5]; omega), fun z => absurd hc z, fun _ => ⟨fun z => absurd z hs, fun _ h3 hCh => ?_⟩⟩
      refine r_same (pc := 527) (tgt := 1462) (by first | rfl | (simp only [e0, e5, e17, e19, e1, e2, e12, e14, e15, e17r])) dL_law_527 (by decide) ?_
      exact K r2 h3 ⟨qN q, n, tx, ep + 1, kN km (up (up (up mp 131 a1) 132 a2) 133 a3), up (up (up mp 131 a1) 132 a2) 133 a3, h3 (b + 12), ux, sz, ho, sn, row, (hI2.fr (fun x x0 x1 => hCh.1 x (by omega))).cv (fun j j0 j1 => hCh.2.2.2.2.2 j j0 j1) (fun _ _ _ => rfl) (fun _ _ _ => rfl), hM2.ch hep.2.1 hCh (((hz2.u (by omega)).u (by omega)).u (by omega)) ⟨e0, e5, e17, e19⟩, by omega⟩
  · refine r_aload_1 (pc := 489) dL_law_489 ?_
    refine r_aload_0 (pc := 490) dL_law_490 ?_
    refine r_iload_3 (pc := 491) dL_law_491 ?_
    refine r_iconst (pc := 492) dL_law_492 ?_
    refine r_iadd (pc := 493) dL_law_493 ?_
    refine r_sld (pc := 494) hX dL_law_494 (by omega) (by omega) (fun i_494 => ?_)
    rw [ha1]
    refine r_aload_0 (pc := 495) dL_law_495 ?_
    refine r_iload_3 (pc := 496) dL_law_496 ?_
    refine r_iconst (pc := 497) dL_law_497 ?_
    refine r_iadd (pc := 498) dL_law_498 ?_
    refine r_sld (pc := 499) hX dL_law_499 (by omega) (by omega) (fun i_499 => ?_)
    rw [ha2]
    refine r_aload_0 (pc := 500) dL_law_500 ?_
    refine r_iload_3 (pc := 501) dL_law_501 ?_
    refine r_iconst (pc := 502) dL_law_502 ?_
    refine r_iadd (pc := 503) dL_law_503 ?_
    refine r_sld (pc := 504) hX dL_law_504 (by omega) (by omega) (fun i_504 => ?_)
    rw [ha3]
    refine k_VI3 (pc := 505) c_X7_rule lk_L_61 ⟨(Nat.le_of_ble_eq_true rfl), (Nat.le_of_ble_eq_true rfl)⟩ ⟨rfl, rfl⟩ ⟨(Nat.le_of_ble_eq_true rfl), (Nat.le_of_ble_eq_true rfl)⟩ (k := 7) rfl (by decide) cl0 dL_law_505 (Nat.le_of_ble_eq_true rfl) ?_
    refine ⟨c, q, n, tx, ep, km, mp, F, ux, sz, ho, sn, row, a1, a2, a3, rfl, hI, by omega, g1, g2, g3, fun _ => ?_, fun z => absurd z hc⟩
    have hM2 := hM
    obtain ⟨hMd2, ⟨e0, e5, e17, e19⟩, ⟨e1, e2, e12, e14, e15, e17r⟩, hWa2, hz2, hkp2, hes2⟩ := id hM2
    refine r_aload_2 (pc := 508) dL_law_508 ?_
    refine r_aload_0 (pc := 509) dL_law_509 ?_
    refine r_iload_3 (pc := 510) dL_law_510 ?_
    refine r_iconst (pc := 511) dL_law_511 ?_
    refine r_iadd (pc := 512) dL_law_512 ?_
    refine r_sld (pc := 513) hX dL_law_513 (by omega) (by omega) (fun i_513 => ?_)
    rw [ha1]
    refine r_aload_0 (pc := 514) dL_law_514 ?_
    refine r_iload_3 (pc := 515) dL_law_515 ?_
    refine r_iconst (pc := 516) dL_law_516 ?_
    refine r_iadd (pc := 517) dL_law_517 ?_
    refine r_sld (pc := 518) hX dL_law_518 (by omega) (by omega) (fun i_518 => ?_)
    rw [ha2]
    refine r_aload_0 (pc := 519) dL_law_519 ?_
    refine r_iload_3 (pc := 520) dL_law_520 ?_
    refine r_iconst (pc := 521) dL_law_521 ?_
    refine r_iadd (pc := 522) dL_law_522 ?_
    refine r_sld (pc := 523) hX dL_law_523 (by omega) (by omega) (fun i_523 => ?_)
    rw [ha3]
    refine k_VI3 (pc := 524) c_X8_rule lk_L_64 ⟨(Nat.le_of_ble_eq_true rfl), (Nat.le_of_ble_eq_true rfl)⟩ ⟨rfl, rfl⟩ ⟨(Nat.le_of_ble_eq_true rfl), (Nat.le_of_ble_eq_true rfl)⟩ (k := 8) rfl (by decide) hMd2.1 dL_law_524 (Nat.le_of_ble_eq_true rfl) ?_
    refine ⟨b, mp, a1, a2, a3, rfl, hMd2, e2, hT, hR, g1, g2, g3, hWa2, (by rw [e5]; omega), fun _ => ?_, fun z => absurd z hc⟩
    refine r_same (pc := 527) (tgt := 1462) (by first | rfl | (simp only [e0, e5, e17, e19, e1, e2, e12, e14, e15, e17r])) dL_law_527 (by decide) ?_
    exact K r h ⟨q, n, tx, ep, km, mp, F, ux, sz, ho, sn, row, hI, hM2, by omega⟩
theorem dL_law_532 : decode code 532 = .ok (.aload_n 1, 1) := by decide +kernel
theorem dL_law_533 : decode code 533 = .ok (.aload_n 0, 1) := by decide +kernel
theorem dL_law_534 : decode code 534 = .ok (.iload_n 3, 1) := by decide +kernel
theorem dL_law_535 : decode code 535 = .ok (.iconst 1, 1) := by decide +kernel
theorem dL_law_536 : decode code 536 = .ok (.iadd, 1) := by decide +kernel
theorem dL_law_537 : decode code 537 = .ok (.iaload, 1) := by decide +kernel
theorem dL_law_538 : decode code 538 = .ok (.invokevirtual 65, 3) := by decide +kernel
theorem dL_law_541 : decode code 541 = .ok (.aload_n 2, 1) := by decide +kernel
theorem dL_law_542 : decode code 542 = .ok (.aload_n 0, 1) := by decide +kernel
theorem dL_law_543 : decode code 543 = .ok (.iload_n 3, 1) := by decide +kernel
theorem dL_law_544 : decode code 544 = .ok (.iconst 1, 1) := by decide +kernel
theorem dL_law_545 : decode code 545 = .ok (.iadd, 1) := by decide +kernel
theorem dL_law_546 : decode code 546 = .ok (.iaload, 1) := by decide +kernel
theorem dL_law_547 : decode code 547 = .ok (.invokevirtual 68, 3) := by decide +kernel
theorem dL_law_550 : decode code 550 = .ok (.if_icmp .eq 912, 3) := by decide +kernel
set_option maxHeartbeats 4000000 in
set_option maxRecDepth 20000 in
theorem law_rack {E : EnT} {lay : LyT} {r : RfT} {h : HpT} {c b b0 L N : Nat} {sx : Int → Int} {i : Int} (hX : ScE E b0 L sx) (hi : 0 ≤ i ∧ i + 4 ≤ L) (hL : L ≤ 2048) (hcb : b = c + 101) (hLI : LI lay c b i r h) (K : ∀ r' h', LI lay c b (i + 4) r' h' → St E mL_law 1462 [some (.ref b0), some (.ref c), some (.ref b), some (vI i)] [] (122, 20801) N lay r' h') : St E mL_law 532 [some (.ref b0), some (.ref c), some (.ref b), some (vI i)] [] (122, 20801) N lay r h := by
  obtain ⟨q, n, tx, ep, km, mp, F, ux, sz, ho, sn, row, hI, hM, hle⟩ := hLI
  have hP0 := hI.2.2.2.2.2.1 0 (by omega) (by omega) (by have := hI.2.2.2.2.1.2.1; omega)
  rw [hI.2.2.2.2.2.2.1.1] at hP0
  have hT := hP0.1
  have hR := hP0.2.1
  have hep := hI.2.2.2.2.1
  have cl0 : lay c = (8, 0) := hI.1.1
  obtain ⟨a1, ha1⟩ : ∃ z, sx (i + 1) = z := ⟨_, rfl⟩
  have g1 := sc_rng hX (i + 1)
  rw [ha1] at g1
  by_cases hc : 1 ≤ a1 ∧ a1 ≤ mp 128
  · by_cases hs : mp 129 = 6
    · refine r_aload_1 (pc := 532) dL_law_532 ?_
      refine r_aload_0 (pc := 533) dL_law_533 ?_
      refine r_iload_3 (pc := 534) dL_law_534 ?_
      refine r_iconst (pc := 535) dL_law_535 ?_
      refine r_iadd (pc := 536) dL_law_536 ?_
      refine r_sld (pc := 537) hX dL_law_537 (by omega) (by omega) (fun i_537 => ?_)
      rw [ha1]
      refine k_VI1 (pc := 538) c_X7_rack lk_L_65 ⟨(Nat.le_of_ble_eq_true rfl), (Nat.le_of_ble_eq_true rfl)⟩ ⟨rfl, rfl⟩ ⟨(Nat.le_of_ble_eq_true rfl), (Nat.le_of_ble_eq_true rfl)⟩ (k := 7) rfl (by decide) cl0 dL_law_538 (Nat.le_of_ble_eq_true rfl) ?_
      refine ⟨c, q, n, tx, ep, km, mp, F, ux, sz, ho, sn, row, a1, rfl, hI, by omega, g1, fun z => absurd hc z, fun _ => ⟨fun _ => ?_, fun z => absurd hs z⟩⟩
      have hM2 := hM
      obtain ⟨hMd2, ⟨e0, e5, e17, e19⟩, ⟨e1, e2, e12, e14, e15, e17r⟩, hWa2, hz2, hkp2, hes2⟩ := id hM2
      refine r_aload_2 (pc := 541) dL_law_541 ?_
      refine r_aload_0 (pc := 542) dL_law_542 ?_
      refine r_iload_3 (pc := 543) dL_law_543 ?_
      refine r_iconst (pc := 544) dL_law_544 ?_
      refine r_iadd (pc := 545) dL_law_545 ?_
      refine r_sld (pc := 546) hX dL_law_546 (by omega) (by omega) (fun i_546 => ?_)
      rw [ha1]
      refine k_VI1 (pc := 547) c_X8_rack lk_L_68 ⟨(Nat.le_of_ble_eq_true rfl), (Nat.le_of_ble_eq_true rfl)⟩ ⟨rfl, rfl⟩ ⟨(Nat.le_of_ble_eq_true rfl), (Nat.le_of_ble_eq_true rfl)⟩ (k := 8) rfl (by decide) hMd2.1 dL_law_547 (Nat.le_of_ble_eq_true rfl) ?_
      refine ⟨b, mp, a1, rfl, hMd2, e2, hT, hR, g1, hWa2, (by rw [e5]; omega), fun z => absurd hc z, fun _ => ⟨fun _ => ?_, fun z => absurd hs z⟩⟩
      refine r_same (pc := 550) (tgt := 1462) (by first | rfl | (simp only [e0, e5, e17, e19, e1, e2, e12, e14, e15, e17r])) dL_law_550 (by decide) ?_
      exact K r h ⟨q, n, tx, ep, km, mp, F, ux, sz, ho, sn, row, hI, hM2, by omega⟩
    · refine r_aload_1 (pc := 532) dL_law_532 ?_
      refine r_aload_0 (pc := 533) dL_law_533 ?_
      refine r_iload_3 (pc := 534) dL_law_534 ?_
      refine r_iconst (pc := 535) dL_law_535 ?_
      refine r_iadd (pc := 536) dL_law_536 ?_
      refine r_sld (pc := 537) hX dL_law_537 (by omega) (by omega) (fun i_537 => ?_)
      rw [ha1]
      refine k_VI1 (pc := 538) c_X7_rack lk_L_65 ⟨(Nat.le_of_ble_eq_true rfl), (Nat.le_of_ble_eq_true rfl)⟩ ⟨rfl, rfl⟩ ⟨(Nat.le_of_ble_eq_true rfl), (Nat.le_of_ble_eq_true rfl)⟩ (k := 7) rfl (by decide) cl0 dL_law_538 (Nat.le_of_ble_eq_true rfl) ?_
      refine ⟨c, q, n, tx, ep, km, mp, F, ux, sz, ho, sn, row, a1, rfl, hI, by omega, g1, fun z => absurd hc z, fun _ => ⟨fun z => absurd z hs, fun _ r2 h2 fr2 f2 hI2 => ?_⟩⟩
      have hM2 : MI lay r2 h2 b n tx ep km mp F ux sz ho sn row := hM.of (fr2 b (by omega)) (fun x x0 x1 => f2 x (by omega))
      obtain ⟨hMd2, ⟨e0, e5, e17, e19⟩, ⟨e1, e2, e12, e14, e15, e17r⟩, hWa2, hz2, hkp2, hes2⟩ := id hM2
      refine r_aload_2 (pc := 541) dL_law_541 ?_
      refine r_aload_0 (pc := 542) dL_law_542 ?_
      refine r_iload_3 (pc := 543) dL_law_543 ?_
      refine r_iconst (pc := 544) dL_law_544 ?_
      refine r_iadd (pc := 545) dL_law_545 ?_
      refine r_sld (pc := 546) hX dL_law_546 (by omega) (by omega) (fun i_546 => ?_)
      rw [ha1]
      refine k_VI1 (pc := 547) c_X8_rack lk_L_68 ⟨(Nat.le_of_ble_eq_true rfl), (Nat.le_of_ble_eq_true rfl)⟩ ⟨rfl, rfl⟩ ⟨(Nat.le_of_ble_eq_true rfl), (Nat.le_of_ble_eq_true rfl)⟩ (k := 8) rfl (by decide) hMd2.1 dL_law_547 (Nat.le_of_ble_eq_true rfl) ?_
      refine ⟨b, mp, a1, rfl, hMd2, e2, hT, hR, g1, hWa2, (by rw [e5]; omega), fun z => absurd hc z, fun _ => ⟨fun z => absurd z hs, fun _ h3 hCh => ?_⟩⟩
      refine r_same (pc := 550) (tgt := 1462) (by first | rfl | (simp only [e0, e5, e17, e19, e1, e2, e12, e14, e15, e17r])) dL_law_550 (by decide) ?_
      exact K r2 h3 ⟨qN q, n, tx, ep + 1, kN km (up (up mp (4 + mp 129) a1) 129 (mp 129 + 1)), up (up mp (4 + mp 129) a1) 129 (mp 129 + 1), h3 (b + 12), ux, sz, ho, sn, row, (hI2.fr (fun x x0 x1 => hCh.1 x (by omega))).cv (fun j j0 j1 => hCh.2.2.2.2.2 j j0 j1) (fun _ _ _ => rfl) (fun _ _ _ => rfl), hM2.ch hep.2.1 hCh ((hz2.u (by have := hT.2.1; omega)).u (by omega)) ⟨e0, e5, e17, e19⟩, by omega⟩
  · refine r_aload_1 (pc := 532) dL_law_532 ?_
    refine r_aload_0 (pc := 533) dL_law_533 ?_
    refine r_iload_3 (pc := 534) dL_law_534 ?_
    refine r_iconst (pc := 535) dL_law_535 ?_
    refine r_iadd (pc := 536) dL_law_536 ?_
    refine r_sld (pc := 537) hX dL_law_537 (by omega) (by omega) (fun i_537 => ?_)
    rw [ha1]
    refine k_VI1 (pc := 538) c_X7_rack lk_L_65 ⟨(Nat.le_of_ble_eq_true rfl), (Nat.le_of_ble_eq_true rfl)⟩ ⟨rfl, rfl⟩ ⟨(Nat.le_of_ble_eq_true rfl), (Nat.le_of_ble_eq_true rfl)⟩ (k := 7) rfl (by decide) cl0 dL_law_538 (Nat.le_of_ble_eq_true rfl) ?_
    refine ⟨c, q, n, tx, ep, km, mp, F, ux, sz, ho, sn, row, a1, rfl, hI, by omega, g1, fun _ => ?_, fun z => absurd z hc⟩
    have hM2 := hM
    obtain ⟨hMd2, ⟨e0, e5, e17, e19⟩, ⟨e1, e2, e12, e14, e15, e17r⟩, hWa2, hz2, hkp2, hes2⟩ := id hM2
    refine r_aload_2 (pc := 541) dL_law_541 ?_
    refine r_aload_0 (pc := 542) dL_law_542 ?_
    refine r_iload_3 (pc := 543) dL_law_543 ?_
    refine r_iconst (pc := 544) dL_law_544 ?_
    refine r_iadd (pc := 545) dL_law_545 ?_
    refine r_sld (pc := 546) hX dL_law_546 (by omega) (by omega) (fun i_546 => ?_)
    rw [ha1]
    refine k_VI1 (pc := 547) c_X8_rack lk_L_68 ⟨(Nat.le_of_ble_eq_true rfl), (Nat.le_of_ble_eq_true rfl)⟩ ⟨rfl, rfl⟩ ⟨(Nat.le_of_ble_eq_true rfl), (Nat.le_of_ble_eq_true rfl)⟩ (k := 8) rfl (by decide) hMd2.1 dL_law_547 (Nat.le_of_ble_eq_true rfl) ?_
    refine ⟨b, mp, a1, rfl, hMd2, e2, hT, hR, g1, hWa2, (by rw [e5]; omega), fun _ => ?_, fun z => absurd z hc⟩
    refine r_same (pc := 550) (tgt := 1462) (by first | rfl | (simp only [e0, e5, e17, e19, e1, e2, e12, e14, e15, e17r])) dL_law_550 (by decide) ?_
    exact K r h ⟨q, n, tx, ep, km, mp, F, ux, sz, ho, sn, row, hI, hM2, by omega⟩
theorem dL_law_598 : decode code 598 = .ok (.aload_n 1, 1) := by decide +kernel
theorem dL_law_599 : decode code 599 = .ok (.aload_n 0, 1) := by decide +kernel
theorem dL_law_600 : decode code 600 = .ok (.iload_n 3, 1) := by decide +kernel
theorem dL_law_601 : decode code 601 = .ok (.iconst 1, 1) := by decide +kernel
theorem dL_law_602 : decode code 602 = .ok (.iadd, 1) := by decide +kernel
theorem dL_law_603 : decode code 603 = .ok (.iaload, 1) := by decide +kernel
theorem dL_law_604 : decode code 604 = .ok (.aload_n 0, 1) := by decide +kernel
theorem dL_law_605 : decode code 605 = .ok (.iload_n 3, 1) := by decide +kernel
theorem dL_law_606 : decode code 606 = .ok (.iconst 2, 1) := by decide +kernel
theorem dL_law_607 : decode code 607 = .ok (.iadd, 1) := by decide +kernel
theorem dL_law_608 : decode code 608 = .ok (.iaload, 1) := by decide +kernel
theorem dL_law_609 : decode code 609 = .ok (.invokevirtual 73, 3) := by decide +kernel
theorem dL_law_612 : decode code 612 = .ok (.aload_n 2, 1) := by decide +kernel
theorem dL_law_613 : decode code 613 = .ok (.aload_n 0, 1) := by decide +kernel
theorem dL_law_614 : decode code 614 = .ok (.iload_n 3, 1) := by decide +kernel
theorem dL_law_615 : decode code 615 = .ok (.iconst 1, 1) := by decide +kernel
theorem dL_law_616 : decode code 616 = .ok (.iadd, 1) := by decide +kernel
theorem dL_law_617 : decode code 617 = .ok (.iaload, 1) := by decide +kernel
theorem dL_law_618 : decode code 618 = .ok (.aload_n 0, 1) := by decide +kernel
theorem dL_law_619 : decode code 619 = .ok (.iload_n 3, 1) := by decide +kernel
theorem dL_law_620 : decode code 620 = .ok (.iconst 2, 1) := by decide +kernel
theorem dL_law_621 : decode code 621 = .ok (.iadd, 1) := by decide +kernel
theorem dL_law_622 : decode code 622 = .ok (.iaload, 1) := by decide +kernel
theorem dL_law_623 : decode code 623 = .ok (.invokevirtual 76, 3) := by decide +kernel
theorem dL_law_626 : decode code 626 = .ok (.if_icmp .eq 836, 3) := by decide +kernel
set_option maxHeartbeats 4000000 in
set_option maxRecDepth 20000 in
theorem law_move {E : EnT} {lay : LyT} {r : RfT} {h : HpT} {c b b0 L N : Nat} {sx : Int → Int} {i : Int} (hX : ScE E b0 L sx) (hi : 0 ≤ i ∧ i + 4 ≤ L) (hL : L ≤ 2048) (hcb : b = c + 101) (hLI : LI lay c b i r h) (K : ∀ r' h', LI lay c b (i + 4) r' h' → St E mL_law 1462 [some (.ref b0), some (.ref c), some (.ref b), some (vI i)] [] (122, 20801) N lay r' h') : St E mL_law 598 [some (.ref b0), some (.ref c), some (.ref b), some (vI i)] [] (122, 20801) N lay r h := by
  obtain ⟨q, n, tx, ep, km, mp, F, ux, sz, ho, sn, row, hI, hM, hle⟩ := hLI
  have hP0 := hI.2.2.2.2.2.1 0 (by omega) (by omega) (by have := hI.2.2.2.2.1.2.1; omega)
  rw [hI.2.2.2.2.2.2.1.1] at hP0
  have hT := hP0.1
  have hR := hP0.2.1
  have hep := hI.2.2.2.2.1
  have cl0 : lay c = (8, 0) := hI.1.1
  obtain ⟨a1, ha1⟩ : ∃ z, sx (i + 1) = z := ⟨_, rfl⟩
  have g1 := sc_rng hX (i + 1)
  rw [ha1] at g1
  obtain ⟨a2, ha2⟩ : ∃ z, sx (i + 2) = z := ⟨_, rfl⟩
  have g2 := sc_rng hX (i + 2)
  rw [ha2] at g2
  by_cases hc : ((4 ≤ a1 ∧ a1 ≤ 3 + mp 129) ∧ (1 ≤ a2 ∧ a2 ≤ mp 128)) ∨ ((10 ≤ a1 ∧ a1 ≤ 9 + mp 130) ∧ (4 ≤ a2 ∧ a2 ≤ 3 + mp 129))
  · by_cases hs : mp a1 = a2
    · refine r_aload_1 (pc := 598) dL_law_598 ?_
      refine r_aload_0 (pc := 599) dL_law_599 ?_
      refine r_iload_3 (pc := 600) dL_law_600 ?_
      refine r_iconst (pc := 601) dL_law_601 ?_
      refine r_iadd (pc := 602) dL_law_602 ?_
      refine r_sld (pc := 603) hX dL_law_603 (by omega) (by omega) (fun i_603 => ?_)
      rw [ha1]
      refine r_aload_0 (pc := 604) dL_law_604 ?_
      refine r_iload_3 (pc := 605) dL_law_605 ?_
      refine r_iconst (pc := 606) dL_law_606 ?_
      refine r_iadd (pc := 607) dL_law_607 ?_
      refine r_sld (pc := 608) hX dL_law_608 (by omega) (by omega) (fun i_608 => ?_)
      rw [ha2]
      refine k_VI2 (pc := 609) c_X7_move lk_L_73 ⟨(Nat.le_of_ble_eq_true rfl), (Nat.le_of_ble_eq_true rfl)⟩ ⟨rfl, rfl⟩ ⟨(Nat.le_of_ble_eq_true rfl), (Nat.le_of_ble_eq_true rfl)⟩ (k := 7) rfl (by decide) cl0 dL_law_609 (Nat.le_of_ble_eq_true rfl) ?_
      refine ⟨c, q, n, tx, ep, km, mp, F, ux, sz, ho, sn, row, a1, a2, rfl, hI, by omega, g1, g2, fun z => absurd hc z, fun _ => ⟨fun _ => ?_, fun z => absurd hs z⟩⟩
      have hM2 := hM
      obtain ⟨hMd2, ⟨e0, e5, e17, e19⟩, ⟨e1, e2, e12, e14, e15, e17r⟩, hWa2, hz2, hkp2, hes2⟩ := id hM2
      refine r_aload_2 (pc := 612) dL_law_612 ?_
      refine r_aload_0 (pc := 613) dL_law_613 ?_
      refine r_iload_3 (pc := 614) dL_law_614 ?_
      refine r_iconst (pc := 615) dL_law_615 ?_
      refine r_iadd (pc := 616) dL_law_616 ?_
      refine r_sld (pc := 617) hX dL_law_617 (by omega) (by omega) (fun i_617 => ?_)
      rw [ha1]
      refine r_aload_0 (pc := 618) dL_law_618 ?_
      refine r_iload_3 (pc := 619) dL_law_619 ?_
      refine r_iconst (pc := 620) dL_law_620 ?_
      refine r_iadd (pc := 621) dL_law_621 ?_
      refine r_sld (pc := 622) hX dL_law_622 (by omega) (by omega) (fun i_622 => ?_)
      rw [ha2]
      refine k_VI2 (pc := 623) c_X8_move lk_L_76 ⟨(Nat.le_of_ble_eq_true rfl), (Nat.le_of_ble_eq_true rfl)⟩ ⟨rfl, rfl⟩ ⟨(Nat.le_of_ble_eq_true rfl), (Nat.le_of_ble_eq_true rfl)⟩ (k := 8) rfl (by decide) hMd2.1 dL_law_623 (Nat.le_of_ble_eq_true rfl) ?_
      refine ⟨b, mp, a1, a2, rfl, hMd2, e2, hT, hR, g1, g2, hWa2, (by rw [e5]; omega), fun z => absurd hc z, fun _ => ⟨fun _ => ?_, fun z => absurd hs z⟩⟩
      refine r_same (pc := 626) (tgt := 1462) (by first | rfl | (simp only [e0, e5, e17, e19, e1, e2, e12, e14, e15, e17r])) dL_law_626 (by decide) ?_
      exact K r h ⟨q, n, tx, ep, km, mp, F, ux, sz, ho, sn, row, hI, hM2, by omega⟩
    · refine r_aload_1 (pc := 598) dL_law_598 ?_
      refine r_aload_0 (pc := 599) dL_law_599 ?_
      refine r_iload_3 (pc := 600) dL_law_600 ?_
      refine r_iconst (pc := 601) dL_law_601 ?_
      refine r_iadd (pc := 602) dL_law_602 ?_
      refine r_sld (pc := 603) hX dL_law_603 (by omega) (by omega) (fun i_603 => ?_)
      rw [ha1]
      refine r_aload_0 (pc := 604) dL_law_604 ?_
      refine r_iload_3 (pc := 605) dL_law_605 ?_
      refine r_iconst (pc := 606) dL_law_606 ?_
      refine r_iadd (pc := 607) dL_law_607 ?_
      refine r_sld (pc := 608) hX dL_law_608 (by omega) (by omega) (fun i_608 => ?_)
      rw [ha2]
      refine k_VI2 (pc := 609) c_X7_move lk_L_73 ⟨(Nat.le_of_ble_eq_true rfl), (Nat.le_of_ble_eq_true rfl)⟩ ⟨rfl, rfl⟩ ⟨(Nat.le_of_ble_eq_true rfl), (Nat.le_of_ble_eq_true rfl)⟩ (k := 7) rfl (by decide) cl0 dL_law_609 (Nat.le_of_ble_eq_true rfl) ?_
      refine ⟨c, q, n, tx, ep, km, mp, F, ux, sz, ho, sn, row, a1, a2, rfl, hI, by omega, g1, g2, fun z => absurd hc z, fun _ => ⟨fun z => absurd z hs, fun _ r2 h2 fr2 f2 hI2 => ?_⟩⟩
      have hM2 : MI lay r2 h2 b n tx ep km mp F ux sz ho sn row := hM.of (fr2 b (by omega)) (fun x x0 x1 => f2 x (by omega))
      obtain ⟨hMd2, ⟨e0, e5, e17, e19⟩, ⟨e1, e2, e12, e14, e15, e17r⟩, hWa2, hz2, hkp2, hes2⟩ := id hM2
      refine r_aload_2 (pc := 612) dL_law_612 ?_
      refine r_aload_0 (pc := 613) dL_law_613 ?_
      refine r_iload_3 (pc := 614) dL_law_614 ?_
      refine r_iconst (pc := 615) dL_law_615 ?_
      refine r_iadd (pc := 616) dL_law_616 ?_
      refine r_sld (pc := 617) hX dL_law_617 (by omega) (by omega) (fun i_617 => ?_)
      rw [ha1]
      refine r_aload_0 (pc := 618) dL_law_618 ?_
      refine r_iload_3 (pc := 619) dL_law_619 ?_
      refine r_iconst (pc := 620) dL_law_620 ?_
      refine r_iadd (pc := 621) dL_law_621 ?_
      refine r_sld (pc := 622) hX dL_law_622 (by omega) (by omega) (fun i_622 => ?_)
      rw [ha2]
      refine k_VI2 (pc := 623) c_X8_move lk_L_76 ⟨(Nat.le_of_ble_eq_true rfl), (Nat.le_of_ble_eq_true rfl)⟩ ⟨rfl, rfl⟩ ⟨(Nat.le_of_ble_eq_true rfl), (Nat.le_of_ble_eq_true rfl)⟩ (k := 8) rfl (by decide) hMd2.1 dL_law_623 (Nat.le_of_ble_eq_true rfl) ?_
      refine ⟨b, mp, a1, a2, rfl, hMd2, e2, hT, hR, g1, g2, hWa2, (by rw [e5]; omega), fun z => absurd hc z, fun _ => ⟨fun z => absurd z hs, fun _ h3 hCh => ?_⟩⟩
      refine r_same (pc := 626) (tgt := 1462) (by first | rfl | (simp only [e0, e5, e17, e19, e1, e2, e12, e14, e15, e17r])) dL_law_626 (by decide) ?_
      exact K r2 h3 ⟨qN q, n, tx, ep + 1, kN km (up mp a1 a2), up mp a1 a2, h3 (b + 12), ux, sz, ho, sn, row, (hI2.fr (fun x x0 x1 => hCh.1 x (by omega))).cv (fun j j0 j1 => hCh.2.2.2.2.2 j j0 j1) (fun _ _ _ => rfl) (fun _ _ _ => rfl), hM2.ch hep.2.1 hCh (hz2.u (by have := hT.2.1; have := hT.2.2.1; omega)) ⟨e0, e5, e17, e19⟩, by omega⟩
  · refine r_aload_1 (pc := 598) dL_law_598 ?_
    refine r_aload_0 (pc := 599) dL_law_599 ?_
    refine r_iload_3 (pc := 600) dL_law_600 ?_
    refine r_iconst (pc := 601) dL_law_601 ?_
    refine r_iadd (pc := 602) dL_law_602 ?_
    refine r_sld (pc := 603) hX dL_law_603 (by omega) (by omega) (fun i_603 => ?_)
    rw [ha1]
    refine r_aload_0 (pc := 604) dL_law_604 ?_
    refine r_iload_3 (pc := 605) dL_law_605 ?_
    refine r_iconst (pc := 606) dL_law_606 ?_
    refine r_iadd (pc := 607) dL_law_607 ?_
    refine r_sld (pc := 608) hX dL_law_608 (by omega) (by omega) (fun i_608 => ?_)
    rw [ha2]
    refine k_VI2 (pc := 609) c_X7_move lk_L_73 ⟨(Nat.le_of_ble_eq_true rfl), (Nat.le_of_ble_eq_true rfl)⟩ ⟨rfl, rfl⟩ ⟨(Nat.le_of_ble_eq_true rfl), (Nat.le_of_ble_eq_true rfl)⟩ (k := 7) rfl (by decide) cl0 dL_law_609 (Nat.le_of_ble_eq_true rfl) ?_
    refine ⟨c, q, n, tx, ep, km, mp, F, ux, sz, ho, sn, row, a1, a2, rfl, hI, by omega, g1, g2, fun _ => ?_, fun z => absurd z hc⟩
    have hM2 := hM
    obtain ⟨hMd2, ⟨e0, e5, e17, e19⟩, ⟨e1, e2, e12, e14, e15, e17r⟩, hWa2, hz2, hkp2, hes2⟩ := id hM2
    refine r_aload_2 (pc := 612) dL_law_612 ?_
    refine r_aload_0 (pc := 613) dL_law_613 ?_
    refine r_iload_3 (pc := 614) dL_law_614 ?_
    refine r_iconst (pc := 615) dL_law_615 ?_
    refine r_iadd (pc := 616) dL_law_616 ?_
    refine r_sld (pc := 617) hX dL_law_617 (by omega) (by omega) (fun i_617 => ?_)
    rw [ha1]
    refine r_aload_0 (pc := 618) dL_law_618 ?_
    refine r_iload_3 (pc := 619) dL_law_619 ?_
    refine r_iconst (pc := 620) dL_law_620 ?_
    refine r_iadd (pc := 621) dL_law_621 ?_
    refine r_sld (pc := 622) hX dL_law_622 (by omega) (by omega) (fun i_622 => ?_)
    rw [ha2]
    refine k_VI2 (pc := 623) c_X8_move lk_L_76 ⟨(Nat.le_of_ble_eq_true rfl), (Nat.le_of_ble_eq_true rfl)⟩ ⟨rfl, rfl⟩ ⟨(Nat.le_of_ble_eq_true rfl), (Nat.le_of_ble_eq_true rfl)⟩ (k := 8) rfl (by decide) hMd2.1 dL_law_623 (Nat.le_of_ble_eq_true rfl) ?_
    refine ⟨b, mp, a1, a2, rfl, hMd2, e2, hT, hR, g1, g2, hWa2, (by rw [e5]; omega), fun _ => ?_, fun z => absurd z hc⟩
    refine r_same (pc := 626) (tgt := 1462) (by first | rfl | (simp only [e0, e5, e17, e19, e1, e2, e12, e14, e15, e17r])) dL_law_626 (by decide) ?_
    exact K r h ⟨q, n, tx, ep, km, mp, F, ux, sz, ho, sn, row, hI, hM2, by omega⟩
theorem dL_law_555 : decode code 555 = .ok (.aload_n 1, 1) := by decide +kernel
theorem dL_law_556 : decode code 556 = .ok (.aload_n 0, 1) := by decide +kernel
theorem dL_law_557 : decode code 557 = .ok (.iload_n 3, 1) := by decide +kernel
theorem dL_law_558 : decode code 558 = .ok (.iconst 1, 1) := by decide +kernel
theorem dL_law_559 : decode code 559 = .ok (.iadd, 1) := by decide +kernel
theorem dL_law_560 : decode code 560 = .ok (.iaload, 1) := by decide +kernel
theorem dL_law_561 : decode code 561 = .ok (.aload_n 0, 1) := by decide +kernel
theorem dL_law_562 : decode code 562 = .ok (.iload_n 3, 1) := by decide +kernel
theorem dL_law_563 : decode code 563 = .ok (.iconst 2, 1) := by decide +kernel
theorem dL_law_564 : decode code 564 = .ok (.iadd, 1) := by decide +kernel
theorem dL_law_565 : decode code 565 = .ok (.iaload, 1) := by decide +kernel
theorem dL_law_566 : decode code 566 = .ok (.aload_n 0, 1) := by decide +kernel
theorem dL_law_567 : decode code 567 = .ok (.iload_n 3, 1) := by decide +kernel
theorem dL_law_568 : decode code 568 = .ok (.iconst 3, 1) := by decide +kernel
theorem dL_law_569 : decode code 569 = .ok (.iadd, 1) := by decide +kernel
theorem dL_law_570 : decode code 570 = .ok (.iaload, 1) := by decide +kernel
theorem dL_law_571 : decode code 571 = .ok (.invokevirtual 69, 3) := by decide +kernel
theorem dL_law_574 : decode code 574 = .ok (.aload_n 2, 1) := by decide +kernel
theorem dL_law_575 : decode code 575 = .ok (.aload_n 0, 1) := by decide +kernel
theorem dL_law_576 : decode code 576 = .ok (.iload_n 3, 1) := by decide +kernel
theorem dL_law_577 : decode code 577 = .ok (.iconst 1, 1) := by decide +kernel
theorem dL_law_578 : decode code 578 = .ok (.iadd, 1) := by decide +kernel
theorem dL_law_579 : decode code 579 = .ok (.iaload, 1) := by decide +kernel
theorem dL_law_580 : decode code 580 = .ok (.aload_n 0, 1) := by decide +kernel
theorem dL_law_581 : decode code 581 = .ok (.iload_n 3, 1) := by decide +kernel
theorem dL_law_582 : decode code 582 = .ok (.iconst 2, 1) := by decide +kernel
theorem dL_law_583 : decode code 583 = .ok (.iadd, 1) := by decide +kernel
theorem dL_law_584 : decode code 584 = .ok (.iaload, 1) := by decide +kernel
theorem dL_law_585 : decode code 585 = .ok (.aload_n 0, 1) := by decide +kernel
theorem dL_law_586 : decode code 586 = .ok (.iload_n 3, 1) := by decide +kernel
theorem dL_law_587 : decode code 587 = .ok (.iconst 3, 1) := by decide +kernel
theorem dL_law_588 : decode code 588 = .ok (.iadd, 1) := by decide +kernel
theorem dL_law_589 : decode code 589 = .ok (.iaload, 1) := by decide +kernel
theorem dL_law_590 : decode code 590 = .ok (.invokevirtual 72, 3) := by decide +kernel
theorem dL_law_593 : decode code 593 = .ok (.if_icmp .eq 869, 3) := by decide +kernel
set_option maxHeartbeats 4000000 in
set_option maxRecDepth 20000 in
theorem law_disk {E : EnT} {lay : LyT} {r : RfT} {h : HpT} {c b b0 L N : Nat} {sx : Int → Int} {i : Int} (hX : ScE E b0 L sx) (hi : 0 ≤ i ∧ i + 4 ≤ L) (hL : L ≤ 2048) (hcb : b = c + 101) (hLI : LI lay c b i r h) (K : ∀ r' h', LI lay c b (i + 4) r' h' → St E mL_law 1462 [some (.ref b0), some (.ref c), some (.ref b), some (vI i)] [] (122, 20801) N lay r' h') : St E mL_law 555 [some (.ref b0), some (.ref c), some (.ref b), some (vI i)] [] (122, 20801) N lay r h := by
  obtain ⟨q, n, tx, ep, km, mp, F, ux, sz, ho, sn, row, hI, hM, hle⟩ := hLI
  have hP0 := hI.2.2.2.2.2.1 0 (by omega) (by omega) (by have := hI.2.2.2.2.1.2.1; omega)
  rw [hI.2.2.2.2.2.2.1.1] at hP0
  have hT := hP0.1
  have hR := hP0.2.1
  have hep := hI.2.2.2.2.1
  have cl0 : lay c = (8, 0) := hI.1.1
  obtain ⟨a1, ha1⟩ : ∃ z, sx (i + 1) = z := ⟨_, rfl⟩
  have g1 := sc_rng hX (i + 1)
  rw [ha1] at g1
  obtain ⟨a2, ha2⟩ : ∃ z, sx (i + 2) = z := ⟨_, rfl⟩
  have g2 := sc_rng hX (i + 2)
  rw [ha2] at g2
  obtain ⟨a3, ha3⟩ : ∃ z, sx (i + 3) = z := ⟨_, rfl⟩
  have g3 := sc_rng hX (i + 3)
  rw [ha3] at g3
  by_cases hc : (4 ≤ a1 ∧ a1 ≤ 3 + mp 129) ∧ (0 ≤ a2 ∧ a2 ≤ 40) ∧ (0 ≤ a3 ∧ a3 ≤ 99)
  · by_cases hs : mp 130 = 12
    · refine r_aload_1 (pc := 555) dL_law_555 ?_
      refine r_aload_0 (pc := 556) dL_law_556 ?_
      refine r_iload_3 (pc := 557) dL_law_557 ?_
      refine r_iconst (pc := 558) dL_law_558 ?_
      refine r_iadd (pc := 559) dL_law_559 ?_
      refine r_sld (pc := 560) hX dL_law_560 (by omega) (by omega) (fun i_560 => ?_)
      rw [ha1]
      refine r_aload_0 (pc := 561) dL_law_561 ?_
      refine r_iload_3 (pc := 562) dL_law_562 ?_
      refine r_iconst (pc := 563) dL_law_563 ?_
      refine r_iadd (pc := 564) dL_law_564 ?_
      refine r_sld (pc := 565) hX dL_law_565 (by omega) (by omega) (fun i_565 => ?_)
      rw [ha2]
      refine r_aload_0 (pc := 566) dL_law_566 ?_
      refine r_iload_3 (pc := 567) dL_law_567 ?_
      refine r_iconst (pc := 568) dL_law_568 ?_
      refine r_iadd (pc := 569) dL_law_569 ?_
      refine r_sld (pc := 570) hX dL_law_570 (by omega) (by omega) (fun i_570 => ?_)
      rw [ha3]
      refine k_VI3 (pc := 571) c_X7_disk lk_L_69 ⟨(Nat.le_of_ble_eq_true rfl), (Nat.le_of_ble_eq_true rfl)⟩ ⟨rfl, rfl⟩ ⟨(Nat.le_of_ble_eq_true rfl), (Nat.le_of_ble_eq_true rfl)⟩ (k := 7) rfl (by decide) cl0 dL_law_571 (Nat.le_of_ble_eq_true rfl) ?_
      refine ⟨c, q, n, tx, ep, km, mp, F, ux, sz, ho, sn, row, a1, a2, a3, rfl, hI, by omega, g1, g2, g3, fun z => absurd hc z, fun _ => ⟨fun _ => ?_, fun z => absurd hs z⟩⟩
      have hM2 := hM
      obtain ⟨hMd2, ⟨e0, e5, e17, e19⟩, ⟨e1, e2, e12, e14, e15, e17r⟩, hWa2, hz2, hkp2, hes2⟩ := id hM2
      refine r_aload_2 (pc := 574) dL_law_574 ?_
      refine r_aload_0 (pc := 575) dL_law_575 ?_
      refine r_iload_3 (pc := 576) dL_law_576 ?_
      refine r_iconst (pc := 577) dL_law_577 ?_
      refine r_iadd (pc := 578) dL_law_578 ?_
      refine r_sld (pc := 579) hX dL_law_579 (by omega) (by omega) (fun i_579 => ?_)
      rw [ha1]
      refine r_aload_0 (pc := 580) dL_law_580 ?_
      refine r_iload_3 (pc := 581) dL_law_581 ?_
      refine r_iconst (pc := 582) dL_law_582 ?_
      refine r_iadd (pc := 583) dL_law_583 ?_
      refine r_sld (pc := 584) hX dL_law_584 (by omega) (by omega) (fun i_584 => ?_)
      rw [ha2]
      refine r_aload_0 (pc := 585) dL_law_585 ?_
      refine r_iload_3 (pc := 586) dL_law_586 ?_
      refine r_iconst (pc := 587) dL_law_587 ?_
      refine r_iadd (pc := 588) dL_law_588 ?_
      refine r_sld (pc := 589) hX dL_law_589 (by omega) (by omega) (fun i_589 => ?_)
      rw [ha3]
      refine k_VI3 (pc := 590) c_X8_disk lk_L_72 ⟨(Nat.le_of_ble_eq_true rfl), (Nat.le_of_ble_eq_true rfl)⟩ ⟨rfl, rfl⟩ ⟨(Nat.le_of_ble_eq_true rfl), (Nat.le_of_ble_eq_true rfl)⟩ (k := 8) rfl (by decide) hMd2.1 dL_law_590 (Nat.le_of_ble_eq_true rfl) ?_
      refine ⟨b, mp, a1, a2, a3, rfl, hMd2, e2, hT, hR, g1, g2, g3, hWa2, (by rw [e5]; omega), fun z => absurd hc z, fun _ => ⟨fun _ => ?_, fun z => absurd hs z⟩⟩
      refine r_same (pc := 593) (tgt := 1462) (by first | rfl | (simp only [e0, e5, e17, e19, e1, e2, e12, e14, e15, e17r])) dL_law_593 (by decide) ?_
      exact K r h ⟨q, n, tx, ep, km, mp, F, ux, sz, ho, sn, row, hI, hM2, by omega⟩
    · refine r_aload_1 (pc := 555) dL_law_555 ?_
      refine r_aload_0 (pc := 556) dL_law_556 ?_
      refine r_iload_3 (pc := 557) dL_law_557 ?_
      refine r_iconst (pc := 558) dL_law_558 ?_
      refine r_iadd (pc := 559) dL_law_559 ?_
      refine r_sld (pc := 560) hX dL_law_560 (by omega) (by omega) (fun i_560 => ?_)
      rw [ha1]
      refine r_aload_0 (pc := 561) dL_law_561 ?_
      refine r_iload_3 (pc := 562) dL_law_562 ?_
      refine r_iconst (pc := 563) dL_law_563 ?_
      refine r_iadd (pc := 564) dL_law_564 ?_
      refine r_sld (pc := 565) hX dL_law_565 (by omega) (by omega) (fun i_565 => ?_)
      rw [ha2]
      refine r_aload_0 (pc := 566) dL_law_566 ?_
      refine r_iload_3 (pc := 567) dL_law_567 ?_
      refine r_iconst (pc := 568) dL_law_568 ?_
      refine r_iadd (pc := 569) dL_law_569 ?_
      refine r_sld (pc := 570) hX dL_law_570 (by omega) (by omega) (fun i_570 => ?_)
      rw [ha3]
      refine k_VI3 (pc := 571) c_X7_disk lk_L_69 ⟨(Nat.le_of_ble_eq_true rfl), (Nat.le_of_ble_eq_true rfl)⟩ ⟨rfl, rfl⟩ ⟨(Nat.le_of_ble_eq_true rfl), (Nat.le_of_ble_eq_true rfl)⟩ (k := 7) rfl (by decide) cl0 dL_law_571 (Nat.le_of_ble_eq_true rfl) ?_
      refine ⟨c, q, n, tx, ep, km, mp, F, ux, sz, ho, sn, row, a1, a2, a3, rfl, hI, by omega, g1, g2, g3, fun z => absurd hc z, fun _ => ⟨fun z => absurd z hs, fun _ r2 h2 fr2 f2 hI2 => ?_⟩⟩
      have hM2 : MI lay r2 h2 b n tx ep km mp F ux sz ho sn row := hM.of (fr2 b (by omega)) (fun x x0 x1 => f2 x (by omega))
      obtain ⟨hMd2, ⟨e0, e5, e17, e19⟩, ⟨e1, e2, e12, e14, e15, e17r⟩, hWa2, hz2, hkp2, hes2⟩ := id hM2
      refine r_aload_2 (pc := 574) dL_law_574 ?_
      refine r_aload_0 (pc := 575) dL_law_575 ?_
      refine r_iload_3 (pc := 576) dL_law_576 ?_
      refine r_iconst (pc := 577) dL_law_577 ?_
      refine r_iadd (pc := 578) dL_law_578 ?_
      refine r_sld (pc := 579) hX dL_law_579 (by omega) (by omega) (fun i_579 => ?_)
      rw [ha1]
      refine r_aload_0 (pc := 580) dL_law_580 ?_
      refine r_iload_3 (pc := 581) dL_law_581 ?_
      refine r_iconst (pc := 582) dL_law_582 ?_
      refine r_iadd (pc := 583) dL_law_583 ?_
      refine r_sld (pc := 584) hX dL_law_584 (by omega) (by omega) (fun i_584 => ?_)
      rw [ha2]
      refine r_aload_0 (pc := 585) dL_law_585 ?_
      refine r_iload_3 (pc := 586) dL_law_586 ?_
      refine r_iconst (pc := 587) dL_law_587 ?_
      refine r_iadd (pc := 588) dL_law_588 ?_
      refine r_sld (pc := 589) hX dL_law_589 (by omega) (by omega) (fun i_589 => ?_)
      rw [ha3]
      refine k_VI3 (pc := 590) c_X8_disk lk_L_72 ⟨(Nat.le_of_ble_eq_true rfl), (Nat.le_of_ble_eq_true rfl)⟩ ⟨rfl, rfl⟩ ⟨(Nat.le_of_ble_eq_true rfl), (Nat.le_of_ble_eq_true rfl)⟩ (k := 8) rfl (by decide) hMd2.1 dL_law_590 (Nat.le_of_ble_eq_true rfl) ?_
      refine ⟨b, mp, a1, a2, a3, rfl, hMd2, e2, hT, hR, g1, g2, g3, hWa2, (by rw [e5]; omega), fun z => absurd hc z, fun _ => ⟨fun z => absurd z hs, fun _ h3 hCh => ?_⟩⟩
      refine r_same (pc := 593) (tgt := 1462) (by first | rfl | (simp only [e0, e5, e17, e19, e1, e2, e12, e14, e15, e17r])) dL_law_593 (by decide) ?_
      exact K r2 h3 ⟨qN q, n, tx, ep + 1, kN km (dkM mp a1 a2 a3), dkM mp a1 a2 a3, h3 (b + 12), iO ux (iSl 1 (10 + mp 130 - 10)), sz, ho, sn, row, (hI2.fr (fun x x0 x1 => hCh.1 x (by omega))).cv (fun j j0 j1 => hCh.2.2.2.2.2 j j0 j1) (fun _ _ _ => rfl) (fun _ _ _ => rfl), hM2.ch hep.2.1 hCh (by
        have t3 := hT.2.2.1
        unfold dkM
        exact (((((hz2.u (by omega)).u (by omega)).u (by omega)).u (by omega)).u (by omega)).u (by omega)) ⟨by rw [up_n (by omega)]; exact e0, by rw [up_n (by omega)]; exact e5, by rw [up_s, e17], by rw [up_n (by omega)]; exact e19⟩, by omega⟩
  · refine r_aload_1 (pc := 555) dL_law_555 ?_
    refine r_aload_0 (pc := 556) dL_law_556 ?_
    refine r_iload_3 (pc := 557) dL_law_557 ?_
    refine r_iconst (pc := 558) dL_law_558 ?_
    refine r_iadd (pc := 559) dL_law_559 ?_
    refine r_sld (pc := 560) hX dL_law_560 (by omega) (by omega) (fun i_560 => ?_)
    rw [ha1]
    refine r_aload_0 (pc := 561) dL_law_561 ?_
    refine r_iload_3 (pc := 562) dL_law_562 ?_
    refine r_iconst (pc := 563) dL_law_563 ?_
    refine r_iadd (pc := 564) dL_law_564 ?_
    refine r_sld (pc := 565) hX dL_law_565 (by omega) (by omega) (fun i_565 => ?_)
    rw [ha2]
    refine r_aload_0 (pc := 566) dL_law_566 ?_
    refine r_iload_3 (pc := 567) dL_law_567 ?_
    refine r_iconst (pc := 568) dL_law_568 ?_
    refine r_iadd (pc := 569) dL_law_569 ?_
    refine r_sld (pc := 570) hX dL_law_570 (by omega) (by omega) (fun i_570 => ?_)
    rw [ha3]
    refine k_VI3 (pc := 571) c_X7_disk lk_L_69 ⟨(Nat.le_of_ble_eq_true rfl), (Nat.le_of_ble_eq_true rfl)⟩ ⟨rfl, rfl⟩ ⟨(Nat.le_of_ble_eq_true rfl), (Nat.le_of_ble_eq_true rfl)⟩ (k := 7) rfl (by decide) cl0 dL_law_571 (Nat.le_of_ble_eq_true rfl) ?_
    refine ⟨c, q, n, tx, ep, km, mp, F, ux, sz, ho, sn, row, a1, a2, a3, rfl, hI, by omega, g1, g2, g3, fun _ => ?_, fun z => absurd z hc⟩
    have hM2 := hM
    obtain ⟨hMd2, ⟨e0, e5, e17, e19⟩, ⟨e1, e2, e12, e14, e15, e17r⟩, hWa2, hz2, hkp2, hes2⟩ := id hM2
    refine r_aload_2 (pc := 574) dL_law_574 ?_
    refine r_aload_0 (pc := 575) dL_law_575 ?_
    refine r_iload_3 (pc := 576) dL_law_576 ?_
    refine r_iconst (pc := 577) dL_law_577 ?_
    refine r_iadd (pc := 578) dL_law_578 ?_
    refine r_sld (pc := 579) hX dL_law_579 (by omega) (by omega) (fun i_579 => ?_)
    rw [ha1]
    refine r_aload_0 (pc := 580) dL_law_580 ?_
    refine r_iload_3 (pc := 581) dL_law_581 ?_
    refine r_iconst (pc := 582) dL_law_582 ?_
    refine r_iadd (pc := 583) dL_law_583 ?_
    refine r_sld (pc := 584) hX dL_law_584 (by omega) (by omega) (fun i_584 => ?_)
    rw [ha2]
    refine r_aload_0 (pc := 585) dL_law_585 ?_
    refine r_iload_3 (pc := 586) dL_law_586 ?_
    refine r_iconst (pc := 587) dL_law_587 ?_
    refine r_iadd (pc := 588) dL_law_588 ?_
    refine r_sld (pc := 589) hX dL_law_589 (by omega) (by omega) (fun i_589 => ?_)
    rw [ha3]
    refine k_VI3 (pc := 590) c_X8_disk lk_L_72 ⟨(Nat.le_of_ble_eq_true rfl), (Nat.le_of_ble_eq_true rfl)⟩ ⟨rfl, rfl⟩ ⟨(Nat.le_of_ble_eq_true rfl), (Nat.le_of_ble_eq_true rfl)⟩ (k := 8) rfl (by decide) hMd2.1 dL_law_590 (Nat.le_of_ble_eq_true rfl) ?_
    refine ⟨b, mp, a1, a2, a3, rfl, hMd2, e2, hT, hR, g1, g2, g3, hWa2, (by rw [e5]; omega), fun _ => ?_, fun z => absurd z hc⟩
    refine r_same (pc := 593) (tgt := 1462) (by first | rfl | (simp only [e0, e5, e17, e19, e1, e2, e12, e14, e15, e17r])) dL_law_593 (by decide) ?_
    exact K r h ⟨q, n, tx, ep, km, mp, F, ux, sz, ho, sn, row, hI, hM2, by omega⟩
theorem dL_law_423 : decode code 423 = .ok (.aload_n 1, 1) := by decide +kernel
theorem dL_law_424 : decode code 424 = .ok (.aload_n 0, 1) := by decide +kernel
theorem dL_law_425 : decode code 425 = .ok (.iload_n 3, 1) := by decide +kernel
theorem dL_law_426 : decode code 426 = .ok (.iconst 1, 1) := by decide +kernel
theorem dL_law_427 : decode code 427 = .ok (.iadd, 1) := by decide +kernel
theorem dL_law_428 : decode code 428 = .ok (.iaload, 1) := by decide +kernel
theorem dL_law_429 : decode code 429 = .ok (.aload_n 0, 1) := by decide +kernel
theorem dL_law_430 : decode code 430 = .ok (.iload_n 3, 1) := by decide +kernel
theorem dL_law_431 : decode code 431 = .ok (.iconst 2, 1) := by decide +kernel
theorem dL_law_432 : decode code 432 = .ok (.iadd, 1) := by decide +kernel
theorem dL_law_433 : decode code 433 = .ok (.iaload, 1) := by decide +kernel
theorem dL_law_434 : decode code 434 = .ok (.aload_n 0, 1) := by decide +kernel
theorem dL_law_435 : decode code 435 = .ok (.iload_n 3, 1) := by decide +kernel
theorem dL_law_436 : decode code 436 = .ok (.iconst 3, 1) := by decide +kernel
theorem dL_law_437 : decode code 437 = .ok (.iadd, 1) := by decide +kernel
theorem dL_law_438 : decode code 438 = .ok (.iaload, 1) := by decide +kernel
theorem dL_law_439 : decode code 439 = .ok (.invokevirtual 52, 3) := by decide +kernel
theorem dL_law_442 : decode code 442 = .ok (.aload_n 2, 1) := by decide +kernel
theorem dL_law_443 : decode code 443 = .ok (.aload_n 0, 1) := by decide +kernel
theorem dL_law_444 : decode code 444 = .ok (.iload_n 3, 1) := by decide +kernel
theorem dL_law_445 : decode code 445 = .ok (.iconst 1, 1) := by decide +kernel
theorem dL_law_446 : decode code 446 = .ok (.iadd, 1) := by decide +kernel
theorem dL_law_447 : decode code 447 = .ok (.iaload, 1) := by decide +kernel
theorem dL_law_448 : decode code 448 = .ok (.aload_n 0, 1) := by decide +kernel
theorem dL_law_449 : decode code 449 = .ok (.iload_n 3, 1) := by decide +kernel
theorem dL_law_450 : decode code 450 = .ok (.iconst 2, 1) := by decide +kernel
theorem dL_law_451 : decode code 451 = .ok (.iadd, 1) := by decide +kernel
theorem dL_law_452 : decode code 452 = .ok (.iaload, 1) := by decide +kernel
theorem dL_law_453 : decode code 453 = .ok (.aload_n 0, 1) := by decide +kernel
theorem dL_law_454 : decode code 454 = .ok (.iload_n 3, 1) := by decide +kernel
theorem dL_law_455 : decode code 455 = .ok (.iconst 3, 1) := by decide +kernel
theorem dL_law_456 : decode code 456 = .ok (.iadd, 1) := by decide +kernel
theorem dL_law_457 : decode code 457 = .ok (.iaload, 1) := by decide +kernel
theorem dL_law_458 : decode code 458 = .ok (.invokevirtual 56, 3) := by decide +kernel
theorem dL_law_461 : decode code 461 = .ok (.if_icmp .eq 1001, 3) := by decide +kernel
set_option maxHeartbeats 4000000 in
set_option maxRecDepth 20000 in
theorem law_divert {E : EnT} {lay : LyT} {r : RfT} {h : HpT} {c b b0 L N : Nat} {sx : Int → Int} {i : Int} (hX : ScE E b0 L sx) (hi : 0 ≤ i ∧ i + 4 ≤ L) (hL : L ≤ 2048) (hcb : b = c + 101) (hLI : LI lay c b i r h) (K : ∀ r' h', LI lay c b (i + 4) r' h' → St E mL_law 1462 [some (.ref b0), some (.ref c), some (.ref b), some (vI i)] [] (122, 20801) N lay r' h') : St E mL_law 423 [some (.ref b0), some (.ref c), some (.ref b), some (vI i)] [] (122, 20801) N lay r h := by
  obtain ⟨q, n, tx, ep, km, mp, F, ux, sz, ho, sn, row, hI, hM, hle⟩ := hLI
  have hP0 := hI.2.2.2.2.2.1 0 (by omega) (by omega) (by have := hI.2.2.2.2.1.2.1; omega)
  rw [hI.2.2.2.2.2.2.1.1] at hP0
  have hT := hP0.1
  have hR := hP0.2.1
  have hep := hI.2.2.2.2.1
  have cl0 : lay c = (8, 0) := hI.1.1
  obtain ⟨a1, ha1⟩ : ∃ z, sx (i + 1) = z := ⟨_, rfl⟩
  have g1 := sc_rng hX (i + 1)
  rw [ha1] at g1
  obtain ⟨a2, ha2⟩ : ∃ z, sx (i + 2) = z := ⟨_, rfl⟩
  have g2 := sc_rng hX (i + 2)
  rw [ha2] at g2
  obtain ⟨a3, ha3⟩ : ∃ z, sx (i + 3) = z := ⟨_, rfl⟩
  have g3 := sc_rng hX (i + 3)
  rw [ha3] at g3
  by_cases hc : (0 ≤ a1 ∧ a1 < 16) ∧ (10 ≤ a2 ∧ a2 ≤ 9 + mp 130) ∧ (10 ≤ a3 ∧ a3 ≤ 9 + mp 130) ∧ a2 ≠ a3
  · by_cases hx : ∃ i, 0 ≤ i ∧ i < mp 135 ∧ mp (110 + 3 * i) = a1 ∧ mp (111 + 3 * i) = a2 ∧ mp (112 + 3 * i) = a3
    · refine r_aload_1 (pc := 423) dL_law_423 ?_
      refine r_aload_0 (pc := 424) dL_law_424 ?_
      refine r_iload_3 (pc := 425) dL_law_425 ?_
      refine r_iconst (pc := 426) dL_law_426 ?_
      refine r_iadd (pc := 427) dL_law_427 ?_
      refine r_sld (pc := 428) hX dL_law_428 (by omega) (by omega) (fun i_428 => ?_)
      rw [ha1]
      refine r_aload_0 (pc := 429) dL_law_429 ?_
      refine r_iload_3 (pc := 430) dL_law_430 ?_
      refine r_iconst (pc := 431) dL_law_431 ?_
      refine r_iadd (pc := 432) dL_law_432 ?_
      refine r_sld (pc := 433) hX dL_law_433 (by omega) (by omega) (fun i_433 => ?_)
      rw [ha2]
      refine r_aload_0 (pc := 434) dL_law_434 ?_
      refine r_iload_3 (pc := 435) dL_law_435 ?_
      refine r_iconst (pc := 436) dL_law_436 ?_
      refine r_iadd (pc := 437) dL_law_437 ?_
      refine r_sld (pc := 438) hX dL_law_438 (by omega) (by omega) (fun i_438 => ?_)
      rw [ha3]
      refine k_VI3 (pc := 439) c_X7_divert lk_L_52 ⟨(Nat.le_of_ble_eq_true rfl), (Nat.le_of_ble_eq_true rfl)⟩ ⟨rfl, rfl⟩ ⟨(Nat.le_of_ble_eq_true rfl), (Nat.le_of_ble_eq_true rfl)⟩ (k := 7) rfl (by decide) cl0 dL_law_439 (Nat.le_of_ble_eq_true rfl) ?_
      refine ⟨c, q, n, tx, ep, km, mp, F, ux, sz, ho, sn, row, a1, a2, a3, rfl, hI, by omega, g1, g2, g3, fun z => absurd hc z, fun _ => ⟨fun _ => ?_, fun z => absurd hx z⟩⟩
      have hM2 := hM
      obtain ⟨hMd2, ⟨e0, e5, e17, e19⟩, ⟨e1, e2, e12, e14, e15, e17r⟩, hWa2, hz2, hkp2, hes2⟩ := id hM2
      refine r_aload_2 (pc := 442) dL_law_442 ?_
      refine r_aload_0 (pc := 443) dL_law_443 ?_
      refine r_iload_3 (pc := 444) dL_law_444 ?_
      refine r_iconst (pc := 445) dL_law_445 ?_
      refine r_iadd (pc := 446) dL_law_446 ?_
      refine r_sld (pc := 447) hX dL_law_447 (by omega) (by omega) (fun i_447 => ?_)
      rw [ha1]
      refine r_aload_0 (pc := 448) dL_law_448 ?_
      refine r_iload_3 (pc := 449) dL_law_449 ?_
      refine r_iconst (pc := 450) dL_law_450 ?_
      refine r_iadd (pc := 451) dL_law_451 ?_
      refine r_sld (pc := 452) hX dL_law_452 (by omega) (by omega) (fun i_452 => ?_)
      rw [ha2]
      refine r_aload_0 (pc := 453) dL_law_453 ?_
      refine r_iload_3 (pc := 454) dL_law_454 ?_
      refine r_iconst (pc := 455) dL_law_455 ?_
      refine r_iadd (pc := 456) dL_law_456 ?_
      refine r_sld (pc := 457) hX dL_law_457 (by omega) (by omega) (fun i_457 => ?_)
      rw [ha3]
      refine k_VI3 (pc := 458) c_X8_divert lk_L_56 ⟨(Nat.le_of_ble_eq_true rfl), (Nat.le_of_ble_eq_true rfl)⟩ ⟨rfl, rfl⟩ ⟨(Nat.le_of_ble_eq_true rfl), (Nat.le_of_ble_eq_true rfl)⟩ (k := 8) rfl (by decide) hMd2.1 dL_law_458 (Nat.le_of_ble_eq_true rfl) ?_
      refine ⟨b, mp, a1, a2, a3, rfl, hMd2, e2, hT, hR, g1, g2, g3, hWa2, (by rw [e5]; omega), fun z => absurd hc z, fun _ => ⟨fun _ => ?_, fun z => absurd hx z⟩⟩
      refine r_same (pc := 461) (tgt := 1462) (by first | rfl | (simp only [e0, e5, e17, e19, e1, e2, e12, e14, e15, e17r])) dL_law_461 (by decide) ?_
      exact K r h ⟨q, n, tx, ep, km, mp, F, ux, sz, ho, sn, row, hI, hM2, by omega⟩
    · by_cases hs : mp 135 = 6
      · refine r_aload_1 (pc := 423) dL_law_423 ?_
        refine r_aload_0 (pc := 424) dL_law_424 ?_
        refine r_iload_3 (pc := 425) dL_law_425 ?_
        refine r_iconst (pc := 426) dL_law_426 ?_
        refine r_iadd (pc := 427) dL_law_427 ?_
        refine r_sld (pc := 428) hX dL_law_428 (by omega) (by omega) (fun i_428 => ?_)
        rw [ha1]
        refine r_aload_0 (pc := 429) dL_law_429 ?_
        refine r_iload_3 (pc := 430) dL_law_430 ?_
        refine r_iconst (pc := 431) dL_law_431 ?_
        refine r_iadd (pc := 432) dL_law_432 ?_
        refine r_sld (pc := 433) hX dL_law_433 (by omega) (by omega) (fun i_433 => ?_)
        rw [ha2]
        refine r_aload_0 (pc := 434) dL_law_434 ?_
        refine r_iload_3 (pc := 435) dL_law_435 ?_
        refine r_iconst (pc := 436) dL_law_436 ?_
        refine r_iadd (pc := 437) dL_law_437 ?_
        refine r_sld (pc := 438) hX dL_law_438 (by omega) (by omega) (fun i_438 => ?_)
        rw [ha3]
        refine k_VI3 (pc := 439) c_X7_divert lk_L_52 ⟨(Nat.le_of_ble_eq_true rfl), (Nat.le_of_ble_eq_true rfl)⟩ ⟨rfl, rfl⟩ ⟨(Nat.le_of_ble_eq_true rfl), (Nat.le_of_ble_eq_true rfl)⟩ (k := 7) rfl (by decide) cl0 dL_law_439 (Nat.le_of_ble_eq_true rfl) ?_
        refine ⟨c, q, n, tx, ep, km, mp, F, ux, sz, ho, sn, row, a1, a2, a3, rfl, hI, by omega, g1, g2, g3, fun z => absurd hc z, fun _ => ⟨fun z => absurd z hx, fun _ => ⟨fun _ => ?_, fun z => absurd hs z⟩⟩⟩
        have hM2 := hM
        obtain ⟨hMd2, ⟨e0, e5, e17, e19⟩, ⟨e1, e2, e12, e14, e15, e17r⟩, hWa2, hz2, hkp2, hes2⟩ := id hM2
        refine r_aload_2 (pc := 442) dL_law_442 ?_
        refine r_aload_0 (pc := 443) dL_law_443 ?_
        refine r_iload_3 (pc := 444) dL_law_444 ?_
        refine r_iconst (pc := 445) dL_law_445 ?_
        refine r_iadd (pc := 446) dL_law_446 ?_
        refine r_sld (pc := 447) hX dL_law_447 (by omega) (by omega) (fun i_447 => ?_)
        rw [ha1]
        refine r_aload_0 (pc := 448) dL_law_448 ?_
        refine r_iload_3 (pc := 449) dL_law_449 ?_
        refine r_iconst (pc := 450) dL_law_450 ?_
        refine r_iadd (pc := 451) dL_law_451 ?_
        refine r_sld (pc := 452) hX dL_law_452 (by omega) (by omega) (fun i_452 => ?_)
        rw [ha2]
        refine r_aload_0 (pc := 453) dL_law_453 ?_
        refine r_iload_3 (pc := 454) dL_law_454 ?_
        refine r_iconst (pc := 455) dL_law_455 ?_
        refine r_iadd (pc := 456) dL_law_456 ?_
        refine r_sld (pc := 457) hX dL_law_457 (by omega) (by omega) (fun i_457 => ?_)
        rw [ha3]
        refine k_VI3 (pc := 458) c_X8_divert lk_L_56 ⟨(Nat.le_of_ble_eq_true rfl), (Nat.le_of_ble_eq_true rfl)⟩ ⟨rfl, rfl⟩ ⟨(Nat.le_of_ble_eq_true rfl), (Nat.le_of_ble_eq_true rfl)⟩ (k := 8) rfl (by decide) hMd2.1 dL_law_458 (Nat.le_of_ble_eq_true rfl) ?_
        refine ⟨b, mp, a1, a2, a3, rfl, hMd2, e2, hT, hR, g1, g2, g3, hWa2, (by rw [e5]; omega), fun z => absurd hc z, fun _ => ⟨fun z => absurd z hx, fun _ => ⟨fun _ => ?_, fun z => absurd hs z⟩⟩⟩
        refine r_same (pc := 461) (tgt := 1462) (by first | rfl | (simp only [e0, e5, e17, e19, e1, e2, e12, e14, e15, e17r])) dL_law_461 (by decide) ?_
        exact K r h ⟨q, n, tx, ep, km, mp, F, ux, sz, ho, sn, row, hI, hM2, by omega⟩
      · refine r_aload_1 (pc := 423) dL_law_423 ?_
        refine r_aload_0 (pc := 424) dL_law_424 ?_
        refine r_iload_3 (pc := 425) dL_law_425 ?_
        refine r_iconst (pc := 426) dL_law_426 ?_
        refine r_iadd (pc := 427) dL_law_427 ?_
        refine r_sld (pc := 428) hX dL_law_428 (by omega) (by omega) (fun i_428 => ?_)
        rw [ha1]
        refine r_aload_0 (pc := 429) dL_law_429 ?_
        refine r_iload_3 (pc := 430) dL_law_430 ?_
        refine r_iconst (pc := 431) dL_law_431 ?_
        refine r_iadd (pc := 432) dL_law_432 ?_
        refine r_sld (pc := 433) hX dL_law_433 (by omega) (by omega) (fun i_433 => ?_)
        rw [ha2]
        refine r_aload_0 (pc := 434) dL_law_434 ?_
        refine r_iload_3 (pc := 435) dL_law_435 ?_
        refine r_iconst (pc := 436) dL_law_436 ?_
        refine r_iadd (pc := 437) dL_law_437 ?_
        refine r_sld (pc := 438) hX dL_law_438 (by omega) (by omega) (fun i_438 => ?_)
        rw [ha3]
        refine k_VI3 (pc := 439) c_X7_divert lk_L_52 ⟨(Nat.le_of_ble_eq_true rfl), (Nat.le_of_ble_eq_true rfl)⟩ ⟨rfl, rfl⟩ ⟨(Nat.le_of_ble_eq_true rfl), (Nat.le_of_ble_eq_true rfl)⟩ (k := 7) rfl (by decide) cl0 dL_law_439 (Nat.le_of_ble_eq_true rfl) ?_
        refine ⟨c, q, n, tx, ep, km, mp, F, ux, sz, ho, sn, row, a1, a2, a3, rfl, hI, by omega, g1, g2, g3, fun z => absurd hc z, fun _ => ⟨fun z => absurd z hx, fun _ => ⟨fun z => absurd z hs, fun _ r2 h2 fr2 f2 hI2 => ?_⟩⟩⟩
        have hM2 : MI lay r2 h2 b n tx ep km mp F ux sz ho sn row := hM.of (fr2 b (by omega)) (fun x x0 x1 => f2 x (by omega))
        obtain ⟨hMd2, ⟨e0, e5, e17, e19⟩, ⟨e1, e2, e12, e14, e15, e17r⟩, hWa2, hz2, hkp2, hes2⟩ := id hM2
        refine r_aload_2 (pc := 442) dL_law_442 ?_
        refine r_aload_0 (pc := 443) dL_law_443 ?_
        refine r_iload_3 (pc := 444) dL_law_444 ?_
        refine r_iconst (pc := 445) dL_law_445 ?_
        refine r_iadd (pc := 446) dL_law_446 ?_
        refine r_sld (pc := 447) hX dL_law_447 (by omega) (by omega) (fun i_447 => ?_)
        rw [ha1]
        refine r_aload_0 (pc := 448) dL_law_448 ?_
        refine r_iload_3 (pc := 449) dL_law_449 ?_
        refine r_iconst (pc := 450) dL_law_450 ?_
        refine r_iadd (pc := 451) dL_law_451 ?_
        refine r_sld (pc := 452) hX dL_law_452 (by omega) (by omega) (fun i_452 => ?_)
        rw [ha2]
        refine r_aload_0 (pc := 453) dL_law_453 ?_
        refine r_iload_3 (pc := 454) dL_law_454 ?_
        refine r_iconst (pc := 455) dL_law_455 ?_
        refine r_iadd (pc := 456) dL_law_456 ?_
        refine r_sld (pc := 457) hX dL_law_457 (by omega) (by omega) (fun i_457 => ?_)
        rw [ha3]
        refine k_VI3 (pc := 458) c_X8_divert lk_L_56 ⟨(Nat.le_of_ble_eq_true rfl), (Nat.le_of_ble_eq_true rfl)⟩ ⟨rfl, rfl⟩ ⟨(Nat.le_of_ble_eq_true rfl), (Nat.le_of_ble_eq_true rfl)⟩ (k := 8) rfl (by decide) hMd2.1 dL_law_458 (Nat.le_of_ble_eq_true rfl) ?_
        refine ⟨b, mp, a1, a2, a3, rfl, hMd2, e2, hT, hR, g1, g2, g3, hWa2, (by rw [e5]; omega), fun z => absurd hc z, fun _ => ⟨fun z => absurd z hx, fun _ => ⟨fun z => absurd z hs, fun _ h3 hCh => ?_⟩⟩⟩
        refine r_same (pc := 461) (tgt := 1462) (by first | rfl | (simp only [e0, e5, e17, e19, e1, e2, e12, e14, e15, e17r])) dL_law_461 (by decide) ?_
        exact K r2 h3 ⟨qN q, n, tx, ep + 1, kN km (dvM mp a1 a2 a3), dvM mp a1 a2 a3, h3 (b + 12), ux, sz, ho, sn, row, (hI2.fr (fun x x0 x1 => hCh.1 x (by omega))).cv (fun j j0 j1 => hCh.2.2.2.2.2 j j0 j1) (fun _ _ _ => rfl) (fun _ _ _ => rfl), hM2.ch hep.2.1 hCh (by
          have r5 := hR.2.2.2.2.1
          unfold dvM
          exact (((hz2.u (by omega)).u (by omega)).u (by omega)).u (by omega)) ⟨e0, e5, e17, e19⟩, by omega⟩
  · refine r_aload_1 (pc := 423) dL_law_423 ?_
    refine r_aload_0 (pc := 424) dL_law_424 ?_
    refine r_iload_3 (pc := 425) dL_law_425 ?_
    refine r_iconst (pc := 426) dL_law_426 ?_
    refine r_iadd (pc := 427) dL_law_427 ?_
    refine r_sld (pc := 428) hX dL_law_428 (by omega) (by omega) (fun i_428 => ?_)
    rw [ha1]
    refine r_aload_0 (pc := 429) dL_law_429 ?_
    refine r_iload_3 (pc := 430) dL_law_430 ?_
    refine r_iconst (pc := 431) dL_law_431 ?_
    refine r_iadd (pc := 432) dL_law_432 ?_
    refine r_sld (pc := 433) hX dL_law_433 (by omega) (by omega) (fun i_433 => ?_)
    rw [ha2]
    refine r_aload_0 (pc := 434) dL_law_434 ?_
    refine r_iload_3 (pc := 435) dL_law_435 ?_
    refine r_iconst (pc := 436) dL_law_436 ?_
    refine r_iadd (pc := 437) dL_law_437 ?_
    refine r_sld (pc := 438) hX dL_law_438 (by omega) (by omega) (fun i_438 => ?_)
    rw [ha3]
    refine k_VI3 (pc := 439) c_X7_divert lk_L_52 ⟨(Nat.le_of_ble_eq_true rfl), (Nat.le_of_ble_eq_true rfl)⟩ ⟨rfl, rfl⟩ ⟨(Nat.le_of_ble_eq_true rfl), (Nat.le_of_ble_eq_true rfl)⟩ (k := 7) rfl (by decide) cl0 dL_law_439 (Nat.le_of_ble_eq_true rfl) ?_
    refine ⟨c, q, n, tx, ep, km, mp, F, ux, sz, ho, sn, row, a1, a2, a3, rfl, hI, by omega, g1, g2, g3, fun _ => ?_, fun z => absurd z hc⟩
    have hM2 := hM
    obtain ⟨hMd2, ⟨e0, e5, e17, e19⟩, ⟨e1, e2, e12, e14, e15, e17r⟩, hWa2, hz2, hkp2, hes2⟩ := id hM2
    refine r_aload_2 (pc := 442) dL_law_442 ?_
    refine r_aload_0 (pc := 443) dL_law_443 ?_
    refine r_iload_3 (pc := 444) dL_law_444 ?_
    refine r_iconst (pc := 445) dL_law_445 ?_
    refine r_iadd (pc := 446) dL_law_446 ?_
    refine r_sld (pc := 447) hX dL_law_447 (by omega) (by omega) (fun i_447 => ?_)
    rw [ha1]
    refine r_aload_0 (pc := 448) dL_law_448 ?_
    refine r_iload_3 (pc := 449) dL_law_449 ?_
    refine r_iconst (pc := 450) dL_law_450 ?_
    refine r_iadd (pc := 451) dL_law_451 ?_
    refine r_sld (pc := 452) hX dL_law_452 (by omega) (by omega) (fun i_452 => ?_)
    rw [ha2]
    refine r_aload_0 (pc := 453) dL_law_453 ?_
    refine r_iload_3 (pc := 454) dL_law_454 ?_
    refine r_iconst (pc := 455) dL_law_455 ?_
    refine r_iadd (pc := 456) dL_law_456 ?_
    refine r_sld (pc := 457) hX dL_law_457 (by omega) (by omega) (fun i_457 => ?_)
    rw [ha3]
    refine k_VI3 (pc := 458) c_X8_divert lk_L_56 ⟨(Nat.le_of_ble_eq_true rfl), (Nat.le_of_ble_eq_true rfl)⟩ ⟨rfl, rfl⟩ ⟨(Nat.le_of_ble_eq_true rfl), (Nat.le_of_ble_eq_true rfl)⟩ (k := 8) rfl (by decide) hMd2.1 dL_law_458 (Nat.le_of_ble_eq_true rfl) ?_
    refine ⟨b, mp, a1, a2, a3, rfl, hMd2, e2, hT, hR, g1, g2, g3, hWa2, (by rw [e5]; omega), fun _ => ?_, fun z => absurd z hc⟩
    refine r_same (pc := 461) (tgt := 1462) (by first | rfl | (simp only [e0, e5, e17, e19, e1, e2, e12, e14, e15, e17r])) dL_law_461 (by decide) ?_
    exact K r h ⟨q, n, tx, ep, km, mp, F, ux, sz, ho, sn, row, hI, hM2, by omega⟩
theorem dL_law_466 : decode code 466 = .ok (.aload_n 1, 1) := by decide +kernel
theorem dL_law_467 : decode code 467 = .ok (.aload_n 0, 1) := by decide +kernel
theorem dL_law_468 : decode code 468 = .ok (.iload_n 3, 1) := by decide +kernel
theorem dL_law_469 : decode code 469 = .ok (.iconst 1, 1) := by decide +kernel
theorem dL_law_470 : decode code 470 = .ok (.iadd, 1) := by decide +kernel
theorem dL_law_471 : decode code 471 = .ok (.iaload, 1) := by decide +kernel
theorem dL_law_472 : decode code 472 = .ok (.invokevirtual 57, 3) := by decide +kernel
theorem dL_law_475 : decode code 475 = .ok (.aload_n 2, 1) := by decide +kernel
theorem dL_law_476 : decode code 476 = .ok (.aload_n 0, 1) := by decide +kernel
theorem dL_law_477 : decode code 477 = .ok (.iload_n 3, 1) := by decide +kernel
theorem dL_law_478 : decode code 478 = .ok (.iconst 1, 1) := by decide +kernel
theorem dL_law_479 : decode code 479 = .ok (.iadd, 1) := by decide +kernel
theorem dL_law_480 : decode code 480 = .ok (.iaload, 1) := by decide +kernel
theorem dL_law_481 : decode code 481 = .ok (.invokevirtual 60, 3) := by decide +kernel
theorem dL_law_484 : decode code 484 = .ok (.if_icmp .eq 978, 3) := by decide +kernel
set_option maxHeartbeats 4000000 in
set_option maxRecDepth 20000 in
theorem law_lift {E : EnT} {lay : LyT} {r : RfT} {h : HpT} {c b b0 L N : Nat} {sx : Int → Int} {i : Int} (hX : ScE E b0 L sx) (hi : 0 ≤ i ∧ i + 4 ≤ L) (hL : L ≤ 2048) (hcb : b = c + 101) (hLI : LI lay c b i r h) (K : ∀ r' h', LI lay c b (i + 4) r' h' → St E mL_law 1462 [some (.ref b0), some (.ref c), some (.ref b), some (vI i)] [] (122, 20801) N lay r' h') : St E mL_law 466 [some (.ref b0), some (.ref c), some (.ref b), some (vI i)] [] (122, 20801) N lay r h := by
  obtain ⟨q, n, tx, ep, km, mp, F, ux, sz, ho, sn, row, hI, hM, hle⟩ := hLI
  have hP0 := hI.2.2.2.2.2.1 0 (by omega) (by omega) (by have := hI.2.2.2.2.1.2.1; omega)
  rw [hI.2.2.2.2.2.2.1.1] at hP0
  have hT := hP0.1
  have hR := hP0.2.1
  have hep := hI.2.2.2.2.1
  have cl0 : lay c = (8, 0) := hI.1.1
  obtain ⟨a1, ha1⟩ : ∃ z, sx (i + 1) = z := ⟨_, rfl⟩
  have g1 := sc_rng hX (i + 1)
  rw [ha1] at g1
  by_cases hc : 0 ≤ a1 ∧ a1 ≤ mp 135 - 1
  · refine r_aload_1 (pc := 466) dL_law_466 ?_
    refine r_aload_0 (pc := 467) dL_law_467 ?_
    refine r_iload_3 (pc := 468) dL_law_468 ?_
    refine r_iconst (pc := 469) dL_law_469 ?_
    refine r_iadd (pc := 470) dL_law_470 ?_
    refine r_sld (pc := 471) hX dL_law_471 (by omega) (by omega) (fun i_471 => ?_)
    rw [ha1]
    refine k_VI1 (pc := 472) c_X7_lift lk_L_57 ⟨(Nat.le_of_ble_eq_true rfl), (Nat.le_of_ble_eq_true rfl)⟩ ⟨rfl, rfl⟩ ⟨(Nat.le_of_ble_eq_true rfl), (Nat.le_of_ble_eq_true rfl)⟩ (k := 7) rfl (by decide) cl0 dL_law_472 (Nat.le_of_ble_eq_true rfl) ?_
    refine ⟨c, q, n, tx, ep, km, mp, F, ux, sz, ho, sn, row, a1, rfl, hI, by omega, g1, fun z => absurd hc z, fun _ r2 h2 fr2 f2 hI2 => ?_⟩
    have hM2 : MI lay r2 h2 b n tx ep km mp F ux sz ho sn row := hM.of (fr2 b (by omega)) (fun x x0 x1 => f2 x (by omega))
    obtain ⟨hMd2, ⟨e0, e5, e17, e19⟩, ⟨e1, e2, e12, e14, e15, e17r⟩, hWa2, hz2, hkp2, hes2⟩ := id hM2
    refine r_aload_2 (pc := 475) dL_law_475 ?_
    refine r_aload_0 (pc := 476) dL_law_476 ?_
    refine r_iload_3 (pc := 477) dL_law_477 ?_
    refine r_iconst (pc := 478) dL_law_478 ?_
    refine r_iadd (pc := 479) dL_law_479 ?_
    refine r_sld (pc := 480) hX dL_law_480 (by omega) (by omega) (fun i_480 => ?_)
    rw [ha1]
    refine k_VI1 (pc := 481) c_X8_lift lk_L_60 ⟨(Nat.le_of_ble_eq_true rfl), (Nat.le_of_ble_eq_true rfl)⟩ ⟨rfl, rfl⟩ ⟨(Nat.le_of_ble_eq_true rfl), (Nat.le_of_ble_eq_true rfl)⟩ (k := 8) rfl (by decide) hMd2.1 dL_law_481 (Nat.le_of_ble_eq_true rfl) ?_
    refine ⟨b, mp, a1, rfl, hMd2, e2, hT, hR, g1, hWa2, (by rw [e5]; omega), fun z => absurd hc z, fun _ h3 hCh => ?_⟩
    refine r_same (pc := 484) (tgt := 1462) (by first | rfl | (simp only [e0, e5, e17, e19, e1, e2, e12, e14, e15, e17r])) dL_law_484 (by decide) ?_
    exact K r2 h3 ⟨qN q, n, tx, ep + 1, kN km (lfR mp a1 (3 * (mp 135 - 1))), lfR mp a1 (3 * (mp 135 - 1)), h3 (b + 12), ux, sz, ho, sn, row, (hI2.fr (fun x x0 x1 => hCh.1 x (by omega))).cv (fun j j0 j1 => hCh.2.2.2.2.2 j j0 j1) (fun _ _ _ => rfl) (fun _ _ _ => rfl), hM2.ch hep.2.1 hCh (fun j hj => by
      have r5 := hR.2.2.2.2.1
      unfold lfR
      rw [if_neg (by omega), up_n (by omega)]; exact hz2 j hj) ⟨e0, e5, e17, e19⟩, by omega⟩
  · refine r_aload_1 (pc := 466) dL_law_466 ?_
    refine r_aload_0 (pc := 467) dL_law_467 ?_
    refine r_iload_3 (pc := 468) dL_law_468 ?_
    refine r_iconst (pc := 469) dL_law_469 ?_
    refine r_iadd (pc := 470) dL_law_470 ?_
    refine r_sld (pc := 471) hX dL_law_471 (by omega) (by omega) (fun i_471 => ?_)
    rw [ha1]
    refine k_VI1 (pc := 472) c_X7_lift lk_L_57 ⟨(Nat.le_of_ble_eq_true rfl), (Nat.le_of_ble_eq_true rfl)⟩ ⟨rfl, rfl⟩ ⟨(Nat.le_of_ble_eq_true rfl), (Nat.le_of_ble_eq_true rfl)⟩ (k := 7) rfl (by decide) cl0 dL_law_472 (Nat.le_of_ble_eq_true rfl) ?_
    refine ⟨c, q, n, tx, ep, km, mp, F, ux, sz, ho, sn, row, a1, rfl, hI, by omega, g1, fun _ => ?_, fun z => absurd z hc⟩
    have hM2 := hM
    obtain ⟨hMd2, ⟨e0, e5, e17, e19⟩, ⟨e1, e2, e12, e14, e15, e17r⟩, hWa2, hz2, hkp2, hes2⟩ := id hM2
    refine r_aload_2 (pc := 475) dL_law_475 ?_
    refine r_aload_0 (pc := 476) dL_law_476 ?_
    refine r_iload_3 (pc := 477) dL_law_477 ?_
    refine r_iconst (pc := 478) dL_law_478 ?_
    refine r_iadd (pc := 479) dL_law_479 ?_
    refine r_sld (pc := 480) hX dL_law_480 (by omega) (by omega) (fun i_480 => ?_)
    rw [ha1]
    refine k_VI1 (pc := 481) c_X8_lift lk_L_60 ⟨(Nat.le_of_ble_eq_true rfl), (Nat.le_of_ble_eq_true rfl)⟩ ⟨rfl, rfl⟩ ⟨(Nat.le_of_ble_eq_true rfl), (Nat.le_of_ble_eq_true rfl)⟩ (k := 8) rfl (by decide) hMd2.1 dL_law_481 (Nat.le_of_ble_eq_true rfl) ?_
    refine ⟨b, mp, a1, rfl, hMd2, e2, hT, hR, g1, hWa2, (by rw [e5]; omega), fun _ => ?_, fun z => absurd z hc⟩
    refine r_same (pc := 484) (tgt := 1462) (by first | rfl | (simp only [e0, e5, e17, e19, e1, e2, e12, e14, e15, e17r])) dL_law_484 (by decide) ?_
    exact K r h ⟨q, n, tx, ep, km, mp, F, ux, sz, ho, sn, row, hI, hM2, by omega⟩
theorem dL_law_410 : decode code 410 = .ok (.aload_n 1, 1) := by decide +kernel
theorem dL_law_411 : decode code 411 = .ok (.invokevirtual 48, 3) := by decide +kernel
theorem dL_law_414 : decode code 414 = .ok (.aload_n 2, 1) := by decide +kernel
theorem dL_law_415 : decode code 415 = .ok (.invokevirtual 51, 3) := by decide +kernel
theorem dL_law_418 : decode code 418 = .ok (.if_icmp .eq 1044, 3) := by decide +kernel
set_option maxHeartbeats 4000000 in
set_option maxRecDepth 20000 in
theorem law_refill {E : EnT} {lay : LyT} {r : RfT} {h : HpT} {c b b0 L N : Nat} {sx : Int → Int} {i : Int} (hX : ScE E b0 L sx) (hi : 0 ≤ i ∧ i + 4 ≤ L) (hL : L ≤ 2048) (hcb : b = c + 101) (hLI : LI lay c b i r h) (K : ∀ r' h', LI lay c b (i + 4) r' h' → St E mL_law 1462 [some (.ref b0), some (.ref c), some (.ref b), some (vI i)] [] (122, 20801) N lay r' h') : St E mL_law 410 [some (.ref b0), some (.ref c), some (.ref b), some (vI i)] [] (122, 20801) N lay r h := by
  obtain ⟨q, n, tx, ep, km, mp, F, ux, sz, ho, sn, row, hI, hM, hle⟩ := hLI
  have hP0 := hI.2.2.2.2.2.1 0 (by omega) (by omega) (by have := hI.2.2.2.2.1.2.1; omega)
  rw [hI.2.2.2.2.2.2.1.1] at hP0
  have hT := hP0.1
  have hR := hP0.2.1
  have hep := hI.2.2.2.2.1
  have cl0 : lay c = (8, 0) := hI.1.1
  by_cases hs : sm (rfF mp (ldF ho sz)) (mp 130).toNat = 0
  · refine r_aload_1 (pc := 410) dL_law_410 ?_
    refine k_VI0 (pc := 411) c_X7_refill lk_L_48 ⟨(Nat.le_of_ble_eq_true rfl), (Nat.le_of_ble_eq_true rfl)⟩ ⟨rfl, rfl⟩ ⟨(Nat.le_of_ble_eq_true rfl), (Nat.le_of_ble_eq_true rfl)⟩ (k := 7) rfl (by decide) cl0 dL_law_411 (Nat.le_of_ble_eq_true rfl) ?_
    refine ⟨c, q, n, tx, ep, km, mp, F, ux, sz, ho, sn, row, rfl, hI, by omega, ⟨fun _ => ?_, fun z => absurd hs z⟩⟩
    have hM2 := hM
    obtain ⟨hMd2, ⟨e0, e5, e17, e19⟩, ⟨e1, e2, e12, e14, e15, e17r⟩, hWa2, hz2, hkp2, hes2⟩ := id hM2
    refine r_aload_2 (pc := 414) dL_law_414 ?_
    refine k_VI0 (pc := 415) c_X8_refill lk_L_51 ⟨(Nat.le_of_ble_eq_true rfl), (Nat.le_of_ble_eq_true rfl)⟩ ⟨rfl, rfl⟩ ⟨(Nat.le_of_ble_eq_true rfl), (Nat.le_of_ble_eq_true rfl)⟩ (k := 8) rfl (by decide) hMd2.1 dL_law_415 (Nat.le_of_ble_eq_true rfl) ?_
    refine ⟨b, mp, rfl, hMd2, e2, hT, hR, hWa2, (by rw [e5]; omega), (by rw [e15]; exact hI.2.2.2.2.2.2.2.2.1.2.2), ⟨fun _ => ?_, fun z => absurd hs (by rw [e14, e15] at z; exact z)⟩⟩
    refine r_same (pc := 418) (tgt := 1462) (by first | rfl | (simp only [e0, e5, e17, e19, e1, e2, e12, e14, e15, e17r])) dL_law_418 (by decide) ?_
    exact K r h ⟨q, n, tx, ep, km, mp, F, ux, sz, ho, sn, row, hI, hM2, by omega⟩
  · refine r_aload_1 (pc := 410) dL_law_410 ?_
    refine k_VI0 (pc := 411) c_X7_refill lk_L_48 ⟨(Nat.le_of_ble_eq_true rfl), (Nat.le_of_ble_eq_true rfl)⟩ ⟨rfl, rfl⟩ ⟨(Nat.le_of_ble_eq_true rfl), (Nat.le_of_ble_eq_true rfl)⟩ (k := 7) rfl (by decide) cl0 dL_law_411 (Nat.le_of_ble_eq_true rfl) ?_
    refine ⟨c, q, n, tx, ep, km, mp, F, ux, sz, ho, sn, row, rfl, hI, by omega, ⟨fun z => absurd z hs, fun _ r2 h2 fr2 f2 hI2 => ?_⟩⟩
    have hM2 : MI lay r2 h2 b n tx ep km mp F ux sz ho sn row := hM.of (fr2 b (by omega)) (fun x x0 x1 => f2 x (by omega))
    obtain ⟨hMd2, ⟨e0, e5, e17, e19⟩, ⟨e1, e2, e12, e14, e15, e17r⟩, hWa2, hz2, hkp2, hes2⟩ := id hM2
    refine r_aload_2 (pc := 414) dL_law_414 ?_
    refine k_VI0 (pc := 415) c_X8_refill lk_L_51 ⟨(Nat.le_of_ble_eq_true rfl), (Nat.le_of_ble_eq_true rfl)⟩ ⟨rfl, rfl⟩ ⟨(Nat.le_of_ble_eq_true rfl), (Nat.le_of_ble_eq_true rfl)⟩ (k := 8) rfl (by decide) hMd2.1 dL_law_415 (Nat.le_of_ble_eq_true rfl) ?_
    refine ⟨b, mp, rfl, hMd2, e2, hT, hR, hWa2, (by rw [e5]; omega), (by rw [e15]; exact hI.2.2.2.2.2.2.2.2.1.2.2), ⟨fun z => absurd (by rw [e14, e15] at z; exact z) hs, fun _ h3 hCh => ?_⟩⟩
    refine r_same (pc := 418) (tgt := 1462) (by first | rfl | (simp only [e0, e5, e17, e19, e1, e2, e12, e14, e15, e17r])) dL_law_418 (by decide) ?_
    rw [e14, e15] at hCh
    exact K r2 h3 ⟨qN q, n, tx, ep + 1, kN km (rfR mp (ldF ho sz) (mp 130)), rfR mp (ldF ho sz) (mp 130), h3 (b + 12), ux, sz, ho, sn, row, (hI2.fr (fun x x0 x1 => hCh.1 x (by omega))).cv (fun j j0 j1 => hCh.2.2.2.2.2 j j0 j1) (fun _ _ _ => rfl) (fun _ _ _ => rfl), hM2.ch hep.2.1 hCh (fun j hj => by
      have t3 := hT.2.2.1
      unfold rfR
      rw [if_neg (by omega)]; exact hz2 j hj) ⟨e0, e5, e17, e19⟩, by omega⟩
theorem dL_law_631 : decode code 631 = .ok (.aload_n 1, 1) := by decide +kernel
theorem dL_law_632 : decode code 632 = .ok (.aload_n 0, 1) := by decide +kernel
theorem dL_law_633 : decode code 633 = .ok (.iload_n 3, 1) := by decide +kernel
theorem dL_law_634 : decode code 634 = .ok (.iconst 1, 1) := by decide +kernel
theorem dL_law_635 : decode code 635 = .ok (.iadd, 1) := by decide +kernel
theorem dL_law_636 : decode code 636 = .ok (.iaload, 1) := by decide +kernel
theorem dL_law_637 : decode code 637 = .ok (.invokevirtual 77, 3) := by decide +kernel
theorem dL_law_640 : decode code 640 = .ok (.aload_n 2, 1) := by decide +kernel
theorem dL_law_641 : decode code 641 = .ok (.aload_n 0, 1) := by decide +kernel
theorem dL_law_642 : decode code 642 = .ok (.iload_n 3, 1) := by decide +kernel
theorem dL_law_643 : decode code 643 = .ok (.iconst 1, 1) := by decide +kernel
theorem dL_law_644 : decode code 644 = .ok (.iadd, 1) := by decide +kernel
theorem dL_law_645 : decode code 645 = .ok (.iaload, 1) := by decide +kernel
theorem dL_law_646 : decode code 646 = .ok (.invokevirtual 80, 3) := by decide +kernel
theorem dL_law_649 : decode code 649 = .ok (.if_icmp .eq 813, 3) := by decide +kernel
set_option maxHeartbeats 4000000 in
set_option maxRecDepth 20000 in
theorem law_back {E : EnT} {lay : LyT} {r : RfT} {h : HpT} {c b b0 L N : Nat} {sx : Int → Int} {i : Int} (hX : ScE E b0 L sx) (hi : 0 ≤ i ∧ i + 4 ≤ L) (hL : L ≤ 2048) (hcb : b = c + 101) (hLI : LI lay c b i r h) (K : ∀ r' h', LI lay c b (i + 4) r' h' → St E mL_law 1462 [some (.ref b0), some (.ref c), some (.ref b), some (vI i)] [] (122, 20801) N lay r' h') : St E mL_law 631 [some (.ref b0), some (.ref c), some (.ref b), some (vI i)] [] (122, 20801) N lay r h := by
  obtain ⟨q, n, tx, ep, km, mp, F, ux, sz, ho, sn, row, hI, hM, hle⟩ := hLI
  have hP0 := hI.2.2.2.2.2.1 0 (by omega) (by omega) (by have := hI.2.2.2.2.1.2.1; omega)
  rw [hI.2.2.2.2.2.2.1.1] at hP0
  have hT := hP0.1
  have hR := hP0.2.1
  have hep := hI.2.2.2.2.1
  have cl0 : lay c = (8, 0) := hI.1.1
  obtain ⟨a1, ha1⟩ : ∃ z, sx (i + 1) = z := ⟨_, rfl⟩
  have g1 := sc_rng hX (i + 1)
  rw [ha1] at g1
  by_cases hc : (1 ≤ a1 ∧ a1 ≤ ep ∧ ep - a1 < 5)
  · by_cases hs : a1 = ep ∨ km (ep - a1) 129 < mp 129 ∨ km (ep - a1) 130 < mp 130
    · refine r_aload_1 (pc := 631) dL_law_631 ?_
      refine r_aload_0 (pc := 632) dL_law_632 ?_
      refine r_iload_3 (pc := 633) dL_law_633 ?_
      refine r_iconst (pc := 634) dL_law_634 ?_
      refine r_iadd (pc := 635) dL_law_635 ?_
      refine r_sld (pc := 636) hX dL_law_636 (by omega) (by omega) (fun i_636 => ?_)
      rw [ha1]
      refine k_VI1 (pc := 637) c_X7_back lk_L_77 ⟨(Nat.le_of_ble_eq_true rfl), (Nat.le_of_ble_eq_true rfl)⟩ ⟨rfl, rfl⟩ ⟨(Nat.le_of_ble_eq_true rfl), (Nat.le_of_ble_eq_true rfl)⟩ (k := 7) rfl (by decide) cl0 dL_law_637 (Nat.le_of_ble_eq_true rfl) ?_
      refine ⟨c, q, n, tx, ep, km, mp, F, ux, sz, ho, sn, row, a1, rfl, hI, by omega, g1, fun z => absurd hc z, fun _ => ⟨fun _ => ?_, fun z => absurd hs z⟩⟩
      have hM2 := hM
      obtain ⟨hMd2, ⟨e0, e5, e17, e19⟩, ⟨e1, e2, e12, e14, e15, e17r⟩, hWa2, hz2, hkp2, hes2⟩ := id hM2
      refine r_aload_2 (pc := 640) dL_law_640 ?_
      refine r_aload_0 (pc := 641) dL_law_641 ?_
      refine r_iload_3 (pc := 642) dL_law_642 ?_
      refine r_iconst (pc := 643) dL_law_643 ?_
      refine r_iadd (pc := 644) dL_law_644 ?_
      refine r_sld (pc := 645) hX dL_law_645 (by omega) (by omega) (fun i_645 => ?_)
      rw [ha1]
      have z9 := hM2.tr a1 ((hM2.no a1 hep.2.1).mpr hc) hep.2.1
      have zb : (a1 = h b 5 ∨ h (b + 3) (136 * (a1 % 5) + 129) < mp 129 ∨ h (b + 3) (136 * (a1 % 5) + 130) < mp 130) ↔ (a1 = ep ∨ km (ep - a1) 129 < mp 129 ∨ km (ep - a1) 130 < mp 130) := by
        rw [e5, ← z9.2, cpR_t (by omega), cpR_t (by omega)]
      refine k_VI1 (pc := 646) c_X8_back lk_L_80 ⟨(Nat.le_of_ble_eq_true rfl), (Nat.le_of_ble_eq_true rfl)⟩ ⟨rfl, rfl⟩ ⟨(Nat.le_of_ble_eq_true rfl), (Nat.le_of_ble_eq_true rfl)⟩ (k := 8) rfl (by decide) hMd2.1 dL_law_646 (Nat.le_of_ble_eq_true rfl) ?_
      refine ⟨b, mp, a1, rfl, hMd2, e2, hT, hR, g1, hWa2, (by rw [e5]; omega), (fun e9 k1 _ k3 => by
        have z9 := hM2.tr e9 ⟨k1, k3⟩ hep.2.1
        have pm := hI.2.2.2.2.2.1 (ep - e9) (by omega) (by omega) (by omega)
        rw [z9.2]; exact ⟨pm.1, pm.2.1⟩), fun z => absurd ((hM2.no a1 hep.2.1).mpr hc) z, fun _ => ⟨fun _ => ?_, fun z => absurd (zb.mpr hs) z⟩⟩
      refine r_same (pc := 649) (tgt := 1462) (by first | rfl | (simp only [e0, e5, e17, e19, e1, e2, e12, e14, e15, e17r])) dL_law_649 (by decide) ?_
      exact K r h ⟨q, n, tx, ep, km, mp, F, ux, sz, ho, sn, row, hI, hM2, by omega⟩
    · refine r_aload_1 (pc := 631) dL_law_631 ?_
      refine r_aload_0 (pc := 632) dL_law_632 ?_
      refine r_iload_3 (pc := 633) dL_law_633 ?_
      refine r_iconst (pc := 634) dL_law_634 ?_
      refine r_iadd (pc := 635) dL_law_635 ?_
      refine r_sld (pc := 636) hX dL_law_636 (by omega) (by omega) (fun i_636 => ?_)
      rw [ha1]
      refine k_VI1 (pc := 637) c_X7_back lk_L_77 ⟨(Nat.le_of_ble_eq_true rfl), (Nat.le_of_ble_eq_true rfl)⟩ ⟨rfl, rfl⟩ ⟨(Nat.le_of_ble_eq_true rfl), (Nat.le_of_ble_eq_true rfl)⟩ (k := 7) rfl (by decide) cl0 dL_law_637 (Nat.le_of_ble_eq_true rfl) ?_
      refine ⟨c, q, n, tx, ep, km, mp, F, ux, sz, ho, sn, row, a1, rfl, hI, by omega, g1, fun z => absurd hc z, fun _ => ⟨fun z => absurd z hs, fun _ r2 h2 fr2 f2 hI2 => ?_⟩⟩
      have hM2 : MI lay r2 h2 b n tx ep km mp F ux sz ho sn row := hM.of (fr2 b (by omega)) (fun x x0 x1 => f2 x (by omega))
      obtain ⟨hMd2, ⟨e0, e5, e17, e19⟩, ⟨e1, e2, e12, e14, e15, e17r⟩, hWa2, hz2, hkp2, hes2⟩ := id hM2
      refine r_aload_2 (pc := 640) dL_law_640 ?_
      refine r_aload_0 (pc := 641) dL_law_641 ?_
      refine r_iload_3 (pc := 642) dL_law_642 ?_
      refine r_iconst (pc := 643) dL_law_643 ?_
      refine r_iadd (pc := 644) dL_law_644 ?_
      refine r_sld (pc := 645) hX dL_law_645 (by omega) (by omega) (fun i_645 => ?_)
      rw [ha1]
      have z9 := hM2.tr a1 ((hM2.no a1 hep.2.1).mpr hc) hep.2.1
      have zb : (a1 = h2 b 5 ∨ h2 (b + 3) (136 * (a1 % 5) + 129) < mp 129 ∨ h2 (b + 3) (136 * (a1 % 5) + 130) < mp 130) ↔ (a1 = ep ∨ km (ep - a1) 129 < mp 129 ∨ km (ep - a1) 130 < mp 130) := by
        rw [e5, ← z9.2, cpR_t (by omega), cpR_t (by omega)]
      refine k_VI1 (pc := 646) c_X8_back lk_L_80 ⟨(Nat.le_of_ble_eq_true rfl), (Nat.le_of_ble_eq_true rfl)⟩ ⟨rfl, rfl⟩ ⟨(Nat.le_of_ble_eq_true rfl), (Nat.le_of_ble_eq_true rfl)⟩ (k := 8) rfl (by decide) hMd2.1 dL_law_646 (Nat.le_of_ble_eq_true rfl) ?_
      refine ⟨b, mp, a1, rfl, hMd2, e2, hT, hR, g1, hWa2, (by rw [e5]; omega), (fun e9 k1 _ k3 => by
        have z9 := hM2.tr e9 ⟨k1, k3⟩ hep.2.1
        have pm := hI.2.2.2.2.2.1 (ep - e9) (by omega) (by omega) (by omega)
        rw [z9.2]; exact ⟨pm.1, pm.2.1⟩), fun z => absurd ((hM2.no a1 hep.2.1).mpr hc) z, fun _ => ⟨fun z => absurd (zb.mp z) hs, fun _ h3 hCh => ?_⟩⟩
      refine r_same (pc := 649) (tgt := 1462) (by first | rfl | (simp only [e0, e5, e17, e19, e1, e2, e12, e14, e15, e17r])) dL_law_649 (by decide) ?_
      rw [z9.2] at hCh
      exact K r2 h3 ⟨qN q, n, tx, ep + 1, kN km (km (ep - a1)), km (ep - a1), h3 (b + 12), ux, sz, ho, sn, row, (hI2.fr (fun x x0 x1 => hCh.1 x (by omega))).cv (fun j j0 j1 => hCh.2.2.2.2.2 j j0 j1) (fun _ _ _ => rfl) (fun _ _ _ => rfl), hM2.ch hep.2.1 hCh (by
        rw [← z9.2]
        intro j hj
        unfold cpR
        rw [if_neg hj]; exact hz2 j hj) ⟨e0, e5, e17, e19⟩, by omega⟩
  · refine r_aload_1 (pc := 631) dL_law_631 ?_
    refine r_aload_0 (pc := 632) dL_law_632 ?_
    refine r_iload_3 (pc := 633) dL_law_633 ?_
    refine r_iconst (pc := 634) dL_law_634 ?_
    refine r_iadd (pc := 635) dL_law_635 ?_
    refine r_sld (pc := 636) hX dL_law_636 (by omega) (by omega) (fun i_636 => ?_)
    rw [ha1]
    refine k_VI1 (pc := 637) c_X7_back lk_L_77 ⟨(Nat.le_of_ble_eq_true rfl), (Nat.le_of_ble_eq_true rfl)⟩ ⟨rfl, rfl⟩ ⟨(Nat.le_of_ble_eq_true rfl), (Nat.le_of_ble_eq_true rfl)⟩ (k := 7) rfl (by decide) cl0 dL_law_637 (Nat.le_of_ble_eq_true rfl) ?_
    refine ⟨c, q, n, tx, ep, km, mp, F, ux, sz, ho, sn, row, a1, rfl, hI, by omega, g1, fun _ => ?_, fun z => absurd z hc⟩
    have hM2 := hM
    obtain ⟨hMd2, ⟨e0, e5, e17, e19⟩, ⟨e1, e2, e12, e14, e15, e17r⟩, hWa2, hz2, hkp2, hes2⟩ := id hM2
    refine r_aload_2 (pc := 640) dL_law_640 ?_
    refine r_aload_0 (pc := 641) dL_law_641 ?_
    refine r_iload_3 (pc := 642) dL_law_642 ?_
    refine r_iconst (pc := 643) dL_law_643 ?_
    refine r_iadd (pc := 644) dL_law_644 ?_
    refine r_sld (pc := 645) hX dL_law_645 (by omega) (by omega) (fun i_645 => ?_)
    rw [ha1]
    refine k_VI1 (pc := 646) c_X8_back lk_L_80 ⟨(Nat.le_of_ble_eq_true rfl), (Nat.le_of_ble_eq_true rfl)⟩ ⟨rfl, rfl⟩ ⟨(Nat.le_of_ble_eq_true rfl), (Nat.le_of_ble_eq_true rfl)⟩ (k := 8) rfl (by decide) hMd2.1 dL_law_646 (Nat.le_of_ble_eq_true rfl) ?_
    refine ⟨b, mp, a1, rfl, hMd2, e2, hT, hR, g1, hWa2, (by rw [e5]; omega), (fun e9 k1 _ k3 => by
      have z9 := hM2.tr e9 ⟨k1, k3⟩ hep.2.1
      have pm := hI.2.2.2.2.2.1 (ep - e9) (by omega) (by omega) (by omega)
      rw [z9.2]; exact ⟨pm.1, pm.2.1⟩), fun _ => ?_, fun z => absurd ((hM2.no a1 hep.2.1).mp z) hc⟩
    refine r_same (pc := 649) (tgt := 1462) (by first | rfl | (simp only [e0, e5, e17, e19, e1, e2, e12, e14, e15, e17r])) dL_law_649 (by decide) ?_
    exact K r h ⟨q, n, tx, ep, km, mp, F, ux, sz, ho, sn, row, hI, hM2, by omega⟩
theorem dL_law_265 : decode code 265 = .ok (.aload_n 1, 1) := by decide +kernel
theorem dL_law_266 : decode code 266 = .ok (.invokevirtual 27, 3) := by decide +kernel
theorem dL_law_269 : decode code 269 = .ok (.aload_n 2, 1) := by decide +kernel
theorem dL_law_270 : decode code 270 = .ok (.invokevirtual 30, 3) := by decide +kernel
theorem dL_law_273 : decode code 273 = .ok (.if_icmp .eq 1189, 3) := by decide +kernel
set_option maxHeartbeats 4000000 in
set_option maxRecDepth 20000 in
theorem law_lay {E : EnT} {lay : LyT} {r : RfT} {h : HpT} {c b b0 L N : Nat} {sx : Int → Int} {i : Int} (hX : ScE E b0 L sx) (hi : 0 ≤ i ∧ i + 4 ≤ L) (hL : L ≤ 2048) (hcb : b = c + 101) (hLI : LI lay c b i r h) (K : ∀ r' h', LI lay c b (i + 4) r' h' → St E mL_law 1462 [some (.ref b0), some (.ref c), some (.ref b), some (vI i)] [] (122, 20801) N lay r' h') : St E mL_law 265 [some (.ref b0), some (.ref c), some (.ref b), some (vI i)] [] (122, 20801) N lay r h := by
  obtain ⟨q, n, tx, ep, km, mp, F, ux, sz, ho, sn, row, hI, hM, hle⟩ := hLI
  have hP0 := hI.2.2.2.2.2.1 0 (by omega) (by omega) (by have := hI.2.2.2.2.1.2.1; omega)
  rw [hI.2.2.2.2.2.2.1.1] at hP0
  have hT := hP0.1
  have hR := hP0.2.1
  have hep := hI.2.2.2.2.1
  have cl0 : lay c = (8, 0) := hI.1.1
  by_cases hs : (rds n tx 201 0 (bgn (h (b + 6)))).1 = -4 ∧ (rds n tx 201 0 (bgn (h (b + 6)))).2 130 ≠ 0
  · refine r_aload_1 (pc := 265) dL_law_265 ?_
    refine k_VI0 (pc := 266) c_X7_lay lk_L_27 ⟨(Nat.le_of_ble_eq_true rfl), (Nat.le_of_ble_eq_true rfl)⟩ ⟨rfl, rfl⟩ ⟨(Nat.le_of_ble_eq_true rfl), (Nat.le_of_ble_eq_true rfl)⟩ (k := 7) rfl (by decide) cl0 dL_law_266 (Nat.le_of_ble_eq_true rfl) ?_
    refine ⟨c, q, n, tx, ep, km, mp, F, ux, sz, ho, sn, row, h (b + 6), rfl, hI, fun z => absurd hs z, fun _ h2 f2 hI2 => ?_⟩
    have hM2 : MI lay r h2 b n tx ep km mp F ux sz ho sn row := hM.of (rfl) (fun x x0 x1 => f2 x (by omega))
    obtain ⟨hMd2, ⟨e0, e5, e17, e19⟩, ⟨e1, e2, e12, e14, e15, e17r⟩, hWa2, hz2, hkp2, hes2⟩ := id hM2
    refine r_aload_2 (pc := 269) dL_law_269 ?_
    have e6 : h2 (b + 6) = h (b + 6) := f2 _ (by omega)
    refine k_VI0 (pc := 270) c_X8_lay lk_L_30 ⟨(Nat.le_of_ble_eq_true rfl), (Nat.le_of_ble_eq_true rfl)⟩ ⟨rfl, rfl⟩ ⟨(Nat.le_of_ble_eq_true rfl), (Nat.le_of_ble_eq_true rfl)⟩ (k := 8) rfl (by decide) hMd2.1 dL_law_270 (Nat.le_of_ble_eq_true rfl) ?_
    refine ⟨b, mp, n, tx, rfl, hMd2, e2, e0, e1, hI.2.2.1.1.2.1, hWa2, fun z => absurd hs (by rw [e6] at z; exact z), fun _ h3 e9 f3 tl3 m3 o3 k3 q3 c3 p3 s3 => ?_⟩
    refine r_same (pc := 273) (tgt := 1462) (by rw [e6]) dL_law_273 (by decide) ?_
    rw [e6] at tl3 m3 o3 q3 c3
    have hzM : Z136 (cpR (rds n tx 201 0 (bgn (h (b + 6)))).2 mp 136) := fun j hj => by
      unfold cpR
      rw [if_neg hj]; exact hz2 j hj
    refine K r h3 ⟨q, n, tx, 1, fun _ => (cpR (rds n tx 201 0 (bgn (h (b + 6)))).2 mp 136), (cpR (rds n tx 201 0 (bgn (h (b + 6)))).2 mp 136), h3 (b + 12), iSl 1 ((rds n tx 201 0 (bgn (h (b + 6)))).2 130) - 1, h3 (b + 15), h3 (b + 14), 0, row, (hI2.fr (fun x x0 x1 => f3 x (by omega))).cv (fun j j0 j1 => c3 j j0 j1) (fun j j0 j1 => s3 j j0 j1) (fun j j0 j1 => (p3 j j0 j1).trans (pb_c ⟨j0, j1⟩ (fun x x0 x1 => c3 x x0 x1))), ⟨hMd2, ⟨by rw [o3]; exact e0, by rw [o3]; rfl, by rw [o3]; rfl, by rw [o3]; rfl⟩, ⟨by rw [f3 _ (by omega)]; exact e1, m3, rfl, rfl, rfl, by rw [f3 _ (by omega)]; exact e17r⟩, by rw [f3 _ (by omega)]; exact hWa2, hzM, fun i i0 i1 i2 => ?_, fun x x0 x1 => ?_⟩, by omega⟩
    · refine (cpR_m hzM _ (fun j j0 j1 => ?_)).symm
      rw [q3, show i = 0 by omega]
      show kpR (h2 (b + 3)) (cpR (rds n tx 201 0 (bgn (h (b + 6)))).2 mp 136) 1 136 (136 * 1 + j) = _
      unfold kpR
      rw [if_pos (by omega)]
      congr 1
      omega
    · rw [k3 x x0 x1]
      rcases (show x = 0 ∨ x = 1 ∨ x = 2 ∨ x = 3 ∨ x = 4 by omega) with rfl | rfl | rfl | rfl | rfl <;> rfl
  · refine r_aload_1 (pc := 265) dL_law_265 ?_
    refine k_VI0 (pc := 266) c_X7_lay lk_L_27 ⟨(Nat.le_of_ble_eq_true rfl), (Nat.le_of_ble_eq_true rfl)⟩ ⟨rfl, rfl⟩ ⟨(Nat.le_of_ble_eq_true rfl), (Nat.le_of_ble_eq_true rfl)⟩ (k := 7) rfl (by decide) cl0 dL_law_266 (Nat.le_of_ble_eq_true rfl) ?_
    refine ⟨c, q, n, tx, ep, km, mp, F, ux, sz, ho, sn, row, h (b + 6), rfl, hI, fun _ h2 f2 hI2 => ?_, fun z => absurd z hs⟩
    have hM2 : MI lay r h2 b n tx ep km mp F ux sz ho sn row := hM.of (rfl) (fun x x0 x1 => f2 x (by omega))
    obtain ⟨hMd2, ⟨e0, e5, e17, e19⟩, ⟨e1, e2, e12, e14, e15, e17r⟩, hWa2, hz2, hkp2, hes2⟩ := id hM2
    refine r_aload_2 (pc := 269) dL_law_269 ?_
    have e6 : h2 (b + 6) = h (b + 6) := f2 _ (by omega)
    refine k_VI0 (pc := 270) c_X8_lay lk_L_30 ⟨(Nat.le_of_ble_eq_true rfl), (Nat.le_of_ble_eq_true rfl)⟩ ⟨rfl, rfl⟩ ⟨(Nat.le_of_ble_eq_true rfl), (Nat.le_of_ble_eq_true rfl)⟩ (k := 8) rfl (by decide) hMd2.1 dL_law_270 (Nat.le_of_ble_eq_true rfl) ?_
    refine ⟨b, mp, n, tx, rfl, hMd2, e2, e0, e1, hI.2.2.1.1.2.1, hWa2, fun _ h3 f3 o3 => ?_, fun z => absurd (by rw [e6] at z; exact z) hs⟩
    refine r_same (pc := 273) (tgt := 1462) (by first | rfl | (simp only [e0, e5, e17, e19, e1, e2, e12, e14, e15, e17r])) dL_law_273 (by decide) ?_
    exact K r h3 ⟨q, n, tx, ep, km, mp, F, ux, sz, ho, sn, row, hI2.fr (fun x x0 x1 => f3 x (by omega)), hM2.s (fun j hj => by rw [o3, up_n hj]) (fun x x0 x1 hx => f3 x (by omega)), by omega⟩
