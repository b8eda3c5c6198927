/-! THE LAW: one call on both sides, further cases -/
theorem dL_law_278 : decode code 278 = .ok (.aload_n 1, 1) := by decide +kernel
theorem dL_law_279 : decode code 279 = .ok (.aload_n 0, 1) := by decide +kernel
theorem dL_law_280 : decode code 280 = .ok (.iload_n 3, 1) := by decide +kernel
theorem dL_law_281 : decode code 281 = .ok (.iconst 1, 1) := by decide +kernel
theorem dL_law_282 : decode code 282 = .ok (.iadd, 1) := by decide +kernel
theorem dL_law_283 : decode code 283 = .ok (.iaload, 1) := by decide +kernel
theorem dL_law_284 : decode code 284 = .ok (.aload_n 0, 1) := by decide +kernel
theorem dL_law_285 : decode code 285 = .ok (.iload_n 3, 1) := by decide +kernel
theorem dL_law_286 : decode code 286 = .ok (.iconst 2, 1) := by decide +kernel
theorem dL_law_287 : decode code 287 = .ok (.iadd, 1) := by decide +kernel
theorem dL_law_288 : decode code 288 = .ok (.iaload, 1) := by decide +kernel
theorem dL_law_289 : decode code 289 = .ok (.invokevirtual 31, 3) := by decide +kernel
theorem dL_law_292 : decode code 292 = .ok (.aload_n 2, 1) := by decide +kernel
theorem dL_law_293 : decode code 293 = .ok (.aload_n 0, 1) := by decide +kernel
theorem dL_law_294 : decode code 294 = .ok (.iload_n 3, 1) := by decide +kernel
theorem dL_law_295 : decode code 295 = .ok (.iconst 1, 1) := by decide +kernel
theorem dL_law_296 : decode code 296 = .ok (.iadd, 1) := by decide +kernel
theorem dL_law_297 : decode code 297 = .ok (.iaload, 1) := by decide +kernel
theorem dL_law_298 : decode code 298 = .ok (.aload_n 0, 1) := by decide +kernel
theorem dL_law_299 : decode code 299 = .ok (.iload_n 3, 1) := by decide +kernel
theorem dL_law_300 : decode code 300 = .ok (.iconst 2, 1) := by decide +kernel
theorem dL_law_301 : decode code 301 = .ok (.iadd, 1) := by decide +kernel
theorem dL_law_302 : decode code 302 = .ok (.iaload, 1) := by decide +kernel
theorem dL_law_303 : decode code 303 = .ok (.invokevirtual 35, 3) := by decide +kernel
theorem dL_law_306 : decode code 306 = .ok (.if_icmp .eq 1156, 3) := by decide +kernel
set_option maxHeartbeats 4000000 in
set_option maxRecDepth 20000 in
theorem law_node {E : EnT} {nm : String} {lay : LyT} {r : RfT} {h : HpT} {c b b0 L N : Nat} {sx : Int → Int} {i : Int} (hX : ScE E b0 L sx) (hi : 0 ≤ i ∧ i + 4 ≤ L) (hL : L ≤ 2048) (hcb : b = c + 101) (hLI : LI lay c b i r h) (K : ∀ r' h', LI lay c b (i + 4) r' h' → St E (mL_law nm) 1462 [some (.ref b0), some (.ref c), some (.ref b), some (vI i)] [] (122, 20801) N lay r' h') : St E (mL_law nm) 278 [some (.ref b0), some (.ref c), some (.ref b), some (vI i)] [] (122, 20801) N lay r h := by
  obtain ⟨q, n, tx, ep, km, mp, F, ux, sz, ho, sn, row, hI, hM, hle⟩ := hLI
  have hP0 := hI.2.2.2.2.2.1 0 (by omega) (by omega) (by have := hI.2.2.2.2.1.2.1; omega)
  rw [hI.2.2.2.2.2.2.1.1] at hP0
  have hT := hP0.1
  have hR := hP0.2.1
  have hep := hI.2.2.2.2.1
  have cl0 : lay c = (8, 0) := hI.1.1
  obtain ⟨a1, ha1⟩ : ∃ z, sx (i + 1) = z := ⟨_, rfl⟩
  have g1 := sc_rng hX (i + 1)
  rw [ha1] at g1
  obtain ⟨a2, ha2⟩ : ∃ z, sx (i + 2) = z := ⟨_, rfl⟩
  have g2 := sc_rng hX (i + 2)
  rw [ha2] at g2
  by_cases hc : isNd mp a1 ∧ (0 ≤ a2 ∧ a2 ≤ if 10 ≤ a1 ∧ a1 ≤ 9 + mp 130 then 6 else 2)
  · have hc6 : 0 ≤ a2 ∧ a2 ≤ 6 := by
      have z2 := hc.2
      split at z2 <;> omega
    rcases (show a2 = 0 ∨ a2 = 1 ∨ a2 = 2 ∨ a2 = 3 ∨ a2 = 4 ∨ a2 = 5 ∨ a2 = 6 by omega) with hv | hv | hv | hv | hv | hv | hv
    · refine r_aload_1 (pc := 278) dL_law_278 ?_
      refine r_aload_0 (pc := 279) dL_law_279 ?_
      refine r_iload_3 (pc := 280) dL_law_280 ?_
      refine r_iconst (pc := 281) dL_law_281 ?_
      refine r_iadd (pc := 282) dL_law_282 ?_
      refine r_sld (pc := 283) hX dL_law_283 (by omega) (by omega) (fun i_283 => ?_)
      rw [ha1]
      refine r_aload_0 (pc := 284) dL_law_284 ?_
      refine r_iload_3 (pc := 285) dL_law_285 ?_
      refine r_iconst (pc := 286) dL_law_286 ?_
      refine r_iadd (pc := 287) dL_law_287 ?_
      refine r_sld (pc := 288) hX dL_law_288 (by omega) (by omega) (fun i_288 => ?_)
      rw [ha2]
      refine k_VI2 (pc := 289) c_X7_node lk_L_31 ⟨(Nat.le_of_ble_eq_true rfl), (Nat.le_of_ble_eq_true rfl)⟩ ⟨rfl, rfl⟩ ⟨(Nat.le_of_ble_eq_true rfl), (Nat.le_of_ble_eq_true rfl)⟩ (k := 7) rfl (by decide) cl0 dL_law_289 (Nat.le_of_ble_eq_true rfl) ?_
      refine ⟨c, q, n, tx, ep, km, mp, F, ux, sz, ho, sn, row, a1, a2, rfl, hI, g1, g2, fun z => absurd hc z, fun _ => ⟨fun _ => ?_, fun z => by omega, fun z => by omega, fun z => by omega, fun z => by omega, fun z => by omega, fun z => by omega⟩⟩
      have hM2 := hM
      obtain ⟨hMd2, ⟨e0, e5, e17, e19⟩, ⟨e1, e2, e12, e14, e15, e17r⟩, hWa2, hz2, hkp2, hes2⟩ := id hM2
      refine r_aload_2 (pc := 292) dL_law_292 ?_
      refine r_aload_0 (pc := 293) dL_law_293 ?_
      refine r_iload_3 (pc := 294) dL_law_294 ?_
      refine r_iconst (pc := 295) dL_law_295 ?_
      refine r_iadd (pc := 296) dL_law_296 ?_
      refine r_sld (pc := 297) hX dL_law_297 (by omega) (by omega) (fun i_297 => ?_)
      rw [ha1]
      refine r_aload_0 (pc := 298) dL_law_298 ?_
      refine r_iload_3 (pc := 299) dL_law_299 ?_
      refine r_iconst (pc := 300) dL_law_300 ?_
      refine r_iadd (pc := 301) dL_law_301 ?_
      refine r_sld (pc := 302) hX dL_law_302 (by omega) (by omega) (fun i_302 => ?_)
      rw [ha2]
      refine k_VI2 (pc := 303) c_X8_node lk_L_35 ⟨(Nat.le_of_ble_eq_true rfl), (Nat.le_of_ble_eq_true rfl)⟩ ⟨rfl, rfl⟩ ⟨(Nat.le_of_ble_eq_true rfl), (Nat.le_of_ble_eq_true rfl)⟩ (k := 8) rfl (by decide) hMd2.1 dL_law_303 (Nat.le_of_ble_eq_true rfl) ?_
      refine ⟨b, mp, a1, a2, rfl, hMd2, e2, hT, hR, g1, g2, fun z => absurd hc z, fun _ => ⟨fun _ => ?_, fun z => by omega, fun z => by omega, fun z => by omega, fun z => by omega, fun z => by omega, fun z => by omega⟩⟩
      refine r_same (pc := 306) (tgt := 1462) (by first | rfl | (simp only [e0, e5, e17, e19, e1, e2, e12, e14, e15, e17r])) dL_law_306 (by decide) ?_
      exact K r h ⟨q, n, tx, ep, km, mp, F, ux, sz, ho, sn, row, hI, hM2, by omega⟩
    · by_cases h0 : a1 = 0
      · refine r_aload_1 (pc := 278) dL_law_278 ?_
        refine r_aload_0 (pc := 279) dL_law_279 ?_
        refine r_iload_3 (pc := 280) dL_law_280 ?_
        refine r_iconst (pc := 281) dL_law_281 ?_
        refine r_iadd (pc := 282) dL_law_282 ?_
        refine r_sld (pc := 283) hX dL_law_283 (by omega) (by omega) (fun i_283 => ?_)
        rw [ha1]
        refine r_aload_0 (pc := 284) dL_law_284 ?_
        refine r_iload_3 (pc := 285) dL_law_285 ?_
        refine r_iconst (pc := 286) dL_law_286 ?_
        refine r_iadd (pc := 287) dL_law_287 ?_
        refine r_sld (pc := 288) hX dL_law_288 (by omega) (by omega) (fun i_288 => ?_)
        rw [ha2]
        refine k_VI2 (pc := 289) c_X7_node lk_L_31 ⟨(Nat.le_of_ble_eq_true rfl), (Nat.le_of_ble_eq_true rfl)⟩ ⟨rfl, rfl⟩ ⟨(Nat.le_of_ble_eq_true rfl), (Nat.le_of_ble_eq_true rfl)⟩ (k := 7) rfl (by decide) cl0 dL_law_289 (Nat.le_of_ble_eq_true rfl) ?_
        refine ⟨c, q, n, tx, ep, km, mp, F, ux, sz, ho, sn, row, a1, a2, rfl, hI, g1, g2, fun z => absurd hc z, fun _ => ⟨fun z => by omega, fun _ => ⟨fun _ => ?_, fun z => absurd h0 z⟩, fun z => by omega, fun z => by omega, fun z => by omega, fun z => by omega, fun z => by omega⟩⟩
        have hM2 := hM
        obtain ⟨hMd2, ⟨e0, e5, e17, e19⟩, ⟨e1, e2, e12, e14, e15, e17r⟩, hWa2, hz2, hkp2, hes2⟩ := id hM2
        refine r_aload_2 (pc := 292) dL_law_292 ?_
        refine r_aload_0 (pc := 293) dL_law_293 ?_
        refine r_iload_3 (pc := 294) dL_law_294 ?_
        refine r_iconst (pc := 295) dL_law_295 ?_
        refine r_iadd (pc := 296) dL_law_296 ?_
        refine r_sld (pc := 297) hX dL_law_297 (by omega) (by omega) (fun i_297 => ?_)
        rw [ha1]
        refine r_aload_0 (pc := 298) dL_law_298 ?_
        refine r_iload_3 (pc := 299) dL_law_299 ?_
        refine r_iconst (pc := 300) dL_law_300 ?_
        refine r_iadd (pc := 301) dL_law_301 ?_
        refine r_sld (pc := 302) hX dL_law_302 (by omega) (by omega) (fun i_302 => ?_)
        rw [ha2]
        refine k_VI2 (pc := 303) c_X8_node lk_L_35 ⟨(Nat.le_of_ble_eq_true rfl), (Nat.le_of_ble_eq_true rfl)⟩ ⟨rfl, rfl⟩ ⟨(Nat.le_of_ble_eq_true rfl), (Nat.le_of_ble_eq_true rfl)⟩ (k := 8) rfl (by decide) hMd2.1 dL_law_303 (Nat.le_of_ble_eq_true rfl) ?_
        refine ⟨b, mp, a1, a2, rfl, hMd2, e2, hT, hR, g1, g2, fun z => absurd hc z, fun _ => ⟨fun z => by omega, fun _ => ⟨fun _ => ?_, fun z => absurd h0 z⟩, fun z => by omega, fun z => by omega, fun z => by omega, fun z => by omega, fun z => by omega⟩⟩
        refine r_same (pc := 306) (tgt := 1462) (by first | rfl | (simp only [e0, e5, e17, e19, e1, e2, e12, e14, e15, e17r])) dL_law_306 (by decide) ?_
        exact K r h ⟨q, n, tx, ep, km, mp, F, ux, sz, ho, sn, row, hI, hM2, by omega⟩
      · refine r_aload_1 (pc := 278) dL_law_278 ?_
        refine r_aload_0 (pc := 279) dL_law_279 ?_
        refine r_iload_3 (pc := 280) dL_law_280 ?_
        refine r_iconst (pc := 281) dL_law_281 ?_
        refine r_iadd (pc := 282) dL_law_282 ?_
        refine r_sld (pc := 283) hX dL_law_283 (by omega) (by omega) (fun i_283 => ?_)
        rw [ha1]
        refine r_aload_0 (pc := 284) dL_law_284 ?_
        refine r_iload_3 (pc := 285) dL_law_285 ?_
        refine r_iconst (pc := 286) dL_law_286 ?_
        refine r_iadd (pc := 287) dL_law_287 ?_
        refine r_sld (pc := 288) hX dL_law_288 (by omega) (by omega) (fun i_288 => ?_)
        rw [ha2]
        refine k_VI2 (pc := 289) c_X7_node lk_L_31 ⟨(Nat.le_of_ble_eq_true rfl), (Nat.le_of_ble_eq_true rfl)⟩ ⟨rfl, rfl⟩ ⟨(Nat.le_of_ble_eq_true rfl), (Nat.le_of_ble_eq_true rfl)⟩ (k := 7) rfl (by decide) cl0 dL_law_289 (Nat.le_of_ble_eq_true rfl) ?_
        refine ⟨c, q, n, tx, ep, km, mp, F, ux, sz, ho, sn, row, a1, a2, rfl, hI, g1, g2, fun z => absurd hc z, fun _ => ⟨fun z => by omega, fun _ => ⟨fun z => absurd z h0, fun _ => ?_⟩, fun z => by omega, fun z => by omega, fun z => by omega, fun z => by omega, fun z => by omega⟩⟩
        have hM2 := hM
        obtain ⟨hMd2, ⟨e0, e5, e17, e19⟩, ⟨e1, e2, e12, e14, e15, e17r⟩, hWa2, hz2, hkp2, hes2⟩ := id hM2
        refine r_aload_2 (pc := 292) dL_law_292 ?_
        refine r_aload_0 (pc := 293) dL_law_293 ?_
        refine r_iload_3 (pc := 294) dL_law_294 ?_
        refine r_iconst (pc := 295) dL_law_295 ?_
        refine r_iadd (pc := 296) dL_law_296 ?_
        refine r_sld (pc := 297) hX dL_law_297 (by omega) (by omega) (fun i_297 => ?_)
        rw [ha1]
        refine r_aload_0 (pc := 298) dL_law_298 ?_
        refine r_iload_3 (pc := 299) dL_law_299 ?_
        refine r_iconst (pc := 300) dL_law_300 ?_
        refine r_iadd (pc := 301) dL_law_301 ?_
        refine r_sld (pc := 302) hX dL_law_302 (by omega) (by omega) (fun i_302 => ?_)
        rw [ha2]
        refine k_VI2 (pc := 303) c_X8_node lk_L_35 ⟨(Nat.le_of_ble_eq_true rfl), (Nat.le_of_ble_eq_true rfl)⟩ ⟨rfl, rfl⟩ ⟨(Nat.le_of_ble_eq_true rfl), (Nat.le_of_ble_eq_true rfl)⟩ (k := 8) rfl (by decide) hMd2.1 dL_law_303 (Nat.le_of_ble_eq_true rfl) ?_
        refine ⟨b, mp, a1, a2, rfl, hMd2, e2, hT, hR, g1, g2, fun z => absurd hc z, fun _ => ⟨fun z => by omega, fun _ => ⟨fun z => absurd z h0, fun _ => ?_⟩, fun z => by omega, fun z => by omega, fun z => by omega, fun z => by omega, fun z => by omega⟩⟩
        refine r_same (pc := 306) (tgt := 1462) (by first | rfl | (simp only [e0, e5, e17, e19, e1, e2, e12, e14, e15, e17r])) dL_law_306 (by decide) ?_
        exact K r h ⟨q, n, tx, ep, km, mp, F, ux, sz, ho, sn, row, hI, hM2, by omega⟩
    · refine r_aload_1 (pc := 278) dL_law_278 ?_
      refine r_aload_0 (pc := 279) dL_law_279 ?_
      refine r_iload_3 (pc := 280) dL_law_280 ?_
      refine r_iconst (pc := 281) dL_law_281 ?_
      refine r_iadd (pc := 282) dL_law_282 ?_
      refine r_sld (pc := 283) hX dL_law_283 (by omega) (by omega) (fun i_283 => ?_)
      rw [ha1]
      refine r_aload_0 (pc := 284) dL_law_284 ?_
      refine r_iload_3 (pc := 285) dL_law_285 ?_
      refine r_iconst (pc := 286) dL_law_286 ?_
      refine r_iadd (pc := 287) dL_law_287 ?_
      refine r_sld (pc := 288) hX dL_law_288 (by omega) (by omega) (fun i_288 => ?_)
      rw [ha2]
      refine k_VI2 (pc := 289) c_X7_node lk_L_31 ⟨(Nat.le_of_ble_eq_true rfl), (Nat.le_of_ble_eq_true rfl)⟩ ⟨rfl, rfl⟩ ⟨(Nat.le_of_ble_eq_true rfl), (Nat.le_of_ble_eq_true rfl)⟩ (k := 7) rfl (by decide) cl0 dL_law_289 (Nat.le_of_ble_eq_true rfl) ?_
      refine ⟨c, q, n, tx, ep, km, mp, F, ux, sz, ho, sn, row, a1, a2, rfl, hI, g1, g2, fun z => absurd hc z, fun _ => ⟨fun z => by omega, fun z => by omega, fun _ => ?_, fun z => by omega, fun z => by omega, fun z => by omega, fun z => by omega⟩⟩
      have hM2 := hM
      obtain ⟨hMd2, ⟨e0, e5, e17, e19⟩, ⟨e1, e2, e12, e14, e15, e17r⟩, hWa2, hz2, hkp2, hes2⟩ := id hM2
      refine r_aload_2 (pc := 292) dL_law_292 ?_
      refine r_aload_0 (pc := 293) dL_law_293 ?_
      refine r_iload_3 (pc := 294) dL_law_294 ?_
      refine r_iconst (pc := 295) dL_law_295 ?_
      refine r_iadd (pc := 296) dL_law_296 ?_
      refine r_sld (pc := 297) hX dL_law_297 (by omega) (by omega) (fun i_297 => ?_)
      rw [ha1]
      refine r_aload_0 (pc := 298) dL_law_298 ?_
      refine r_iload_3 (pc := 299) dL_law_299 ?_
      refine r_iconst (pc := 300) dL_law_300 ?_
      refine r_iadd (pc := 301) dL_law_301 ?_
      refine r_sld (pc := 302) hX dL_law_302 (by omega) (by omega) (fun i_302 => ?_)
      rw [ha2]
      refine k_VI2 (pc := 303) c_X8_node lk_L_35 ⟨(Nat.le_of_ble_eq_true rfl), (Nat.le_of_ble_eq_true rfl)⟩ ⟨rfl, rfl⟩ ⟨(Nat.le_of_ble_eq_true rfl), (Nat.le_of_ble_eq_true rfl)⟩ (k := 8) rfl (by decide) hMd2.1 dL_law_303 (Nat.le_of_ble_eq_true rfl) ?_
      refine ⟨b, mp, a1, a2, rfl, hMd2, e2, hT, hR, g1, g2, fun z => absurd hc z, fun _ => ⟨fun z => by omega, fun z => by omega, fun _ => ?_, fun z => by omega, fun z => by omega, fun z => by omega, fun z => by omega⟩⟩
      refine r_same (pc := 306) (tgt := 1462) (by first | rfl | (simp only [e0, e5, e17, e19, e1, e2, e12, e14, e15, e17r])) dL_law_306 (by decide) ?_
      exact K r h ⟨q, n, tx, ep, km, mp, F, ux, sz, ho, sn, row, hI, hM2, by omega⟩
    · refine r_aload_1 (pc := 278) dL_law_278 ?_
      refine r_aload_0 (pc := 279) dL_law_279 ?_
      refine r_iload_3 (pc := 280) dL_law_280 ?_
      refine r_iconst (pc := 281) dL_law_281 ?_
      refine r_iadd (pc := 282) dL_law_282 ?_
      refine r_sld (pc := 283) hX dL_law_283 (by omega) (by omega) (fun i_283 => ?_)
      rw [ha1]
      refine r_aload_0 (pc := 284) dL_law_284 ?_
      refine r_iload_3 (pc := 285) dL_law_285 ?_
      refine r_iconst (pc := 286) dL_law_286 ?_
      refine r_iadd (pc := 287) dL_law_287 ?_
      refine r_sld (pc := 288) hX dL_law_288 (by omega) (by omega) (fun i_288 => ?_)
      rw [ha2]
      refine k_VI2 (pc := 289) c_X7_node lk_L_31 ⟨(Nat.le_of_ble_eq_true rfl), (Nat.le_of_ble_eq_true rfl)⟩ ⟨rfl, rfl⟩ ⟨(Nat.le_of_ble_eq_true rfl), (Nat.le_of_ble_eq_true rfl)⟩ (k := 7) rfl (by decide) cl0 dL_law_289 (Nat.le_of_ble_eq_true rfl) ?_
      refine ⟨c, q, n, tx, ep, km, mp, F, ux, sz, ho, sn, row, a1, a2, rfl, hI, g1, g2, fun z => absurd hc z, fun _ => ⟨fun z => by omega, fun z => by omega, fun z => by omega, fun _ => ?_, fun z => by omega, fun z => by omega, fun z => by omega⟩⟩
      have hM2 := hM
      obtain ⟨hMd2, ⟨e0, e5, e17, e19⟩, ⟨e1, e2, e12, e14, e15, e17r⟩, hWa2, hz2, hkp2, hes2⟩ := id hM2
      refine r_aload_2 (pc := 292) dL_law_292 ?_
      refine r_aload_0 (pc := 293) dL_law_293 ?_
      refine r_iload_3 (pc := 294) dL_law_294 ?_
      refine r_iconst (pc := 295) dL_law_295 ?_
      refine r_iadd (pc := 296) dL_law_296 ?_
      refine r_sld (pc := 297) hX dL_law_297 (by omega) (by omega) (fun i_297 => ?_)
      rw [ha1]
      refine r_aload_0 (pc := 298) dL_law_298 ?_
      refine r_iload_3 (pc := 299) dL_law_299 ?_
      refine r_iconst (pc := 300) dL_law_300 ?_
      refine r_iadd (pc := 301) dL_law_301 ?_
      refine r_sld (pc := 302) hX dL_law_302 (by omega) (by omega) (fun i_302 => ?_)
      rw [ha2]
      refine k_VI2 (pc := 303) c_X8_node lk_L_35 ⟨(Nat.le_of_ble_eq_true rfl), (Nat.le_of_ble_eq_true rfl)⟩ ⟨rfl, rfl⟩ ⟨(Nat.le_of_ble_eq_true rfl), (Nat.le_of_ble_eq_true rfl)⟩ (k := 8) rfl (by decide) hMd2.1 dL_law_303 (Nat.le_of_ble_eq_true rfl) ?_
      refine ⟨b, mp, a1, a2, rfl, hMd2, e2, hT, hR, g1, g2, fun z => absurd hc z, fun _ => ⟨fun z => by omega, fun z => by omega, fun z => by omega, fun _ => ?_, fun z => by omega, fun z => by omega, fun z => by omega⟩⟩
      refine r_same (pc := 306) (tgt := 1462) (by first | rfl | (simp only [e0, e5, e17, e19, e1, e2, e12, e14, e15, e17r])) dL_law_306 (by decide) ?_
      exact K r h ⟨q, n, tx, ep, km, mp, F, ux, sz, ho, sn, row, hI, hM2, by omega⟩
    · refine r_aload_1 (pc := 278) dL_law_278 ?_
      refine r_aload_0 (pc := 279) dL_law_279 ?_
      refine r_iload_3 (pc := 280) dL_law_280 ?_
      refine r_iconst (pc := 281) dL_law_281 ?_
      refine r_iadd (pc := 282) dL_law_282 ?_
      refine r_sld (pc := 283) hX dL_law_283 (by omega) (by omega) (fun i_283 => ?_)
      rw [ha1]
      refine r_aload_0 (pc := 284) dL_law_284 ?_
      refine r_iload_3 (pc := 285) dL_law_285 ?_
      refine r_iconst (pc := 286) dL_law_286 ?_
      refine r_iadd (pc := 287) dL_law_287 ?_
      refine r_sld (pc := 288) hX dL_law_288 (by omega) (by omega) (fun i_288 => ?_)
      rw [ha2]
      refine k_VI2 (pc := 289) c_X7_node lk_L_31 ⟨(Nat.le_of_ble_eq_true rfl), (Nat.le_of_ble_eq_true rfl)⟩ ⟨rfl, rfl⟩ ⟨(Nat.le_of_ble_eq_true rfl), (Nat.le_of_ble_eq_true rfl)⟩ (k := 7) rfl (by decide) cl0 dL_law_289 (Nat.le_of_ble_eq_true rfl) ?_
      refine ⟨c, q, n, tx, ep, km, mp, F, ux, sz, ho, sn, row, a1, a2, rfl, hI, g1, g2, fun z => absurd hc z, fun _ => ⟨fun z => by omega, fun z => by omega, fun z => by omega, fun z => by omega, fun _ => ?_, fun z => by omega, fun z => by omega⟩⟩
      have hM2 := hM
      obtain ⟨hMd2, ⟨e0, e5, e17, e19⟩, ⟨e1, e2, e12, e14, e15, e17r⟩, hWa2, hz2, hkp2, hes2⟩ := id hM2
      refine r_aload_2 (pc := 292) dL_law_292 ?_
      refine r_aload_0 (pc := 293) dL_law_293 ?_
      refine r_iload_3 (pc := 294) dL_law_294 ?_
      refine r_iconst (pc := 295) dL_law_295 ?_
      refine r_iadd (pc := 296) dL_law_296 ?_
      refine r_sld (pc := 297) hX dL_law_297 (by omega) (by omega) (fun i_297 => ?_)
      rw [ha1]
      refine r_aload_0 (pc := 298) dL_law_298 ?_
      refine r_iload_3 (pc := 299) dL_law_299 ?_
      refine r_iconst (pc := 300) dL_law_300 ?_
      refine r_iadd (pc := 301) dL_law_301 ?_
      refine r_sld (pc := 302) hX dL_law_302 (by omega) (by omega) (fun i_302 => ?_)
      rw [ha2]
      refine k_VI2 (pc := 303) c_X8_node lk_L_35 ⟨(Nat.le_of_ble_eq_true rfl), (Nat.le_of_ble_eq_true rfl)⟩ ⟨rfl, rfl⟩ ⟨(Nat.le_of_ble_eq_true rfl), (Nat.le_of_ble_eq_true rfl)⟩ (k := 8) rfl (by decide) hMd2.1 dL_law_303 (Nat.le_of_ble_eq_true rfl) ?_
      refine ⟨b, mp, a1, a2, rfl, hMd2, e2, hT, hR, g1, g2, fun z => absurd hc z, fun _ => ⟨fun z => by omega, fun z => by omega, fun z => by omega, fun z => by omega, fun _ => ?_, fun z => by omega, fun z => by omega⟩⟩
      refine r_same (pc := 306) (tgt := 1462) (by first | rfl | (simp only [e0, e5, e17, e19, e1, e2, e12, e14, e15, e17r])) dL_law_306 (by decide) ?_
      exact K r h ⟨q, n, tx, ep, km, mp, F, ux, sz, ho, sn, row, hI, hM2, by omega⟩
    · refine r_aload_1 (pc := 278) dL_law_278 ?_
      refine r_aload_0 (pc := 279) dL_law_279 ?_
      refine r_iload_3 (pc := 280) dL_law_280 ?_
      refine r_iconst (pc := 281) dL_law_281 ?_
      refine r_iadd (pc := 282) dL_law_282 ?_
      refine r_sld (pc := 283) hX dL_law_283 (by omega) (by omega) (fun i_283 => ?_)
      rw [ha1]
      refine r_aload_0 (pc := 284) dL_law_284 ?_
      refine r_iload_3 (pc := 285) dL_law_285 ?_
      refine r_iconst (pc := 286) dL_law_286 ?_
      refine r_iadd (pc := 287) dL_law_287 ?_
      refine r_sld (pc := 288) hX dL_law_288 (by omega) (by omega) (fun i_288 => ?_)
      rw [ha2]
      refine k_VI2 (pc := 289) c_X7_node lk_L_31 ⟨(Nat.le_of_ble_eq_true rfl), (Nat.le_of_ble_eq_true rfl)⟩ ⟨rfl, rfl⟩ ⟨(Nat.le_of_ble_eq_true rfl), (Nat.le_of_ble_eq_true rfl)⟩ (k := 7) rfl (by decide) cl0 dL_law_289 (Nat.le_of_ble_eq_true rfl) ?_
      refine ⟨c, q, n, tx, ep, km, mp, F, ux, sz, ho, sn, row, a1, a2, rfl, hI, g1, g2, fun z => absurd hc z, fun _ => ⟨fun z => by omega, fun z => by omega, fun z => by omega, fun z => by omega, fun z => by omega, fun _ => ?_, fun z => by omega⟩⟩
      have hM2 := hM
      obtain ⟨hMd2, ⟨e0, e5, e17, e19⟩, ⟨e1, e2, e12, e14, e15, e17r⟩, hWa2, hz2, hkp2, hes2⟩ := id hM2
      refine r_aload_2 (pc := 292) dL_law_292 ?_
      refine r_aload_0 (pc := 293) dL_law_293 ?_
      refine r_iload_3 (pc := 294) dL_law_294 ?_
      refine r_iconst (pc := 295) dL_law_295 ?_
      refine r_iadd (pc := 296) dL_law_296 ?_
      refine r_sld (pc := 297) hX dL_law_297 (by omega) (by omega) (fun i_297 => ?_)
      rw [ha1]
      refine r_aload_0 (pc := 298) dL_law_298 ?_
      refine r_iload_3 (pc := 299) dL_law_299 ?_
      refine r_iconst (pc := 300) dL_law_300 ?_
      refine r_iadd (pc := 301) dL_law_301 ?_
      refine r_sld (pc := 302) hX dL_law_302 (by omega) (by omega) (fun i_302 => ?_)
      rw [ha2]
      refine k_VI2 (pc := 303) c_X8_node lk_L_35 ⟨(Nat.le_of_ble_eq_true rfl), (Nat.le_of_ble_eq_true rfl)⟩ ⟨rfl, rfl⟩ ⟨(Nat.le_of_ble_eq_true rfl), (Nat.le_of_ble_eq_true rfl)⟩ (k := 8) rfl (by decide) hMd2.1 dL_law_303 (Nat.le_of_ble_eq_true rfl) ?_
      refine ⟨b, mp, a1, a2, rfl, hMd2, e2, hT, hR, g1, g2, fun z => absurd hc z, fun _ => ⟨fun z => by omega, fun z => by omega, fun z => by omega, fun z => by omega, fun z => by omega, fun _ => ?_, fun z => by omega⟩⟩
      refine r_same (pc := 306) (tgt := 1462) (by first | rfl | (simp only [e0, e5, e17, e19, e1, e2, e12, e14, e15, e17r])) dL_law_306 (by decide) ?_
      exact K r h ⟨q, n, tx, ep, km, mp, F, ux, sz, ho, sn, row, hI, hM2, by omega⟩
    · refine r_aload_1 (pc := 278) dL_law_278 ?_
      refine r_aload_0 (pc := 279) dL_law_279 ?_
      refine r_iload_3 (pc := 280) dL_law_280 ?_
      refine r_iconst (pc := 281) dL_law_281 ?_
      refine r_iadd (pc := 282) dL_law_282 ?_
      refine r_sld (pc := 283) hX dL_law_283 (by omega) (by omega) (fun i_283 => ?_)
      rw [ha1]
      refine r_aload_0 (pc := 284) dL_law_284 ?_
      refine r_iload_3 (pc := 285) dL_law_285 ?_
      refine r_iconst (pc := 286) dL_law_286 ?_
      refine r_iadd (pc := 287) dL_law_287 ?_
      refine r_sld (pc := 288) hX dL_law_288 (by omega) (by omega) (fun i_288 => ?_)
      rw [ha2]
      refine k_VI2 (pc := 289) c_X7_node lk_L_31 ⟨(Nat.le_of_ble_eq_true rfl), (Nat.le_of_ble_eq_true rfl)⟩ ⟨rfl, rfl⟩ ⟨(Nat.le_of_ble_eq_true rfl), (Nat.le_of_ble_eq_true rfl)⟩ (k := 7) rfl (by decide) cl0 dL_law_289 (Nat.le_of_ble_eq_true rfl) ?_
      refine ⟨c, q, n, tx, ep, km, mp, F, ux, sz, ho, sn, row, a1, a2, rfl, hI, g1, g2, fun z => absurd hc z, fun _ => ⟨fun z => by omega, fun z => by omega, fun z => by omega, fun z => by omega, fun z => by omega, fun z => by omega, fun _ => ?_⟩⟩
      have hM2 := hM
      obtain ⟨hMd2, ⟨e0, e5, e17, e19⟩, ⟨e1, e2, e12, e14, e15, e17r⟩, hWa2, hz2, hkp2, hes2⟩ := id hM2
      refine r_aload_2 (pc := 292) dL_law_292 ?_
      refine r_aload_0 (pc := 293) dL_law_293 ?_
      refine r_iload_3 (pc := 294) dL_law_294 ?_
      refine r_iconst (pc := 295) dL_law_295 ?_
      refine r_iadd (pc := 296) dL_law_296 ?_
      refine r_sld (pc := 297) hX dL_law_297 (by omega) (by omega) (fun i_297 => ?_)
      rw [ha1]
      refine r_aload_0 (pc := 298) dL_law_298 ?_
      refine r_iload_3 (pc := 299) dL_law_299 ?_
      refine r_iconst (pc := 300) dL_law_300 ?_
      refine r_iadd (pc := 301) dL_law_301 ?_
      refine r_sld (pc := 302) hX dL_law_302 (by omega) (by omega) (fun i_302 => ?_)
      rw [ha2]
      refine k_VI2 (pc := 303) c_X8_node lk_L_35 ⟨(Nat.le_of_ble_eq_true rfl), (Nat.le_of_ble_eq_true rfl)⟩ ⟨rfl, rfl⟩ ⟨(Nat.le_of_ble_eq_true rfl), (Nat.le_of_ble_eq_true rfl)⟩ (k := 8) rfl (by decide) hMd2.1 dL_law_303 (Nat.le_of_ble_eq_true rfl) ?_
      refine ⟨b, mp, a1, a2, rfl, hMd2, e2, hT, hR, g1, g2, fun z => absurd hc z, fun _ => ⟨fun z => by omega, fun z => by omega, fun z => by omega, fun z => by omega, fun z => by omega, fun z => by omega, fun _ => ?_⟩⟩
      refine r_same (pc := 306) (tgt := 1462) (by first | rfl | (simp only [e0, e5, e17, e19, e1, e2, e12, e14, e15, e17r])) dL_law_306 (by decide) ?_
      exact K r h ⟨q, n, tx, ep, km, mp, F, ux, sz, ho, sn, row, hI, hM2, by omega⟩
  · refine r_aload_1 (pc := 278) dL_law_278 ?_
    refine r_aload_0 (pc := 279) dL_law_279 ?_
    refine r_iload_3 (pc := 280) dL_law_280 ?_
    refine r_iconst (pc := 281) dL_law_281 ?_
    refine r_iadd (pc := 282) dL_law_282 ?_
    refine r_sld (pc := 283) hX dL_law_283 (by omega) (by omega) (fun i_283 => ?_)
    rw [ha1]
    refine r_aload_0 (pc := 284) dL_law_284 ?_
    refine r_iload_3 (pc := 285) dL_law_285 ?_
    refine r_iconst (pc := 286) dL_law_286 ?_
    refine r_iadd (pc := 287) dL_law_287 ?_
    refine r_sld (pc := 288) hX dL_law_288 (by omega) (by omega) (fun i_288 => ?_)
    rw [ha2]
    refine k_VI2 (pc := 289) c_X7_node lk_L_31 ⟨(Nat.le_of_ble_eq_true rfl), (Nat.le_of_ble_eq_true rfl)⟩ ⟨rfl, rfl⟩ ⟨(Nat.le_of_ble_eq_true rfl), (Nat.le_of_ble_eq_true rfl)⟩ (k := 7) rfl (by decide) cl0 dL_law_289 (Nat.le_of_ble_eq_true rfl) ?_
    refine ⟨c, q, n, tx, ep, km, mp, F, ux, sz, ho, sn, row, a1, a2, rfl, hI, g1, g2, fun _ => ?_, fun z => absurd z hc⟩
    have hM2 := hM
    obtain ⟨hMd2, ⟨e0, e5, e17, e19⟩, ⟨e1, e2, e12, e14, e15, e17r⟩, hWa2, hz2, hkp2, hes2⟩ := id hM2
    refine r_aload_2 (pc := 292) dL_law_292 ?_
    refine r_aload_0 (pc := 293) dL_law_293 ?_
    refine r_iload_3 (pc := 294) dL_law_294 ?_
    refine r_iconst (pc := 295) dL_law_295 ?_
    refine r_iadd (pc := 296) dL_law_296 ?_
    refine r_sld (pc := 297) hX dL_law_297 (by omega) (by omega) (fun i_297 => ?_)
    rw [ha1]
    refine r_aload_0 (pc := 298) dL_law_298 ?_
    refine r_iload_3 (pc := 299) dL_law_299 ?_
    refine r_iconst (pc := 300) dL_law_300 ?_
    refine r_iadd (pc := 301) dL_law_301 ?_
    refine r_sld (pc := 302) hX dL_law_302 (by omega) (by omega) (fun i_302 => ?_)
    rw [ha2]
    refine k_VI2 (pc := 303) c_X8_node lk_L_35 ⟨(Nat.le_of_ble_eq_true rfl), (Nat.le_of_ble_eq_true rfl)⟩ ⟨rfl, rfl⟩ ⟨(Nat.le_of_ble_eq_true rfl), (Nat.le_of_ble_eq_true rfl)⟩ (k := 8) rfl (by decide) hMd2.1 dL_law_303 (Nat.le_of_ble_eq_true rfl) ?_
    refine ⟨b, mp, a1, a2, rfl, hMd2, e2, hT, hR, g1, g2, fun _ => ?_, fun z => absurd z hc⟩
    refine r_same (pc := 306) (tgt := 1462) (by first | rfl | (simp only [e0, e5, e17, e19, e1, e2, e12, e14, e15, e17r])) dL_law_306 (by decide) ?_
    exact K r h ⟨q, n, tx, ep, km, mp, F, ux, sz, ho, sn, row, hI, hM2, by omega⟩
theorem dL_law_888 : decode code 888 = .ok (.aload_n 1, 1) := by decide +kernel
theorem dL_law_889 : decode code 889 = .ok (.aload_n 0, 1) := by decide +kernel
theorem dL_law_890 : decode code 890 = .ok (.iload_n 3, 1) := by decide +kernel
theorem dL_law_891 : decode code 891 = .ok (.iconst 1, 1) := by decide +kernel
theorem dL_law_892 : decode code 892 = .ok (.iadd, 1) := by decide +kernel
theorem dL_law_893 : decode code 893 = .ok (.iaload, 1) := by decide +kernel
theorem dL_law_894 : decode code 894 = .ok (.aload_n 0, 1) := by decide +kernel
theorem dL_law_895 : decode code 895 = .ok (.iload_n 3, 1) := by decide +kernel
theorem dL_law_896 : decode code 896 = .ok (.iconst 2, 1) := by decide +kernel
theorem dL_law_897 : decode code 897 = .ok (.iadd, 1) := by decide +kernel
theorem dL_law_898 : decode code 898 = .ok (.iaload, 1) := by decide +kernel
theorem dL_law_899 : decode code 899 = .ok (.invokevirtual 113, 3) := by decide +kernel
theorem dL_law_902 : decode code 902 = .ok (.aload_n 2, 1) := by decide +kernel
theorem dL_law_903 : decode code 903 = .ok (.aload_n 0, 1) := by decide +kernel
theorem dL_law_904 : decode code 904 = .ok (.iload_n 3, 1) := by decide +kernel
theorem dL_law_905 : decode code 905 = .ok (.iconst 1, 1) := by decide +kernel
theorem dL_law_906 : decode code 906 = .ok (.iadd, 1) := by decide +kernel
theorem dL_law_907 : decode code 907 = .ok (.iaload, 1) := by decide +kernel
theorem dL_law_908 : decode code 908 = .ok (.aload_n 0, 1) := by decide +kernel
theorem dL_law_909 : decode code 909 = .ok (.iload_n 3, 1) := by decide +kernel
theorem dL_law_910 : decode code 910 = .ok (.iconst 2, 1) := by decide +kernel
theorem dL_law_911 : decode code 911 = .ok (.iadd, 1) := by decide +kernel
theorem dL_law_912 : decode code 912 = .ok (.iaload, 1) := by decide +kernel
theorem dL_law_913 : decode code 913 = .ok (.invokevirtual 116, 3) := by decide +kernel
theorem dL_law_916 : decode code 916 = .ok (.if_icmp .eq 546, 3) := by decide +kernel
set_option maxHeartbeats 4000000 in
set_option maxRecDepth 20000 in
theorem law_share {E : EnT} {nm : String} {lay : LyT} {r : RfT} {h : HpT} {c b b0 L N : Nat} {sx : Int → Int} {i : Int} (hX : ScE E b0 L sx) (hi : 0 ≤ i ∧ i + 4 ≤ L) (hL : L ≤ 2048) (hcb : b = c + 101) (hLI : LI lay c b i r h) (K : ∀ r' h', LI lay c b (i + 4) r' h' → St E (mL_law nm) 1462 [some (.ref b0), some (.ref c), some (.ref b), some (vI i)] [] (122, 20801) N lay r' h') : St E (mL_law nm) 888 [some (.ref b0), some (.ref c), some (.ref b), some (vI i)] [] (122, 20801) N lay r h := by
  obtain ⟨q, n, tx, ep, km, mp, F, ux, sz, ho, sn, row, hI, hM, hle⟩ := hLI
  have hP0 := hI.2.2.2.2.2.1 0 (by omega) (by omega) (by have := hI.2.2.2.2.1.2.1; omega)
  rw [hI.2.2.2.2.2.2.1.1] at hP0
  have hT := hP0.1
  have hR := hP0.2.1
  have hep := hI.2.2.2.2.1
  have cl0 : lay c = (8, 0) := hI.1.1
  obtain ⟨a1, ha1⟩ : ∃ z, sx (i + 1) = z := ⟨_, rfl⟩
  have g1 := sc_rng hX (i + 1)
  rw [ha1] at g1
  obtain ⟨a2, ha2⟩ : ∃ z, sx (i + 2) = z := ⟨_, rfl⟩
  have g2 := sc_rng hX (i + 2)
  rw [ha2] at g2
  by_cases hc : isNd mp a1 ∧ (0 ≤ a2 ∧ a2 ≤ 1)
  · by_cases hw : wt mp 0 = 0
    · refine r_aload_1 (pc := 888) dL_law_888 ?_
      refine r_aload_0 (pc := 889) dL_law_889 ?_
      refine r_iload_3 (pc := 890) dL_law_890 ?_
      refine r_iconst (pc := 891) dL_law_891 ?_
      refine r_iadd (pc := 892) dL_law_892 ?_
      refine r_sld (pc := 893) hX dL_law_893 (by omega) (by omega) (fun i_893 => ?_)
      rw [ha1]
      refine r_aload_0 (pc := 894) dL_law_894 ?_
      refine r_iload_3 (pc := 895) dL_law_895 ?_
      refine r_iconst (pc := 896) dL_law_896 ?_
      refine r_iadd (pc := 897) dL_law_897 ?_
      refine r_sld (pc := 898) hX dL_law_898 (by omega) (by omega) (fun i_898 => ?_)
      rw [ha2]
      refine k_VI2 (pc := 899) c_X7_share lk_L_113 ⟨(Nat.le_of_ble_eq_true rfl), (Nat.le_of_ble_eq_true rfl)⟩ ⟨rfl, rfl⟩ ⟨(Nat.le_of_ble_eq_true rfl), (Nat.le_of_ble_eq_true rfl)⟩ (k := 7) rfl (by decide) cl0 dL_law_899 (Nat.le_of_ble_eq_true rfl) ?_
      refine ⟨c, q, n, tx, ep, km, mp, F, ux, sz, ho, sn, row, a1, a2, rfl, hI, g1, g2, fun z => absurd hc z, fun _ => ⟨fun _ => ?_, fun z => absurd hw z⟩⟩
      have hM2 := hM
      obtain ⟨hMd2, ⟨e0, e5, e17, e19⟩, ⟨e1, e2, e12, e14, e15, e17r⟩, hWa2, hz2, hkp2, hes2⟩ := id hM2
      refine r_aload_2 (pc := 902) dL_law_902 ?_
      refine r_aload_0 (pc := 903) dL_law_903 ?_
      refine r_iload_3 (pc := 904) dL_law_904 ?_
      refine r_iconst (pc := 905) dL_law_905 ?_
      refine r_iadd (pc := 906) dL_law_906 ?_
      refine r_sld (pc := 907) hX dL_law_907 (by omega) (by omega) (fun i_907 => ?_)
      rw [ha1]
      refine r_aload_0 (pc := 908) dL_law_908 ?_
      refine r_iload_3 (pc := 909) dL_law_909 ?_
      refine r_iconst (pc := 910) dL_law_910 ?_
      refine r_iadd (pc := 911) dL_law_911 ?_
      refine r_sld (pc := 912) hX dL_law_912 (by omega) (by omega) (fun i_912 => ?_)
      rw [ha2]
      refine k_VI2 (pc := 913) c_X8_share lk_L_116 ⟨(Nat.le_of_ble_eq_true rfl), (Nat.le_of_ble_eq_true rfl)⟩ ⟨rfl, rfl⟩ ⟨(Nat.le_of_ble_eq_true rfl), (Nat.le_of_ble_eq_true rfl)⟩ (k := 8) rfl (by decide) hMd2.1 dL_law_913 (Nat.le_of_ble_eq_true rfl) ?_
      refine ⟨b, mp, a1, a2, rfl, hMd2, e2, hT, hR, g1, g2, fun z => absurd hc z, fun _ => ⟨fun _ => ?_, fun z => absurd hw z⟩⟩
      refine r_same (pc := 916) (tgt := 1462) (by first | rfl | (simp only [e0, e5, e17, e19, e1, e2, e12, e14, e15, e17r])) dL_law_916 (by decide) ?_
      exact K r h ⟨q, n, tx, ep, km, mp, F, ux, sz, ho, sn, row, hI, hM2, by omega⟩
    · by_cases hp : a2 = 0
      · refine r_aload_1 (pc := 888) dL_law_888 ?_
        refine r_aload_0 (pc := 889) dL_law_889 ?_
        refine r_iload_3 (pc := 890) dL_law_890 ?_
        refine r_iconst (pc := 891) dL_law_891 ?_
        refine r_iadd (pc := 892) dL_law_892 ?_
        refine r_sld (pc := 893) hX dL_law_893 (by omega) (by omega) (fun i_893 => ?_)
        rw [ha1]
        refine r_aload_0 (pc := 894) dL_law_894 ?_
        refine r_iload_3 (pc := 895) dL_law_895 ?_
        refine r_iconst (pc := 896) dL_law_896 ?_
        refine r_iadd (pc := 897) dL_law_897 ?_
        refine r_sld (pc := 898) hX dL_law_898 (by omega) (by omega) (fun i_898 => ?_)
        rw [ha2]
        refine k_VI2 (pc := 899) c_X7_share lk_L_113 ⟨(Nat.le_of_ble_eq_true rfl), (Nat.le_of_ble_eq_true rfl)⟩ ⟨rfl, rfl⟩ ⟨(Nat.le_of_ble_eq_true rfl), (Nat.le_of_ble_eq_true rfl)⟩ (k := 7) rfl (by decide) cl0 dL_law_899 (Nat.le_of_ble_eq_true rfl) ?_
        refine ⟨c, q, n, tx, ep, km, mp, F, ux, sz, ho, sn, row, a1, a2, rfl, hI, g1, g2, fun z => absurd hc z, fun _ => ⟨fun z => absurd z hw, fun _ => ⟨fun _ => ?_, fun z => absurd hp z⟩⟩⟩
        have hM2 := hM
        obtain ⟨hMd2, ⟨e0, e5, e17, e19⟩, ⟨e1, e2, e12, e14, e15, e17r⟩, hWa2, hz2, hkp2, hes2⟩ := id hM2
        refine r_aload_2 (pc := 902) dL_law_902 ?_
        refine r_aload_0 (pc := 903) dL_law_903 ?_
        refine r_iload_3 (pc := 904) dL_law_904 ?_
        refine r_iconst (pc := 905) dL_law_905 ?_
        refine r_iadd (pc := 906) dL_law_906 ?_
        refine r_sld (pc := 907) hX dL_law_907 (by omega) (by omega) (fun i_907 => ?_)
        rw [ha1]
        refine r_aload_0 (pc := 908) dL_law_908 ?_
        refine r_iload_3 (pc := 909) dL_law_909 ?_
        refine r_iconst (pc := 910) dL_law_910 ?_
        refine r_iadd (pc := 911) dL_law_911 ?_
        refine r_sld (pc := 912) hX dL_law_912 (by omega) (by omega) (fun i_912 => ?_)
        rw [ha2]
        refine k_VI2 (pc := 913) c_X8_share lk_L_116 ⟨(Nat.le_of_ble_eq_true rfl), (Nat.le_of_ble_eq_true rfl)⟩ ⟨rfl, rfl⟩ ⟨(Nat.le_of_ble_eq_true rfl), (Nat.le_of_ble_eq_true rfl)⟩ (k := 8) rfl (by decide) hMd2.1 dL_law_913 (Nat.le_of_ble_eq_true rfl) ?_
        refine ⟨b, mp, a1, a2, rfl, hMd2, e2, hT, hR, g1, g2, fun z => absurd hc z, fun _ => ⟨fun z => absurd z hw, fun _ => ⟨fun _ => ?_, fun z => absurd hp z⟩⟩⟩
        refine r_same (pc := 916) (tgt := 1462) (by first | rfl | (simp only [e0, e5, e17, e19, e1, e2, e12, e14, e15, e17r])) dL_law_916 (by decide) ?_
        exact K r h ⟨q, n, tx, ep, km, mp, F, ux, sz, ho, sn, row, hI, hM2, by omega⟩
      · refine r_aload_1 (pc := 888) dL_law_888 ?_
        refine r_aload_0 (pc := 889) dL_law_889 ?_
        refine r_iload_3 (pc := 890) dL_law_890 ?_
        refine r_iconst (pc := 891) dL_law_891 ?_
        refine r_iadd (pc := 892) dL_law_892 ?_
        refine r_sld (pc := 893) hX dL_law_893 (by omega) (by omega) (fun i_893 => ?_)
        rw [ha1]
        refine r_aload_0 (pc := 894) dL_law_894 ?_
        refine r_iload_3 (pc := 895) dL_law_895 ?_
        refine r_iconst (pc := 896) dL_law_896 ?_
        refine r_iadd (pc := 897) dL_law_897 ?_
        refine r_sld (pc := 898) hX dL_law_898 (by omega) (by omega) (fun i_898 => ?_)
        rw [ha2]
        refine k_VI2 (pc := 899) c_X7_share lk_L_113 ⟨(Nat.le_of_ble_eq_true rfl), (Nat.le_of_ble_eq_true rfl)⟩ ⟨rfl, rfl⟩ ⟨(Nat.le_of_ble_eq_true rfl), (Nat.le_of_ble_eq_true rfl)⟩ (k := 7) rfl (by decide) cl0 dL_law_899 (Nat.le_of_ble_eq_true rfl) ?_
        refine ⟨c, q, n, tx, ep, km, mp, F, ux, sz, ho, sn, row, a1, a2, rfl, hI, g1, g2, fun z => absurd hc z, fun _ => ⟨fun z => absurd z hw, fun _ => ⟨fun z => absurd z hp, fun _ => ?_⟩⟩⟩
        have hM2 := hM
        obtain ⟨hMd2, ⟨e0, e5, e17, e19⟩, ⟨e1, e2, e12, e14, e15, e17r⟩, hWa2, hz2, hkp2, hes2⟩ := id hM2
        refine r_aload_2 (pc := 902) dL_law_902 ?_
        refine r_aload_0 (pc := 903) dL_law_903 ?_
        refine r_iload_3 (pc := 904) dL_law_904 ?_
        refine r_iconst (pc := 905) dL_law_905 ?_
        refine r_iadd (pc := 906) dL_law_906 ?_
        refine r_sld (pc := 907) hX dL_law_907 (by omega) (by omega) (fun i_907 => ?_)
        rw [ha1]
        refine r_aload_0 (pc := 908) dL_law_908 ?_
        refine r_iload_3 (pc := 909) dL_law_909 ?_
        refine r_iconst (pc := 910) dL_law_910 ?_
        refine r_iadd (pc := 911) dL_law_911 ?_
        refine r_sld (pc := 912) hX dL_law_912 (by omega) (by omega) (fun i_912 => ?_)
        rw [ha2]
        refine k_VI2 (pc := 913) c_X8_share lk_L_116 ⟨(Nat.le_of_ble_eq_true rfl), (Nat.le_of_ble_eq_true rfl)⟩ ⟨rfl, rfl⟩ ⟨(Nat.le_of_ble_eq_true rfl), (Nat.le_of_ble_eq_true rfl)⟩ (k := 8) rfl (by decide) hMd2.1 dL_law_913 (Nat.le_of_ble_eq_true rfl) ?_
        refine ⟨b, mp, a1, a2, rfl, hMd2, e2, hT, hR, g1, g2, fun z => absurd hc z, fun _ => ⟨fun z => absurd z hw, fun _ => ⟨fun z => absurd z hp, fun _ => ?_⟩⟩⟩
        refine r_same (pc := 916) (tgt := 1462) (by first | rfl | (simp only [e0, e5, e17, e19, e1, e2, e12, e14, e15, e17r])) dL_law_916 (by decide) ?_
        exact K r h ⟨q, n, tx, ep, km, mp, F, ux, sz, ho, sn, row, hI, hM2, by omega⟩
  · refine r_aload_1 (pc := 888) dL_law_888 ?_
    refine r_aload_0 (pc := 889) dL_law_889 ?_
    refine r_iload_3 (pc := 890) dL_law_890 ?_
    refine r_iconst (pc := 891) dL_law_891 ?_
    refine r_iadd (pc := 892) dL_law_892 ?_
    refine r_sld (pc := 893) hX dL_law_893 (by omega) (by omega) (fun i_893 => ?_)
    rw [ha1]
    refine r_aload_0 (pc := 894) dL_law_894 ?_
    refine r_iload_3 (pc := 895) dL_law_895 ?_
    refine r_iconst (pc := 896) dL_law_896 ?_
    refine r_iadd (pc := 897) dL_law_897 ?_
    refine r_sld (pc := 898) hX dL_law_898 (by omega) (by omega) (fun i_898 => ?_)
    rw [ha2]
    refine k_VI2 (pc := 899) c_X7_share lk_L_113 ⟨(Nat.le_of_ble_eq_true rfl), (Nat.le_of_ble_eq_true rfl)⟩ ⟨rfl, rfl⟩ ⟨(Nat.le_of_ble_eq_true rfl), (Nat.le_of_ble_eq_true rfl)⟩ (k := 7) rfl (by decide) cl0 dL_law_899 (Nat.le_of_ble_eq_true rfl) ?_
    refine ⟨c, q, n, tx, ep, km, mp, F, ux, sz, ho, sn, row, a1, a2, rfl, hI, g1, g2, fun _ => ?_, fun z => absurd z hc⟩
    have hM2 := hM
    obtain ⟨hMd2, ⟨e0, e5, e17, e19⟩, ⟨e1, e2, e12, e14, e15, e17r⟩, hWa2, hz2, hkp2, hes2⟩ := id hM2
    refine r_aload_2 (pc := 902) dL_law_902 ?_
    refine r_aload_0 (pc := 903) dL_law_903 ?_
    refine r_iload_3 (pc := 904) dL_law_904 ?_
    refine r_iconst (pc := 905) dL_law_905 ?_
    refine r_iadd (pc := 906) dL_law_906 ?_
    refine r_sld (pc := 907) hX dL_law_907 (by omega) (by omega) (fun i_907 => ?_)
    rw [ha1]
    refine r_aload_0 (pc := 908) dL_law_908 ?_
    refine r_iload_3 (pc := 909) dL_law_909 ?_
    refine r_iconst (pc := 910) dL_law_910 ?_
    refine r_iadd (pc := 911) dL_law_911 ?_
    refine r_sld (pc := 912) hX dL_law_912 (by omega) (by omega) (fun i_912 => ?_)
    rw [ha2]
    refine k_VI2 (pc := 913) c_X8_share lk_L_116 ⟨(Nat.le_of_ble_eq_true rfl), (Nat.le_of_ble_eq_true rfl)⟩ ⟨rfl, rfl⟩ ⟨(Nat.le_of_ble_eq_true rfl), (Nat.le_of_ble_eq_true rfl)⟩ (k := 8) rfl (by decide) hMd2.1 dL_law_913 (Nat.le_of_ble_eq_true rfl) ?_
    refine ⟨b, mp, a1, a2, rfl, hMd2, e2, hT, hR, g1, g2, fun _ => ?_, fun z => absurd z hc⟩
    refine r_same (pc := 916) (tgt := 1462) (by first | rfl | (simp only [e0, e5, e17, e19, e1, e2, e12, e14, e15, e17r])) dL_law_916 (by decide) ?_
    exact K r h ⟨q, n, tx, ep, km, mp, F, ux, sz, ho, sn, row, hI, hM2, by omega⟩
theorem dL_law_1439 : decode code 1439 = .ok (.aload_n 1, 1) := by decide +kernel
theorem dL_law_1440 : decode code 1440 = .ok (.aload_n 0, 1) := by decide +kernel
theorem dL_law_1441 : decode code 1441 = .ok (.iload_n 3, 1) := by decide +kernel
theorem dL_law_1442 : decode code 1442 = .ok (.iconst 1, 1) := by decide +kernel
theorem dL_law_1443 : decode code 1443 = .ok (.iadd, 1) := by decide +kernel
theorem dL_law_1444 : decode code 1444 = .ok (.iaload, 1) := by decide +kernel
theorem dL_law_1445 : decode code 1445 = .ok (.invokevirtual 181, 3) := by decide +kernel
theorem dL_law_1448 : decode code 1448 = .ok (.aload_n 2, 1) := by decide +kernel
theorem dL_law_1449 : decode code 1449 = .ok (.aload_n 0, 1) := by decide +kernel
theorem dL_law_1450 : decode code 1450 = .ok (.iload_n 3, 1) := by decide +kernel
theorem dL_law_1451 : decode code 1451 = .ok (.iconst 1, 1) := by decide +kernel
theorem dL_law_1452 : decode code 1452 = .ok (.iadd, 1) := by decide +kernel
theorem dL_law_1453 : decode code 1453 = .ok (.iaload, 1) := by decide +kernel
theorem dL_law_1454 : decode code 1454 = .ok (.invokevirtual 184, 3) := by decide +kernel
theorem dL_law_1457 : decode code 1457 = .ok (.if_icmp .eq 5, 3) := by decide +kernel
set_option maxHeartbeats 4000000 in
set_option maxRecDepth 20000 in
theorem law_count {E : EnT} {nm : String} {lay : LyT} {r : RfT} {h : HpT} {c b b0 L N : Nat} {sx : Int → Int} {i : Int} (hX : ScE E b0 L sx) (hi : 0 ≤ i ∧ i + 4 ≤ L) (hL : L ≤ 2048) (hcb : b = c + 101) (hLI : LI lay c b i r h) (K : ∀ r' h', LI lay c b (i + 4) r' h' → St E (mL_law nm) 1462 [some (.ref b0), some (.ref c), some (.ref b), some (vI i)] [] (122, 20801) N lay r' h') : St E (mL_law nm) 1439 [some (.ref b0), some (.ref c), some (.ref b), some (vI i)] [] (122, 20801) N lay r h := by
  obtain ⟨q, n, tx, ep, km, mp, F, ux, sz, ho, sn, row, hI, hM, hle⟩ := hLI
  have hP0 := hI.2.2.2.2.2.1 0 (by omega) (by omega) (by have := hI.2.2.2.2.1.2.1; omega)
  rw [hI.2.2.2.2.2.2.1.1] at hP0
  have hT := hP0.1
  have hR := hP0.2.1
  have hep := hI.2.2.2.2.1
  have cl0 : lay c = (8, 0) := hI.1.1
  obtain ⟨a1, ha1⟩ : ∃ z, sx (i + 1) = z := ⟨_, rfl⟩
  have g1 := sc_rng hX (i + 1)
  rw [ha1] at g1
  by_cases hc : 0 ≤ a1 ∧ a1 ≤ 16
  · rcases (show a1 < 8 ∨ a1 = 8 ∨ a1 = 9 ∨ a1 = 10 ∨ a1 = 11 ∨ (12 ≤ a1 ∧ a1 ≤ 14) ∨ a1 = 15 ∨ a1 = 16 by omega) with hv | hv | hv | hv | hv | hv | hv | hv
    · refine r_aload_1 (pc := 1439) dL_law_1439 ?_
      refine r_aload_0 (pc := 1440) dL_law_1440 ?_
      refine r_iload_3 (pc := 1441) dL_law_1441 ?_
      refine r_iconst (pc := 1442) dL_law_1442 ?_
      refine r_iadd (pc := 1443) dL_law_1443 ?_
      refine r_sld (pc := 1444) hX dL_law_1444 (by omega) (by omega) (fun i_1444 => ?_)
      rw [ha1]
      refine k_VI1 (pc := 1445) c_X7_count lk_L_181 ⟨(Nat.le_of_ble_eq_true rfl), (Nat.le_of_ble_eq_true rfl)⟩ ⟨rfl, rfl⟩ ⟨(Nat.le_of_ble_eq_true rfl), (Nat.le_of_ble_eq_true rfl)⟩ (k := 7) rfl (by decide) cl0 dL_law_1445 (Nat.le_of_ble_eq_true rfl) ?_
      refine ⟨c, q, n, tx, ep, km, mp, F, ux, sz, ho, sn, row, a1, rfl, hI, g1, fun z => absurd hc z, fun _ => ⟨fun _ => ?_, fun z => by omega, fun z => by omega, fun z => by omega, fun z => by omega, fun z _ => by omega, fun z => by omega, fun z => by omega⟩⟩
      have hM2 := hM
      obtain ⟨hMd2, ⟨e0, e5, e17, e19⟩, ⟨e1, e2, e12, e14, e15, e17r⟩, hWa2, hz2, hkp2, hes2⟩ := id hM2
      refine r_aload_2 (pc := 1448) dL_law_1448 ?_
      refine r_aload_0 (pc := 1449) dL_law_1449 ?_
      refine r_iload_3 (pc := 1450) dL_law_1450 ?_
      refine r_iconst (pc := 1451) dL_law_1451 ?_
      refine r_iadd (pc := 1452) dL_law_1452 ?_
      refine r_sld (pc := 1453) hX dL_law_1453 (by omega) (by omega) (fun i_1453 => ?_)
      rw [ha1]
      refine k_VI1 (pc := 1454) c_X8_count lk_L_184 ⟨(Nat.le_of_ble_eq_true rfl), (Nat.le_of_ble_eq_true rfl)⟩ ⟨rfl, rfl⟩ ⟨(Nat.le_of_ble_eq_true rfl), (Nat.le_of_ble_eq_true rfl)⟩ (k := 8) rfl (by decide) hMd2.1 dL_law_1454 (Nat.le_of_ble_eq_true rfl) ?_
      refine ⟨b, mp, a1, rfl, hMd2, e2, hT, hR, g1, fun z => absurd hc z, fun _ => ⟨fun _ => ?_, fun z => by omega, fun z => by omega, fun z => by omega, fun z => by omega, fun z _ => by omega, fun z => by omega, fun z => by omega⟩⟩
      refine r_same (pc := 1457) (tgt := 1462) (by first | rfl | (simp only [e0, e5, e17, e19, e1, e2, e12, e14, e15, e17r])) dL_law_1457 (by decide) ?_
      exact K r h ⟨q, n, tx, ep, km, mp, F, ux, sz, ho, sn, row, hI, hM2, by omega⟩
    · refine r_aload_1 (pc := 1439) dL_law_1439 ?_
      refine r_aload_0 (pc := 1440) dL_law_1440 ?_
      refine r_iload_3 (pc := 1441) dL_law_1441 ?_
      refine r_iconst (pc := 1442) dL_law_1442 ?_
      refine r_iadd (pc := 1443) dL_law_1443 ?_
      refine r_sld (pc := 1444) hX dL_law_1444 (by omega) (by omega) (fun i_1444 => ?_)
      rw [ha1]
      refine k_VI1 (pc := 1445) c_X7_count lk_L_181 ⟨(Nat.le_of_ble_eq_true rfl), (Nat.le_of_ble_eq_true rfl)⟩ ⟨rfl, rfl⟩ ⟨(Nat.le_of_ble_eq_true rfl), (Nat.le_of_ble_eq_true rfl)⟩ (k := 7) rfl (by decide) cl0 dL_law_1445 (Nat.le_of_ble_eq_true rfl) ?_
      refine ⟨c, q, n, tx, ep, km, mp, F, ux, sz, ho, sn, row, a1, rfl, hI, g1, fun z => absurd hc z, fun _ => ⟨fun z => by omega, fun _ => ?_, fun z => by omega, fun z => by omega, fun z => by omega, fun z _ => by omega, fun z => by omega, fun z => by omega⟩⟩
      have hM2 := hM
      obtain ⟨hMd2, ⟨e0, e5, e17, e19⟩, ⟨e1, e2, e12, e14, e15, e17r⟩, hWa2, hz2, hkp2, hes2⟩ := id hM2
      refine r_aload_2 (pc := 1448) dL_law_1448 ?_
      refine r_aload_0 (pc := 1449) dL_law_1449 ?_
      refine r_iload_3 (pc := 1450) dL_law_1450 ?_
      refine r_iconst (pc := 1451) dL_law_1451 ?_
      refine r_iadd (pc := 1452) dL_law_1452 ?_
      refine r_sld (pc := 1453) hX dL_law_1453 (by omega) (by omega) (fun i_1453 => ?_)
      rw [ha1]
      refine k_VI1 (pc := 1454) c_X8_count lk_L_184 ⟨(Nat.le_of_ble_eq_true rfl), (Nat.le_of_ble_eq_true rfl)⟩ ⟨rfl, rfl⟩ ⟨(Nat.le_of_ble_eq_true rfl), (Nat.le_of_ble_eq_true rfl)⟩ (k := 8) rfl (by decide) hMd2.1 dL_law_1454 (Nat.le_of_ble_eq_true rfl) ?_
      refine ⟨b, mp, a1, rfl, hMd2, e2, hT, hR, g1, fun z => absurd hc z, fun _ => ⟨fun z => by omega, fun _ => ?_, fun z => by omega, fun z => by omega, fun z => by omega, fun z _ => by omega, fun z => by omega, fun z => by omega⟩⟩
      refine r_same (pc := 1457) (tgt := 1462) (by first | rfl | (simp only [e0, e5, e17, e19, e1, e2, e12, e14, e15, e17r])) dL_law_1457 (by decide) ?_
      exact K r h ⟨q, n, tx, ep, km, mp, F, ux, sz, ho, sn, row, hI, hM2, by omega⟩
    · refine r_aload_1 (pc := 1439) dL_law_1439 ?_
      refine r_aload_0 (pc := 1440) dL_law_1440 ?_
      refine r_iload_3 (pc := 1441) dL_law_1441 ?_
      refine r_iconst (pc := 1442) dL_law_1442 ?_
      refine r_iadd (pc := 1443) dL_law_1443 ?_
      refine r_sld (pc := 1444) hX dL_law_1444 (by omega) (by omega) (fun i_1444 => ?_)
      rw [ha1]
      refine k_VI1 (pc := 1445) c_X7_count lk_L_181 ⟨(Nat.le_of_ble_eq_true rfl), (Nat.le_of_ble_eq_true rfl)⟩ ⟨rfl, rfl⟩ ⟨(Nat.le_of_ble_eq_true rfl), (Nat.le_of_ble_eq_true rfl)⟩ (k := 7) rfl (by decide) cl0 dL_law_1445 (Nat.le_of_ble_eq_true rfl) ?_
      refine ⟨c, q, n, tx, ep, km, mp, F, ux, sz, ho, sn, row, a1, rfl, hI, g1, fun z => absurd hc z, fun _ => ⟨fun z => by omega, fun z => by omega, fun _ => ?_, fun z => by omega, fun z => by omega, fun z _ => by omega, fun z => by omega, fun z => by omega⟩⟩
      have hM2 := hM
      obtain ⟨hMd2, ⟨e0, e5, e17, e19⟩, ⟨e1, e2, e12, e14, e15, e17r⟩, hWa2, hz2, hkp2, hes2⟩ := id hM2
      refine r_aload_2 (pc := 1448) dL_law_1448 ?_
      refine r_aload_0 (pc := 1449) dL_law_1449 ?_
      refine r_iload_3 (pc := 1450) dL_law_1450 ?_
      refine r_iconst (pc := 1451) dL_law_1451 ?_
      refine r_iadd (pc := 1452) dL_law_1452 ?_
      refine r_sld (pc := 1453) hX dL_law_1453 (by omega) (by omega) (fun i_1453 => ?_)
      rw [ha1]
      refine k_VI1 (pc := 1454) c_X8_count lk_L_184 ⟨(Nat.le_of_ble_eq_true rfl), (Nat.le_of_ble_eq_true rfl)⟩ ⟨rfl, rfl⟩ ⟨(Nat.le_of_ble_eq_true rfl), (Nat.le_of_ble_eq_true rfl)⟩ (k := 8) rfl (by decide) hMd2.1 dL_law_1454 (Nat.le_of_ble_eq_true rfl) ?_
      refine ⟨b, mp, a1, rfl, hMd2, e2, hT, hR, g1, fun z => absurd hc z, fun _ => ⟨fun z => by omega, fun z => by omega, fun _ => ?_, fun z => by omega, fun z => by omega, fun z _ => by omega, fun z => by omega, fun z => by omega⟩⟩
      refine r_same (pc := 1457) (tgt := 1462) (by exact kn_cnt hep.2.1 hes2) dL_law_1457 (by decide) ?_
      exact K r h ⟨q, n, tx, ep, km, mp, F, ux, sz, ho, sn, row, hI, hM2, by omega⟩
    · refine r_aload_1 (pc := 1439) dL_law_1439 ?_
      refine r_aload_0 (pc := 1440) dL_law_1440 ?_
      refine r_iload_3 (pc := 1441) dL_law_1441 ?_
      refine r_iconst (pc := 1442) dL_law_1442 ?_
      refine r_iadd (pc := 1443) dL_law_1443 ?_
      refine r_sld (pc := 1444) hX dL_law_1444 (by omega) (by omega) (fun i_1444 => ?_)
      rw [ha1]
      refine k_VI1 (pc := 1445) c_X7_count lk_L_181 ⟨(Nat.le_of_ble_eq_true rfl), (Nat.le_of_ble_eq_true rfl)⟩ ⟨rfl, rfl⟩ ⟨(Nat.le_of_ble_eq_true rfl), (Nat.le_of_ble_eq_true rfl)⟩ (k := 7) rfl (by decide) cl0 dL_law_1445 (Nat.le_of_ble_eq_true rfl) ?_
      refine ⟨c, q, n, tx, ep, km, mp, F, ux, sz, ho, sn, row, a1, rfl, hI, g1, fun z => absurd hc z, fun _ => ⟨fun z => by omega, fun z => by omega, fun z => by omega, fun _ => ?_, fun z => by omega, fun z _ => by omega, fun z => by omega, fun z => by omega⟩⟩
      have hM2 := hM
      obtain ⟨hMd2, ⟨e0, e5, e17, e19⟩, ⟨e1, e2, e12, e14, e15, e17r⟩, hWa2, hz2, hkp2, hes2⟩ := id hM2
      refine r_aload_2 (pc := 1448) dL_law_1448 ?_
      refine r_aload_0 (pc := 1449) dL_law_1449 ?_
      refine r_iload_3 (pc := 1450) dL_law_1450 ?_
      refine r_iconst (pc := 1451) dL_law_1451 ?_
      refine r_iadd (pc := 1452) dL_law_1452 ?_
      refine r_sld (pc := 1453) hX dL_law_1453 (by omega) (by omega) (fun i_1453 => ?_)
      rw [ha1]
      refine k_VI1 (pc := 1454) c_X8_count lk_L_184 ⟨(Nat.le_of_ble_eq_true rfl), (Nat.le_of_ble_eq_true rfl)⟩ ⟨rfl, rfl⟩ ⟨(Nat.le_of_ble_eq_true rfl), (Nat.le_of_ble_eq_true rfl)⟩ (k := 8) rfl (by decide) hMd2.1 dL_law_1454 (Nat.le_of_ble_eq_true rfl) ?_
      refine ⟨b, mp, a1, rfl, hMd2, e2, hT, hR, g1, fun z => absurd hc z, fun _ => ⟨fun z => by omega, fun z => by omega, fun z => by omega, fun _ => ?_, fun z => by omega, fun z _ => by omega, fun z => by omega, fun z => by omega⟩⟩
      refine r_same (pc := 1457) (tgt := 1462) (by first | rfl | (simp only [e0, e5, e17, e19, e1, e2, e12, e14, e15, e17r])) dL_law_1457 (by decide) ?_
      exact K r h ⟨q, n, tx, ep, km, mp, F, ux, sz, ho, sn, row, hI, hM2, by omega⟩
    · refine r_aload_1 (pc := 1439) dL_law_1439 ?_
      refine r_aload_0 (pc := 1440) dL_law_1440 ?_
      refine r_iload_3 (pc := 1441) dL_law_1441 ?_
      refine r_iconst (pc := 1442) dL_law_1442 ?_
      refine r_iadd (pc := 1443) dL_law_1443 ?_
      refine r_sld (pc := 1444) hX dL_law_1444 (by omega) (by omega) (fun i_1444 => ?_)
      rw [ha1]
      refine k_VI1 (pc := 1445) c_X7_count lk_L_181 ⟨(Nat.le_of_ble_eq_true rfl), (Nat.le_of_ble_eq_true rfl)⟩ ⟨rfl, rfl⟩ ⟨(Nat.le_of_ble_eq_true rfl), (Nat.le_of_ble_eq_true rfl)⟩ (k := 7) rfl (by decide) cl0 dL_law_1445 (Nat.le_of_ble_eq_true rfl) ?_
      refine ⟨c, q, n, tx, ep, km, mp, F, ux, sz, ho, sn, row, a1, rfl, hI, g1, fun z => absurd hc z, fun _ => ⟨fun z => by omega, fun z => by omega, fun z => by omega, fun z => by omega, fun _ => ?_, fun z _ => by omega, fun z => by omega, fun z => by omega⟩⟩
      have hM2 := hM
      obtain ⟨hMd2, ⟨e0, e5, e17, e19⟩, ⟨e1, e2, e12, e14, e15, e17r⟩, hWa2, hz2, hkp2, hes2⟩ := id hM2
      refine r_aload_2 (pc := 1448) dL_law_1448 ?_
      refine r_aload_0 (pc := 1449) dL_law_1449 ?_
      refine r_iload_3 (pc := 1450) dL_law_1450 ?_
      refine r_iconst (pc := 1451) dL_law_1451 ?_
      refine r_iadd (pc := 1452) dL_law_1452 ?_
      refine r_sld (pc := 1453) hX dL_law_1453 (by omega) (by omega) (fun i_1453 => ?_)
      rw [ha1]
      refine k_VI1 (pc := 1454) c_X8_count lk_L_184 ⟨(Nat.le_of_ble_eq_true rfl), (Nat.le_of_ble_eq_true rfl)⟩ ⟨rfl, rfl⟩ ⟨(Nat.le_of_ble_eq_true rfl), (Nat.le_of_ble_eq_true rfl)⟩ (k := 8) rfl (by decide) hMd2.1 dL_law_1454 (Nat.le_of_ble_eq_true rfl) ?_
      refine ⟨b, mp, a1, rfl, hMd2, e2, hT, hR, g1, fun z => absurd hc z, fun _ => ⟨fun z => by omega, fun z => by omega, fun z => by omega, fun z => by omega, fun _ => ?_, fun z _ => by omega, fun z => by omega, fun z => by omega⟩⟩
      refine r_same (pc := 1457) (tgt := 1462) (by first | rfl | (simp only [e0, e5, e17, e19, e1, e2, e12, e14, e15, e17r])) dL_law_1457 (by decide) ?_
      exact K r h ⟨q, n, tx, ep, km, mp, F, ux, sz, ho, sn, row, hI, hM2, by omega⟩
    · refine r_aload_1 (pc := 1439) dL_law_1439 ?_
      refine r_aload_0 (pc := 1440) dL_law_1440 ?_
      refine r_iload_3 (pc := 1441) dL_law_1441 ?_
      refine r_iconst (pc := 1442) dL_law_1442 ?_
      refine r_iadd (pc := 1443) dL_law_1443 ?_
      refine r_sld (pc := 1444) hX dL_law_1444 (by omega) (by omega) (fun i_1444 => ?_)
      rw [ha1]
      refine k_VI1 (pc := 1445) c_X7_count lk_L_181 ⟨(Nat.le_of_ble_eq_true rfl), (Nat.le_of_ble_eq_true rfl)⟩ ⟨rfl, rfl⟩ ⟨(Nat.le_of_ble_eq_true rfl), (Nat.le_of_ble_eq_true rfl)⟩ (k := 7) rfl (by decide) cl0 dL_law_1445 (Nat.le_of_ble_eq_true rfl) ?_
      refine ⟨c, q, n, tx, ep, km, mp, F, ux, sz, ho, sn, row, a1, rfl, hI, g1, fun z => absurd hc z, fun _ => ⟨fun z => by omega, fun z => by omega, fun z => by omega, fun z => by omega, fun z => by omega, fun _ _ => ?_, fun z => by omega, fun z => by omega⟩⟩
      have hM2 := hM
      obtain ⟨hMd2, ⟨e0, e5, e17, e19⟩, ⟨e1, e2, e12, e14, e15, e17r⟩, hWa2, hz2, hkp2, hes2⟩ := id hM2
      refine r_aload_2 (pc := 1448) dL_law_1448 ?_
      refine r_aload_0 (pc := 1449) dL_law_1449 ?_
      refine r_iload_3 (pc := 1450) dL_law_1450 ?_
      refine r_iconst (pc := 1451) dL_law_1451 ?_
      refine r_iadd (pc := 1452) dL_law_1452 ?_
      refine r_sld (pc := 1453) hX dL_law_1453 (by omega) (by omega) (fun i_1453 => ?_)
      rw [ha1]
      refine k_VI1 (pc := 1454) c_X8_count lk_L_184 ⟨(Nat.le_of_ble_eq_true rfl), (Nat.le_of_ble_eq_true rfl)⟩ ⟨rfl, rfl⟩ ⟨(Nat.le_of_ble_eq_true rfl), (Nat.le_of_ble_eq_true rfl)⟩ (k := 8) rfl (by decide) hMd2.1 dL_law_1454 (Nat.le_of_ble_eq_true rfl) ?_
      refine ⟨b, mp, a1, rfl, hMd2, e2, hT, hR, g1, fun z => absurd hc z, fun _ => ⟨fun z => by omega, fun z => by omega, fun z => by omega, fun z => by omega, fun z => by omega, fun _ _ => ?_, fun z => by omega, fun z => by omega⟩⟩
      refine r_same (pc := 1457) (tgt := 1462) (by first | rfl | (simp only [e0, e5, e17, e19, e1, e2, e12, e14, e15, e17r])) dL_law_1457 (by decide) ?_
      exact K r h ⟨q, n, tx, ep, km, mp, F, ux, sz, ho, sn, row, hI, hM2, by omega⟩
    · refine r_aload_1 (pc := 1439) dL_law_1439 ?_
      refine r_aload_0 (pc := 1440) dL_law_1440 ?_
      refine r_iload_3 (pc := 1441) dL_law_1441 ?_
      refine r_iconst (pc := 1442) dL_law_1442 ?_
      refine r_iadd (pc := 1443) dL_law_1443 ?_
      refine r_sld (pc := 1444) hX dL_law_1444 (by omega) (by omega) (fun i_1444 => ?_)
      rw [ha1]
      refine k_VI1 (pc := 1445) c_X7_count lk_L_181 ⟨(Nat.le_of_ble_eq_true rfl), (Nat.le_of_ble_eq_true rfl)⟩ ⟨rfl, rfl⟩ ⟨(Nat.le_of_ble_eq_true rfl), (Nat.le_of_ble_eq_true rfl)⟩ (k := 7) rfl (by decide) cl0 dL_law_1445 (Nat.le_of_ble_eq_true rfl) ?_
      refine ⟨c, q, n, tx, ep, km, mp, F, ux, sz, ho, sn, row, a1, rfl, hI, g1, fun z => absurd hc z, fun _ => ⟨fun z => by omega, fun z => by omega, fun z => by omega, fun z => by omega, fun z => by omega, fun z _ => by omega, fun _ => ?_, fun z => by omega⟩⟩
      have hM2 := hM
      obtain ⟨hMd2, ⟨e0, e5, e17, e19⟩, ⟨e1, e2, e12, e14, e15, e17r⟩, hWa2, hz2, hkp2, hes2⟩ := id hM2
      refine r_aload_2 (pc := 1448) dL_law_1448 ?_
      refine r_aload_0 (pc := 1449) dL_law_1449 ?_
      refine r_iload_3 (pc := 1450) dL_law_1450 ?_
      refine r_iconst (pc := 1451) dL_law_1451 ?_
      refine r_iadd (pc := 1452) dL_law_1452 ?_
      refine r_sld (pc := 1453) hX dL_law_1453 (by omega) (by omega) (fun i_1453 => ?_)
      rw [ha1]
      refine k_VI1 (pc := 1454) c_X8_count lk_L_184 ⟨(Nat.le_of_ble_eq_true rfl), (Nat.le_of_ble_eq_true rfl)⟩ ⟨rfl, rfl⟩ ⟨(Nat.le_of_ble_eq_true rfl), (Nat.le_of_ble_eq_true rfl)⟩ (k := 8) rfl (by decide) hMd2.1 dL_law_1454 (Nat.le_of_ble_eq_true rfl) ?_
      refine ⟨b, mp, a1, rfl, hMd2, e2, hT, hR, g1, fun z => absurd hc z, fun _ => ⟨fun z => by omega, fun z => by omega, fun z => by omega, fun z => by omega, fun z => by omega, fun z _ => by omega, fun _ => ?_, fun z => by omega⟩⟩
      refine r_same (pc := 1457) (tgt := 1462) (by first | rfl | (simp only [e0, e5, e17, e19, e1, e2, e12, e14, e15, e17r])) dL_law_1457 (by decide) ?_
      exact K r h ⟨q, n, tx, ep, km, mp, F, ux, sz, ho, sn, row, hI, hM2, by omega⟩
    · refine r_aload_1 (pc := 1439) dL_law_1439 ?_
      refine r_aload_0 (pc := 1440) dL_law_1440 ?_
      refine r_iload_3 (pc := 1441) dL_law_1441 ?_
      refine r_iconst (pc := 1442) dL_law_1442 ?_
      refine r_iadd (pc := 1443) dL_law_1443 ?_
      refine r_sld (pc := 1444) hX dL_law_1444 (by omega) (by omega) (fun i_1444 => ?_)
      rw [ha1]
      refine k_VI1 (pc := 1445) c_X7_count lk_L_181 ⟨(Nat.le_of_ble_eq_true rfl), (Nat.le_of_ble_eq_true rfl)⟩ ⟨rfl, rfl⟩ ⟨(Nat.le_of_ble_eq_true rfl), (Nat.le_of_ble_eq_true rfl)⟩ (k := 7) rfl (by decide) cl0 dL_law_1445 (Nat.le_of_ble_eq_true rfl) ?_
      refine ⟨c, q, n, tx, ep, km, mp, F, ux, sz, ho, sn, row, a1, rfl, hI, g1, fun z => absurd hc z, fun _ => ⟨fun z => by omega, fun z => by omega, fun z => by omega, fun z => by omega, fun z => by omega, fun z _ => by omega, fun z => by omega, fun _ => ?_⟩⟩
      have hM2 := hM
      obtain ⟨hMd2, ⟨e0, e5, e17, e19⟩, ⟨e1, e2, e12, e14, e15, e17r⟩, hWa2, hz2, hkp2, hes2⟩ := id hM2
      refine r_aload_2 (pc := 1448) dL_law_1448 ?_
      refine r_aload_0 (pc := 1449) dL_law_1449 ?_
      refine r_iload_3 (pc := 1450) dL_law_1450 ?_
      refine r_iconst (pc := 1451) dL_law_1451 ?_
      refine r_iadd (pc := 1452) dL_law_1452 ?_
      refine r_sld (pc := 1453) hX dL_law_1453 (by omega) (by omega) (fun i_1453 => ?_)
      rw [ha1]
      refine k_VI1 (pc := 1454) c_X8_count lk_L_184 ⟨(Nat.le_of_ble_eq_true rfl), (Nat.le_of_ble_eq_true rfl)⟩ ⟨rfl, rfl⟩ ⟨(Nat.le_of_ble_eq_true rfl), (Nat.le_of_ble_eq_true rfl)⟩ (k := 8) rfl (by decide) hMd2.1 dL_law_1454 (Nat.le_of_ble_eq_true rfl) ?_
      refine ⟨b, mp, a1, rfl, hMd2, e2, hT, hR, g1, fun z => absurd hc z, fun _ => ⟨fun z => by omega, fun z => by omega, fun z => by omega, fun z => by omega, fun z => by omega, fun z _ => by omega, fun z => by omega, fun _ => ?_⟩⟩
      refine r_same (pc := 1457) (tgt := 1462) (by first | rfl | (simp only [e0, e5, e17, e19, e1, e2, e12, e14, e15, e17r])) dL_law_1457 (by decide) ?_
      exact K r h ⟨q, n, tx, ep, km, mp, F, ux, sz, ho, sn, row, hI, hM2, by omega⟩
  · refine r_aload_1 (pc := 1439) dL_law_1439 ?_
    refine r_aload_0 (pc := 1440) dL_law_1440 ?_
    refine r_iload_3 (pc := 1441) dL_law_1441 ?_
    refine r_iconst (pc := 1442) dL_law_1442 ?_
    refine r_iadd (pc := 1443) dL_law_1443 ?_
    refine r_sld (pc := 1444) hX dL_law_1444 (by omega) (by omega) (fun i_1444 => ?_)
    rw [ha1]
    refine k_VI1 (pc := 1445) c_X7_count lk_L_181 ⟨(Nat.le_of_ble_eq_true rfl), (Nat.le_of_ble_eq_true rfl)⟩ ⟨rfl, rfl⟩ ⟨(Nat.le_of_ble_eq_true rfl), (Nat.le_of_ble_eq_true rfl)⟩ (k := 7) rfl (by decide) cl0 dL_law_1445 (Nat.le_of_ble_eq_true rfl) ?_
    refine ⟨c, q, n, tx, ep, km, mp, F, ux, sz, ho, sn, row, a1, rfl, hI, g1, fun _ => ?_, fun z => absurd z hc⟩
    have hM2 := hM
    obtain ⟨hMd2, ⟨e0, e5, e17, e19⟩, ⟨e1, e2, e12, e14, e15, e17r⟩, hWa2, hz2, hkp2, hes2⟩ := id hM2
    refine r_aload_2 (pc := 1448) dL_law_1448 ?_
    refine r_aload_0 (pc := 1449) dL_law_1449 ?_
    refine r_iload_3 (pc := 1450) dL_law_1450 ?_
    refine r_iconst (pc := 1451) dL_law_1451 ?_
    refine r_iadd (pc := 1452) dL_law_1452 ?_
    refine r_sld (pc := 1453) hX dL_law_1453 (by omega) (by omega) (fun i_1453 => ?_)
    rw [ha1]
    refine k_VI1 (pc := 1454) c_X8_count lk_L_184 ⟨(Nat.le_of_ble_eq_true rfl), (Nat.le_of_ble_eq_true rfl)⟩ ⟨rfl, rfl⟩ ⟨(Nat.le_of_ble_eq_true rfl), (Nat.le_of_ble_eq_true rfl)⟩ (k := 8) rfl (by decide) hMd2.1 dL_law_1454 (Nat.le_of_ble_eq_true rfl) ?_
    refine ⟨b, mp, a1, rfl, hMd2, e2, hT, hR, g1, fun _ => ?_, fun z => absurd z hc⟩
    refine r_same (pc := 1457) (tgt := 1462) (by first | rfl | (simp only [e0, e5, e17, e19, e1, e2, e12, e14, e15, e17r])) dL_law_1457 (by decide) ?_
    exact K r h ⟨q, n, tx, ep, km, mp, F, ux, sz, ho, sn, row, hI, hM2, by omega⟩
theorem dL_law_921 : decode code 921 = .ok (.aload_n 1, 1) := by decide +kernel
theorem dL_law_922 : decode code 922 = .ok (.aload_n 0, 1) := by decide +kernel
theorem dL_law_923 : decode code 923 = .ok (.iload_n 3, 1) := by decide +kernel
theorem dL_law_924 : decode code 924 = .ok (.iconst 1, 1) := by decide +kernel
theorem dL_law_925 : decode code 925 = .ok (.iadd, 1) := by decide +kernel
theorem dL_law_926 : decode code 926 = .ok (.iaload, 1) := by decide +kernel
theorem dL_law_927 : decode code 927 = .ok (.aload_n 0, 1) := by decide +kernel
theorem dL_law_928 : decode code 928 = .ok (.iload_n 3, 1) := by decide +kernel
theorem dL_law_929 : decode code 929 = .ok (.iconst 2, 1) := by decide +kernel
theorem dL_law_930 : decode code 930 = .ok (.iadd, 1) := by decide +kernel
theorem dL_law_931 : decode code 931 = .ok (.iaload, 1) := by decide +kernel
theorem dL_law_932 : decode code 932 = .ok (.aload_n 0, 1) := by decide +kernel
theorem dL_law_933 : decode code 933 = .ok (.iload_n 3, 1) := by decide +kernel
theorem dL_law_934 : decode code 934 = .ok (.iconst 3, 1) := by decide +kernel
theorem dL_law_935 : decode code 935 = .ok (.iadd, 1) := by decide +kernel
theorem dL_law_936 : decode code 936 = .ok (.iaload, 1) := by decide +kernel
theorem dL_law_937 : decode code 937 = .ok (.invokevirtual 117, 3) := by decide +kernel
theorem dL_law_940 : decode code 940 = .ok (.aload_n 2, 1) := by decide +kernel
theorem dL_law_941 : decode code 941 = .ok (.aload_n 0, 1) := by decide +kernel
theorem dL_law_942 : decode code 942 = .ok (.iload_n 3, 1) := by decide +kernel
theorem dL_law_943 : decode code 943 = .ok (.iconst 1, 1) := by decide +kernel
theorem dL_law_944 : decode code 944 = .ok (.iadd, 1) := by decide +kernel
theorem dL_law_945 : decode code 945 = .ok (.iaload, 1) := by decide +kernel
theorem dL_law_946 : decode code 946 = .ok (.aload_n 0, 1) := by decide +kernel
theorem dL_law_947 : decode code 947 = .ok (.iload_n 3, 1) := by decide +kernel
theorem dL_law_948 : decode code 948 = .ok (.iconst 2, 1) := by decide +kernel
theorem dL_law_949 : decode code 949 = .ok (.iadd, 1) := by decide +kernel
theorem dL_law_950 : decode code 950 = .ok (.iaload, 1) := by decide +kernel
theorem dL_law_951 : decode code 951 = .ok (.aload_n 0, 1) := by decide +kernel
theorem dL_law_952 : decode code 952 = .ok (.iload_n 3, 1) := by decide +kernel
theorem dL_law_953 : decode code 953 = .ok (.iconst 3, 1) := by decide +kernel
theorem dL_law_954 : decode code 954 = .ok (.iadd, 1) := by decide +kernel
theorem dL_law_955 : decode code 955 = .ok (.iaload, 1) := by decide +kernel
theorem dL_law_956 : decode code 956 = .ok (.invokevirtual 120, 3) := by decide +kernel
theorem dL_law_959 : decode code 959 = .ok (.if_icmp .eq 503, 3) := by decide +kernel
set_option maxHeartbeats 4000000 in
set_option maxRecDepth 20000 in
theorem law_old {E : EnT} {nm : String} {lay : LyT} {r : RfT} {h : HpT} {c b b0 L N : Nat} {sx : Int → Int} {i : Int} (hX : ScE E b0 L sx) (hi : 0 ≤ i ∧ i + 4 ≤ L) (hL : L ≤ 2048) (hcb : b = c + 101) (hLI : LI lay c b i r h) (K : ∀ r' h', LI lay c b (i + 4) r' h' → St E (mL_law nm) 1462 [some (.ref b0), some (.ref c), some (.ref b), some (vI i)] [] (122, 20801) N lay r' h') : St E (mL_law nm) 921 [some (.ref b0), some (.ref c), some (.ref b), some (vI i)] [] (122, 20801) N lay r h := by
  obtain ⟨q, n, tx, ep, km, mp, F, ux, sz, ho, sn, row, hI, hM, hle⟩ := hLI
  have hP0 := hI.2.2.2.2.2.1 0 (by omega) (by omega) (by have := hI.2.2.2.2.1.2.1; omega)
  rw [hI.2.2.2.2.2.2.1.1] at hP0
  have hT := hP0.1
  have hR := hP0.2.1
  have hep := hI.2.2.2.2.1
  have cl0 : lay c = (8, 0) := hI.1.1
  obtain ⟨a1, ha1⟩ : ∃ z, sx (i + 1) = z := ⟨_, rfl⟩
  have g1 := sc_rng hX (i + 1)
  rw [ha1] at g1
  obtain ⟨a2, ha2⟩ : ∃ z, sx (i + 2) = z := ⟨_, rfl⟩
  have g2 := sc_rng hX (i + 2)
  rw [ha2] at g2
  obtain ⟨a3, ha3⟩ : ∃ z, sx (i + 3) = z := ⟨_, rfl⟩
  have g3 := sc_rng hX (i + 3)
  rw [ha3] at g3
  by_cases hc : (0 ≤ a2 ∧ a2 < 16) ∧ (0 ≤ a3 ∧ a3 ≤ 3)
  · by_cases hk : (1 ≤ a1 ∧ a1 ≤ ep ∧ ep - a1 < 5)
    · refine r_aload_1 (pc := 921) dL_law_921 ?_
      refine r_aload_0 (pc := 922) dL_law_922 ?_
      refine r_iload_3 (pc := 923) dL_law_923 ?_
      refine r_iconst (pc := 924) dL_law_924 ?_
      refine r_iadd (pc := 925) dL_law_925 ?_
      refine r_sld (pc := 926) hX dL_law_926 (by omega) (by omega) (fun i_926 => ?_)
      rw [ha1]
      refine r_aload_0 (pc := 927) dL_law_927 ?_
      refine r_iload_3 (pc := 928) dL_law_928 ?_
      refine r_iconst (pc := 929) dL_law_929 ?_
      refine r_iadd (pc := 930) dL_law_930 ?_
      refine r_sld (pc := 931) hX dL_law_931 (by omega) (by omega) (fun i_931 => ?_)
      rw [ha2]
      refine r_aload_0 (pc := 932) dL_law_932 ?_
      refine r_iload_3 (pc := 933) dL_law_933 ?_
      refine r_iconst (pc := 934) dL_law_934 ?_
      refine r_iadd (pc := 935) dL_law_935 ?_
      refine r_sld (pc := 936) hX dL_law_936 (by omega) (by omega) (fun i_936 => ?_)
      rw [ha3]
      refine k_VI3 (pc := 937) c_X7_old lk_L_117 ⟨(Nat.le_of_ble_eq_true rfl), (Nat.le_of_ble_eq_true rfl)⟩ ⟨rfl, rfl⟩ ⟨(Nat.le_of_ble_eq_true rfl), (Nat.le_of_ble_eq_true rfl)⟩ (k := 7) rfl (by decide) cl0 dL_law_937 (Nat.le_of_ble_eq_true rfl) ?_
      refine ⟨c, q, n, tx, ep, km, mp, F, ux, sz, ho, sn, row, a1, a2, a3, rfl, hI, g1, g2, g3, fun z => absurd hc z, fun _ => ⟨fun z => absurd hk z, fun _ => ?_⟩⟩
      have hM2 := hM
      obtain ⟨hMd2, ⟨e0, e5, e17, e19⟩, ⟨e1, e2, e12, e14, e15, e17r⟩, hWa2, hz2, hkp2, hes2⟩ := id hM2
      refine r_aload_2 (pc := 940) dL_law_940 ?_
      refine r_aload_0 (pc := 941) dL_law_941 ?_
      refine r_iload_3 (pc := 942) dL_law_942 ?_
      refine r_iconst (pc := 943) dL_law_943 ?_
      refine r_iadd (pc := 944) dL_law_944 ?_
      refine r_sld (pc := 945) hX dL_law_945 (by omega) (by omega) (fun i_945 => ?_)
      rw [ha1]
      refine r_aload_0 (pc := 946) dL_law_946 ?_
      refine r_iload_3 (pc := 947) dL_law_947 ?_
      refine r_iconst (pc := 948) dL_law_948 ?_
      refine r_iadd (pc := 949) dL_law_949 ?_
      refine r_sld (pc := 950) hX dL_law_950 (by omega) (by omega) (fun i_950 => ?_)
      rw [ha2]
      refine r_aload_0 (pc := 951) dL_law_951 ?_
      refine r_iload_3 (pc := 952) dL_law_952 ?_
      refine r_iconst (pc := 953) dL_law_953 ?_
      refine r_iadd (pc := 954) dL_law_954 ?_
      refine r_sld (pc := 955) hX dL_law_955 (by omega) (by omega) (fun i_955 => ?_)
      rw [ha3]
      have z9 := hM2.tr a1 ((hM2.no a1 hep.2.1).mpr hk) hep.2.1
      refine k_VI3 (pc := 956) c_X8_old lk_L_120 ⟨(Nat.le_of_ble_eq_true rfl), (Nat.le_of_ble_eq_true rfl)⟩ ⟨rfl, rfl⟩ ⟨(Nat.le_of_ble_eq_true rfl), (Nat.le_of_ble_eq_true rfl)⟩ (k := 8) rfl (by decide) hMd2.1 dL_law_956 (Nat.le_of_ble_eq_true rfl) ?_
      refine ⟨b, mp, a1, a2, a3, rfl, hMd2, e2, hT, hR, g1, g2, g3, hWa2, (fun e9 k1 _ k3 => by
        have z9 := hM2.tr e9 ⟨k1, k3⟩ hep.2.1
        have pm := hI.2.2.2.2.2.1 (ep - e9) (by omega) (by omega) (by omega)
        rw [z9.2]; exact ⟨pm.1, pm.2.1⟩), fun z => absurd hc z, fun _ => ⟨fun z => absurd ((hM2.no a1 hep.2.1).mpr hk) z, fun _ h3 f3 => ?_⟩⟩
      refine r_same (pc := 959) (tgt := 1462) (by rw [z9.2]) dL_law_959 (by decide) ?_
      exact K r h3 ⟨q, n, tx, ep, km, mp, F, ux, sz, ho, sn, row, hI.fr (fun x x0 x1 => f3 x (by omega)), hM2.s (fun j hj => by rw [f3 _ (by omega)]) (fun x x0 x1 hx => f3 x (by omega)), by omega⟩
    · refine r_aload_1 (pc := 921) dL_law_921 ?_
      refine r_aload_0 (pc := 922) dL_law_922 ?_
      refine r_iload_3 (pc := 923) dL_law_923 ?_
      refine r_iconst (pc := 924) dL_law_924 ?_
      refine r_iadd (pc := 925) dL_law_925 ?_
      refine r_sld (pc := 926) hX dL_law_926 (by omega) (by omega) (fun i_926 => ?_)
      rw [ha1]
      refine r_aload_0 (pc := 927) dL_law_927 ?_
      refine r_iload_3 (pc := 928) dL_law_928 ?_
      refine r_iconst (pc := 929) dL_law_929 ?_
      refine r_iadd (pc := 930) dL_law_930 ?_
      refine r_sld (pc := 931) hX dL_law_931 (by omega) (by omega) (fun i_931 => ?_)
      rw [ha2]
      refine r_aload_0 (pc := 932) dL_law_932 ?_
      refine r_iload_3 (pc := 933) dL_law_933 ?_
      refine r_iconst (pc := 934) dL_law_934 ?_
      refine r_iadd (pc := 935) dL_law_935 ?_
      refine r_sld (pc := 936) hX dL_law_936 (by omega) (by omega) (fun i_936 => ?_)
      rw [ha3]
      refine k_VI3 (pc := 937) c_X7_old lk_L_117 ⟨(Nat.le_of_ble_eq_true rfl), (Nat.le_of_ble_eq_true rfl)⟩ ⟨rfl, rfl⟩ ⟨(Nat.le_of_ble_eq_true rfl), (Nat.le_of_ble_eq_true rfl)⟩ (k := 7) rfl (by decide) cl0 dL_law_937 (Nat.le_of_ble_eq_true rfl) ?_
      refine ⟨c, q, n, tx, ep, km, mp, F, ux, sz, ho, sn, row, a1, a2, a3, rfl, hI, g1, g2, g3, fun z => absurd hc z, fun _ => ⟨fun _ => ?_, fun z => absurd z hk⟩⟩
      have hM2 := hM
      obtain ⟨hMd2, ⟨e0, e5, e17, e19⟩, ⟨e1, e2, e12, e14, e15, e17r⟩, hWa2, hz2, hkp2, hes2⟩ := id hM2
      refine r_aload_2 (pc := 940) dL_law_940 ?_
      refine r_aload_0 (pc := 941) dL_law_941 ?_
      refine r_iload_3 (pc := 942) dL_law_942 ?_
      refine r_iconst (pc := 943) dL_law_943 ?_
      refine r_iadd (pc := 944) dL_law_944 ?_
      refine r_sld (pc := 945) hX dL_law_945 (by omega) (by omega) (fun i_945 => ?_)
      rw [ha1]
      refine r_aload_0 (pc := 946) dL_law_946 ?_
      refine r_iload_3 (pc := 947) dL_law_947 ?_
      refine r_iconst (pc := 948) dL_law_948 ?_
      refine r_iadd (pc := 949) dL_law_949 ?_
      refine r_sld (pc := 950) hX dL_law_950 (by omega) (by omega) (fun i_950 => ?_)
      rw [ha2]
      refine r_aload_0 (pc := 951) dL_law_951 ?_
      refine r_iload_3 (pc := 952) dL_law_952 ?_
      refine r_iconst (pc := 953) dL_law_953 ?_
      refine r_iadd (pc := 954) dL_law_954 ?_
      refine r_sld (pc := 955) hX dL_law_955 (by omega) (by omega) (fun i_955 => ?_)
      rw [ha3]
      refine k_VI3 (pc := 956) c_X8_old lk_L_120 ⟨(Nat.le_of_ble_eq_true rfl), (Nat.le_of_ble_eq_true rfl)⟩ ⟨rfl, rfl⟩ ⟨(Nat.le_of_ble_eq_true rfl), (Nat.le_of_ble_eq_true rfl)⟩ (k := 8) rfl (by decide) hMd2.1 dL_law_956 (Nat.le_of_ble_eq_true rfl) ?_
      refine ⟨b, mp, a1, a2, a3, rfl, hMd2, e2, hT, hR, g1, g2, g3, hWa2, (fun e9 k1 _ k3 => by
        have z9 := hM2.tr e9 ⟨k1, k3⟩ hep.2.1
        have pm := hI.2.2.2.2.2.1 (ep - e9) (by omega) (by omega) (by omega)
        rw [z9.2]; exact ⟨pm.1, pm.2.1⟩), fun z => absurd hc z, fun _ => ⟨fun _ => ?_, fun z => absurd ((hM2.no a1 hep.2.1).mp z) hk⟩⟩
      refine r_same (pc := 959) (tgt := 1462) (by first | rfl | (simp only [e0, e5, e17, e19, e1, e2, e12, e14, e15, e17r])) dL_law_959 (by decide) ?_
      exact K r h ⟨q, n, tx, ep, km, mp, F, ux, sz, ho, sn, row, hI, hM2, by omega⟩
  · refine r_aload_1 (pc := 921) dL_law_921 ?_
    refine r_aload_0 (pc := 922) dL_law_922 ?_
    refine r_iload_3 (pc := 923) dL_law_923 ?_
    refine r_iconst (pc := 924) dL_law_924 ?_
    refine r_iadd (pc := 925) dL_law_925 ?_
    refine r_sld (pc := 926) hX dL_law_926 (by omega) (by omega) (fun i_926 => ?_)
    rw [ha1]
    refine r_aload_0 (pc := 927) dL_law_927 ?_
    refine r_iload_3 (pc := 928) dL_law_928 ?_
    refine r_iconst (pc := 929) dL_law_929 ?_
    refine r_iadd (pc := 930) dL_law_930 ?_
    refine r_sld (pc := 931) hX dL_law_931 (by omega) (by omega) (fun i_931 => ?_)
    rw [ha2]
    refine r_aload_0 (pc := 932) dL_law_932 ?_
    refine r_iload_3 (pc := 933) dL_law_933 ?_
    refine r_iconst (pc := 934) dL_law_934 ?_
    refine r_iadd (pc := 935) dL_law_935 ?_
    refine r_sld (pc := 936) hX dL_law_936 (by omega) (by omega) (fun i_936 => ?_)
    rw [ha3]
    refine k_VI3 (pc := 937) c_X7_old lk_L_117 ⟨(Nat.le_of_ble_eq_true rfl), (Nat.le_of_ble_eq_true rfl)⟩ ⟨rfl, rfl⟩ ⟨(Nat.le_of_ble_eq_true rfl), (Nat.le_of_ble_eq_true rfl)⟩ (k := 7) rfl (by decide) cl0 dL_law_937 (Nat.le_of_ble_eq_true rfl) ?_
    refine ⟨c, q, n, tx, ep, km, mp, F, ux, sz, ho, sn, row, a1, a2, a3, rfl, hI, g1, g2, g3, fun _ => ?_, fun z => absurd z hc⟩
    have hM2 := hM
    obtain ⟨hMd2, ⟨e0, e5, e17, e19⟩, ⟨e1, e2, e12, e14, e15, e17r⟩, hWa2, hz2, hkp2, hes2⟩ := id hM2
    refine r_aload_2 (pc := 940) dL_law_940 ?_
    refine r_aload_0 (pc := 941) dL_law_941 ?_
    refine r_iload_3 (pc := 942) dL_law_942 ?_
    refine r_iconst (pc := 943) dL_law_943 ?_
    refine r_iadd (pc := 944) dL_law_944 ?_
    refine r_sld (pc := 945) hX dL_law_945 (by omega) (by omega) (fun i_945 => ?_)
    rw [ha1]
    refine r_aload_0 (pc := 946) dL_law_946 ?_
    refine r_iload_3 (pc := 947) dL_law_947 ?_
    refine r_iconst (pc := 948) dL_law_948 ?_
    refine r_iadd (pc := 949) dL_law_949 ?_
    refine r_sld (pc := 950) hX dL_law_950 (by omega) (by omega) (fun i_950 => ?_)
    rw [ha2]
    refine r_aload_0 (pc := 951) dL_law_951 ?_
    refine r_iload_3 (pc := 952) dL_law_952 ?_
    refine r_iconst (pc := 953) dL_law_953 ?_
    refine r_iadd (pc := 954) dL_law_954 ?_
    refine r_sld (pc := 955) hX dL_law_955 (by omega) (by omega) (fun i_955 => ?_)
    rw [ha3]
    refine k_VI3 (pc := 956) c_X8_old lk_L_120 ⟨(Nat.le_of_ble_eq_true rfl), (Nat.le_of_ble_eq_true rfl)⟩ ⟨rfl, rfl⟩ ⟨(Nat.le_of_ble_eq_true rfl), (Nat.le_of_ble_eq_true rfl)⟩ (k := 8) rfl (by decide) hMd2.1 dL_law_956 (Nat.le_of_ble_eq_true rfl) ?_
    refine ⟨b, mp, a1, a2, a3, rfl, hMd2, e2, hT, hR, g1, g2, g3, hWa2, (fun e9 k1 _ k3 => by
      have z9 := hM2.tr e9 ⟨k1, k3⟩ hep.2.1
      have pm := hI.2.2.2.2.2.1 (ep - e9) (by omega) (by omega) (by omega)
      rw [z9.2]; exact ⟨pm.1, pm.2.1⟩), fun _ => ?_, fun z => absurd z hc⟩
    refine r_same (pc := 959) (tgt := 1462) (by first | rfl | (simp only [e0, e5, e17, e19, e1, e2, e12, e14, e15, e17r])) dL_law_959 (by decide) ?_
    exact K r h ⟨q, n, tx, ep, km, mp, F, ux, sz, ho, sn, row, hI, hM2, by omega⟩
