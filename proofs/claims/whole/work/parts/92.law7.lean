/-! THE LAW: one call on both sides, further cases -/
theorem dL_law_466 : decode code 466 = .ok (.aload_n 1, 1) := by decide +kernel
theorem dL_law_467 : decode code 467 = .ok (.aload_n 0, 1) := by decide +kernel
theorem dL_law_468 : decode code 468 = .ok (.iload_n 3, 1) := by decide +kernel
theorem dL_law_469 : decode code 469 = .ok (.iconst 1, 1) := by decide +kernel
theorem dL_law_470 : decode code 470 = .ok (.iadd, 1) := by decide +kernel
theorem dL_law_471 : decode code 471 = .ok (.iaload, 1) := by decide +kernel
theorem dL_law_472 : decode code 472 = .ok (.invokevirtual 57, 3) := by decide +kernel
theorem dL_law_475 : decode code 475 = .ok (.aload_n 2, 1) := by decide +kernel
theorem dL_law_476 : decode code 476 = .ok (.aload_n 0, 1) := by decide +kernel
theorem dL_law_477 : decode code 477 = .ok (.iload_n 3, 1) := by decide +kernel
theorem dL_law_478 : decode code 478 = .ok (.iconst 1, 1) := by decide +kernel
theorem dL_law_479 : decode code 479 = .ok (.iadd, 1) := by decide +kernel
theorem dL_law_480 : decode code 480 = .ok (.iaload, 1) := by decide +kernel
theorem dL_law_481 : decode code 481 = .ok (.invokevirtual 60, 3) := by decide +kernel
theorem dL_law_484 : decode code 484 = .ok (.if_icmp .eq 978, 3) := by decide +kernel
set_option maxHeartbeats 4000000 in
set_option maxRecDepth 20000 in
theorem law_lift {E : EnT} {nm : String} {lay : LyT} {r : RfT} {h : HpT} {c b b0 L N : Nat} {sx : Int → Int} {i : Int} (hX : ScE E b0 L sx) (hi : 0 ≤ i ∧ i + 4 ≤ L) (hL : L ≤ 2048) (hcb : b = c + 101) (hLI : LI lay c b i r h) (K : ∀ r' h', LI lay c b (i + 4) r' h' → St E (mL_law nm) 1462 [some (.ref b0), some (.ref c), some (.ref b), some (vI i)] [] (122, 20801) N lay r' h') : St E (mL_law nm) 466 [some (.ref b0), some (.ref c), some (.ref b), some (vI i)] [] (122, 20801) N lay r h := by
  obtain ⟨q, n, tx, ep, km, mp, F, ux, sz, ho, sn, row, hI, hM, hle⟩ := hLI
  have hP0 := hI.2.2.2.2.2.1 0 (by omega) (by omega) (by have := hI.2.2.2.2.1.2.1; omega)
  rw [hI.2.2.2.2.2.2.1.1] at hP0
  have hT := hP0.1
  have hR := hP0.2.1
  have hep := hI.2.2.2.2.1
  have cl0 : lay c = (8, 0) := hI.1.1
  obtain ⟨a1, ha1⟩ : ∃ z, sx (i + 1) = z := ⟨_, rfl⟩
  have g1 := sc_rng hX (i + 1)
  rw [ha1] at g1
  by_cases hc : 0 ≤ a1 ∧ a1 ≤ mp 135 - 1
  · refine r_aload_1 (pc := 466) dL_law_466 ?_
    refine r_aload_0 (pc := 467) dL_law_467 ?_
    refine r_iload_3 (pc := 468) dL_law_468 ?_
    refine r_iconst (pc := 469) dL_law_469 ?_
    refine r_iadd (pc := 470) dL_law_470 ?_
    refine r_sld (pc := 471) hX dL_law_471 (by omega) (by omega) (fun i_471 => ?_)
    rw [ha1]
    refine k_VI1 (pc := 472) c_X7_lift lk_L_57 ⟨(Nat.le_of_ble_eq_true rfl), (Nat.le_of_ble_eq_true rfl)⟩ ⟨rfl, rfl⟩ ⟨(Nat.le_of_ble_eq_true rfl), (Nat.le_of_ble_eq_true rfl)⟩ (k := 7) rfl (by decide) cl0 dL_law_472 (Nat.le_of_ble_eq_true rfl) ?_
    refine ⟨c, q, n, tx, ep, km, mp, F, ux, sz, ho, sn, row, a1, rfl, hI, by omega, g1, fun z => absurd hc z, fun _ r2 h2 fr2 f2 hI2 => ?_⟩
    have hM2 : MI lay r2 h2 b n tx ep km mp F ux sz ho sn row := hM.of (fr2 b (by omega)) (fun x x0 x1 => f2 x (by omega))
    obtain ⟨hMd2, ⟨e0, e5, e17, e19⟩, ⟨e1, e2, e12, e14, e15, e17r⟩, hWa2, hz2, hkp2, hes2⟩ := id hM2
    refine r_aload_2 (pc := 475) dL_law_475 ?_
    refine r_aload_0 (pc := 476) dL_law_476 ?_
    refine r_iload_3 (pc := 477) dL_law_477 ?_
    refine r_iconst (pc := 478) dL_law_478 ?_
    refine r_iadd (pc := 479) dL_law_479 ?_
    refine r_sld (pc := 480) hX dL_law_480 (by omega) (by omega) (fun i_480 => ?_)
    rw [ha1]
    refine k_VI1 (pc := 481) c_X8_lift lk_L_60 ⟨(Nat.le_of_ble_eq_true rfl), (Nat.le_of_ble_eq_true rfl)⟩ ⟨rfl, rfl⟩ ⟨(Nat.le_of_ble_eq_true rfl), (Nat.le_of_ble_eq_true rfl)⟩ (k := 8) rfl (by decide) hMd2.1 dL_law_481 (Nat.le_of_ble_eq_true rfl) ?_
    refine ⟨b, mp, a1, rfl, hMd2, e2, hT, hR, g1, hWa2, (by rw [e5]; omega), fun z => absurd hc z, fun _ h3 hCh => ?_⟩
    refine r_same (pc := 484) (tgt := 1462) (by first | rfl | (simp only [e0, e5, e17, e19, e1, e2, e12, e14, e15, e17r])) dL_law_484 (by decide) ?_
    exact K r2 h3 ⟨qN q, n, tx, ep + 1, kN km (lfR mp a1 (3 * (mp 135 - 1))), lfR mp a1 (3 * (mp 135 - 1)), h3 (b + 12), ux, sz, ho, sn, row, (hI2.fr (fun x x0 x1 => hCh.1 x (by omega))).cv (fun j j0 j1 => hCh.2.2.2.2.2 j j0 j1) (fun _ _ _ => rfl) (fun _ _ _ => rfl), hM2.ch hep.2.1 hCh (fun j hj => by
      have r5 := hR.2.2.2.2.1
      unfold lfR
      rw [if_neg (by omega), up_n (by omega)]; exact hz2 j hj) ⟨e0, e5, e17, e19⟩, by omega⟩
  · refine r_aload_1 (pc := 466) dL_law_466 ?_
    refine r_aload_0 (pc := 467) dL_law_467 ?_
    refine r_iload_3 (pc := 468) dL_law_468 ?_
    refine r_iconst (pc := 469) dL_law_469 ?_
    refine r_iadd (pc := 470) dL_law_470 ?_
    refine r_sld (pc := 471) hX dL_law_471 (by omega) (by omega) (fun i_471 => ?_)
    rw [ha1]
    refine k_VI1 (pc := 472) c_X7_lift lk_L_57 ⟨(Nat.le_of_ble_eq_true rfl), (Nat.le_of_ble_eq_true rfl)⟩ ⟨rfl, rfl⟩ ⟨(Nat.le_of_ble_eq_true rfl), (Nat.le_of_ble_eq_true rfl)⟩ (k := 7) rfl (by decide) cl0 dL_law_472 (Nat.le_of_ble_eq_true rfl) ?_
    refine ⟨c, q, n, tx, ep, km, mp, F, ux, sz, ho, sn, row, a1, rfl, hI, by omega, g1, fun _ => ?_, fun z => absurd z hc⟩
    have hM2 := hM
    obtain ⟨hMd2, ⟨e0, e5, e17, e19⟩, ⟨e1, e2, e12, e14, e15, e17r⟩, hWa2, hz2, hkp2, hes2⟩ := id hM2
    refine r_aload_2 (pc := 475) dL_law_475 ?_
    refine r_aload_0 (pc := 476) dL_law_476 ?_
    refine r_iload_3 (pc := 477) dL_law_477 ?_
    refine r_iconst (pc := 478) dL_law_478 ?_
    refine r_iadd (pc := 479) dL_law_479 ?_
    refine r_sld (pc := 480) hX dL_law_480 (by omega) (by omega) (fun i_480 => ?_)
    rw [ha1]
    refine k_VI1 (pc := 481) c_X8_lift lk_L_60 ⟨(Nat.le_of_ble_eq_true rfl), (Nat.le_of_ble_eq_true rfl)⟩ ⟨rfl, rfl⟩ ⟨(Nat.le_of_ble_eq_true rfl), (Nat.le_of_ble_eq_true rfl)⟩ (k := 8) rfl (by decide) hMd2.1 dL_law_481 (Nat.le_of_ble_eq_true rfl) ?_
    refine ⟨b, mp, a1, rfl, hMd2, e2, hT, hR, g1, hWa2, (by rw [e5]; omega), fun _ => ?_, fun z => absurd z hc⟩
    refine r_same (pc := 484) (tgt := 1462) (by first | rfl | (simp only [e0, e5, e17, e19, e1, e2, e12, e14, e15, e17r])) dL_law_484 (by decide) ?_
    exact K r h ⟨q, n, tx, ep, km, mp, F, ux, sz, ho, sn, row, hI, hM2, by omega⟩
theorem dL_law_410 : decode code 410 = .ok (.aload_n 1, 1) := by decide +kernel
theorem dL_law_411 : decode code 411 = .ok (.invokevirtual 48, 3) := by decide +kernel
theorem dL_law_414 : decode code 414 = .ok (.aload_n 2, 1) := by decide +kernel
theorem dL_law_415 : decode code 415 = .ok (.invokevirtual 51, 3) := by decide +kernel
theorem dL_law_418 : decode code 418 = .ok (.if_icmp .eq 1044, 3) := by decide +kernel
set_option maxHeartbeats 4000000 in
set_option maxRecDepth 20000 in
theorem law_refill {E : EnT} {nm : String} {lay : LyT} {r : RfT} {h : HpT} {c b b0 L N : Nat} {sx : Int → Int} {i : Int} (hX : ScE E b0 L sx) (hi : 0 ≤ i ∧ i + 4 ≤ L) (hL : L ≤ 2048) (hcb : b = c + 101) (hLI : LI lay c b i r h) (K : ∀ r' h', LI lay c b (i + 4) r' h' → St E (mL_law nm) 1462 [some (.ref b0), some (.ref c), some (.ref b), some (vI i)] [] (122, 20801) N lay r' h') : St E (mL_law nm) 410 [some (.ref b0), some (.ref c), some (.ref b), some (vI i)] [] (122, 20801) N lay r h := by
  obtain ⟨q, n, tx, ep, km, mp, F, ux, sz, ho, sn, row, hI, hM, hle⟩ := hLI
  have hP0 := hI.2.2.2.2.2.1 0 (by omega) (by omega) (by have := hI.2.2.2.2.1.2.1; omega)
  rw [hI.2.2.2.2.2.2.1.1] at hP0
  have hT := hP0.1
  have hR := hP0.2.1
  have hep := hI.2.2.2.2.1
  have cl0 : lay c = (8, 0) := hI.1.1
  by_cases hs : sm (rfF mp (ldF ho sz)) (mp 130).toNat = 0
  · refine r_aload_1 (pc := 410) dL_law_410 ?_
    refine k_VI0 (pc := 411) c_X7_refill lk_L_48 ⟨(Nat.le_of_ble_eq_true rfl), (Nat.le_of_ble_eq_true rfl)⟩ ⟨rfl, rfl⟩ ⟨(Nat.le_of_ble_eq_true rfl), (Nat.le_of_ble_eq_true rfl)⟩ (k := 7) rfl (by decide) cl0 dL_law_411 (Nat.le_of_ble_eq_true rfl) ?_
    refine ⟨c, q, n, tx, ep, km, mp, F, ux, sz, ho, sn, row, rfl, hI, by omega, ⟨fun _ => ?_, fun z => absurd hs z⟩⟩
    have hM2 := hM
    obtain ⟨hMd2, ⟨e0, e5, e17, e19⟩, ⟨e1, e2, e12, e14, e15, e17r⟩, hWa2, hz2, hkp2, hes2⟩ := id hM2
    refine r_aload_2 (pc := 414) dL_law_414 ?_
    refine k_VI0 (pc := 415) c_X8_refill lk_L_51 ⟨(Nat.le_of_ble_eq_true rfl), (Nat.le_of_ble_eq_true rfl)⟩ ⟨rfl, rfl⟩ ⟨(Nat.le_of_ble_eq_true rfl), (Nat.le_of_ble_eq_true rfl)⟩ (k := 8) rfl (by decide) hMd2.1 dL_law_415 (Nat.le_of_ble_eq_true rfl) ?_
    refine ⟨b, mp, rfl, hMd2, e2, hT, hR, hWa2, (by rw [e5]; omega), (by rw [e15]; exact hI.2.2.2.2.2.2.2.2.1.2.2), ⟨fun _ => ?_, fun z => absurd hs (by rw [e14, e15] at z; exact z)⟩⟩
    refine r_same (pc := 418) (tgt := 1462) (by first | rfl | (simp only [e0, e5, e17, e19, e1, e2, e12, e14, e15, e17r])) dL_law_418 (by decide) ?_
    exact K r h ⟨q, n, tx, ep, km, mp, F, ux, sz, ho, sn, row, hI, hM2, by omega⟩
  · refine r_aload_1 (pc := 410) dL_law_410 ?_
    refine k_VI0 (pc := 411) c_X7_refill lk_L_48 ⟨(Nat.le_of_ble_eq_true rfl), (Nat.le_of_ble_eq_true rfl)⟩ ⟨rfl, rfl⟩ ⟨(Nat.le_of_ble_eq_true rfl), (Nat.le_of_ble_eq_true rfl)⟩ (k := 7) rfl (by decide) cl0 dL_law_411 (Nat.le_of_ble_eq_true rfl) ?_
    refine ⟨c, q, n, tx, ep, km, mp, F, ux, sz, ho, sn, row, rfl, hI, by omega, ⟨fun z => absurd z hs, fun _ r2 h2 fr2 f2 hI2 => ?_⟩⟩
    have hM2 : MI lay r2 h2 b n tx ep km mp F ux sz ho sn row := hM.of (fr2 b (by omega)) (fun x x0 x1 => f2 x (by omega))
    obtain ⟨hMd2, ⟨e0, e5, e17, e19⟩, ⟨e1, e2, e12, e14, e15, e17r⟩, hWa2, hz2, hkp2, hes2⟩ := id hM2
    refine r_aload_2 (pc := 414) dL_law_414 ?_
    refine k_VI0 (pc := 415) c_X8_refill lk_L_51 ⟨(Nat.le_of_ble_eq_true rfl), (Nat.le_of_ble_eq_true rfl)⟩ ⟨rfl, rfl⟩ ⟨(Nat.le_of_ble_eq_true rfl), (Nat.le_of_ble_eq_true rfl)⟩ (k := 8) rfl (by decide) hMd2.1 dL_law_415 (Nat.le_of_ble_eq_true rfl) ?_
    refine ⟨b, mp, rfl, hMd2, e2, hT, hR, hWa2, (by rw [e5]; omega), (by rw [e15]; exact hI.2.2.2.2.2.2.2.2.1.2.2), ⟨fun z => absurd (by rw [e14, e15] at z; exact z) hs, fun _ h3 hCh => ?_⟩⟩
    refine r_same (pc := 418) (tgt := 1462) (by first | rfl | (simp only [e0, e5, e17, e19, e1, e2, e12, e14, e15, e17r])) dL_law_418 (by decide) ?_
    rw [e14, e15] at hCh
    exact K r2 h3 ⟨qN q, n, tx, ep + 1, kN km (rfR mp (ldF ho sz) (mp 130)), rfR mp (ldF ho sz) (mp 130), h3 (b + 12), ux, sz, ho, sn, row, (hI2.fr (fun x x0 x1 => hCh.1 x (by omega))).cv (fun j j0 j1 => hCh.2.2.2.2.2 j j0 j1) (fun _ _ _ => rfl) (fun _ _ _ => rfl), hM2.ch hep.2.1 hCh (fun j hj => by
      have t3 := hT.2.2.1
      unfold rfR
      rw [if_neg (by omega)]; exact hz2 j hj) ⟨e0, e5, e17, e19⟩, by omega⟩
theorem dL_law_631 : decode code 631 = .ok (.aload_n 1, 1) := by decide +kernel
theorem dL_law_632 : decode code 632 = .ok (.aload_n 0, 1) := by decide +kernel
theorem dL_law_633 : decode code 633 = .ok (.iload_n 3, 1) := by decide +kernel
theorem dL_law_634 : decode code 634 = .ok (.iconst 1, 1) := by decide +kernel
theorem dL_law_635 : decode code 635 = .ok (.iadd, 1) := by decide +kernel
theorem dL_law_636 : decode code 636 = .ok (.iaload, 1) := by decide +kernel
theorem dL_law_637 : decode code 637 = .ok (.invokevirtual 77, 3) := by decide +kernel
theorem dL_law_640 : decode code 640 = .ok (.aload_n 2, 1) := by decide +kernel
theorem dL_law_641 : decode code 641 = .ok (.aload_n 0, 1) := by decide +kernel
theorem dL_law_642 : decode code 642 = .ok (.iload_n 3, 1) := by decide +kernel
theorem dL_law_643 : decode code 643 = .ok (.iconst 1, 1) := by decide +kernel
theorem dL_law_644 : decode code 644 = .ok (.iadd, 1) := by decide +kernel
theorem dL_law_645 : decode code 645 = .ok (.iaload, 1) := by decide +kernel
theorem dL_law_646 : decode code 646 = .ok (.invokevirtual 80, 3) := by decide +kernel
theorem dL_law_649 : decode code 649 = .ok (.if_icmp .eq 813, 3) := by decide +kernel
set_option maxHeartbeats 4000000 in
set_option maxRecDepth 20000 in
theorem law_back {E : EnT} {nm : String} {lay : LyT} {r : RfT} {h : HpT} {c b b0 L N : Nat} {sx : Int → Int} {i : Int} (hX : ScE E b0 L sx) (hi : 0 ≤ i ∧ i + 4 ≤ L) (hL : L ≤ 2048) (hcb : b = c + 101) (hLI : LI lay c b i r h) (K : ∀ r' h', LI lay c b (i + 4) r' h' → St E (mL_law nm) 1462 [some (.ref b0), some (.ref c), some (.ref b), some (vI i)] [] (122, 20801) N lay r' h') : St E (mL_law nm) 631 [some (.ref b0), some (.ref c), some (.ref b), some (vI i)] [] (122, 20801) N lay r h := by
  obtain ⟨q, n, tx, ep, km, mp, F, ux, sz, ho, sn, row, hI, hM, hle⟩ := hLI
  have hP0 := hI.2.2.2.2.2.1 0 (by omega) (by omega) (by have := hI.2.2.2.2.1.2.1; omega)
  rw [hI.2.2.2.2.2.2.1.1] at hP0
  have hT := hP0.1
  have hR := hP0.2.1
  have hep := hI.2.2.2.2.1
  have cl0 : lay c = (8, 0) := hI.1.1
  obtain ⟨a1, ha1⟩ : ∃ z, sx (i + 1) = z := ⟨_, rfl⟩
  have g1 := sc_rng hX (i + 1)
  rw [ha1] at g1
  by_cases hc : (1 ≤ a1 ∧ a1 ≤ ep ∧ ep - a1 < 5)
  · by_cases hs : a1 = ep ∨ km (ep - a1) 129 < mp 129 ∨ km (ep - a1) 130 < mp 130
    · refine r_aload_1 (pc := 631) dL_law_631 ?_
      refine r_aload_0 (pc := 632) dL_law_632 ?_
      refine r_iload_3 (pc := 633) dL_law_633 ?_
      refine r_iconst (pc := 634) dL_law_634 ?_
      refine r_iadd (pc := 635) dL_law_635 ?_
      refine r_sld (pc := 636) hX dL_law_636 (by omega) (by omega) (fun i_636 => ?_)
      rw [ha1]
      refine k_VI1 (pc := 637) c_X7_back lk_L_77 ⟨(Nat.le_of_ble_eq_true rfl), (Nat.le_of_ble_eq_true rfl)⟩ ⟨rfl, rfl⟩ ⟨(Nat.le_of_ble_eq_true rfl), (Nat.le_of_ble_eq_true rfl)⟩ (k := 7) rfl (by decide) cl0 dL_law_637 (Nat.le_of_ble_eq_true rfl) ?_
      refine ⟨c, q, n, tx, ep, km, mp, F, ux, sz, ho, sn, row, a1, rfl, hI, by omega, g1, fun z => absurd hc z, fun _ => ⟨fun _ => ?_, fun z => absurd hs z⟩⟩
      have hM2 := hM
      obtain ⟨hMd2, ⟨e0, e5, e17, e19⟩, ⟨e1, e2, e12, e14, e15, e17r⟩, hWa2, hz2, hkp2, hes2⟩ := id hM2
      refine r_aload_2 (pc := 640) dL_law_640 ?_
      refine r_aload_0 (pc := 641) dL_law_641 ?_
      refine r_iload_3 (pc := 642) dL_law_642 ?_
      refine r_iconst (pc := 643) dL_law_643 ?_
      refine r_iadd (pc := 644) dL_law_644 ?_
      refine r_sld (pc := 645) hX dL_law_645 (by omega) (by omega) (fun i_645 => ?_)
      rw [ha1]
      have z9 := hM2.tr a1 ((hM2.no a1 hep.2.1).mpr hc) hep.2.1
      have zb : (a1 = h b 5 ∨ h (b + 3) (136 * (a1 % 5) + 129) < mp 129 ∨ h (b + 3) (136 * (a1 % 5) + 130) < mp 130) ↔ (a1 = ep ∨ km (ep - a1) 129 < mp 129 ∨ km (ep - a1) 130 < mp 130) := by
        rw [e5, ← z9.2, cpR_t (by omega), cpR_t (by omega)]
      refine k_VI1 (pc := 646) c_X8_back lk_L_80 ⟨(Nat.le_of_ble_eq_true rfl), (Nat.le_of_ble_eq_true rfl)⟩ ⟨rfl, rfl⟩ ⟨(Nat.le_of_ble_eq_true rfl), (Nat.le_of_ble_eq_true rfl)⟩ (k := 8) rfl (by decide) hMd2.1 dL_law_646 (Nat.le_of_ble_eq_true rfl) ?_
      refine ⟨b, mp, a1, rfl, hMd2, e2, hT, hR, g1, hWa2, (by rw [e5]; omega), (fun e9 k1 _ k3 => by
        have z9 := hM2.tr e9 ⟨k1, k3⟩ hep.2.1
        have pm := hI.2.2.2.2.2.1 (ep - e9) (by omega) (by omega) (by omega)
        rw [z9.2]; exact ⟨pm.1, pm.2.1⟩), fun z => absurd ((hM2.no a1 hep.2.1).mpr hc) z, fun _ => ⟨fun _ => ?_, fun z => absurd (zb.mpr hs) z⟩⟩
      refine r_same (pc := 649) (tgt := 1462) (by first | rfl | (simp only [e0, e5, e17, e19, e1, e2, e12, e14, e15, e17r])) dL_law_649 (by decide) ?_
      exact K r h ⟨q, n, tx, ep, km, mp, F, ux, sz, ho, sn, row, hI, hM2, by omega⟩
    · refine r_aload_1 (pc := 631) dL_law_631 ?_
      refine r_aload_0 (pc := 632) dL_law_632 ?_
      refine r_iload_3 (pc := 633) dL_law_633 ?_
      refine r_iconst (pc := 634) dL_law_634 ?_
      refine r_iadd (pc := 635) dL_law_635 ?_
      refine r_sld (pc := 636) hX dL_law_636 (by omega) (by omega) (fun i_636 => ?_)
      rw [ha1]
      refine k_VI1 (pc := 637) c_X7_back lk_L_77 ⟨(Nat.le_of_ble_eq_true rfl), (Nat.le_of_ble_eq_true rfl)⟩ ⟨rfl, rfl⟩ ⟨(Nat.le_of_ble_eq_true rfl), (Nat.le_of_ble_eq_true rfl)⟩ (k := 7) rfl (by decide) cl0 dL_law_637 (Nat.le_of_ble_eq_true rfl) ?_
      refine ⟨c, q, n, tx, ep, km, mp, F, ux, sz, ho, sn, row, a1, rfl, hI, by omega, g1, fun z => absurd hc z, fun _ => ⟨fun z => absurd z hs, fun _ r2 h2 fr2 f2 hI2 => ?_⟩⟩
      have hM2 : MI lay r2 h2 b n tx ep km mp F ux sz ho sn row := hM.of (fr2 b (by omega)) (fun x x0 x1 => f2 x (by omega))
      obtain ⟨hMd2, ⟨e0, e5, e17, e19⟩, ⟨e1, e2, e12, e14, e15, e17r⟩, hWa2, hz2, hkp2, hes2⟩ := id hM2
      refine r_aload_2 (pc := 640) dL_law_640 ?_
      refine r_aload_0 (pc := 641) dL_law_641 ?_
      refine r_iload_3 (pc := 642) dL_law_642 ?_
      refine r_iconst (pc := 643) dL_law_643 ?_
      refine r_iadd (pc := 644) dL_law_644 ?_
      refine r_sld (pc := 645) hX dL_law_645 (by omega) (by omega) (fun i_645 => ?_)
      rw [ha1]
      have z9 := hM2.tr a1 ((hM2.no a1 hep.2.1).mpr hc) hep.2.1
      have zb : (a1 = h2 b 5 ∨ h2 (b + 3) (136 * (a1 % 5) + 129) < mp 129 ∨ h2 (b + 3) (136 * (a1 % 5) + 130) < mp 130) ↔ (a1 = ep ∨ km (ep - a1) 129 < mp 129 ∨ km (ep - a1) 130 < mp 130) := by
        rw [e5, ← z9.2, cpR_t (by omega), cpR_t (by omega)]
      refine k_VI1 (pc := 646) c_X8_back lk_L_80 ⟨(Nat.le_of_ble_eq_true rfl), (Nat.le_of_ble_eq_true rfl)⟩ ⟨rfl, rfl⟩ ⟨(Nat.le_of_ble_eq_true rfl), (Nat.le_of_ble_eq_true rfl)⟩ (k := 8) rfl (by decide) hMd2.1 dL_law_646 (Nat.le_of_ble_eq_true rfl) ?_
      refine ⟨b, mp, a1, rfl, hMd2, e2, hT, hR, g1, hWa2, (by rw [e5]; omega), (fun e9 k1 _ k3 => by
        have z9 := hM2.tr e9 ⟨k1, k3⟩ hep.2.1
        have pm := hI.2.2.2.2.2.1 (ep - e9) (by omega) (by omega) (by omega)
        rw [z9.2]; exact ⟨pm.1, pm.2.1⟩), fun z => absurd ((hM2.no a1 hep.2.1).mpr hc) z, fun _ => ⟨fun z => absurd (zb.mp z) hs, fun _ h3 hCh => ?_⟩⟩
      refine r_same (pc := 649) (tgt := 1462) (by first | rfl | (simp only [e0, e5, e17, e19, e1, e2, e12, e14, e15, e17r])) dL_law_649 (by decide) ?_
      rw [z9.2] at hCh
      exact K r2 h3 ⟨qN q, n, tx, ep + 1, kN km (km (ep - a1)), km (ep - a1), h3 (b + 12), ux, sz, ho, sn, row, (hI2.fr (fun x x0 x1 => hCh.1 x (by omega))).cv (fun j j0 j1 => hCh.2.2.2.2.2 j j0 j1) (fun _ _ _ => rfl) (fun _ _ _ => rfl), hM2.ch hep.2.1 hCh (by
        rw [← z9.2]
        intro j hj
        unfold cpR
        rw [if_neg hj]; exact hz2 j hj) ⟨e0, e5, e17, e19⟩, by omega⟩
  · refine r_aload_1 (pc := 631) dL_law_631 ?_
    refine r_aload_0 (pc := 632) dL_law_632 ?_
    refine r_iload_3 (pc := 633) dL_law_633 ?_
    refine r_iconst (pc := 634) dL_law_634 ?_
    refine r_iadd (pc := 635) dL_law_635 ?_
    refine r_sld (pc := 636) hX dL_law_636 (by omega) (by omega) (fun i_636 => ?_)
    rw [ha1]
    refine k_VI1 (pc := 637) c_X7_back lk_L_77 ⟨(Nat.le_of_ble_eq_true rfl), (Nat.le_of_ble_eq_true rfl)⟩ ⟨rfl, rfl⟩ ⟨(Nat.le_of_ble_eq_true rfl), (Nat.le_of_ble_eq_true rfl)⟩ (k := 7) rfl (by decide) cl0 dL_law_637 (Nat.le_of_ble_eq_true rfl) ?_
    refine ⟨c, q, n, tx, ep, km, mp, F, ux, sz, ho, sn, row, a1, rfl, hI, by omega, g1, fun _ => ?_, fun z => absurd z hc⟩
    have hM2 := hM
    obtain ⟨hMd2, ⟨e0, e5, e17, e19⟩, ⟨e1, e2, e12, e14, e15, e17r⟩, hWa2, hz2, hkp2, hes2⟩ := id hM2
    refine r_aload_2 (pc := 640) dL_law_640 ?_
    refine r_aload_0 (pc := 641) dL_law_641 ?_
    refine r_iload_3 (pc := 642) dL_law_642 ?_
    refine r_iconst (pc := 643) dL_law_643 ?_
    refine r_iadd (pc := 644) dL_law_644 ?_
    refine r_sld (pc := 645) hX dL_law_645 (by omega) (by omega) (fun i_645 => ?_)
    rw [ha1]
    refine k_VI1 (pc := 646) c_X8_back lk_L_80 ⟨(Nat.le_of_ble_eq_true rfl), (Nat.le_of_ble_eq_true rfl)⟩ ⟨rfl, rfl⟩ ⟨(Nat.le_of_ble_eq_true rfl), (Nat.le_of_ble_eq_true rfl)⟩ (k := 8) rfl (by decide) hMd2.1 dL_law_646 (Nat.le_of_ble_eq_true rfl) ?_
    refine ⟨b, mp, a1, rfl, hMd2, e2, hT, hR, g1, hWa2, (by rw [e5]; omega), (fun e9 k1 _ k3 => by
      have z9 := hM2.tr e9 ⟨k1, k3⟩ hep.2.1
      have pm := hI.2.2.2.2.2.1 (ep - e9) (by omega) (by omega) (by omega)
      rw [z9.2]; exact ⟨pm.1, pm.2.1⟩), fun _ => ?_, fun z => absurd ((hM2.no a1 hep.2.1).mp z) hc⟩
    refine r_same (pc := 649) (tgt := 1462) (by first | rfl | (simp only [e0, e5, e17, e19, e1, e2, e12, e14, e15, e17r])) dL_law_649 (by decide) ?_
    exact K r h ⟨q, n, tx, ep, km, mp, F, ux, sz, ho, sn, row, hI, hM2, by omega⟩
theorem dL_law_265 : decode code 265 = .ok (.aload_n 1, 1) := by decide +kernel
theorem dL_law_266 : decode code 266 = .ok (.invokevirtual 27, 3) := by decide +kernel
theorem dL_law_269 : decode code 269 = .ok (.aload_n 2, 1) := by decide +kernel
theorem dL_law_270 : decode code 270 = .ok (.invokevirtual 30, 3) := by decide +kernel
theorem dL_law_273 : decode code 273 = .ok (.if_icmp .eq 1189, 3) := by decide +kernel
set_option maxHeartbeats 4000000 in
set_option maxRecDepth 20000 in
theorem law_lay {E : EnT} {nm : String} {lay : LyT} {r : RfT} {h : HpT} {c b b0 L N : Nat} {sx : Int → Int} {i : Int} (hX : ScE E b0 L sx) (hi : 0 ≤ i ∧ i + 4 ≤ L) (hL : L ≤ 2048) (hcb : b = c + 101) (hLI : LI lay c b i r h) (K : ∀ r' h', LI lay c b (i + 4) r' h' → St E (mL_law nm) 1462 [some (.ref b0), some (.ref c), some (.ref b), some (vI i)] [] (122, 20801) N lay r' h') : St E (mL_law nm) 265 [some (.ref b0), some (.ref c), some (.ref b), some (vI i)] [] (122, 20801) N lay r h := by
  obtain ⟨q, n, tx, ep, km, mp, F, ux, sz, ho, sn, row, hI, hM, hle⟩ := hLI
  have hP0 := hI.2.2.2.2.2.1 0 (by omega) (by omega) (by have := hI.2.2.2.2.1.2.1; omega)
  rw [hI.2.2.2.2.2.2.1.1] at hP0
  have hT := hP0.1
  have hR := hP0.2.1
  have hep := hI.2.2.2.2.1
  have cl0 : lay c = (8, 0) := hI.1.1
  by_cases hs : (rds n tx 201 0 (bgn (h (b + 6)))).1 = -4 ∧ (rds n tx 201 0 (bgn (h (b + 6)))).2 130 ≠ 0
  · refine r_aload_1 (pc := 265) dL_law_265 ?_
    refine k_VI0 (pc := 266) c_X7_lay lk_L_27 ⟨(Nat.le_of_ble_eq_true rfl), (Nat.le_of_ble_eq_true rfl)⟩ ⟨rfl, rfl⟩ ⟨(Nat.le_of_ble_eq_true rfl), (Nat.le_of_ble_eq_true rfl)⟩ (k := 7) rfl (by decide) cl0 dL_law_266 (Nat.le_of_ble_eq_true rfl) ?_
    refine ⟨c, q, n, tx, ep, km, mp, F, ux, sz, ho, sn, row, h (b + 6), rfl, hI, fun z => absurd hs z, fun _ h2 f2 hI2 => ?_⟩
    have hM2 : MI lay r h2 b n tx ep km mp F ux sz ho sn row := hM.of (rfl) (fun x x0 x1 => f2 x (by omega))
    obtain ⟨hMd2, ⟨e0, e5, e17, e19⟩, ⟨e1, e2, e12, e14, e15, e17r⟩, hWa2, hz2, hkp2, hes2⟩ := id hM2
    refine r_aload_2 (pc := 269) dL_law_269 ?_
    have e6 : h2 (b + 6) = h (b + 6) := f2 _ (by omega)
    refine k_VI0 (pc := 270) c_X8_lay lk_L_30 ⟨(Nat.le_of_ble_eq_true rfl), (Nat.le_of_ble_eq_true rfl)⟩ ⟨rfl, rfl⟩ ⟨(Nat.le_of_ble_eq_true rfl), (Nat.le_of_ble_eq_true rfl)⟩ (k := 8) rfl (by decide) hMd2.1 dL_law_270 (Nat.le_of_ble_eq_true rfl) ?_
    refine ⟨b, mp, n, tx, rfl, hMd2, e2, e0, e1, hI.2.2.1.1.2.1, hWa2, fun z => absurd hs (by rw [e6] at z; exact z), fun _ h3 e9 f3 tl3 m3 o3 k3 q3 c3 p3 s3 => ?_⟩
    refine r_same (pc := 273) (tgt := 1462) (by rw [e6]) dL_law_273 (by decide) ?_
    rw [e6] at tl3 m3 o3 q3 c3
    have hzM : Z136 (cpR (rds n tx 201 0 (bgn (h (b + 6)))).2 mp 136) := fun j hj => by
      unfold cpR
      rw [if_neg hj]; exact hz2 j hj
    refine K r h3 ⟨q, n, tx, 1, fun _ => (cpR (rds n tx 201 0 (bgn (h (b + 6)))).2 mp 136), (cpR (rds n tx 201 0 (bgn (h (b + 6)))).2 mp 136), h3 (b + 12), iSl 1 ((rds n tx 201 0 (bgn (h (b + 6)))).2 130) - 1, h3 (b + 15), h3 (b + 14), 0, row, (hI2.fr (fun x x0 x1 => f3 x (by omega))).cv (fun j j0 j1 => c3 j j0 j1) (fun j j0 j1 => s3 j j0 j1) (fun j j0 j1 => (p3 j j0 j1).trans (pb_c ⟨j0, j1⟩ (fun x x0 x1 => c3 x x0 x1))), ⟨hMd2, ⟨by rw [o3]; exact e0, by rw [o3]; rfl, by rw [o3]; rfl, by rw [o3]; rfl⟩, ⟨by rw [f3 _ (by omega)]; exact e1, m3, rfl, rfl, rfl, by rw [f3 _ (by omega)]; exact e17r⟩, by rw [f3 _ (by omega)]; exact hWa2, hzM, fun i i0 i1 i2 => ?_, fun x x0 x1 => ?_⟩, by omega⟩
    · refine (cpR_m hzM _ (fun j j0 j1 => ?_)).symm
      rw [q3, show i = 0 by omega]
      show kpR (h2 (b + 3)) (cpR (rds n tx 201 0 (bgn (h (b + 6)))).2 mp 136) 1 136 (136 * 1 + j) = _
      unfold kpR
      rw [if_pos (by omega)]
      congr 1
      omega
    · rw [k3 x x0 x1]
      rcases (show x = 0 ∨ x = 1 ∨ x = 2 ∨ x = 3 ∨ x = 4 by omega) with rfl | rfl | rfl | rfl | rfl <;> rfl
  · refine r_aload_1 (pc := 265) dL_law_265 ?_
    refine k_VI0 (pc := 266) c_X7_lay lk_L_27 ⟨(Nat.le_of_ble_eq_true rfl), (Nat.le_of_ble_eq_true rfl)⟩ ⟨rfl, rfl⟩ ⟨(Nat.le_of_ble_eq_true rfl), (Nat.le_of_ble_eq_true rfl)⟩ (k := 7) rfl (by decide) cl0 dL_law_266 (Nat.le_of_ble_eq_true rfl) ?_
    refine ⟨c, q, n, tx, ep, km, mp, F, ux, sz, ho, sn, row, h (b + 6), rfl, hI, fun _ h2 f2 hI2 => ?_, fun z => absurd z hs⟩
    have hM2 : MI lay r h2 b n tx ep km mp F ux sz ho sn row := hM.of (rfl) (fun x x0 x1 => f2 x (by omega))
    obtain ⟨hMd2, ⟨e0, e5, e17, e19⟩, ⟨e1, e2, e12, e14, e15, e17r⟩, hWa2, hz2, hkp2, hes2⟩ := id hM2
    refine r_aload_2 (pc := 269) dL_law_269 ?_
    have e6 : h2 (b + 6) = h (b + 6) := f2 _ (by omega)
    refine k_VI0 (pc := 270) c_X8_lay lk_L_30 ⟨(Nat.le_of_ble_eq_true rfl), (Nat.le_of_ble_eq_true rfl)⟩ ⟨rfl, rfl⟩ ⟨(Nat.le_of_ble_eq_true rfl), (Nat.le_of_ble_eq_true rfl)⟩ (k := 8) rfl (by decide) hMd2.1 dL_law_270 (Nat.le_of_ble_eq_true rfl) ?_
    refine ⟨b, mp, n, tx, rfl, hMd2, e2, e0, e1, hI.2.2.1.1.2.1, hWa2, fun _ h3 f3 o3 => ?_, fun z => absurd (by rw [e6] at z; exact z) hs⟩
    refine r_same (pc := 273) (tgt := 1462) (by first | rfl | (simp only [e0, e5, e17, e19, e1, e2, e12, e14, e15, e17r])) dL_law_273 (by decide) ?_
    exact K r h3 ⟨q, n, tx, ep, km, mp, F, ux, sz, ho, sn, row, hI2.fr (fun x x0 x1 => f3 x (by omega)), hM2.s (fun j hj => by rw [o3, up_n hj]) (fun x x0 x1 hx => f3 x (by omega)), by omega⟩
