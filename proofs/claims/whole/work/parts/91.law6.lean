/-! THE LAW: one call on both sides, further cases -/
theorem dL_law_532 : decode code 532 = .ok (.aload_n 1, 1) := by decide +kernel
theorem dL_law_533 : decode code 533 = .ok (.aload_n 0, 1) := by decide +kernel
theorem dL_law_534 : decode code 534 = .ok (.iload_n 3, 1) := by decide +kernel
theorem dL_law_535 : decode code 535 = .ok (.iconst 1, 1) := by decide +kernel
theorem dL_law_536 : decode code 536 = .ok (.iadd, 1) := by decide +kernel
theorem dL_law_537 : decode code 537 = .ok (.iaload, 1) := by decide +kernel
theorem dL_law_538 : decode code 538 = .ok (.invokevirtual 65, 3) := by decide +kernel
theorem dL_law_541 : decode code 541 = .ok (.aload_n 2, 1) := by decide +kernel
theorem dL_law_542 : decode code 542 = .ok (.aload_n 0, 1) := by decide +kernel
theorem dL_law_543 : decode code 543 = .ok (.iload_n 3, 1) := by decide +kernel
theorem dL_law_544 : decode code 544 = .ok (.iconst 1, 1) := by decide +kernel
theorem dL_law_545 : decode code 545 = .ok (.iadd, 1) := by decide +kernel
theorem dL_law_546 : decode code 546 = .ok (.iaload, 1) := by decide +kernel
theorem dL_law_547 : decode code 547 = .ok (.invokevirtual 68, 3) := by decide +kernel
theorem dL_law_550 : decode code 550 = .ok (.if_icmp .eq 912, 3) := by decide +kernel
set_option maxHeartbeats 4000000 in
set_option maxRecDepth 20000 in
theorem law_rack {E : EnT} {nm : String} {lay : LyT} {r : RfT} {h : HpT} {c b b0 L N : Nat} {sx : Int → Int} {i : Int} (hX : ScE E b0 L sx) (hi : 0 ≤ i ∧ i + 4 ≤ L) (hL : L ≤ 2048) (hcb : b = c + 101) (hLI : LI lay c b i r h) (K : ∀ r' h', LI lay c b (i + 4) r' h' → St E (mL_law nm) 1462 [some (.ref b0), some (.ref c), some (.ref b), some (vI i)] [] (122, 20801) N lay r' h') : St E (mL_law nm) 532 [some (.ref b0), some (.ref c), some (.ref b), some (vI i)] [] (122, 20801) N lay r h := by
  obtain ⟨q, n, tx, ep, km, mp, F, ux, sz, ho, sn, row, hI, hM, hle⟩ := hLI
  have hP0 := hI.2.2.2.2.2.1 0 (by omega) (by omega) (by have := hI.2.2.2.2.1.2.1; omega)
  rw [hI.2.2.2.2.2.2.1.1] at hP0
  have hT := hP0.1
  have hR := hP0.2.1
  have hep := hI.2.2.2.2.1
  have cl0 : lay c = (8, 0) := hI.1.1
  obtain ⟨a1, ha1⟩ : ∃ z, sx (i + 1) = z := ⟨_, rfl⟩
  have g1 := sc_rng hX (i + 1)
  rw [ha1] at g1
  by_cases hc : 1 ≤ a1 ∧ a1 ≤ mp 128
  · by_cases hs : mp 129 = 6
    · refine r_aload_1 (pc := 532) dL_law_532 ?_
      refine r_aload_0 (pc := 533) dL_law_533 ?_
      refine r_iload_3 (pc := 534) dL_law_534 ?_
      refine r_iconst (pc := 535) dL_law_535 ?_
      refine r_iadd (pc := 536) dL_law_536 ?_
      refine r_sld (pc := 537) hX dL_law_537 (by omega) (by omega) (fun i_537 => ?_)
      rw [ha1]
      refine k_VI1 (pc := 538) c_X7_rack lk_L_65 ⟨(Nat.le_of_ble_eq_true rfl), (Nat.le_of_ble_eq_true rfl)⟩ ⟨rfl, rfl⟩ ⟨(Nat.le_of_ble_eq_true rfl), (Nat.le_of_ble_eq_true rfl)⟩ (k := 7) rfl (by decide) cl0 dL_law_538 (Nat.le_of_ble_eq_true rfl) ?_
      refine ⟨c, q, n, tx, ep, km, mp, F, ux, sz, ho, sn, row, a1, rfl, hI, by omega, g1, fun z => absurd hc z, fun _ => ⟨fun _ => ?_, fun z => absurd hs z⟩⟩
      have hM2 := hM
      obtain ⟨hMd2, ⟨e0, e5, e17, e19⟩, ⟨e1, e2, e12, e14, e15, e17r⟩, hWa2, hz2, hkp2, hes2⟩ := id hM2
      refine r_aload_2 (pc := 541) dL_law_541 ?_
      refine r_aload_0 (pc := 542) dL_law_542 ?_
      refine r_iload_3 (pc := 543) dL_law_543 ?_
      refine r_iconst (pc := 544) dL_law_544 ?_
      refine r_iadd (pc := 545) dL_law_545 ?_
      refine r_sld (pc := 546) hX dL_law_546 (by omega) (by omega) (fun i_546 => ?_)
      rw [ha1]
      refine k_VI1 (pc := 547) c_X8_rack lk_L_68 ⟨(Nat.le_of_ble_eq_true rfl), (Nat.le_of_ble_eq_true rfl)⟩ ⟨rfl, rfl⟩ ⟨(Nat.le_of_ble_eq_true rfl), (Nat.le_of_ble_eq_true rfl)⟩ (k := 8) rfl (by decide) hMd2.1 dL_law_547 (Nat.le_of_ble_eq_true rfl) ?_
      refine ⟨b, mp, a1, rfl, hMd2, e2, hT, hR, g1, hWa2, (by rw [e5]; omega), fun z => absurd hc z, fun _ => ⟨fun _ => ?_, fun z => absurd hs z⟩⟩
      refine r_same (pc := 550) (tgt := 1462) (by first | rfl | (simp only [e0, e5, e17, e19, e1, e2, e12, e14, e15, e17r])) dL_law_550 (by decide) ?_
      exact K r h ⟨q, n, tx, ep, km, mp, F, ux, sz, ho, sn, row, hI, hM2, by omega⟩
    · refine r_aload_1 (pc := 532) dL_law_532 ?_
      refine r_aload_0 (pc := 533) dL_law_533 ?_
      refine r_iload_3 (pc := 534) dL_law_534 ?_
      refine r_iconst (pc := 535) dL_law_535 ?_
      refine r_iadd (pc := 536) dL_law_536 ?_
      refine r_sld (pc := 537) hX dL_law_537 (by omega) (by omega) (fun i_537 => ?_)
      rw [ha1]
      refine k_VI1 (pc := 538) c_X7_rack lk_L_65 ⟨(Nat.le_of_ble_eq_true rfl), (Nat.le_of_ble_eq_true rfl)⟩ ⟨rfl, rfl⟩ ⟨(Nat.le_of_ble_eq_true rfl), (Nat.le_of_ble_eq_true rfl)⟩ (k := 7) rfl (by decide) cl0 dL_law_538 (Nat.le_of_ble_eq_true rfl) ?_
      refine ⟨c, q, n, tx, ep, km, mp, F, ux, sz, ho, sn, row, a1, rfl, hI, by omega, g1, fun z => absurd hc z, fun _ => ⟨fun z => absurd z hs, fun _ r2 h2 fr2 f2 hI2 => ?_⟩⟩
      have hM2 : MI lay r2 h2 b n tx ep km mp F ux sz ho sn row := hM.of (fr2 b (by omega)) (fun x x0 x1 => f2 x (by omega))
      obtain ⟨hMd2, ⟨e0, e5, e17, e19⟩, ⟨e1, e2, e12, e14, e15, e17r⟩, hWa2, hz2, hkp2, hes2⟩ := id hM2
      refine r_aload_2 (pc := 541) dL_law_541 ?_
      refine r_aload_0 (pc := 542) dL_law_542 ?_
      refine r_iload_3 (pc := 543) dL_law_543 ?_
      refine r_iconst (pc := 544) dL_law_544 ?_
      refine r_iadd (pc := 545) dL_law_545 ?_
      refine r_sld (pc := 546) hX dL_law_546 (by omega) (by omega) (fun i_546 => ?_)
      rw [ha1]
      refine k_VI1 (pc := 547) c_X8_rack lk_L_68 ⟨(Nat.le_of_ble_eq_true rfl), (Nat.le_of_ble_eq_true rfl)⟩ ⟨rfl, rfl⟩ ⟨(Nat.le_of_ble_eq_true rfl), (Nat.le_of_ble_eq_true rfl)⟩ (k := 8) rfl (by decide) hMd2.1 dL_law_547 (Nat.le_of_ble_eq_true rfl) ?_
      refine ⟨b, mp, a1, rfl, hMd2, e2, hT, hR, g1, hWa2, (by rw [e5]; omega), fun z => absurd hc z, fun _ => ⟨fun z => absurd z hs, fun _ h3 hCh => ?_⟩⟩
      refine r_same (pc := 550) (tgt := 1462) (by first | rfl | (simp only [e0, e5, e17, e19, e1, e2, e12, e14, e15, e17r])) dL_law_550 (by decide) ?_
      exact K r2 h3 ⟨qN q, n, tx, ep + 1, kN km (up (up mp (4 + mp 129) a1) 129 (mp 129 + 1)), up (up mp (4 + mp 129) a1) 129 (mp 129 + 1), h3 (b + 12), ux, sz, ho, sn, row, (hI2.fr (fun x x0 x1 => hCh.1 x (by omega))).cv (fun j j0 j1 => hCh.2.2.2.2.2 j j0 j1) (fun _ _ _ => rfl) (fun _ _ _ => rfl), hM2.ch hep.2.1 hCh ((hz2.u (by have := hT.2.1; omega)).u (by omega)) ⟨e0, e5, e17, e19⟩, by omega⟩
  · refine r_aload_1 (pc := 532) dL_law_532 ?_
    refine r_aload_0 (pc := 533) dL_law_533 ?_
    refine r_iload_3 (pc := 534) dL_law_534 ?_
    refine r_iconst (pc := 535) dL_law_535 ?_
    refine r_iadd (pc := 536) dL_law_536 ?_
    refine r_sld (pc := 537) hX dL_law_537 (by omega) (by omega) (fun i_537 => ?_)
    rw [ha1]
    refine k_VI1 (pc := 538) c_X7_rack lk_L_65 ⟨(Nat.le_of_ble_eq_true rfl), (Nat.le_of_ble_eq_true rfl)⟩ ⟨rfl, rfl⟩ ⟨(Nat.le_of_ble_eq_true rfl), (Nat.le_of_ble_eq_true rfl)⟩ (k := 7) rfl (by decide) cl0 dL_law_538 (Nat.le_of_ble_eq_true rfl) ?_
    refine ⟨c, q, n, tx, ep, km, mp, F, ux, sz, ho, sn, row, a1, rfl, hI, by omega, g1, fun _ => ?_, fun z => absurd z hc⟩
    have hM2 := hM
    obtain ⟨hMd2, ⟨e0, e5, e17, e19⟩, ⟨e1, e2, e12, e14, e15, e17r⟩, hWa2, hz2, hkp2, hes2⟩ := id hM2
    refine r_aload_2 (pc := 541) dL_law_541 ?_
    refine r_aload_0 (pc := 542) dL_law_542 ?_
    refine r_iload_3 (pc := 543) dL_law_543 ?_
    refine r_iconst (pc := 544) dL_law_544 ?_
    refine r_iadd (pc := 545) dL_law_545 ?_
    refine r_sld (pc := 546) hX dL_law_546 (by omega) (by omega) (fun i_546 => ?_)
    rw [ha1]
    refine k_VI1 (pc := 547) c_X8_rack lk_L_68 ⟨(Nat.le_of_ble_eq_true rfl), (Nat.le_of_ble_eq_true rfl)⟩ ⟨rfl, rfl⟩ ⟨(Nat.le_of_ble_eq_true rfl), (Nat.le_of_ble_eq_true rfl)⟩ (k := 8) rfl (by decide) hMd2.1 dL_law_547 (Nat.le_of_ble_eq_true rfl) ?_
    refine ⟨b, mp, a1, rfl, hMd2, e2, hT, hR, g1, hWa2, (by rw [e5]; omega), fun _ => ?_, fun z => absurd z hc⟩
    refine r_same (pc := 550) (tgt := 1462) (by first | rfl | (simp only [e0, e5, e17, e19, e1, e2, e12, e14, e15, e17r])) dL_law_550 (by decide) ?_
    exact K r h ⟨q, n, tx, ep, km, mp, F, ux, sz, ho, sn, row, hI, hM2, by omega⟩
theorem dL_law_598 : decode code 598 = .ok (.aload_n 1, 1) := by decide +kernel
theorem dL_law_599 : decode code 599 = .ok (.aload_n 0, 1) := by decide +kernel
theorem dL_law_600 : decode code 600 = .ok (.iload_n 3, 1) := by decide +kernel
theorem dL_law_601 : decode code 601 = .ok (.iconst 1, 1) := by decide +kernel
theorem dL_law_602 : decode code 602 = .ok (.iadd, 1) := by decide +kernel
theorem dL_law_603 : decode code 603 = .ok (.iaload, 1) := by decide +kernel
theorem dL_law_604 : decode code 604 = .ok (.aload_n 0, 1) := by decide +kernel
theorem dL_law_605 : decode code 605 = .ok (.iload_n 3, 1) := by decide +kernel
theorem dL_law_606 : decode code 606 = .ok (.iconst 2, 1) := by decide +kernel
theorem dL_law_607 : decode code 607 = .ok (.iadd, 1) := by decide +kernel
theorem dL_law_608 : decode code 608 = .ok (.iaload, 1) := by decide +kernel
theorem dL_law_609 : decode code 609 = .ok (.invokevirtual 73, 3) := by decide +kernel
theorem dL_law_612 : decode code 612 = .ok (.aload_n 2, 1) := by decide +kernel
theorem dL_law_613 : decode code 613 = .ok (.aload_n 0, 1) := by decide +kernel
theorem dL_law_614 : decode code 614 = .ok (.iload_n 3, 1) := by decide +kernel
theorem dL_law_615 : decode code 615 = .ok (.iconst 1, 1) := by decide +kernel
theorem dL_law_616 : decode code 616 = .ok (.iadd, 1) := by decide +kernel
theorem dL_law_617 : decode code 617 = .ok (.iaload, 1) := by decide +kernel
theorem dL_law_618 : decode code 618 = .ok (.aload_n 0, 1) := by decide +kernel
theorem dL_law_619 : decode code 619 = .ok (.iload_n 3, 1) := by decide +kernel
theorem dL_law_620 : decode code 620 = .ok (.iconst 2, 1) := by decide +kernel
theorem dL_law_621 : decode code 621 = .ok (.iadd, 1) := by decide +kernel
theorem dL_law_622 : decode code 622 = .ok (.iaload, 1) := by decide +kernel
theorem dL_law_623 : decode code 623 = .ok (.invokevirtual 76, 3) := by decide +kernel
theorem dL_law_626 : decode code 626 = .ok (.if_icmp .eq 836, 3) := by decide +kernel
set_option maxHeartbeats 4000000 in
set_option maxRecDepth 20000 in
theorem law_move {E : EnT} {nm : String} {lay : LyT} {r : RfT} {h : HpT} {c b b0 L N : Nat} {sx : Int → Int} {i : Int} (hX : ScE E b0 L sx) (hi : 0 ≤ i ∧ i + 4 ≤ L) (hL : L ≤ 2048) (hcb : b = c + 101) (hLI : LI lay c b i r h) (K : ∀ r' h', LI lay c b (i + 4) r' h' → St E (mL_law nm) 1462 [some (.ref b0), some (.ref c), some (.ref b), some (vI i)] [] (122, 20801) N lay r' h') : St E (mL_law nm) 598 [some (.ref b0), some (.ref c), some (.ref b), some (vI i)] [] (122, 20801) N lay r h := by
  obtain ⟨q, n, tx, ep, km, mp, F, ux, sz, ho, sn, row, hI, hM, hle⟩ := hLI
  have hP0 := hI.2.2.2.2.2.1 0 (by omega) (by omega) (by have := hI.2.2.2.2.1.2.1; omega)
  rw [hI.2.2.2.2.2.2.1.1] at hP0
  have hT := hP0.1
  have hR := hP0.2.1
  have hep := hI.2.2.2.2.1
  have cl0 : lay c = (8, 0) := hI.1.1
  obtain ⟨a1, ha1⟩ : ∃ z, sx (i + 1) = z := ⟨_, rfl⟩
  have g1 := sc_rng hX (i + 1)
  rw [ha1] at g1
  obtain ⟨a2, ha2⟩ : ∃ z, sx (i + 2) = z := ⟨_, rfl⟩
  have g2 := sc_rng hX (i + 2)
  rw [ha2] at g2
  by_cases hc : ((4 ≤ a1 ∧ a1 ≤ 3 + mp 129) ∧ (1 ≤ a2 ∧ a2 ≤ mp 128)) ∨ ((10 ≤ a1 ∧ a1 ≤ 9 + mp 130) ∧ (4 ≤ a2 ∧ a2 ≤ 3 + mp 129))
  · by_cases hs : mp a1 = a2
    · refine r_aload_1 (pc := 598) dL_law_598 ?_
      refine r_aload_0 (pc := 599) dL_law_599 ?_
      refine r_iload_3 (pc := 600) dL_law_600 ?_
      refine r_iconst (pc := 601) dL_law_601 ?_
      refine r_iadd (pc := 602) dL_law_602 ?_
      refine r_sld (pc := 603) hX dL_law_603 (by omega) (by omega) (fun i_603 => ?_)
      rw [ha1]
      refine r_aload_0 (pc := 604) dL_law_604 ?_
      refine r_iload_3 (pc := 605) dL_law_605 ?_
      refine r_iconst (pc := 606) dL_law_606 ?_
      refine r_iadd (pc := 607) dL_law_607 ?_
      refine r_sld (pc := 608) hX dL_law_608 (by omega) (by omega) (fun i_608 => ?_)
      rw [ha2]
      refine k_VI2 (pc := 609) c_X7_move lk_L_73 ⟨(Nat.le_of_ble_eq_true rfl), (Nat.le_of_ble_eq_true rfl)⟩ ⟨rfl, rfl⟩ ⟨(Nat.le_of_ble_eq_true rfl), (Nat.le_of_ble_eq_true rfl)⟩ (k := 7) rfl (by decide) cl0 dL_law_609 (Nat.le_of_ble_eq_true rfl) ?_
      refine ⟨c, q, n, tx, ep, km, mp, F, ux, sz, ho, sn, row, a1, a2, rfl, hI, by omega, g1, g2, fun z => absurd hc z, fun _ => ⟨fun _ => ?_, fun z => absurd hs z⟩⟩
      have hM2 := hM
      obtain ⟨hMd2, ⟨e0, e5, e17, e19⟩, ⟨e1, e2, e12, e14, e15, e17r⟩, hWa2, hz2, hkp2, hes2⟩ := id hM2
      refine r_aload_2 (pc := 612) dL_law_612 ?_
      refine r_aload_0 (pc := 613) dL_law_613 ?_
      refine r_iload_3 (pc := 614) dL_law_614 ?_
      refine r_iconst (pc := 615) dL_law_615 ?_
      refine r_iadd (pc := 616) dL_law_616 ?_
      refine r_sld (pc := 617) hX dL_law_617 (by omega) (by omega) (fun i_617 => ?_)
      rw [ha1]
      refine r_aload_0 (pc := 618) dL_law_618 ?_
      refine r_iload_3 (pc := 619) dL_law_619 ?_
      refine r_iconst (pc := 620) dL_law_620 ?_
      refine r_iadd (pc := 621) dL_law_621 ?_
      refine r_sld (pc := 622) hX dL_law_622 (by omega) (by omega) (fun i_622 => ?_)
      rw [ha2]
      refine k_VI2 (pc := 623) c_X8_move lk_L_76 ⟨(Nat.le_of_ble_eq_true rfl), (Nat.le_of_ble_eq_true rfl)⟩ ⟨rfl, rfl⟩ ⟨(Nat.le_of_ble_eq_true rfl), (Nat.le_of_ble_eq_true rfl)⟩ (k := 8) rfl (by decide) hMd2.1 dL_law_623 (Nat.le_of_ble_eq_true rfl) ?_
      refine ⟨b, mp, a1, a2, rfl, hMd2, e2, hT, hR, g1, g2, hWa2, (by rw [e5]; omega), fun z => absurd hc z, fun _ => ⟨fun _ => ?_, fun z => absurd hs z⟩⟩
      refine r_same (pc := 626) (tgt := 1462) (by first | rfl | (simp only [e0, e5, e17, e19, e1, e2, e12, e14, e15, e17r])) dL_law_626 (by decide) ?_
      exact K r h ⟨q, n, tx, ep, km, mp, F, ux, sz, ho, sn, row, hI, hM2, by omega⟩
    · refine r_aload_1 (pc := 598) dL_law_598 ?_
      refine r_aload_0 (pc := 599) dL_law_599 ?_
      refine r_iload_3 (pc := 600) dL_law_600 ?_
      refine r_iconst (pc := 601) dL_law_601 ?_
      refine r_iadd (pc := 602) dL_law_602 ?_
      refine r_sld (pc := 603) hX dL_law_603 (by omega) (by omega) (fun i_603 => ?_)
      rw [ha1]
      refine r_aload_0 (pc := 604) dL_law_604 ?_
      refine r_iload_3 (pc := 605) dL_law_605 ?_
      refine r_iconst (pc := 606) dL_law_606 ?_
      refine r_iadd (pc := 607) dL_law_607 ?_
      refine r_sld (pc := 608) hX dL_law_608 (by omega) (by omega) (fun i_608 => ?_)
      rw [ha2]
      refine k_VI2 (pc := 609) c_X7_move lk_L_73 ⟨(Nat.le_of_ble_eq_true rfl), (Nat.le_of_ble_eq_true rfl)⟩ ⟨rfl, rfl⟩ ⟨(Nat.le_of_ble_eq_true rfl), (Nat.le_of_ble_eq_true rfl)⟩ (k := 7) rfl (by decide) cl0 dL_law_609 (Nat.le_of_ble_eq_true rfl) ?_
      refine ⟨c, q, n, tx, ep, km, mp, F, ux, sz, ho, sn, row, a1, a2, rfl, hI, by omega, g1, g2, fun z => absurd hc z, fun _ => ⟨fun z => absurd z hs, fun _ r2 h2 fr2 f2 hI2 => ?_⟩⟩
      have hM2 : MI lay r2 h2 b n tx ep km mp F ux sz ho sn row := hM.of (fr2 b (by omega)) (fun x x0 x1 => f2 x (by omega))
      obtain ⟨hMd2, ⟨e0, e5, e17, e19⟩, ⟨e1, e2, e12, e14, e15, e17r⟩, hWa2, hz2, hkp2, hes2⟩ := id hM2
      refine r_aload_2 (pc := 612) dL_law_612 ?_
      refine r_aload_0 (pc := 613) dL_law_613 ?_
      refine r_iload_3 (pc := 614) dL_law_614 ?_
      refine r_iconst (pc := 615) dL_law_615 ?_
      refine r_iadd (pc := 616) dL_law_616 ?_
      refine r_sld (pc := 617) hX dL_law_617 (by omega) (by omega) (fun i_617 => ?_)
      rw [ha1]
      refine r_aload_0 (pc := 618) dL_law_618 ?_
      refine r_iload_3 (pc := 619) dL_law_619 ?_
      refine r_iconst (pc := 620) dL_law_620 ?_
      refine r_iadd (pc := 621) dL_law_621 ?_
      refine r_sld (pc := 622) hX dL_law_622 (by omega) (by omega) (fun i_622 => ?_)
      rw [ha2]
      refine k_VI2 (pc := 623) c_X8_move lk_L_76 ⟨(Nat.le_of_ble_eq_true rfl), (Nat.le_of_ble_eq_true rfl)⟩ ⟨rfl, rfl⟩ ⟨(Nat.le_of_ble_eq_true rfl), (Nat.le_of_ble_eq_true rfl)⟩ (k := 8) rfl (by decide) hMd2.1 dL_law_623 (Nat.le_of_ble_eq_true rfl) ?_
      refine ⟨b, mp, a1, a2, rfl, hMd2, e2, hT, hR, g1, g2, hWa2, (by rw [e5]; omega), fun z => absurd hc z, fun _ => ⟨fun z => absurd z hs, fun _ h3 hCh => ?_⟩⟩
      refine r_same (pc := 626) (tgt := 1462) (by first | rfl | (simp only [e0, e5, e17, e19, e1, e2, e12, e14, e15, e17r])) dL_law_626 (by decide) ?_
      exact K r2 h3 ⟨qN q, n, tx, ep + 1, kN km (up mp a1 a2), up mp a1 a2, h3 (b + 12), ux, sz, ho, sn, row, (hI2.fr (fun x x0 x1 => hCh.1 x (by omega))).cv (fun j j0 j1 => hCh.2.2.2.2.2 j j0 j1) (fun _ _ _ => rfl) (fun _ _ _ => rfl), hM2.ch hep.2.1 hCh (hz2.u (by have := hT.2.1; have := hT.2.2.1; omega)) ⟨e0, e5, e17, e19⟩, by omega⟩
  · refine r_aload_1 (pc := 598) dL_law_598 ?_
    refine r_aload_0 (pc := 599) dL_law_599 ?_
    refine r_iload_3 (pc := 600) dL_law_600 ?_
    refine r_iconst (pc := 601) dL_law_601 ?_
    refine r_iadd (pc := 602) dL_law_602 ?_
    refine r_sld (pc := 603) hX dL_law_603 (by omega) (by omega) (fun i_603 => ?_)
    rw [ha1]
    refine r_aload_0 (pc := 604) dL_law_604 ?_
    refine r_iload_3 (pc := 605) dL_law_605 ?_
    refine r_iconst (pc := 606) dL_law_606 ?_
    refine r_iadd (pc := 607) dL_law_607 ?_
    refine r_sld (pc := 608) hX dL_law_608 (by omega) (by omega) (fun i_608 => ?_)
    rw [ha2]
    refine k_VI2 (pc := 609) c_X7_move lk_L_73 ⟨(Nat.le_of_ble_eq_true rfl), (Nat.le_of_ble_eq_true rfl)⟩ ⟨rfl, rfl⟩ ⟨(Nat.le_of_ble_eq_true rfl), (Nat.le_of_ble_eq_true rfl)⟩ (k := 7) rfl (by decide) cl0 dL_law_609 (Nat.le_of_ble_eq_true rfl) ?_
    refine ⟨c, q, n, tx, ep, km, mp, F, ux, sz, ho, sn, row, a1, a2, rfl, hI, by omega, g1, g2, fun _ => ?_, fun z => absurd z hc⟩
    have hM2 := hM
    obtain ⟨hMd2, ⟨e0, e5, e17, e19⟩, ⟨e1, e2, e12, e14, e15, e17r⟩, hWa2, hz2, hkp2, hes2⟩ := id hM2
    refine r_aload_2 (pc := 612) dL_law_612 ?_
    refine r_aload_0 (pc := 613) dL_law_613 ?_
    refine r_iload_3 (pc := 614) dL_law_614 ?_
    refine r_iconst (pc := 615) dL_law_615 ?_
    refine r_iadd (pc := 616) dL_law_616 ?_
    refine r_sld (pc := 617) hX dL_law_617 (by omega) (by omega) (fun i_617 => ?_)
    rw [ha1]
    refine r_aload_0 (pc := 618) dL_law_618 ?_
    refine r_iload_3 (pc := 619) dL_law_619 ?_
    refine r_iconst (pc := 620) dL_law_620 ?_
    refine r_iadd (pc := 621) dL_law_621 ?_
    refine r_sld (pc := 622) hX dL_law_622 (by omega) (by omega) (fun i_622 => ?_)
    rw [ha2]
    refine k_VI2 (pc := 623) c_X8_move lk_L_76 ⟨(Nat.le_of_ble_eq_true rfl), (Nat.le_of_ble_eq_true rfl)⟩ ⟨rfl, rfl⟩ ⟨(Nat.le_of_ble_eq_true rfl), (Nat.le_of_ble_eq_true rfl)⟩ (k := 8) rfl (by decide) hMd2.1 dL_law_623 (Nat.le_of_ble_eq_true rfl) ?_
    refine ⟨b, mp, a1, a2, rfl, hMd2, e2, hT, hR, g1, g2, hWa2, (by rw [e5]; omega), fun _ => ?_, fun z => absurd z hc⟩
    refine r_same (pc := 626) (tgt := 1462) (by first | rfl | (simp only [e0, e5, e17, e19, e1, e2, e12, e14, e15, e17r])) dL_law_626 (by decide) ?_
    exact K r h ⟨q, n, tx, ep, km, mp, F, ux, sz, ho, sn, row, hI, hM2, by omega⟩
theorem dL_law_555 : decode code 555 = .ok (.aload_n 1, 1) := by decide +kernel
theorem dL_law_556 : decode code 556 = .ok (.aload_n 0, 1) := by decide +kernel
theorem dL_law_557 : decode code 557 = .ok (.iload_n 3, 1) := by decide +kernel
theorem dL_law_558 : decode code 558 = .ok (.iconst 1, 1) := by decide +kernel
theorem dL_law_559 : decode code 559 = .ok (.iadd, 1) := by decide +kernel
theorem dL_law_560 : decode code 560 = .ok (.iaload, 1) := by decide +kernel
theorem dL_law_561 : decode code 561 = .ok (.aload_n 0, 1) := by decide +kernel
theorem dL_law_562 : decode code 562 = .ok (.iload_n 3, 1) := by decide +kernel
theorem dL_law_563 : decode code 563 = .ok (.iconst 2, 1) := by decide +kernel
theorem dL_law_564 : decode code 564 = .ok (.iadd, 1) := by decide +kernel
theorem dL_law_565 : decode code 565 = .ok (.iaload, 1) := by decide +kernel
theorem dL_law_566 : decode code 566 = .ok (.aload_n 0, 1) := by decide +kernel
theorem dL_law_567 : decode code 567 = .ok (.iload_n 3, 1) := by decide +kernel
theorem dL_law_568 : decode code 568 = .ok (.iconst 3, 1) := by decide +kernel
theorem dL_law_569 : decode code 569 = .ok (.iadd, 1) := by decide +kernel
theorem dL_law_570 : decode code 570 = .ok (.iaload, 1) := by decide +kernel
theorem dL_law_571 : decode code 571 = .ok (.invokevirtual 69, 3) := by decide +kernel
theorem dL_law_574 : decode code 574 = .ok (.aload_n 2, 1) := by decide +kernel
theorem dL_law_575 : decode code 575 = .ok (.aload_n 0, 1) := by decide +kernel
theorem dL_law_576 : decode code 576 = .ok (.iload_n 3, 1) := by decide +kernel
theorem dL_law_577 : decode code 577 = .ok (.iconst 1, 1) := by decide +kernel
theorem dL_law_578 : decode code 578 = .ok (.iadd, 1) := by decide +kernel
theorem dL_law_579 : decode code 579 = .ok (.iaload, 1) := by decide +kernel
theorem dL_law_580 : decode code 580 = .ok (.aload_n 0, 1) := by decide +kernel
theorem dL_law_581 : decode code 581 = .ok (.iload_n 3, 1) := by decide +kernel
theorem dL_law_582 : decode code 582 = .ok (.iconst 2, 1) := by decide +kernel
theorem dL_law_583 : decode code 583 = .ok (.iadd, 1) := by decide +kernel
theorem dL_law_584 : decode code 584 = .ok (.iaload, 1) := by decide +kernel
theorem dL_law_585 : decode code 585 = .ok (.aload_n 0, 1) := by decide +kernel
theorem dL_law_586 : decode code 586 = .ok (.iload_n 3, 1) := by decide +kernel
theorem dL_law_587 : decode code 587 = .ok (.iconst 3, 1) := by decide +kernel
theorem dL_law_588 : decode code 588 = .ok (.iadd, 1) := by decide +kernel
theorem dL_law_589 : decode code 589 = .ok (.iaload, 1) := by decide +kernel
theorem dL_law_590 : decode code 590 = .ok (.invokevirtual 72, 3) := by decide +kernel
theorem dL_law_593 : decode code 593 = .ok (.if_icmp .eq 869, 3) := by decide +kernel
set_option maxHeartbeats 4000000 in
set_option maxRecDepth 20000 in
theorem law_disk {E : EnT} {nm : String} {lay : LyT} {r : RfT} {h : HpT} {c b b0 L N : Nat} {sx : Int → Int} {i : Int} (hX : ScE E b0 L sx) (hi : 0 ≤ i ∧ i + 4 ≤ L) (hL : L ≤ 2048) (hcb : b = c + 101) (hLI : LI lay c b i r h) (K : ∀ r' h', LI lay c b (i + 4) r' h' → St E (mL_law nm) 1462 [some (.ref b0), some (.ref c), some (.ref b), some (vI i)] [] (122, 20801) N lay r' h') : St E (mL_law nm) 555 [some (.ref b0), some (.ref c), some (.ref b), some (vI i)] [] (122, 20801) N lay r h := by
  obtain ⟨q, n, tx, ep, km, mp, F, ux, sz, ho, sn, row, hI, hM, hle⟩ := hLI
  have hP0 := hI.2.2.2.2.2.1 0 (by omega) (by omega) (by have := hI.2.2.2.2.1.2.1; omega)
  rw [hI.2.2.2.2.2.2.1.1] at hP0
  have hT := hP0.1
  have hR := hP0.2.1
  have hep := hI.2.2.2.2.1
  have cl0 : lay c = (8, 0) := hI.1.1
  obtain ⟨a1, ha1⟩ : ∃ z, sx (i + 1) = z := ⟨_, rfl⟩
  have g1 := sc_rng hX (i + 1)
  rw [ha1] at g1
  obtain ⟨a2, ha2⟩ : ∃ z, sx (i + 2) = z := ⟨_, rfl⟩
  have g2 := sc_rng hX (i + 2)
  rw [ha2] at g2
  obtain ⟨a3, ha3⟩ : ∃ z, sx (i + 3) = z := ⟨_, rfl⟩
  have g3 := sc_rng hX (i + 3)
  rw [ha3] at g3
  by_cases hc : (4 ≤ a1 ∧ a1 ≤ 3 + mp 129) ∧ (0 ≤ a2 ∧ a2 ≤ 40) ∧ (0 ≤ a3 ∧ a3 ≤ 99)
  · by_cases hs : mp 130 = 12
    · refine r_aload_1 (pc := 555) dL_law_555 ?_
      refine r_aload_0 (pc := 556) dL_law_556 ?_
      refine r_iload_3 (pc := 557) dL_law_557 ?_
      refine r_iconst (pc := 558) dL_law_558 ?_
      refine r_iadd (pc := 559) dL_law_559 ?_
      refine r_sld (pc := 560) hX dL_law_560 (by omega) (by omega) (fun i_560 => ?_)
      rw [ha1]
      refine r_aload_0 (pc := 561) dL_law_561 ?_
      refine r_iload_3 (pc := 562) dL_law_562 ?_
      refine r_iconst (pc := 563) dL_law_563 ?_
      refine r_iadd (pc := 564) dL_law_564 ?_
      refine r_sld (pc := 565) hX dL_law_565 (by omega) (by omega) (fun i_565 => ?_)
      rw [ha2]
      refine r_aload_0 (pc := 566) dL_law_566 ?_
      refine r_iload_3 (pc := 567) dL_law_567 ?_
      refine r_iconst (pc := 568) dL_law_568 ?_
      refine r_iadd (pc := 569) dL_law_569 ?_
      refine r_sld (pc := 570) hX dL_law_570 (by omega) (by omega) (fun i_570 => ?_)
      rw [ha3]
      refine k_VI3 (pc := 571) c_X7_disk lk_L_69 ⟨(Nat.le_of_ble_eq_true rfl), (Nat.le_of_ble_eq_true rfl)⟩ ⟨rfl, rfl⟩ ⟨(Nat.le_of_ble_eq_true rfl), (Nat.le_of_ble_eq_true rfl)⟩ (k := 7) rfl (by decide) cl0 dL_law_571 (Nat.le_of_ble_eq_true rfl) ?_
      refine ⟨c, q, n, tx, ep, km, mp, F, ux, sz, ho, sn, row, a1, a2, a3, rfl, hI, by omega, g1, g2, g3, fun z => absurd hc z, fun _ => ⟨fun _ => ?_, fun z => absurd hs z⟩⟩
      have hM2 := hM
      obtain ⟨hMd2, ⟨e0, e5, e17, e19⟩, ⟨e1, e2, e12, e14, e15, e17r⟩, hWa2, hz2, hkp2, hes2⟩ := id hM2
      refine r_aload_2 (pc := 574) dL_law_574 ?_
      refine r_aload_0 (pc := 575) dL_law_575 ?_
      refine r_iload_3 (pc := 576) dL_law_576 ?_
      refine r_iconst (pc := 577) dL_law_577 ?_
      refine r_iadd (pc := 578) dL_law_578 ?_
      refine r_sld (pc := 579) hX dL_law_579 (by omega) (by omega) (fun i_579 => ?_)
      rw [ha1]
      refine r_aload_0 (pc := 580) dL_law_580 ?_
      refine r_iload_3 (pc := 581) dL_law_581 ?_
      refine r_iconst (pc := 582) dL_law_582 ?_
      refine r_iadd (pc := 583) dL_law_583 ?_
      refine r_sld (pc := 584) hX dL_law_584 (by omega) (by omega) (fun i_584 => ?_)
      rw [ha2]
      refine r_aload_0 (pc := 585) dL_law_585 ?_
      refine r_iload_3 (pc := 586) dL_law_586 ?_
      refine r_iconst (pc := 587) dL_law_587 ?_
      refine r_iadd (pc := 588) dL_law_588 ?_
      refine r_sld (pc := 589) hX dL_law_589 (by omega) (by omega) (fun i_589 => ?_)
      rw [ha3]
      refine k_VI3 (pc := 590) c_X8_disk lk_L_72 ⟨(Nat.le_of_ble_eq_true rfl), (Nat.le_of_ble_eq_true rfl)⟩ ⟨rfl, rfl⟩ ⟨(Nat.le_of_ble_eq_true rfl), (Nat.le_of_ble_eq_true rfl)⟩ (k := 8) rfl (by decide) hMd2.1 dL_law_590 (Nat.le_of_ble_eq_true rfl) ?_
      refine ⟨b, mp, a1, a2, a3, rfl, hMd2, e2, hT, hR, g1, g2, g3, hWa2, (by rw [e5]; omega), fun z => absurd hc z, fun _ => ⟨fun _ => ?_, fun z => absurd hs z⟩⟩
      refine r_same (pc := 593) (tgt := 1462) (by first | rfl | (simp only [e0, e5, e17, e19, e1, e2, e12, e14, e15, e17r])) dL_law_593 (by decide) ?_
      exact K r h ⟨q, n, tx, ep, km, mp, F, ux, sz, ho, sn, row, hI, hM2, by omega⟩
    · refine r_aload_1 (pc := 555) dL_law_555 ?_
      refine r_aload_0 (pc := 556) dL_law_556 ?_
      refine r_iload_3 (pc := 557) dL_law_557 ?_
      refine r_iconst (pc := 558) dL_law_558 ?_
      refine r_iadd (pc := 559) dL_law_559 ?_
      refine r_sld (pc := 560) hX dL_law_560 (by omega) (by omega) (fun i_560 => ?_)
      rw [ha1]
      refine r_aload_0 (pc := 561) dL_law_561 ?_
      refine r_iload_3 (pc := 562) dL_law_562 ?_
      refine r_iconst (pc := 563) dL_law_563 ?_
      refine r_iadd (pc := 564) dL_law_564 ?_
      refine r_sld (pc := 565) hX dL_law_565 (by omega) (by omega) (fun i_565 => ?_)
      rw [ha2]
      refine r_aload_0 (pc := 566) dL_law_566 ?_
      refine r_iload_3 (pc := 567) dL_law_567 ?_
      refine r_iconst (pc := 568) dL_law_568 ?_
      refine r_iadd (pc := 569) dL_law_569 ?_
      refine r_sld (pc := 570) hX dL_law_570 (by omega) (by omega) (fun i_570 => ?_)
      rw [ha3]
      refine k_VI3 (pc := 571) c_X7_disk lk_L_69 ⟨(Nat.le_of_ble_eq_true rfl), (Nat.le_of_ble_eq_true rfl)⟩ ⟨rfl, rfl⟩ ⟨(Nat.le_of_ble_eq_true rfl), (Nat.le_of_ble_eq_true rfl)⟩ (k := 7) rfl (by decide) cl0 dL_law_571 (Nat.le_of_ble_eq_true rfl) ?_
      refine ⟨c, q, n, tx, ep, km, mp, F, ux, sz, ho, sn, row, a1, a2, a3, rfl, hI, by omega, g1, g2, g3, fun z => absurd hc z, fun _ => ⟨fun z => absurd z hs, fun _ r2 h2 fr2 f2 hI2 => ?_⟩⟩
      have hM2 : MI lay r2 h2 b n tx ep km mp F ux sz ho sn row := hM.of (fr2 b (by omega)) (fun x x0 x1 => f2 x (by omega))
      obtain ⟨hMd2, ⟨e0, e5, e17, e19⟩, ⟨e1, e2, e12, e14, e15, e17r⟩, hWa2, hz2, hkp2, hes2⟩ := id hM2
      refine r_aload_2 (pc := 574) dL_law_574 ?_
      refine r_aload_0 (pc := 575) dL_law_575 ?_
      refine r_iload_3 (pc := 576) dL_law_576 ?_
      refine r_iconst (pc := 577) dL_law_577 ?_
      refine r_iadd (pc := 578) dL_law_578 ?_
      refine r_sld (pc := 579) hX dL_law_579 (by omega) (by omega) (fun i_579 => ?_)
      rw [ha1]
      refine r_aload_0 (pc := 580) dL_law_580 ?_
      refine r_iload_3 (pc := 581) dL_law_581 ?_
      refine r_iconst (pc := 582) dL_law_582 ?_
      refine r_iadd (pc := 583) dL_law_583 ?_
      refine r_sld (pc := 584) hX dL_law_584 (by omega) (by omega) (fun i_584 => ?_)
      rw [ha2]
      refine r_aload_0 (pc := 585) dL_law_585 ?_
      refine r_iload_3 (pc := 586) dL_law_586 ?_
      refine r_iconst (pc := 587) dL_law_587 ?_
      refine r_iadd (pc := 588) dL_law_588 ?_
      refine r_sld (pc := 589) hX dL_law_589 (by omega) (by omega) (fun i_589 => ?_)
      rw [ha3]
      refine k_VI3 (pc := 590) c_X8_disk lk_L_72 ⟨(Nat.le_of_ble_eq_true rfl), (Nat.le_of_ble_eq_true rfl)⟩ ⟨rfl, rfl⟩ ⟨(Nat.le_of_ble_eq_true rfl), (Nat.le_of_ble_eq_true rfl)⟩ (k := 8) rfl (by decide) hMd2.1 dL_law_590 (Nat.le_of_ble_eq_true rfl) ?_
      refine ⟨b, mp, a1, a2, a3, rfl, hMd2, e2, hT, hR, g1, g2, g3, hWa2, (by rw [e5]; omega), fun z => absurd hc z, fun _ => ⟨fun z => absurd z hs, fun _ h3 hCh => ?_⟩⟩
      refine r_same (pc := 593) (tgt := 1462) (by first | rfl | (simp only [e0, e5, e17, e19, e1, e2, e12, e14, e15, e17r])) dL_law_593 (by decide) ?_
      exact K r2 h3 ⟨qN q, n, tx, ep + 1, kN km (dkM mp a1 a2 a3), dkM mp a1 a2 a3, h3 (b + 12), iO ux (iSl 1 (10 + mp 130 - 10)), sz, ho, sn, row, (hI2.fr (fun x x0 x1 => hCh.1 x (by omega))).cv (fun j j0 j1 => hCh.2.2.2.2.2 j j0 j1) (fun _ _ _ => rfl) (fun _ _ _ => rfl), hM2.ch hep.2.1 hCh (by
        have t3 := hT.2.2.1
        unfold dkM
        exact (((((hz2.u (by omega)).u (by omega)).u (by omega)).u (by omega)).u (by omega)).u (by omega)) ⟨by rw [up_n (by omega)]; exact e0, by rw [up_n (by omega)]; exact e5, by rw [up_s, e17], by rw [up_n (by omega)]; exact e19⟩, by omega⟩
  · refine r_aload_1 (pc := 555) dL_law_555 ?_
    refine r_aload_0 (pc := 556) dL_law_556 ?_
    refine r_iload_3 (pc := 557) dL_law_557 ?_
    refine r_iconst (pc := 558) dL_law_558 ?_
    refine r_iadd (pc := 559) dL_law_559 ?_
    refine r_sld (pc := 560) hX dL_law_560 (by omega) (by omega) (fun i_560 => ?_)
    rw [ha1]
    refine r_aload_0 (pc := 561) dL_law_561 ?_
    refine r_iload_3 (pc := 562) dL_law_562 ?_
    refine r_iconst (pc := 563) dL_law_563 ?_
    refine r_iadd (pc := 564) dL_law_564 ?_
    refine r_sld (pc := 565) hX dL_law_565 (by omega) (by omega) (fun i_565 => ?_)
    rw [ha2]
    refine r_aload_0 (pc := 566) dL_law_566 ?_
    refine r_iload_3 (pc := 567) dL_law_567 ?_
    refine r_iconst (pc := 568) dL_law_568 ?_
    refine r_iadd (pc := 569) dL_law_569 ?_
    refine r_sld (pc := 570) hX dL_law_570 (by omega) (by omega) (fun i_570 => ?_)
    rw [ha3]
    refine k_VI3 (pc := 571) c_X7_disk lk_L_69 ⟨(Nat.le_of_ble_eq_true rfl), (Nat.le_of_ble_eq_true rfl)⟩ ⟨rfl, rfl⟩ ⟨(Nat.le_of_ble_eq_true rfl), (Nat.le_of_ble_eq_true rfl)⟩ (k := 7) rfl (by decide) cl0 dL_law_571 (Nat.le_of_ble_eq_true rfl) ?_
    refine ⟨c, q, n, tx, ep, km, mp, F, ux, sz, ho, sn, row, a1, a2, a3, rfl, hI, by omega, g1, g2, g3, fun _ => ?_, fun z => absurd z hc⟩
    have hM2 := hM
    obtain ⟨hMd2, ⟨e0, e5, e17, e19⟩, ⟨e1, e2, e12, e14, e15, e17r⟩, hWa2, hz2, hkp2, hes2⟩ := id hM2
    refine r_aload_2 (pc := 574) dL_law_574 ?_
    refine r_aload_0 (pc := 575) dL_law_575 ?_
    refine r_iload_3 (pc := 576) dL_law_576 ?_
    refine r_iconst (pc := 577) dL_law_577 ?_
    refine r_iadd (pc := 578) dL_law_578 ?_
    refine r_sld (pc := 579) hX dL_law_579 (by omega) (by omega) (fun i_579 => ?_)
    rw [ha1]
    refine r_aload_0 (pc := 580) dL_law_580 ?_
    refine r_iload_3 (pc := 581) dL_law_581 ?_
    refine r_iconst (pc := 582) dL_law_582 ?_
    refine r_iadd (pc := 583) dL_law_583 ?_
    refine r_sld (pc := 584) hX dL_law_584 (by omega) (by omega) (fun i_584 => ?_)
    rw [ha2]
    refine r_aload_0 (pc := 585) dL_law_585 ?_
    refine r_iload_3 (pc := 586) dL_law_586 ?_
    refine r_iconst (pc := 587) dL_law_587 ?_
    refine r_iadd (pc := 588) dL_law_588 ?_
    refine r_sld (pc := 589) hX dL_law_589 (by omega) (by omega) (fun i_589 => ?_)
    rw [ha3]
    refine k_VI3 (pc := 590) c_X8_disk lk_L_72 ⟨(Nat.le_of_ble_eq_true rfl), (Nat.le_of_ble_eq_true rfl)⟩ ⟨rfl, rfl⟩ ⟨(Nat.le_of_ble_eq_true rfl), (Nat.le_of_ble_eq_true rfl)⟩ (k := 8) rfl (by decide) hMd2.1 dL_law_590 (Nat.le_of_ble_eq_true rfl) ?_
    refine ⟨b, mp, a1, a2, a3, rfl, hMd2, e2, hT, hR, g1, g2, g3, hWa2, (by rw [e5]; omega), fun _ => ?_, fun z => absurd z hc⟩
    refine r_same (pc := 593) (tgt := 1462) (by first | rfl | (simp only [e0, e5, e17, e19, e1, e2, e12, e14, e15, e17r])) dL_law_593 (by decide) ?_
    exact K r h ⟨q, n, tx, ep, km, mp, F, ux, sz, ho, sn, row, hI, hM2, by omega⟩
theorem dL_law_423 : decode code 423 = .ok (.aload_n 1, 1) := by decide +kernel
theorem dL_law_424 : decode code 424 = .ok (.aload_n 0, 1) := by decide +kernel
theorem dL_law_425 : decode code 425 = .ok (.iload_n 3, 1) := by decide +kernel
theorem dL_law_426 : decode code 426 = .ok (.iconst 1, 1) := by decide +kernel
theorem dL_law_427 : decode code 427 = .ok (.iadd, 1) := by decide +kernel
theorem dL_law_428 : decode code 428 = .ok (.iaload, 1) := by decide +kernel
theorem dL_law_429 : decode code 429 = .ok (.aload_n 0, 1) := by decide +kernel
theorem dL_law_430 : decode code 430 = .ok (.iload_n 3, 1) := by decide +kernel
theorem dL_law_431 : decode code 431 = .ok (.iconst 2, 1) := by decide +kernel
theorem dL_law_432 : decode code 432 = .ok (.iadd, 1) := by decide +kernel
theorem dL_law_433 : decode code 433 = .ok (.iaload, 1) := by decide +kernel
theorem dL_law_434 : decode code 434 = .ok (.aload_n 0, 1) := by decide +kernel
theorem dL_law_435 : decode code 435 = .ok (.iload_n 3, 1) := by decide +kernel
theorem dL_law_436 : decode code 436 = .ok (.iconst 3, 1) := by decide +kernel
theorem dL_law_437 : decode code 437 = .ok (.iadd, 1) := by decide +kernel
theorem dL_law_438 : decode code 438 = .ok (.iaload, 1) := by decide +kernel
theorem dL_law_439 : decode code 439 = .ok (.invokevirtual 52, 3) := by decide +kernel
theorem dL_law_442 : decode code 442 = .ok (.aload_n 2, 1) := by decide +kernel
theorem dL_law_443 : decode code 443 = .ok (.aload_n 0, 1) := by decide +kernel
theorem dL_law_444 : decode code 444 = .ok (.iload_n 3, 1) := by decide +kernel
theorem dL_law_445 : decode code 445 = .ok (.iconst 1, 1) := by decide +kernel
theorem dL_law_446 : decode code 446 = .ok (.iadd, 1) := by decide +kernel
theorem dL_law_447 : decode code 447 = .ok (.iaload, 1) := by decide +kernel
theorem dL_law_448 : decode code 448 = .ok (.aload_n 0, 1) := by decide +kernel
theorem dL_law_449 : decode code 449 = .ok (.iload_n 3, 1) := by decide +kernel
theorem dL_law_450 : decode code 450 = .ok (.iconst 2, 1) := by decide +kernel
theorem dL_law_451 : decode code 451 = .ok (.iadd, 1) := by decide +kernel
theorem dL_law_452 : decode code 452 = .ok (.iaload, 1) := by decide +kernel
theorem dL_law_453 : decode code 453 = .ok (.aload_n 0, 1) := by decide +kernel
theorem dL_law_454 : decode code 454 = .ok (.iload_n 3, 1) := by decide +kernel
theorem dL_law_455 : decode code 455 = .ok (.iconst 3, 1) := by decide +kernel
theorem dL_law_456 : decode code 456 = .ok (.iadd, 1) := by decide +kernel
theorem dL_law_457 : decode code 457 = .ok (.iaload, 1) := by decide +kernel
theorem dL_law_458 : decode code 458 = .ok (.invokevirtual 56, 3) := by decide +kernel
theorem dL_law_461 : decode code 461 = .ok (.if_icmp .eq 1001, 3) := by decide +kernel
set_option maxHeartbeats 4000000 in
set_option maxRecDepth 20000 in
theorem law_divert {E : EnT} {nm : String} {lay : LyT} {r : RfT} {h : HpT} {c b b0 L N : Nat} {sx : Int → Int} {i : Int} (hX : ScE E b0 L sx) (hi : 0 ≤ i ∧ i + 4 ≤ L) (hL : L ≤ 2048) (hcb : b = c + 101) (hLI : LI lay c b i r h) (K : ∀ r' h', LI lay c b (i + 4) r' h' → St E (mL_law nm) 1462 [some (.ref b0), some (.ref c), some (.ref b), some (vI i)] [] (122, 20801) N lay r' h') : St E (mL_law nm) 423 [some (.ref b0), some (.ref c), some (.ref b), some (vI i)] [] (122, 20801) N lay r h := by
  obtain ⟨q, n, tx, ep, km, mp, F, ux, sz, ho, sn, row, hI, hM, hle⟩ := hLI
  have hP0 := hI.2.2.2.2.2.1 0 (by omega) (by omega) (by have := hI.2.2.2.2.1.2.1; omega)
  rw [hI.2.2.2.2.2.2.1.1] at hP0
  have hT := hP0.1
  have hR := hP0.2.1
  have hep := hI.2.2.2.2.1
  have cl0 : lay c = (8, 0) := hI.1.1
  obtain ⟨a1, ha1⟩ : ∃ z, sx (i + 1) = z := ⟨_, rfl⟩
  have g1 := sc_rng hX (i + 1)
  rw [ha1] at g1
  obtain ⟨a2, ha2⟩ : ∃ z, sx (i + 2) = z := ⟨_, rfl⟩
  have g2 := sc_rng hX (i + 2)
  rw [ha2] at g2
  obtain ⟨a3, ha3⟩ : ∃ z, sx (i + 3) = z := ⟨_, rfl⟩
  have g3 := sc_rng hX (i + 3)
  rw [ha3] at g3
  by_cases hc : (0 ≤ a1 ∧ a1 < 16) ∧ (10 ≤ a2 ∧ a2 ≤ 9 + mp 130) ∧ (10 ≤ a3 ∧ a3 ≤ 9 + mp 130) ∧ a2 ≠ a3
  · by_cases hx : ∃ i, 0 ≤ i ∧ i < mp 135 ∧ mp (110 + 3 * i) = a1 ∧ mp (111 + 3 * i) = a2 ∧ mp (112 + 3 * i) = a3
    · refine r_aload_1 (pc := 423) dL_law_423 ?_
      refine r_aload_0 (pc := 424) dL_law_424 ?_
      refine r_iload_3 (pc := 425) dL_law_425 ?_
      refine r_iconst (pc := 426) dL_law_426 ?_
      refine r_iadd (pc := 427) dL_law_427 ?_
      refine r_sld (pc := 428) hX dL_law_428 (by omega) (by omega) (fun i_428 => ?_)
      rw [ha1]
      refine r_aload_0 (pc := 429) dL_law_429 ?_
      refine r_iload_3 (pc := 430) dL_law_430 ?_
      refine r_iconst (pc := 431) dL_law_431 ?_
      refine r_iadd (pc := 432) dL_law_432 ?_
      refine r_sld (pc := 433) hX dL_law_433 (by omega) (by omega) (fun i_433 => ?_)
      rw [ha2]
      refine r_aload_0 (pc := 434) dL_law_434 ?_
      refine r_iload_3 (pc := 435) dL_law_435 ?_
      refine r_iconst (pc := 436) dL_law_436 ?_
      refine r_iadd (pc := 437) dL_law_437 ?_
      refine r_sld (pc := 438) hX dL_law_438 (by omega) (by omega) (fun i_438 => ?_)
      rw [ha3]
      refine k_VI3 (pc := 439) c_X7_divert lk_L_52 ⟨(Nat.le_of_ble_eq_true rfl), (Nat.le_of_ble_eq_true rfl)⟩ ⟨rfl, rfl⟩ ⟨(Nat.le_of_ble_eq_true rfl), (Nat.le_of_ble_eq_true rfl)⟩ (k := 7) rfl (by decide) cl0 dL_law_439 (Nat.le_of_ble_eq_true rfl) ?_
      refine ⟨c, q, n, tx, ep, km, mp, F, ux, sz, ho, sn, row, a1, a2, a3, rfl, hI, by omega, g1, g2, g3, fun z => absurd hc z, fun _ => ⟨fun _ => ?_, fun z => absurd hx z⟩⟩
      have hM2 := hM
      obtain ⟨hMd2, ⟨e0, e5, e17, e19⟩, ⟨e1, e2, e12, e14, e15, e17r⟩, hWa2, hz2, hkp2, hes2⟩ := id hM2
      refine r_aload_2 (pc := 442) dL_law_442 ?_
      refine r_aload_0 (pc := 443) dL_law_443 ?_
      refine r_iload_3 (pc := 444) dL_law_444 ?_
      refine r_iconst (pc := 445) dL_law_445 ?_
      refine r_iadd (pc := 446) dL_law_446 ?_
      refine r_sld (pc := 447) hX dL_law_447 (by omega) (by omega) (fun i_447 => ?_)
      rw [ha1]
      refine r_aload_0 (pc := 448) dL_law_448 ?_
      refine r_iload_3 (pc := 449) dL_law_449 ?_
      refine r_iconst (pc := 450) dL_law_450 ?_
      refine r_iadd (pc := 451) dL_law_451 ?_
      refine r_sld (pc := 452) hX dL_law_452 (by omega) (by omega) (fun i_452 => ?_)
      rw [ha2]
      refine r_aload_0 (pc := 453) dL_law_453 ?_
      refine r_iload_3 (pc := 454) dL_law_454 ?_
      refine r_iconst (pc := 455) dL_law_455 ?_
      refine r_iadd (pc := 456) dL_law_456 ?_
      refine r_sld (pc := 457) hX dL_law_457 (by omega) (by omega) (fun i_457 => ?_)
      rw [ha3]
      refine k_VI3 (pc := 458) c_X8_divert lk_L_56 ⟨(Nat.le_of_ble_eq_true rfl), (Nat.le_of_ble_eq_true rfl)⟩ ⟨rfl, rfl⟩ ⟨(Nat.le_of_ble_eq_true rfl), (Nat.le_of_ble_eq_true rfl)⟩ (k := 8) rfl (by decide) hMd2.1 dL_law_458 (Nat.le_of_ble_eq_true rfl) ?_
      refine ⟨b, mp, a1, a2, a3, rfl, hMd2, e2, hT, hR, g1, g2, g3, hWa2, (by rw [e5]; omega), fun z => absurd hc z, fun _ => ⟨fun _ => ?_, fun z => absurd hx z⟩⟩
      refine r_same (pc := 461) (tgt := 1462) (by first | rfl | (simp only [e0, e5, e17, e19, e1, e2, e12, e14, e15, e17r])) dL_law_461 (by decide) ?_
      exact K r h ⟨q, n, tx, ep, km, mp, F, ux, sz, ho, sn, row, hI, hM2, by omega⟩
    · by_cases hs : mp 135 = 6
      · refine r_aload_1 (pc := 423) dL_law_423 ?_
        refine r_aload_0 (pc := 424) dL_law_424 ?_
        refine r_iload_3 (pc := 425) dL_law_425 ?_
        refine r_iconst (pc := 426) dL_law_426 ?_
        refine r_iadd (pc := 427) dL_law_427 ?_
        refine r_sld (pc := 428) hX dL_law_428 (by omega) (by omega) (fun i_428 => ?_)
        rw [ha1]
        refine r_aload_0 (pc := 429) dL_law_429 ?_
        refine r_iload_3 (pc := 430) dL_law_430 ?_
        refine r_iconst (pc := 431) dL_law_431 ?_
        refine r_iadd (pc := 432) dL_law_432 ?_
        refine r_sld (pc := 433) hX dL_law_433 (by omega) (by omega) (fun i_433 => ?_)
        rw [ha2]
        refine r_aload_0 (pc := 434) dL_law_434 ?_
        refine r_iload_3 (pc := 435) dL_law_435 ?_
        refine r_iconst (pc := 436) dL_law_436 ?_
        refine r_iadd (pc := 437) dL_law_437 ?_
        refine r_sld (pc := 438) hX dL_law_438 (by omega) (by omega) (fun i_438 => ?_)
        rw [ha3]
        refine k_VI3 (pc := 439) c_X7_divert lk_L_52 ⟨(Nat.le_of_ble_eq_true rfl), (Nat.le_of_ble_eq_true rfl)⟩ ⟨rfl, rfl⟩ ⟨(Nat.le_of_ble_eq_true rfl), (Nat.le_of_ble_eq_true rfl)⟩ (k := 7) rfl (by decide) cl0 dL_law_439 (Nat.le_of_ble_eq_true rfl) ?_
        refine ⟨c, q, n, tx, ep, km, mp, F, ux, sz, ho, sn, row, a1, a2, a3, rfl, hI, by omega, g1, g2, g3, fun z => absurd hc z, fun _ => ⟨fun z => absurd z hx, fun _ => ⟨fun _ => ?_, fun z => absurd hs z⟩⟩⟩
        have hM2 := hM
        obtain ⟨hMd2, ⟨e0, e5, e17, e19⟩, ⟨e1, e2, e12, e14, e15, e17r⟩, hWa2, hz2, hkp2, hes2⟩ := id hM2
        refine r_aload_2 (pc := 442) dL_law_442 ?_
        refine r_aload_0 (pc := 443) dL_law_443 ?_
        refine r_iload_3 (pc := 444) dL_law_444 ?_
        refine r_iconst (pc := 445) dL_law_445 ?_
        refine r_iadd (pc := 446) dL_law_446 ?_
        refine r_sld (pc := 447) hX dL_law_447 (by omega) (by omega) (fun i_447 => ?_)
        rw [ha1]
        refine r_aload_0 (pc := 448) dL_law_448 ?_
        refine r_iload_3 (pc := 449) dL_law_449 ?_
        refine r_iconst (pc := 450) dL_law_450 ?_
        refine r_iadd (pc := 451) dL_law_451 ?_
        refine r_sld (pc := 452) hX dL_law_452 (by omega) (by omega) (fun i_452 => ?_)
        rw [ha2]
        refine r_aload_0 (pc := 453) dL_law_453 ?_
        refine r_iload_3 (pc := 454) dL_law_454 ?_
        refine r_iconst (pc := 455) dL_law_455 ?_
        refine r_iadd (pc := 456) dL_law_456 ?_
        refine r_sld (pc := 457) hX dL_law_457 (by omega) (by omega) (fun i_457 => ?_)
        rw [ha3]
        refine k_VI3 (pc := 458) c_X8_divert lk_L_56 ⟨(Nat.le_of_ble_eq_true rfl), (Nat.le_of_ble_eq_true rfl)⟩ ⟨rfl, rfl⟩ ⟨(Nat.le_of_ble_eq_true rfl), (Nat.le_of_ble_eq_true rfl)⟩ (k := 8) rfl (by decide) hMd2.1 dL_law_458 (Nat.le_of_ble_eq_true rfl) ?_
        refine ⟨b, mp, a1, a2, a3, rfl, hMd2, e2, hT, hR, g1, g2, g3, hWa2, (by rw [e5]; omega), fun z => absurd hc z, fun _ => ⟨fun z => absurd z hx, fun _ => ⟨fun _ => ?_, fun z => absurd hs z⟩⟩⟩
        refine r_same (pc := 461) (tgt := 1462) (by first | rfl | (simp only [e0, e5, e17, e19, e1, e2, e12, e14, e15, e17r])) dL_law_461 (by decide) ?_
        exact K r h ⟨q, n, tx, ep, km, mp, F, ux, sz, ho, sn, row, hI, hM2, by omega⟩
      · refine r_aload_1 (pc := 423) dL_law_423 ?_
        refine r_aload_0 (pc := 424) dL_law_424 ?_
        refine r_iload_3 (pc := 425) dL_law_425 ?_
        refine r_iconst (pc := 426) dL_law_426 ?_
        refine r_iadd (pc := 427) dL_law_427 ?_
        refine r_sld (pc := 428) hX dL_law_428 (by omega) (by omega) (fun i_428 => ?_)
        rw [ha1]
        refine r_aload_0 (pc := 429) dL_law_429 ?_
        refine r_iload_3 (pc := 430) dL_law_430 ?_
        refine r_iconst (pc := 431) dL_law_431 ?_
        refine r_iadd (pc := 432) dL_law_432 ?_
        refine r_sld (pc := 433) hX dL_law_433 (by omega) (by omega) (fun i_433 => ?_)
        rw [ha2]
        refine r_aload_0 (pc := 434) dL_law_434 ?_
        refine r_iload_3 (pc := 435) dL_law_435 ?_
        refine r_iconst (pc := 436) dL_law_436 ?_
        refine r_iadd (pc := 437) dL_law_437 ?_
        refine r_sld (pc := 438) hX dL_law_438 (by omega) (by omega) (fun i_438 => ?_)
        rw [ha3]
        refine k_VI3 (pc := 439) c_X7_divert lk_L_52 ⟨(Nat.le_of_ble_eq_true rfl), (Nat.le_of_ble_eq_true rfl)⟩ ⟨rfl, rfl⟩ ⟨(Nat.le_of_ble_eq_true rfl), (Nat.le_of_ble_eq_true rfl)⟩ (k := 7) rfl (by decide) cl0 dL_law_439 (Nat.le_of_ble_eq_true rfl) ?_
        refine ⟨c, q, n, tx, ep, km, mp, F, ux, sz, ho, sn, row, a1, a2, a3, rfl, hI, by omega, g1, g2, g3, fun z => absurd hc z, fun _ => ⟨fun z => absurd z hx, fun _ => ⟨fun z => absurd z hs, fun _ r2 h2 fr2 f2 hI2 => ?_⟩⟩⟩
        have hM2 : MI lay r2 h2 b n tx ep km mp F ux sz ho sn row := hM.of (fr2 b (by omega)) (fun x x0 x1 => f2 x (by omega))
        obtain ⟨hMd2, ⟨e0, e5, e17, e19⟩, ⟨e1, e2, e12, e14, e15, e17r⟩, hWa2, hz2, hkp2, hes2⟩ := id hM2
        refine r_aload_2 (pc := 442) dL_law_442 ?_
        refine r_aload_0 (pc := 443) dL_law_443 ?_
        refine r_iload_3 (pc := 444) dL_law_444 ?_
        refine r_iconst (pc := 445) dL_law_445 ?_
        refine r_iadd (pc := 446) dL_law_446 ?_
        refine r_sld (pc := 447) hX dL_law_447 (by omega) (by omega) (fun i_447 => ?_)
        rw [ha1]
        refine r_aload_0 (pc := 448) dL_law_448 ?_
        refine r_iload_3 (pc := 449) dL_law_449 ?_
        refine r_iconst (pc := 450) dL_law_450 ?_
        refine r_iadd (pc := 451) dL_law_451 ?_
        refine r_sld (pc := 452) hX dL_law_452 (by omega) (by omega) (fun i_452 => ?_)
        rw [ha2]
        refine r_aload_0 (pc := 453) dL_law_453 ?_
        refine r_iload_3 (pc := 454) dL_law_454 ?_
        refine r_iconst (pc := 455) dL_law_455 ?_
        refine r_iadd (pc := 456) dL_law_456 ?_
        refine r_sld (pc := 457) hX dL_law_457 (by omega) (by omega) (fun i_457 => ?_)
        rw [ha3]
        refine k_VI3 (pc := 458) c_X8_divert lk_L_56 ⟨(Nat.le_of_ble_eq_true rfl), (Nat.le_of_ble_eq_true rfl)⟩ ⟨rfl, rfl⟩ ⟨(Nat.le_of_ble_eq_true rfl), (Nat.le_of_ble_eq_true rfl)⟩ (k := 8) rfl (by decide) hMd2.1 dL_law_458 (Nat.le_of_ble_eq_true rfl) ?_
        refine ⟨b, mp, a1, a2, a3, rfl, hMd2, e2, hT, hR, g1, g2, g3, hWa2, (by rw [e5]; omega), fun z => absurd hc z, fun _ => ⟨fun z => absurd z hx, fun _ => ⟨fun z => absurd z hs, fun _ h3 hCh => ?_⟩⟩⟩
        refine r_same (pc := 461) (tgt := 1462) (by first | rfl | (simp only [e0, e5, e17, e19, e1, e2, e12, e14, e15, e17r])) dL_law_461 (by decide) ?_
        exact K r2 h3 ⟨qN q, n, tx, ep + 1, kN km (dvM mp a1 a2 a3), dvM mp a1 a2 a3, h3 (b + 12), ux, sz, ho, sn, row, (hI2.fr (fun x x0 x1 => hCh.1 x (by omega))).cv (fun j j0 j1 => hCh.2.2.2.2.2 j j0 j1) (fun _ _ _ => rfl) (fun _ _ _ => rfl), hM2.ch hep.2.1 hCh (by
          have r5 := hR.2.2.2.2.1
          unfold dvM
          exact (((hz2.u (by omega)).u (by omega)).u (by omega)).u (by omega)) ⟨e0, e5, e17, e19⟩, by omega⟩
  · refine r_aload_1 (pc := 423) dL_law_423 ?_
    refine r_aload_0 (pc := 424) dL_law_424 ?_
    refine r_iload_3 (pc := 425) dL_law_425 ?_
    refine r_iconst (pc := 426) dL_law_426 ?_
    refine r_iadd (pc := 427) dL_law_427 ?_
    refine r_sld (pc := 428) hX dL_law_428 (by omega) (by omega) (fun i_428 => ?_)
    rw [ha1]
    refine r_aload_0 (pc := 429) dL_law_429 ?_
    refine r_iload_3 (pc := 430) dL_law_430 ?_
    refine r_iconst (pc := 431) dL_law_431 ?_
    refine r_iadd (pc := 432) dL_law_432 ?_
    refine r_sld (pc := 433) hX dL_law_433 (by omega) (by omega) (fun i_433 => ?_)
    rw [ha2]
    refine r_aload_0 (pc := 434) dL_law_434 ?_
    refine r_iload_3 (pc := 435) dL_law_435 ?_
    refine r_iconst (pc := 436) dL_law_436 ?_
    refine r_iadd (pc := 437) dL_law_437 ?_
    refine r_sld (pc := 438) hX dL_law_438 (by omega) (by omega) (fun i_438 => ?_)
    rw [ha3]
    refine k_VI3 (pc := 439) c_X7_divert lk_L_52 ⟨(Nat.le_of_ble_eq_true rfl), (Nat.le_of_ble_eq_true rfl)⟩ ⟨rfl, rfl⟩ ⟨(Nat.le_of_ble_eq_true rfl), (Nat.le_of_ble_eq_true rfl)⟩ (k := 7) rfl (by decide) cl0 dL_law_439 (Nat.le_of_ble_eq_true rfl) ?_
    refine ⟨c, q, n, tx, ep, km, mp, F, ux, sz, ho, sn, row, a1, a2, a3, rfl, hI, by omega, g1, g2, g3, fun _ => ?_, fun z => absurd z hc⟩
    have hM2 := hM
    obtain ⟨hMd2, ⟨e0, e5, e17, e19⟩, ⟨e1, e2, e12, e14, e15, e17r⟩, hWa2, hz2, hkp2, hes2⟩ := id hM2
    refine r_aload_2 (pc := 442) dL_law_442 ?_
    refine r_aload_0 (pc := 443) dL_law_443 ?_
    refine r_iload_3 (pc := 444) dL_law_444 ?_
    refine r_iconst (pc := 445) dL_law_445 ?_
    refine r_iadd (pc := 446) dL_law_446 ?_
    refine r_sld (pc := 447) hX dL_law_447 (by omega) (by omega) (fun i_447 => ?_)
    rw [ha1]
    refine r_aload_0 (pc := 448) dL_law_448 ?_
    refine r_iload_3 (pc := 449) dL_law_449 ?_
    refine r_iconst (pc := 450) dL_law_450 ?_
    refine r_iadd (pc := 451) dL_law_451 ?_
    refine r_sld (pc := 452) hX dL_law_452 (by omega) (by omega) (fun i_452 => ?_)
    rw [ha2]
    refine r_aload_0 (pc := 453) dL_law_453 ?_
    refine r_iload_3 (pc := 454) dL_law_454 ?_
    refine r_iconst (pc := 455) dL_law_455 ?_
    refine r_iadd (pc := 456) dL_law_456 ?_
    refine r_sld (pc := 457) hX dL_law_457 (by omega) (by omega) (fun i_457 => ?_)
    rw [ha3]
    refine k_VI3 (pc := 458) c_X8_divert lk_L_56 ⟨(Nat.le_of_ble_eq_true rfl), (Nat.le_of_ble_eq_true rfl)⟩ ⟨rfl, rfl⟩ ⟨(Nat.le_of_ble_eq_true rfl), (Nat.le_of_ble_eq_true rfl)⟩ (k := 8) rfl (by decide) hMd2.1 dL_law_458 (Nat.le_of_ble_eq_true rfl) ?_
    refine ⟨b, mp, a1, a2, a3, rfl, hMd2, e2, hT, hR, g1, g2, g3, hWa2, (by rw [e5]; omega), fun _ => ?_, fun z => absurd z hc⟩
    refine r_same (pc := 461) (tgt := 1462) (by first | rfl | (simp only [e0, e5, e17, e19, e1, e2, e12, e14, e15, e17r])) dL_law_461 (by decide) ?_
    exact K r h ⟨q, n, tx, ep, km, mp, F, ux, sz, ho, sn, row, hI, hM2, by omega⟩
