/-! THE LAW: one call on both sides -/
section ROWS
variable {E : EnT} {M : MtT} {pc : Nat} {l : LcT} {st : List Value} {κ : Nat × Nat} {N : Nat} {lay : LyT} {r : RfT} {h : HpT}
theorem r_same {x y off : Int} {tgt : Nat} (e9 : y = x) (d : decode M.2.1 pc = .ok (.if_icmp .eq off, 3)) (ht : (pc : Int) + off = (tgt : Int)) (k : St E M tgt l st κ N lay r h) : St E M pc l (vI y :: vI x :: st) κ N lay r h := by
  subst e9
  obtain ⟨p, la, e, s, m, args, below, meth, c, D, cA, B, Z⟩ := E
  intro O ls H locs hl hn hw
  exact lv_icmp_eq O.1 O.2.1 d ht (fun _ => k O ls H locs hl hn hw) (fun z => absurd rfl z)
end ROWS
theorem sc_rng {E : EnT} {b0 L : Nat} {sx : Int → Int} (hX : ScE E b0 L sx) (j : Int) : -2147483648 ≤ sx j ∧ sx j < 2147483648 := by
  obtain ⟨p, la, e, s, m, args, below, meth, c, D, cA, B, Z⟩ := E
  obtain ⟨xs, hx1, hx2, hx3, hx4⟩ := hX
  rw [hx4]
  exact i32_rng _
theorem MI.tr {lay : LyT} {r : RfT} {h : HpT} {b : Nat} {n : Int} {tx : Int → Int} {ep : Int} {km : Int → Int → Int} {mp F : Int → Int} {ux : Int} {sz ho : Int → Int} {sn : Int} {row : Int → Int} (q : MI lay r h b n tx ep km mp F ux sz ho sn row) (e : Int) (he : 1 ≤ e ∧ h (b + 4) (e % 5) = e) (hep : 1 ≤ ep) : (1 ≤ e ∧ e ≤ ep ∧ ep - e < 5) ∧ cpR (fun k => h (b + 3) (136 * (e % 5) + k)) mp 136 = km (ep - e) := by
  obtain ⟨a1, a2, a3, a4, a5, a6, a7⟩ := q
  rw [a7 _ (by omega) (by omega)] at he
  have z := (eps_k hep).mp he
  refine ⟨z, ?_⟩
  rw [cpR_z a5, a6 (ep - e) (by omega) (by omega) (by omega), show ep - (ep - e) = e by omega]
theorem MI.no {lay : LyT} {r : RfT} {h : HpT} {b : Nat} {n : Int} {tx : Int → Int} {ep : Int} {km : Int → Int → Int} {mp F : Int → Int} {ux : Int} {sz ho : Int → Int} {sn : Int} {row : Int → Int} (q : MI lay r h b n tx ep km mp F ux sz ho sn row) (e : Int) (hep : 1 ≤ ep) : (1 ≤ e ∧ h (b + 4) (e % 5) = e) ↔ (1 ≤ e ∧ e ≤ ep ∧ ep - e < 5) := by
  rw [q.2.2.2.2.2.2 _ (by omega) (by omega)]
  exact eps_k hep
theorem dL_law_654 : decode code 654 = .ok (.aload_n 1, 1) := by decide +kernel
theorem dL_law_655 : decode code 655 = .ok (.aload_n 0, 1) := by decide +kernel
theorem dL_law_656 : decode code 656 = .ok (.iload_n 3, 1) := by decide +kernel
theorem dL_law_657 : decode code 657 = .ok (.iconst 1, 1) := by decide +kernel
theorem dL_law_658 : decode code 658 = .ok (.iadd, 1) := by decide +kernel
theorem dL_law_659 : decode code 659 = .ok (.iaload, 1) := by decide +kernel
theorem dL_law_660 : decode code 660 = .ok (.invokevirtual 81, 3) := by decide +kernel
theorem dL_law_663 : decode code 663 = .ok (.aload_n 2, 1) := by decide +kernel
theorem dL_law_664 : decode code 664 = .ok (.aload_n 0, 1) := by decide +kernel
theorem dL_law_665 : decode code 665 = .ok (.iload_n 3, 1) := by decide +kernel
theorem dL_law_666 : decode code 666 = .ok (.iconst 1, 1) := by decide +kernel
theorem dL_law_667 : decode code 667 = .ok (.iadd, 1) := by decide +kernel
theorem dL_law_668 : decode code 668 = .ok (.iaload, 1) := by decide +kernel
theorem dL_law_669 : decode code 669 = .ok (.invokevirtual 84, 3) := by decide +kernel
theorem dL_law_672 : decode code 672 = .ok (.if_icmp .eq 790, 3) := by decide +kernel
set_option maxHeartbeats 4000000 in
set_option maxRecDepth 20000 in
theorem law_group {E : EnT} {nm : String} {lay : LyT} {r : RfT} {h : HpT} {c b b0 L N : Nat} {sx : Int → Int} {i : Int} (hX : ScE E b0 L sx) (hi : 0 ≤ i ∧ i + 4 ≤ L) (hL : L ≤ 2048) (hcb : b = c + 101) (hLI : LI lay c b i r h) (K : ∀ r' h', LI lay c b (i + 4) r' h' → St E (mL_law nm) 1462 [some (.ref b0), some (.ref c), some (.ref b), some (vI i)] [] (122, 20801) N lay r' h') : St E (mL_law nm) 654 [some (.ref b0), some (.ref c), some (.ref b), some (vI i)] [] (122, 20801) N lay r h := by
  obtain ⟨q, n, tx, ep, km, mp, F, ux, sz, ho, sn, row, hI, hM, hle⟩ := hLI
  have hP0 := hI.2.2.2.2.2.1 0 (by omega) (by omega) (by have := hI.2.2.2.2.1.2.1; omega)
  rw [hI.2.2.2.2.2.2.1.1] at hP0
  have hT := hP0.1
  have hR := hP0.2.1
  have hep := hI.2.2.2.2.1
  have cl0 : lay c = (8, 0) := hI.1.1
  obtain ⟨a1, ha1⟩ : ∃ z, sx (i + 1) = z := ⟨_, rfl⟩
  have g1 := sc_rng hX (i + 1)
  rw [ha1] at g1
  by_cases hc : 0 ≤ a1 ∧ a1 ≤ 9999
  · refine r_aload_1 (pc := 654) dL_law_654 ?_
    refine r_aload_0 (pc := 655) dL_law_655 ?_
    refine r_iload_3 (pc := 656) dL_law_656 ?_
    refine r_iconst (pc := 657) dL_law_657 ?_
    refine r_iadd (pc := 658) dL_law_658 ?_
    refine r_sld (pc := 659) hX dL_law_659 (by omega) (by omega) (fun i_659 => ?_)
    rw [ha1]
    refine k_VI1 (pc := 660) c_X7_group lk_L_81 ⟨(Nat.le_of_ble_eq_true rfl), (Nat.le_of_ble_eq_true rfl)⟩ ⟨rfl, rfl⟩ ⟨(Nat.le_of_ble_eq_true rfl), (Nat.le_of_ble_eq_true rfl)⟩ (k := 7) rfl (by decide) cl0 dL_law_660 (Nat.le_of_ble_eq_true rfl) ?_
    refine ⟨c, q, n, tx, ep, km, mp, F, ux, sz, ho, sn, row, a1, rfl, hI, g1, fun z => absurd hc z, fun _ => ?_⟩
    have hM2 := hM
    obtain ⟨hMd2, ⟨e0, e5, e17, e19⟩, ⟨e1, e2, e12, e14, e15, e17r⟩, hWa2, hz2, hkp2, hes2⟩ := id hM2
    refine r_aload_2 (pc := 663) dL_law_663 ?_
    refine r_aload_0 (pc := 664) dL_law_664 ?_
    refine r_iload_3 (pc := 665) dL_law_665 ?_
    refine r_iconst (pc := 666) dL_law_666 ?_
    refine r_iadd (pc := 667) dL_law_667 ?_
    refine r_sld (pc := 668) hX dL_law_668 (by omega) (by omega) (fun i_668 => ?_)
    rw [ha1]
    refine k_VI1 (pc := 669) c_X8_group lk_L_84 ⟨(Nat.le_of_ble_eq_true rfl), (Nat.le_of_ble_eq_true rfl)⟩ ⟨rfl, rfl⟩ ⟨(Nat.le_of_ble_eq_true rfl), (Nat.le_of_ble_eq_true rfl)⟩ (k := 8) rfl (by decide) hMd2.1 dL_law_669 (Nat.le_of_ble_eq_true rfl) ?_
    refine ⟨b, mp, a1, rfl, hMd2, e2, hT, hR, g1, fun z => absurd hc z, fun _ => ?_⟩
    refine r_same (pc := 672) (tgt := 1462) (by first | rfl | (simp only [e0, e5, e17, e19, e1, e2, e12, e14, e15, e17r])) dL_law_672 (by decide) ?_
    exact K r h ⟨q, n, tx, ep, km, mp, F, ux, sz, ho, sn, row, hI, hM2, by omega⟩
  · refine r_aload_1 (pc := 654) dL_law_654 ?_
    refine r_aload_0 (pc := 655) dL_law_655 ?_
    refine r_iload_3 (pc := 656) dL_law_656 ?_
    refine r_iconst (pc := 657) dL_law_657 ?_
    refine r_iadd (pc := 658) dL_law_658 ?_
    refine r_sld (pc := 659) hX dL_law_659 (by omega) (by omega) (fun i_659 => ?_)
    rw [ha1]
    refine k_VI1 (pc := 660) c_X7_group lk_L_81 ⟨(Nat.le_of_ble_eq_true rfl), (Nat.le_of_ble_eq_true rfl)⟩ ⟨rfl, rfl⟩ ⟨(Nat.le_of_ble_eq_true rfl), (Nat.le_of_ble_eq_true rfl)⟩ (k := 7) rfl (by decide) cl0 dL_law_660 (Nat.le_of_ble_eq_true rfl) ?_
    refine ⟨c, q, n, tx, ep, km, mp, F, ux, sz, ho, sn, row, a1, rfl, hI, g1, fun _ => ?_, fun z => absurd z hc⟩
    have hM2 := hM
    obtain ⟨hMd2, ⟨e0, e5, e17, e19⟩, ⟨e1, e2, e12, e14, e15, e17r⟩, hWa2, hz2, hkp2, hes2⟩ := id hM2
    refine r_aload_2 (pc := 663) dL_law_663 ?_
    refine r_aload_0 (pc := 664) dL_law_664 ?_
    refine r_iload_3 (pc := 665) dL_law_665 ?_
    refine r_iconst (pc := 666) dL_law_666 ?_
    refine r_iadd (pc := 667) dL_law_667 ?_
    refine r_sld (pc := 668) hX dL_law_668 (by omega) (by omega) (fun i_668 => ?_)
    rw [ha1]
    refine k_VI1 (pc := 669) c_X8_group lk_L_84 ⟨(Nat.le_of_ble_eq_true rfl), (Nat.le_of_ble_eq_true rfl)⟩ ⟨rfl, rfl⟩ ⟨(Nat.le_of_ble_eq_true rfl), (Nat.le_of_ble_eq_true rfl)⟩ (k := 8) rfl (by decide) hMd2.1 dL_law_669 (Nat.le_of_ble_eq_true rfl) ?_
    refine ⟨b, mp, a1, rfl, hMd2, e2, hT, hR, g1, fun _ => ?_, fun z => absurd z hc⟩
    refine r_same (pc := 672) (tgt := 1462) (by first | rfl | (simp only [e0, e5, e17, e19, e1, e2, e12, e14, e15, e17r])) dL_law_672 (by decide) ?_
    exact K r h ⟨q, n, tx, ep, km, mp, F, ux, sz, ho, sn, row, hI, hM2, by omega⟩
theorem dL_law_677 : decode code 677 = .ok (.aload_n 1, 1) := by decide +kernel
theorem dL_law_678 : decode code 678 = .ok (.aload_n 0, 1) := by decide +kernel
theorem dL_law_679 : decode code 679 = .ok (.iload_n 3, 1) := by decide +kernel
theorem dL_law_680 : decode code 680 = .ok (.iconst 1, 1) := by decide +kernel
theorem dL_law_681 : decode code 681 = .ok (.iadd, 1) := by decide +kernel
theorem dL_law_682 : decode code 682 = .ok (.iaload, 1) := by decide +kernel
theorem dL_law_683 : decode code 683 = .ok (.aload_n 0, 1) := by decide +kernel
theorem dL_law_684 : decode code 684 = .ok (.iload_n 3, 1) := by decide +kernel
theorem dL_law_685 : decode code 685 = .ok (.iconst 2, 1) := by decide +kernel
theorem dL_law_686 : decode code 686 = .ok (.iadd, 1) := by decide +kernel
theorem dL_law_687 : decode code 687 = .ok (.iaload, 1) := by decide +kernel
theorem dL_law_688 : decode code 688 = .ok (.aload_n 0, 1) := by decide +kernel
theorem dL_law_689 : decode code 689 = .ok (.iload_n 3, 1) := by decide +kernel
theorem dL_law_690 : decode code 690 = .ok (.iconst 3, 1) := by decide +kernel
theorem dL_law_691 : decode code 691 = .ok (.iadd, 1) := by decide +kernel
theorem dL_law_692 : decode code 692 = .ok (.iaload, 1) := by decide +kernel
theorem dL_law_693 : decode code 693 = .ok (.invokevirtual 85, 3) := by decide +kernel
theorem dL_law_696 : decode code 696 = .ok (.aload_n 2, 1) := by decide +kernel
theorem dL_law_697 : decode code 697 = .ok (.aload_n 0, 1) := by decide +kernel
theorem dL_law_698 : decode code 698 = .ok (.iload_n 3, 1) := by decide +kernel
theorem dL_law_699 : decode code 699 = .ok (.iconst 1, 1) := by decide +kernel
theorem dL_law_700 : decode code 700 = .ok (.iadd, 1) := by decide +kernel
theorem dL_law_701 : decode code 701 = .ok (.iaload, 1) := by decide +kernel
theorem dL_law_702 : decode code 702 = .ok (.aload_n 0, 1) := by decide +kernel
theorem dL_law_703 : decode code 703 = .ok (.iload_n 3, 1) := by decide +kernel
theorem dL_law_704 : decode code 704 = .ok (.iconst 2, 1) := by decide +kernel
theorem dL_law_705 : decode code 705 = .ok (.iadd, 1) := by decide +kernel
theorem dL_law_706 : decode code 706 = .ok (.iaload, 1) := by decide +kernel
theorem dL_law_707 : decode code 707 = .ok (.aload_n 0, 1) := by decide +kernel
theorem dL_law_708 : decode code 708 = .ok (.iload_n 3, 1) := by decide +kernel
theorem dL_law_709 : decode code 709 = .ok (.iconst 3, 1) := by decide +kernel
theorem dL_law_710 : decode code 710 = .ok (.iadd, 1) := by decide +kernel
theorem dL_law_711 : decode code 711 = .ok (.iaload, 1) := by decide +kernel
theorem dL_law_712 : decode code 712 = .ok (.invokevirtual 88, 3) := by decide +kernel
theorem dL_law_715 : decode code 715 = .ok (.if_icmp .eq 747, 3) := by decide +kernel
set_option maxHeartbeats 4000000 in
set_option maxRecDepth 20000 in
theorem law_draw {E : EnT} {nm : String} {lay : LyT} {r : RfT} {h : HpT} {c b b0 L N : Nat} {sx : Int → Int} {i : Int} (hX : ScE E b0 L sx) (hi : 0 ≤ i ∧ i + 4 ≤ L) (hL : L ≤ 2048) (hcb : b = c + 101) (hLI : LI lay c b i r h) (K : ∀ r' h', LI lay c b (i + 4) r' h' → St E (mL_law nm) 1462 [some (.ref b0), some (.ref c), some (.ref b), some (vI i)] [] (122, 20801) N lay r' h') : St E (mL_law nm) 677 [some (.ref b0), some (.ref c), some (.ref b), some (vI i)] [] (122, 20801) N lay r h := by
  obtain ⟨q, n, tx, ep, km, mp, F, ux, sz, ho, sn, row, hI, hM, hle⟩ := hLI
  have hP0 := hI.2.2.2.2.2.1 0 (by omega) (by omega) (by have := hI.2.2.2.2.1.2.1; omega)
  rw [hI.2.2.2.2.2.2.1.1] at hP0
  have hT := hP0.1
  have hR := hP0.2.1
  have hep := hI.2.2.2.2.1
  have cl0 : lay c = (8, 0) := hI.1.1
  obtain ⟨a1, ha1⟩ : ∃ z, sx (i + 1) = z := ⟨_, rfl⟩
  have g1 := sc_rng hX (i + 1)
  rw [ha1] at g1
  obtain ⟨a2, ha2⟩ : ∃ z, sx (i + 2) = z := ⟨_, rfl⟩
  have g2 := sc_rng hX (i + 2)
  rw [ha2] at g2
  obtain ⟨a3, ha3⟩ : ∃ z, sx (i + 3) = z := ⟨_, rfl⟩
  have g3 := sc_rng hX (i + 3)
  rw [ha3] at g3
  by_cases hc : (0 ≤ a1 ∧ a1 < 16) ∧ isNd mp a2 ∧ (0 ≤ a3 ∧ a3 ≤ 99)
  · refine r_aload_1 (pc := 677) dL_law_677 ?_
    refine r_aload_0 (pc := 678) dL_law_678 ?_
    refine r_iload_3 (pc := 679) dL_law_679 ?_
    refine r_iconst (pc := 680) dL_law_680 ?_
    refine r_iadd (pc := 681) dL_law_681 ?_
    refine r_sld (pc := 682) hX dL_law_682 (by omega) (by omega) (fun i_682 => ?_)
    rw [ha1]
    refine r_aload_0 (pc := 683) dL_law_683 ?_
    refine r_iload_3 (pc := 684) dL_law_684 ?_
    refine r_iconst (pc := 685) dL_law_685 ?_
    refine r_iadd (pc := 686) dL_law_686 ?_
    refine r_sld (pc := 687) hX dL_law_687 (by omega) (by omega) (fun i_687 => ?_)
    rw [ha2]
    refine r_aload_0 (pc := 688) dL_law_688 ?_
    refine r_iload_3 (pc := 689) dL_law_689 ?_
    refine r_iconst (pc := 690) dL_law_690 ?_
    refine r_iadd (pc := 691) dL_law_691 ?_
    refine r_sld (pc := 692) hX dL_law_692 (by omega) (by omega) (fun i_692 => ?_)
    rw [ha3]
    refine k_VI3 (pc := 693) c_X7_draw lk_L_85 ⟨(Nat.le_of_ble_eq_true rfl), (Nat.le_of_ble_eq_true rfl)⟩ ⟨rfl, rfl⟩ ⟨(Nat.le_of_ble_eq_true rfl), (Nat.le_of_ble_eq_true rfl)⟩ (k := 7) rfl (by decide) cl0 dL_law_693 (Nat.le_of_ble_eq_true rfl) ?_
    refine ⟨c, q, n, tx, ep, km, mp, F, ux, sz, ho, sn, row, a1, a2, a3, rfl, hI, g1, g2, g3, fun z => absurd hc z, fun _ => ?_⟩
    have hM2 := hM
    obtain ⟨hMd2, ⟨e0, e5, e17, e19⟩, ⟨e1, e2, e12, e14, e15, e17r⟩, hWa2, hz2, hkp2, hes2⟩ := id hM2
    refine r_aload_2 (pc := 696) dL_law_696 ?_
    refine r_aload_0 (pc := 697) dL_law_697 ?_
    refine r_iload_3 (pc := 698) dL_law_698 ?_
    refine r_iconst (pc := 699) dL_law_699 ?_
    refine r_iadd (pc := 700) dL_law_700 ?_
    refine r_sld (pc := 701) hX dL_law_701 (by omega) (by omega) (fun i_701 => ?_)
    rw [ha1]
    refine r_aload_0 (pc := 702) dL_law_702 ?_
    refine r_iload_3 (pc := 703) dL_law_703 ?_
    refine r_iconst (pc := 704) dL_law_704 ?_
    refine r_iadd (pc := 705) dL_law_705 ?_
    refine r_sld (pc := 706) hX dL_law_706 (by omega) (by omega) (fun i_706 => ?_)
    rw [ha2]
    refine r_aload_0 (pc := 707) dL_law_707 ?_
    refine r_iload_3 (pc := 708) dL_law_708 ?_
    refine r_iconst (pc := 709) dL_law_709 ?_
    refine r_iadd (pc := 710) dL_law_710 ?_
    refine r_sld (pc := 711) hX dL_law_711 (by omega) (by omega) (fun i_711 => ?_)
    rw [ha3]
    refine k_VI3 (pc := 712) c_X8_draw lk_L_88 ⟨(Nat.le_of_ble_eq_true rfl), (Nat.le_of_ble_eq_true rfl)⟩ ⟨rfl, rfl⟩ ⟨(Nat.le_of_ble_eq_true rfl), (Nat.le_of_ble_eq_true rfl)⟩ (k := 8) rfl (by decide) hMd2.1 dL_law_712 (Nat.le_of_ble_eq_true rfl) ?_
    refine ⟨b, mp, a1, a2, a3, rfl, hMd2, e2, hT, hR, g1, g2, g3, fun z => absurd hc z, fun _ => ?_⟩
    refine r_same (pc := 715) (tgt := 1462) (by first | rfl | (simp only [e0, e5, e17, e19, e1, e2, e12, e14, e15, e17r])) dL_law_715 (by decide) ?_
    exact K r h ⟨q, n, tx, ep, km, mp, F, ux, sz, ho, sn, row, hI, hM2, by omega⟩
  · refine r_aload_1 (pc := 677) dL_law_677 ?_
    refine r_aload_0 (pc := 678) dL_law_678 ?_
    refine r_iload_3 (pc := 679) dL_law_679 ?_
    refine r_iconst (pc := 680) dL_law_680 ?_
    refine r_iadd (pc := 681) dL_law_681 ?_
    refine r_sld (pc := 682) hX dL_law_682 (by omega) (by omega) (fun i_682 => ?_)
    rw [ha1]
    refine r_aload_0 (pc := 683) dL_law_683 ?_
    refine r_iload_3 (pc := 684) dL_law_684 ?_
    refine r_iconst (pc := 685) dL_law_685 ?_
    refine r_iadd (pc := 686) dL_law_686 ?_
    refine r_sld (pc := 687) hX dL_law_687 (by omega) (by omega) (fun i_687 => ?_)
    rw [ha2]
    refine r_aload_0 (pc := 688) dL_law_688 ?_
    refine r_iload_3 (pc := 689) dL_law_689 ?_
    refine r_iconst (pc := 690) dL_law_690 ?_
    refine r_iadd (pc := 691) dL_law_691 ?_
    refine r_sld (pc := 692) hX dL_law_692 (by omega) (by omega) (fun i_692 => ?_)
    rw [ha3]
    refine k_VI3 (pc := 693) c_X7_draw lk_L_85 ⟨(Nat.le_of_ble_eq_true rfl), (Nat.le_of_ble_eq_true rfl)⟩ ⟨rfl, rfl⟩ ⟨(Nat.le_of_ble_eq_true rfl), (Nat.le_of_ble_eq_true rfl)⟩ (k := 7) rfl (by decide) cl0 dL_law_693 (Nat.le_of_ble_eq_true rfl) ?_
    refine ⟨c, q, n, tx, ep, km, mp, F, ux, sz, ho, sn, row, a1, a2, a3, rfl, hI, g1, g2, g3, fun _ => ?_, fun z => absurd z hc⟩
    have hM2 := hM
    obtain ⟨hMd2, ⟨e0, e5, e17, e19⟩, ⟨e1, e2, e12, e14, e15, e17r⟩, hWa2, hz2, hkp2, hes2⟩ := id hM2
    refine r_aload_2 (pc := 696) dL_law_696 ?_
    refine r_aload_0 (pc := 697) dL_law_697 ?_
    refine r_iload_3 (pc := 698) dL_law_698 ?_
    refine r_iconst (pc := 699) dL_law_699 ?_
    refine r_iadd (pc := 700) dL_law_700 ?_
    refine r_sld (pc := 701) hX dL_law_701 (by omega) (by omega) (fun i_701 => ?_)
    rw [ha1]
    refine r_aload_0 (pc := 702) dL_law_702 ?_
    refine r_iload_3 (pc := 703) dL_law_703 ?_
    refine r_iconst (pc := 704) dL_law_704 ?_
    refine r_iadd (pc := 705) dL_law_705 ?_
    refine r_sld (pc := 706) hX dL_law_706 (by omega) (by omega) (fun i_706 => ?_)
    rw [ha2]
    refine r_aload_0 (pc := 707) dL_law_707 ?_
    refine r_iload_3 (pc := 708) dL_law_708 ?_
    refine r_iconst (pc := 709) dL_law_709 ?_
    refine r_iadd (pc := 710) dL_law_710 ?_
    refine r_sld (pc := 711) hX dL_law_711 (by omega) (by omega) (fun i_711 => ?_)
    rw [ha3]
    refine k_VI3 (pc := 712) c_X8_draw lk_L_88 ⟨(Nat.le_of_ble_eq_true rfl), (Nat.le_of_ble_eq_true rfl)⟩ ⟨rfl, rfl⟩ ⟨(Nat.le_of_ble_eq_true rfl), (Nat.le_of_ble_eq_true rfl)⟩ (k := 8) rfl (by decide) hMd2.1 dL_law_712 (Nat.le_of_ble_eq_true rfl) ?_
    refine ⟨b, mp, a1, a2, a3, rfl, hMd2, e2, hT, hR, g1, g2, g3, fun _ => ?_, fun z => absurd z hc⟩
    refine r_same (pc := 715) (tgt := 1462) (by first | rfl | (simp only [e0, e5, e17, e19, e1, e2, e12, e14, e15, e17r])) dL_law_715 (by decide) ?_
    exact K r h ⟨q, n, tx, ep, km, mp, F, ux, sz, ho, sn, row, hI, hM2, by omega⟩
theorem dL_law_720 : decode code 720 = .ok (.aload_n 1, 1) := by decide +kernel
theorem dL_law_721 : decode code 721 = .ok (.aload_n 0, 1) := by decide +kernel
theorem dL_law_722 : decode code 722 = .ok (.iload_n 3, 1) := by decide +kernel
theorem dL_law_723 : decode code 723 = .ok (.iconst 1, 1) := by decide +kernel
theorem dL_law_724 : decode code 724 = .ok (.iadd, 1) := by decide +kernel
theorem dL_law_725 : decode code 725 = .ok (.iaload, 1) := by decide +kernel
theorem dL_law_726 : decode code 726 = .ok (.invokevirtual 89, 3) := by decide +kernel
theorem dL_law_729 : decode code 729 = .ok (.aload_n 2, 1) := by decide +kernel
theorem dL_law_730 : decode code 730 = .ok (.aload_n 0, 1) := by decide +kernel
theorem dL_law_731 : decode code 731 = .ok (.iload_n 3, 1) := by decide +kernel
theorem dL_law_732 : decode code 732 = .ok (.iconst 1, 1) := by decide +kernel
theorem dL_law_733 : decode code 733 = .ok (.iadd, 1) := by decide +kernel
theorem dL_law_734 : decode code 734 = .ok (.iaload, 1) := by decide +kernel
theorem dL_law_735 : decode code 735 = .ok (.invokevirtual 92, 3) := by decide +kernel
theorem dL_law_738 : decode code 738 = .ok (.if_icmp .eq 724, 3) := by decide +kernel
set_option maxHeartbeats 4000000 in
set_option maxRecDepth 20000 in
theorem law_want {E : EnT} {nm : String} {lay : LyT} {r : RfT} {h : HpT} {c b b0 L N : Nat} {sx : Int → Int} {i : Int} (hX : ScE E b0 L sx) (hi : 0 ≤ i ∧ i + 4 ≤ L) (hL : L ≤ 2048) (hcb : b = c + 101) (hLI : LI lay c b i r h) (K : ∀ r' h', LI lay c b (i + 4) r' h' → St E (mL_law nm) 1462 [some (.ref b0), some (.ref c), some (.ref b), some (vI i)] [] (122, 20801) N lay r' h') : St E (mL_law nm) 720 [some (.ref b0), some (.ref c), some (.ref b), some (vI i)] [] (122, 20801) N lay r h := by
  obtain ⟨q, n, tx, ep, km, mp, F, ux, sz, ho, sn, row, hI, hM, hle⟩ := hLI
  have hP0 := hI.2.2.2.2.2.1 0 (by omega) (by omega) (by have := hI.2.2.2.2.1.2.1; omega)
  rw [hI.2.2.2.2.2.2.1.1] at hP0
  have hT := hP0.1
  have hR := hP0.2.1
  have hep := hI.2.2.2.2.1
  have cl0 : lay c = (8, 0) := hI.1.1
  obtain ⟨a1, ha1⟩ : ∃ z, sx (i + 1) = z := ⟨_, rfl⟩
  have g1 := sc_rng hX (i + 1)
  rw [ha1] at g1
  by_cases hc : 1 ≤ a1 ∧ a1 ≤ 65521
  · refine r_aload_1 (pc := 720) dL_law_720 ?_
    refine r_aload_0 (pc := 721) dL_law_721 ?_
    refine r_iload_3 (pc := 722) dL_law_722 ?_
    refine r_iconst (pc := 723) dL_law_723 ?_
    refine r_iadd (pc := 724) dL_law_724 ?_
    refine r_sld (pc := 725) hX dL_law_725 (by omega) (by omega) (fun i_725 => ?_)
    rw [ha1]
    refine k_VI1 (pc := 726) c_X7_want lk_L_89 ⟨(Nat.le_of_ble_eq_true rfl), (Nat.le_of_ble_eq_true rfl)⟩ ⟨rfl, rfl⟩ ⟨(Nat.le_of_ble_eq_true rfl), (Nat.le_of_ble_eq_true rfl)⟩ (k := 7) rfl (by decide) cl0 dL_law_726 (Nat.le_of_ble_eq_true rfl) ?_
    refine ⟨c, q, n, tx, ep, km, mp, F, ux, sz, ho, sn, row, a1, rfl, hI, g1, fun z => absurd hc z, fun _ => ?_⟩
    have hM2 := hM
    obtain ⟨hMd2, ⟨e0, e5, e17, e19⟩, ⟨e1, e2, e12, e14, e15, e17r⟩, hWa2, hz2, hkp2, hes2⟩ := id hM2
    refine r_aload_2 (pc := 729) dL_law_729 ?_
    refine r_aload_0 (pc := 730) dL_law_730 ?_
    refine r_iload_3 (pc := 731) dL_law_731 ?_
    refine r_iconst (pc := 732) dL_law_732 ?_
    refine r_iadd (pc := 733) dL_law_733 ?_
    refine r_sld (pc := 734) hX dL_law_734 (by omega) (by omega) (fun i_734 => ?_)
    rw [ha1]
    refine k_VI1 (pc := 735) c_X8_want lk_L_92 ⟨(Nat.le_of_ble_eq_true rfl), (Nat.le_of_ble_eq_true rfl)⟩ ⟨rfl, rfl⟩ ⟨(Nat.le_of_ble_eq_true rfl), (Nat.le_of_ble_eq_true rfl)⟩ (k := 8) rfl (by decide) hMd2.1 dL_law_735 (Nat.le_of_ble_eq_true rfl) ?_
    refine ⟨b, mp, a1, rfl, hMd2, e2, hT, hR, g1, fun z => absurd hc z, fun _ => ?_⟩
    refine r_same (pc := 738) (tgt := 1462) (by first | rfl | (simp only [e0, e5, e17, e19, e1, e2, e12, e14, e15, e17r])) dL_law_738 (by decide) ?_
    exact K r h ⟨q, n, tx, ep, km, mp, F, ux, sz, ho, sn, row, hI, hM2, by omega⟩
  · refine r_aload_1 (pc := 720) dL_law_720 ?_
    refine r_aload_0 (pc := 721) dL_law_721 ?_
    refine r_iload_3 (pc := 722) dL_law_722 ?_
    refine r_iconst (pc := 723) dL_law_723 ?_
    refine r_iadd (pc := 724) dL_law_724 ?_
    refine r_sld (pc := 725) hX dL_law_725 (by omega) (by omega) (fun i_725 => ?_)
    rw [ha1]
    refine k_VI1 (pc := 726) c_X7_want lk_L_89 ⟨(Nat.le_of_ble_eq_true rfl), (Nat.le_of_ble_eq_true rfl)⟩ ⟨rfl, rfl⟩ ⟨(Nat.le_of_ble_eq_true rfl), (Nat.le_of_ble_eq_true rfl)⟩ (k := 7) rfl (by decide) cl0 dL_law_726 (Nat.le_of_ble_eq_true rfl) ?_
    refine ⟨c, q, n, tx, ep, km, mp, F, ux, sz, ho, sn, row, a1, rfl, hI, g1, fun _ => ?_, fun z => absurd z hc⟩
    have hM2 := hM
    obtain ⟨hMd2, ⟨e0, e5, e17, e19⟩, ⟨e1, e2, e12, e14, e15, e17r⟩, hWa2, hz2, hkp2, hes2⟩ := id hM2
    refine r_aload_2 (pc := 729) dL_law_729 ?_
    refine r_aload_0 (pc := 730) dL_law_730 ?_
    refine r_iload_3 (pc := 731) dL_law_731 ?_
    refine r_iconst (pc := 732) dL_law_732 ?_
    refine r_iadd (pc := 733) dL_law_733 ?_
    refine r_sld (pc := 734) hX dL_law_734 (by omega) (by omega) (fun i_734 => ?_)
    rw [ha1]
    refine k_VI1 (pc := 735) c_X8_want lk_L_92 ⟨(Nat.le_of_ble_eq_true rfl), (Nat.le_of_ble_eq_true rfl)⟩ ⟨rfl, rfl⟩ ⟨(Nat.le_of_ble_eq_true rfl), (Nat.le_of_ble_eq_true rfl)⟩ (k := 8) rfl (by decide) hMd2.1 dL_law_735 (Nat.le_of_ble_eq_true rfl) ?_
    refine ⟨b, mp, a1, rfl, hMd2, e2, hT, hR, g1, fun _ => ?_, fun z => absurd z hc⟩
    refine r_same (pc := 738) (tgt := 1462) (by first | rfl | (simp only [e0, e5, e17, e19, e1, e2, e12, e14, e15, e17r])) dL_law_738 (by decide) ?_
    exact K r h ⟨q, n, tx, ep, km, mp, F, ux, sz, ho, sn, row, hI, hM2, by omega⟩
theorem dL_law_786 : decode code 786 = .ok (.aload_n 1, 1) := by decide +kernel
theorem dL_law_787 : decode code 787 = .ok (.aload_n 0, 1) := by decide +kernel
theorem dL_law_788 : decode code 788 = .ok (.iload_n 3, 1) := by decide +kernel
theorem dL_law_789 : decode code 789 = .ok (.iconst 1, 1) := by decide +kernel
theorem dL_law_790 : decode code 790 = .ok (.iadd, 1) := by decide +kernel
theorem dL_law_791 : decode code 791 = .ok (.iaload, 1) := by decide +kernel
theorem dL_law_792 : decode code 792 = .ok (.aload_n 0, 1) := by decide +kernel
theorem dL_law_793 : decode code 793 = .ok (.iload_n 3, 1) := by decide +kernel
theorem dL_law_794 : decode code 794 = .ok (.iconst 2, 1) := by decide +kernel
theorem dL_law_795 : decode code 795 = .ok (.iadd, 1) := by decide +kernel
theorem dL_law_796 : decode code 796 = .ok (.iaload, 1) := by decide +kernel
theorem dL_law_797 : decode code 797 = .ok (.invokevirtual 97, 3) := by decide +kernel
theorem dL_law_800 : decode code 800 = .ok (.aload_n 2, 1) := by decide +kernel
theorem dL_law_801 : decode code 801 = .ok (.aload_n 0, 1) := by decide +kernel
theorem dL_law_802 : decode code 802 = .ok (.iload_n 3, 1) := by decide +kernel
theorem dL_law_803 : decode code 803 = .ok (.iconst 1, 1) := by decide +kernel
theorem dL_law_804 : decode code 804 = .ok (.iadd, 1) := by decide +kernel
theorem dL_law_805 : decode code 805 = .ok (.iaload, 1) := by decide +kernel
theorem dL_law_806 : decode code 806 = .ok (.aload_n 0, 1) := by decide +kernel
theorem dL_law_807 : decode code 807 = .ok (.iload_n 3, 1) := by decide +kernel
theorem dL_law_808 : decode code 808 = .ok (.iconst 2, 1) := by decide +kernel
theorem dL_law_809 : decode code 809 = .ok (.iadd, 1) := by decide +kernel
theorem dL_law_810 : decode code 810 = .ok (.iaload, 1) := by decide +kernel
theorem dL_law_811 : decode code 811 = .ok (.invokevirtual 100, 3) := by decide +kernel
theorem dL_law_814 : decode code 814 = .ok (.if_icmp .eq 648, 3) := by decide +kernel
set_option maxHeartbeats 4000000 in
set_option maxRecDepth 20000 in
theorem law_place {E : EnT} {nm : String} {lay : LyT} {r : RfT} {h : HpT} {c b b0 L N : Nat} {sx : Int → Int} {i : Int} (hX : ScE E b0 L sx) (hi : 0 ≤ i ∧ i + 4 ≤ L) (hL : L ≤ 2048) (hcb : b = c + 101) (hLI : LI lay c b i r h) (K : ∀ r' h', LI lay c b (i + 4) r' h' → St E (mL_law nm) 1462 [some (.ref b0), some (.ref c), some (.ref b), some (vI i)] [] (122, 20801) N lay r' h') : St E (mL_law nm) 786 [some (.ref b0), some (.ref c), some (.ref b), some (vI i)] [] (122, 20801) N lay r h := by
  obtain ⟨q, n, tx, ep, km, mp, F, ux, sz, ho, sn, row, hI, hM, hle⟩ := hLI
  have hP0 := hI.2.2.2.2.2.1 0 (by omega) (by omega) (by have := hI.2.2.2.2.1.2.1; omega)
  rw [hI.2.2.2.2.2.2.1.1] at hP0
  have hT := hP0.1
  have hR := hP0.2.1
  have hep := hI.2.2.2.2.1
  have cl0 : lay c = (8, 0) := hI.1.1
  obtain ⟨a1, ha1⟩ : ∃ z, sx (i + 1) = z := ⟨_, rfl⟩
  have g1 := sc_rng hX (i + 1)
  rw [ha1] at g1
  obtain ⟨a2, ha2⟩ : ∃ z, sx (i + 2) = z := ⟨_, rfl⟩
  have g2 := sc_rng hX (i + 2)
  rw [ha2] at g2
  by_cases hc : (0 ≤ a1 ∧ a1 < 16) ∧ (0 ≤ a2 ∧ a2 ≤ 3)
  · refine r_aload_1 (pc := 786) dL_law_786 ?_
    refine r_aload_0 (pc := 787) dL_law_787 ?_
    refine r_iload_3 (pc := 788) dL_law_788 ?_
    refine r_iconst (pc := 789) dL_law_789 ?_
    refine r_iadd (pc := 790) dL_law_790 ?_
    refine r_sld (pc := 791) hX dL_law_791 (by omega) (by omega) (fun i_791 => ?_)
    rw [ha1]
    refine r_aload_0 (pc := 792) dL_law_792 ?_
    refine r_iload_3 (pc := 793) dL_law_793 ?_
    refine r_iconst (pc := 794) dL_law_794 ?_
    refine r_iadd (pc := 795) dL_law_795 ?_
    refine r_sld (pc := 796) hX dL_law_796 (by omega) (by omega) (fun i_796 => ?_)
    rw [ha2]
    refine k_VI2 (pc := 797) c_X7_place lk_L_97 ⟨(Nat.le_of_ble_eq_true rfl), (Nat.le_of_ble_eq_true rfl)⟩ ⟨rfl, rfl⟩ ⟨(Nat.le_of_ble_eq_true rfl), (Nat.le_of_ble_eq_true rfl)⟩ (k := 7) rfl (by decide) cl0 dL_law_797 (Nat.le_of_ble_eq_true rfl) ?_
    refine ⟨c, q, n, tx, ep, km, mp, F, ux, sz, ho, sn, row, a1, a2, rfl, hI, g1, g2, fun z => absurd hc z, fun _ => ?_⟩
    have hM2 := hM
    obtain ⟨hMd2, ⟨e0, e5, e17, e19⟩, ⟨e1, e2, e12, e14, e15, e17r⟩, hWa2, hz2, hkp2, hes2⟩ := id hM2
    refine r_aload_2 (pc := 800) dL_law_800 ?_
    refine r_aload_0 (pc := 801) dL_law_801 ?_
    refine r_iload_3 (pc := 802) dL_law_802 ?_
    refine r_iconst (pc := 803) dL_law_803 ?_
    refine r_iadd (pc := 804) dL_law_804 ?_
    refine r_sld (pc := 805) hX dL_law_805 (by omega) (by omega) (fun i_805 => ?_)
    rw [ha1]
    refine r_aload_0 (pc := 806) dL_law_806 ?_
    refine r_iload_3 (pc := 807) dL_law_807 ?_
    refine r_iconst (pc := 808) dL_law_808 ?_
    refine r_iadd (pc := 809) dL_law_809 ?_
    refine r_sld (pc := 810) hX dL_law_810 (by omega) (by omega) (fun i_810 => ?_)
    rw [ha2]
    refine k_VI2 (pc := 811) c_X8_place lk_L_100 ⟨(Nat.le_of_ble_eq_true rfl), (Nat.le_of_ble_eq_true rfl)⟩ ⟨rfl, rfl⟩ ⟨(Nat.le_of_ble_eq_true rfl), (Nat.le_of_ble_eq_true rfl)⟩ (k := 8) rfl (by decide) hMd2.1 dL_law_811 (Nat.le_of_ble_eq_true rfl) ?_
    refine ⟨b, mp, a1, a2, rfl, hMd2, e2, hT, hR, g1, g2, fun z => absurd hc z, fun _ => ?_⟩
    refine r_same (pc := 814) (tgt := 1462) (by first | rfl | (simp only [e0, e5, e17, e19, e1, e2, e12, e14, e15, e17r])) dL_law_814 (by decide) ?_
    exact K r h ⟨q, n, tx, ep, km, mp, F, ux, sz, ho, sn, row, hI, hM2, by omega⟩
  · refine r_aload_1 (pc := 786) dL_law_786 ?_
    refine r_aload_0 (pc := 787) dL_law_787 ?_
    refine r_iload_3 (pc := 788) dL_law_788 ?_
    refine r_iconst (pc := 789) dL_law_789 ?_
    refine r_iadd (pc := 790) dL_law_790 ?_
    refine r_sld (pc := 791) hX dL_law_791 (by omega) (by omega) (fun i_791 => ?_)
    rw [ha1]
    refine r_aload_0 (pc := 792) dL_law_792 ?_
    refine r_iload_3 (pc := 793) dL_law_793 ?_
    refine r_iconst (pc := 794) dL_law_794 ?_
    refine r_iadd (pc := 795) dL_law_795 ?_
    refine r_sld (pc := 796) hX dL_law_796 (by omega) (by omega) (fun i_796 => ?_)
    rw [ha2]
    refine k_VI2 (pc := 797) c_X7_place lk_L_97 ⟨(Nat.le_of_ble_eq_true rfl), (Nat.le_of_ble_eq_true rfl)⟩ ⟨rfl, rfl⟩ ⟨(Nat.le_of_ble_eq_true rfl), (Nat.le_of_ble_eq_true rfl)⟩ (k := 7) rfl (by decide) cl0 dL_law_797 (Nat.le_of_ble_eq_true rfl) ?_
    refine ⟨c, q, n, tx, ep, km, mp, F, ux, sz, ho, sn, row, a1, a2, rfl, hI, g1, g2, fun _ => ?_, fun z => absurd z hc⟩
    have hM2 := hM
    obtain ⟨hMd2, ⟨e0, e5, e17, e19⟩, ⟨e1, e2, e12, e14, e15, e17r⟩, hWa2, hz2, hkp2, hes2⟩ := id hM2
    refine r_aload_2 (pc := 800) dL_law_800 ?_
    refine r_aload_0 (pc := 801) dL_law_801 ?_
    refine r_iload_3 (pc := 802) dL_law_802 ?_
    refine r_iconst (pc := 803) dL_law_803 ?_
    refine r_iadd (pc := 804) dL_law_804 ?_
    refine r_sld (pc := 805) hX dL_law_805 (by omega) (by omega) (fun i_805 => ?_)
    rw [ha1]
    refine r_aload_0 (pc := 806) dL_law_806 ?_
    refine r_iload_3 (pc := 807) dL_law_807 ?_
    refine r_iconst (pc := 808) dL_law_808 ?_
    refine r_iadd (pc := 809) dL_law_809 ?_
    refine r_sld (pc := 810) hX dL_law_810 (by omega) (by omega) (fun i_810 => ?_)
    rw [ha2]
    refine k_VI2 (pc := 811) c_X8_place lk_L_100 ⟨(Nat.le_of_ble_eq_true rfl), (Nat.le_of_ble_eq_true rfl)⟩ ⟨rfl, rfl⟩ ⟨(Nat.le_of_ble_eq_true rfl), (Nat.le_of_ble_eq_true rfl)⟩ (k := 8) rfl (by decide) hMd2.1 dL_law_811 (Nat.le_of_ble_eq_true rfl) ?_
    refine ⟨b, mp, a1, a2, rfl, hMd2, e2, hT, hR, g1, g2, fun _ => ?_, fun z => absurd z hc⟩
    refine r_same (pc := 814) (tgt := 1462) (by first | rfl | (simp only [e0, e5, e17, e19, e1, e2, e12, e14, e15, e17r])) dL_law_814 (by decide) ?_
    exact K r h ⟨q, n, tx, ep, km, mp, F, ux, sz, ho, sn, row, hI, hM2, by omega⟩
theorem dL_law_875 : decode code 875 = .ok (.aload_n 1, 1) := by decide +kernel
theorem dL_law_876 : decode code 876 = .ok (.invokevirtual 109, 3) := by decide +kernel
theorem dL_law_879 : decode code 879 = .ok (.aload_n 2, 1) := by decide +kernel
theorem dL_law_880 : decode code 880 = .ok (.invokevirtual 112, 3) := by decide +kernel
theorem dL_law_883 : decode code 883 = .ok (.if_icmp .eq 579, 3) := by decide +kernel
set_option maxHeartbeats 4000000 in
set_option maxRecDepth 20000 in
theorem law_spread {E : EnT} {nm : String} {lay : LyT} {r : RfT} {h : HpT} {c b b0 L N : Nat} {sx : Int → Int} {i : Int} (hX : ScE E b0 L sx) (hi : 0 ≤ i ∧ i + 4 ≤ L) (hL : L ≤ 2048) (hcb : b = c + 101) (hLI : LI lay c b i r h) (K : ∀ r' h', LI lay c b (i + 4) r' h' → St E (mL_law nm) 1462 [some (.ref b0), some (.ref c), some (.ref b), some (vI i)] [] (122, 20801) N lay r' h') : St E (mL_law nm) 875 [some (.ref b0), some (.ref c), some (.ref b), some (vI i)] [] (122, 20801) N lay r h := by
  obtain ⟨q, n, tx, ep, km, mp, F, ux, sz, ho, sn, row, hI, hM, hle⟩ := hLI
  have hP0 := hI.2.2.2.2.2.1 0 (by omega) (by omega) (by have := hI.2.2.2.2.1.2.1; omega)
  rw [hI.2.2.2.2.2.2.1.1] at hP0
  have hT := hP0.1
  have hR := hP0.2.1
  have hep := hI.2.2.2.2.1
  have cl0 : lay c = (8, 0) := hI.1.1
  refine r_aload_1 (pc := 875) dL_law_875 ?_
  refine k_VI0 (pc := 876) c_X7_spread lk_L_109 ⟨(Nat.le_of_ble_eq_true rfl), (Nat.le_of_ble_eq_true rfl)⟩ ⟨rfl, rfl⟩ ⟨(Nat.le_of_ble_eq_true rfl), (Nat.le_of_ble_eq_true rfl)⟩ (k := 7) rfl (by decide) cl0 dL_law_876 (Nat.le_of_ble_eq_true rfl) ?_
  refine ⟨c, q, n, tx, ep, km, mp, F, ux, sz, ho, sn, row, rfl, hI, ?_⟩
  have hM2 := hM
  obtain ⟨hMd2, ⟨e0, e5, e17, e19⟩, ⟨e1, e2, e12, e14, e15, e17r⟩, hWa2, hz2, hkp2, hes2⟩ := id hM2
  refine r_aload_2 (pc := 879) dL_law_879 ?_
  refine k_VI0 (pc := 880) c_X8_spread lk_L_112 ⟨(Nat.le_of_ble_eq_true rfl), (Nat.le_of_ble_eq_true rfl)⟩ ⟨rfl, rfl⟩ ⟨(Nat.le_of_ble_eq_true rfl), (Nat.le_of_ble_eq_true rfl)⟩ (k := 8) rfl (by decide) hMd2.1 dL_law_880 (Nat.le_of_ble_eq_true rfl) ?_
  refine ⟨b, mp, rfl, hMd2, e2, hT, hR, ?_⟩
  refine r_same (pc := 883) (tgt := 1462) (by first | rfl | (simp only [e0, e5, e17, e19, e1, e2, e12, e14, e15, e17r])) dL_law_883 (by decide) ?_
  exact K r h ⟨q, n, tx, ep, km, mp, F, ux, sz, ho, sn, row, hI, hM2, by omega⟩
theorem dL_law_743 : decode code 743 = .ok (.aload_n 1, 1) := by decide +kernel
theorem dL_law_744 : decode code 744 = .ok (.aload_n 0, 1) := by decide +kernel
theorem dL_law_745 : decode code 745 = .ok (.iload_n 3, 1) := by decide +kernel
theorem dL_law_746 : decode code 746 = .ok (.iconst 1, 1) := by decide +kernel
theorem dL_law_747 : decode code 747 = .ok (.iadd, 1) := by decide +kernel
theorem dL_law_748 : decode code 748 = .ok (.iaload, 1) := by decide +kernel
theorem dL_law_749 : decode code 749 = .ok (.aload_n 0, 1) := by decide +kernel
theorem dL_law_750 : decode code 750 = .ok (.iload_n 3, 1) := by decide +kernel
theorem dL_law_751 : decode code 751 = .ok (.iconst 2, 1) := by decide +kernel
theorem dL_law_752 : decode code 752 = .ok (.iadd, 1) := by decide +kernel
theorem dL_law_753 : decode code 753 = .ok (.iaload, 1) := by decide +kernel
theorem dL_law_754 : decode code 754 = .ok (.aload_n 0, 1) := by decide +kernel
theorem dL_law_755 : decode code 755 = .ok (.iload_n 3, 1) := by decide +kernel
theorem dL_law_756 : decode code 756 = .ok (.iconst 3, 1) := by decide +kernel
theorem dL_law_757 : decode code 757 = .ok (.iadd, 1) := by decide +kernel
theorem dL_law_758 : decode code 758 = .ok (.iaload, 1) := by decide +kernel
theorem dL_law_759 : decode code 759 = .ok (.invokevirtual 93, 3) := by decide +kernel
theorem dL_law_762 : decode code 762 = .ok (.aload_n 2, 1) := by decide +kernel
theorem dL_law_763 : decode code 763 = .ok (.aload_n 0, 1) := by decide +kernel
theorem dL_law_764 : decode code 764 = .ok (.iload_n 3, 1) := by decide +kernel
theorem dL_law_765 : decode code 765 = .ok (.iconst 1, 1) := by decide +kernel
theorem dL_law_766 : decode code 766 = .ok (.iadd, 1) := by decide +kernel
theorem dL_law_767 : decode code 767 = .ok (.iaload, 1) := by decide +kernel
theorem dL_law_768 : decode code 768 = .ok (.aload_n 0, 1) := by decide +kernel
theorem dL_law_769 : decode code 769 = .ok (.iload_n 3, 1) := by decide +kernel
theorem dL_law_770 : decode code 770 = .ok (.iconst 2, 1) := by decide +kernel
theorem dL_law_771 : decode code 771 = .ok (.iadd, 1) := by decide +kernel
theorem dL_law_772 : decode code 772 = .ok (.iaload, 1) := by decide +kernel
theorem dL_law_773 : decode code 773 = .ok (.aload_n 0, 1) := by decide +kernel
theorem dL_law_774 : decode code 774 = .ok (.iload_n 3, 1) := by decide +kernel
theorem dL_law_775 : decode code 775 = .ok (.iconst 3, 1) := by decide +kernel
theorem dL_law_776 : decode code 776 = .ok (.iadd, 1) := by decide +kernel
theorem dL_law_777 : decode code 777 = .ok (.iaload, 1) := by decide +kernel
theorem dL_law_778 : decode code 778 = .ok (.invokevirtual 96, 3) := by decide +kernel
theorem dL_law_781 : decode code 781 = .ok (.if_icmp .eq 681, 3) := by decide +kernel
set_option maxHeartbeats 4000000 in
set_option maxRecDepth 20000 in
theorem law_chosen {E : EnT} {nm : String} {lay : LyT} {r : RfT} {h : HpT} {c b b0 L N : Nat} {sx : Int → Int} {i : Int} (hX : ScE E b0 L sx) (hi : 0 ≤ i ∧ i + 4 ≤ L) (hL : L ≤ 2048) (hcb : b = c + 101) (hLI : LI lay c b i r h) (K : ∀ r' h', LI lay c b (i + 4) r' h' → St E (mL_law nm) 1462 [some (.ref b0), some (.ref c), some (.ref b), some (vI i)] [] (122, 20801) N lay r' h') : St E (mL_law nm) 743 [some (.ref b0), some (.ref c), some (.ref b), some (vI i)] [] (122, 20801) N lay r h := by
  obtain ⟨q, n, tx, ep, km, mp, F, ux, sz, ho, sn, row, hI, hM, hle⟩ := hLI
  have hP0 := hI.2.2.2.2.2.1 0 (by omega) (by omega) (by have := hI.2.2.2.2.1.2.1; omega)
  rw [hI.2.2.2.2.2.2.1.1] at hP0
  have hT := hP0.1
  have hR := hP0.2.1
  have hep := hI.2.2.2.2.1
  have cl0 : lay c = (8, 0) := hI.1.1
  obtain ⟨a1, ha1⟩ : ∃ z, sx (i + 1) = z := ⟨_, rfl⟩
  have g1 := sc_rng hX (i + 1)
  rw [ha1] at g1
  obtain ⟨a2, ha2⟩ : ∃ z, sx (i + 2) = z := ⟨_, rfl⟩
  have g2 := sc_rng hX (i + 2)
  rw [ha2] at g2
  obtain ⟨a3, ha3⟩ : ∃ z, sx (i + 3) = z := ⟨_, rfl⟩
  have g3 := sc_rng hX (i + 3)
  rw [ha3] at g3
  by_cases hc : (0 ≤ a1 ∧ a1 < 16) ∧ (0 ≤ a2 ∧ a2 ≤ 99) ∧ isNd mp a3 ∧ a3 ≤ 9
  · refine r_aload_1 (pc := 743) dL_law_743 ?_
    refine r_aload_0 (pc := 744) dL_law_744 ?_
    refine r_iload_3 (pc := 745) dL_law_745 ?_
    refine r_iconst (pc := 746) dL_law_746 ?_
    refine r_iadd (pc := 747) dL_law_747 ?_
    refine r_sld (pc := 748) hX dL_law_748 (by omega) (by omega) (fun i_748 => ?_)
    rw [ha1]
    refine r_aload_0 (pc := 749) dL_law_749 ?_
    refine r_iload_3 (pc := 750) dL_law_750 ?_
    refine r_iconst (pc := 751) dL_law_751 ?_
    refine r_iadd (pc := 752) dL_law_752 ?_
    refine r_sld (pc := 753) hX dL_law_753 (by omega) (by omega) (fun i_753 => ?_)
    rw [ha2]
    refine r_aload_0 (pc := 754) dL_law_754 ?_
    refine r_iload_3 (pc := 755) dL_law_755 ?_
    refine r_iconst (pc := 756) dL_law_756 ?_
    refine r_iadd (pc := 757) dL_law_757 ?_
    refine r_sld (pc := 758) hX dL_law_758 (by omega) (by omega) (fun i_758 => ?_)
    rw [ha3]
    refine k_VI3 (pc := 759) c_X7_chosen lk_L_93 ⟨(Nat.le_of_ble_eq_true rfl), (Nat.le_of_ble_eq_true rfl)⟩ ⟨rfl, rfl⟩ ⟨(Nat.le_of_ble_eq_true rfl), (Nat.le_of_ble_eq_true rfl)⟩ (k := 7) rfl (by decide) cl0 dL_law_759 (Nat.le_of_ble_eq_true rfl) ?_
    refine ⟨c, q, n, tx, ep, km, mp, F, ux, sz, ho, sn, row, a1, a2, a3, rfl, hI, g1, g2, g3, fun z => absurd hc z, fun _ => fun h2 f2 hI2 => ?_⟩
    have hM2 : MI lay r h2 b n tx ep km mp F ux sz ho sn row := hM.of (rfl) (fun x x0 x1 => f2 x (by omega))
    obtain ⟨hMd2, ⟨e0, e5, e17, e19⟩, ⟨e1, e2, e12, e14, e15, e17r⟩, hWa2, hz2, hkp2, hes2⟩ := id hM2
    refine r_aload_2 (pc := 762) dL_law_762 ?_
    refine r_aload_0 (pc := 763) dL_law_763 ?_
    refine r_iload_3 (pc := 764) dL_law_764 ?_
    refine r_iconst (pc := 765) dL_law_765 ?_
    refine r_iadd (pc := 766) dL_law_766 ?_
    refine r_sld (pc := 767) hX dL_law_767 (by omega) (by omega) (fun i_767 => ?_)
    rw [ha1]
    refine r_aload_0 (pc := 768) dL_law_768 ?_
    refine r_iload_3 (pc := 769) dL_law_769 ?_
    refine r_iconst (pc := 770) dL_law_770 ?_
    refine r_iadd (pc := 771) dL_law_771 ?_
    refine r_sld (pc := 772) hX dL_law_772 (by omega) (by omega) (fun i_772 => ?_)
    rw [ha2]
    refine r_aload_0 (pc := 773) dL_law_773 ?_
    refine r_iload_3 (pc := 774) dL_law_774 ?_
    refine r_iconst (pc := 775) dL_law_775 ?_
    refine r_iadd (pc := 776) dL_law_776 ?_
    refine r_sld (pc := 777) hX dL_law_777 (by omega) (by omega) (fun i_777 => ?_)
    rw [ha3]
    refine k_VI3 (pc := 778) c_X8_chosen lk_L_96 ⟨(Nat.le_of_ble_eq_true rfl), (Nat.le_of_ble_eq_true rfl)⟩ ⟨rfl, rfl⟩ ⟨(Nat.le_of_ble_eq_true rfl), (Nat.le_of_ble_eq_true rfl)⟩ (k := 8) rfl (by decide) hMd2.1 dL_law_778 (Nat.le_of_ble_eq_true rfl) ?_
    refine ⟨b, mp, a1, a2, a3, rfl, hMd2, e2, hT, hR, g1, g2, g3, hWa2, fun z => absurd hc z, fun _ => fun h3 f3 => ?_⟩
    refine r_same (pc := 781) (tgt := 1462) (by first | rfl | (simp only [e0, e5, e17, e19, e1, e2, e12, e14, e15, e17r])) dL_law_781 (by decide) ?_
    exact K r h3 ⟨q, n, tx, ep, km, mp, F, ux, sz, ho, sn, row, hI2.fr (fun x x0 x1 => f3 x (by omega)), hM2.s (fun j hj => by rw [f3 _ (by omega)]) (fun x x0 x1 hx => f3 x (by omega)), by omega⟩
  · refine r_aload_1 (pc := 743) dL_law_743 ?_
    refine r_aload_0 (pc := 744) dL_law_744 ?_
    refine r_iload_3 (pc := 745) dL_law_745 ?_
    refine r_iconst (pc := 746) dL_law_746 ?_
    refine r_iadd (pc := 747) dL_law_747 ?_
    refine r_sld (pc := 748) hX dL_law_748 (by omega) (by omega) (fun i_748 => ?_)
    rw [ha1]
    refine r_aload_0 (pc := 749) dL_law_749 ?_
    refine r_iload_3 (pc := 750) dL_law_750 ?_
    refine r_iconst (pc := 751) dL_law_751 ?_
    refine r_iadd (pc := 752) dL_law_752 ?_
    refine r_sld (pc := 753) hX dL_law_753 (by omega) (by omega) (fun i_753 => ?_)
    rw [ha2]
    refine r_aload_0 (pc := 754) dL_law_754 ?_
    refine r_iload_3 (pc := 755) dL_law_755 ?_
    refine r_iconst (pc := 756) dL_law_756 ?_
    refine r_iadd (pc := 757) dL_law_757 ?_
    refine r_sld (pc := 758) hX dL_law_758 (by omega) (by omega) (fun i_758 => ?_)
    rw [ha3]
    refine k_VI3 (pc := 759) c_X7_chosen lk_L_93 ⟨(Nat.le_of_ble_eq_true rfl), (Nat.le_of_ble_eq_true rfl)⟩ ⟨rfl, rfl⟩ ⟨(Nat.le_of_ble_eq_true rfl), (Nat.le_of_ble_eq_true rfl)⟩ (k := 7) rfl (by decide) cl0 dL_law_759 (Nat.le_of_ble_eq_true rfl) ?_
    refine ⟨c, q, n, tx, ep, km, mp, F, ux, sz, ho, sn, row, a1, a2, a3, rfl, hI, g1, g2, g3, fun _ => ?_, fun z => absurd z hc⟩
    have hM2 := hM
    obtain ⟨hMd2, ⟨e0, e5, e17, e19⟩, ⟨e1, e2, e12, e14, e15, e17r⟩, hWa2, hz2, hkp2, hes2⟩ := id hM2
    refine r_aload_2 (pc := 762) dL_law_762 ?_
    refine r_aload_0 (pc := 763) dL_law_763 ?_
    refine r_iload_3 (pc := 764) dL_law_764 ?_
    refine r_iconst (pc := 765) dL_law_765 ?_
    refine r_iadd (pc := 766) dL_law_766 ?_
    refine r_sld (pc := 767) hX dL_law_767 (by omega) (by omega) (fun i_767 => ?_)
    rw [ha1]
    refine r_aload_0 (pc := 768) dL_law_768 ?_
    refine r_iload_3 (pc := 769) dL_law_769 ?_
    refine r_iconst (pc := 770) dL_law_770 ?_
    refine r_iadd (pc := 771) dL_law_771 ?_
    refine r_sld (pc := 772) hX dL_law_772 (by omega) (by omega) (fun i_772 => ?_)
    rw [ha2]
    refine r_aload_0 (pc := 773) dL_law_773 ?_
    refine r_iload_3 (pc := 774) dL_law_774 ?_
    refine r_iconst (pc := 775) dL_law_775 ?_
    refine r_iadd (pc := 776) dL_law_776 ?_
    refine r_sld (pc := 777) hX dL_law_777 (by omega) (by omega) (fun i_777 => ?_)
    rw [ha3]
    refine k_VI3 (pc := 778) c_X8_chosen lk_L_96 ⟨(Nat.le_of_ble_eq_true rfl), (Nat.le_of_ble_eq_true rfl)⟩ ⟨rfl, rfl⟩ ⟨(Nat.le_of_ble_eq_true rfl), (Nat.le_of_ble_eq_true rfl)⟩ (k := 8) rfl (by decide) hMd2.1 dL_law_778 (Nat.le_of_ble_eq_true rfl) ?_
    refine ⟨b, mp, a1, a2, a3, rfl, hMd2, e2, hT, hR, g1, g2, g3, hWa2, fun _ => ?_, fun z => absurd z hc⟩
    refine r_same (pc := 781) (tgt := 1462) (by first | rfl | (simp only [e0, e5, e17, e19, e1, e2, e12, e14, e15, e17r])) dL_law_781 (by decide) ?_
    exact K r h ⟨q, n, tx, ep, km, mp, F, ux, sz, ho, sn, row, hI, hM2, by omega⟩
theorem dL_law_819 : decode code 819 = .ok (.aload_n 1, 1) := by decide +kernel
theorem dL_law_820 : decode code 820 = .ok (.aload_n 0, 1) := by decide +kernel
theorem dL_law_821 : decode code 821 = .ok (.iload_n 3, 1) := by decide +kernel
theorem dL_law_822 : decode code 822 = .ok (.iconst 1, 1) := by decide +kernel
theorem dL_law_823 : decode code 823 = .ok (.iadd, 1) := by decide +kernel
theorem dL_law_824 : decode code 824 = .ok (.iaload, 1) := by decide +kernel
theorem dL_law_825 : decode code 825 = .ok (.aload_n 0, 1) := by decide +kernel
theorem dL_law_826 : decode code 826 = .ok (.iload_n 3, 1) := by decide +kernel
theorem dL_law_827 : decode code 827 = .ok (.iconst 2, 1) := by decide +kernel
theorem dL_law_828 : decode code 828 = .ok (.iadd, 1) := by decide +kernel
theorem dL_law_829 : decode code 829 = .ok (.iaload, 1) := by decide +kernel
theorem dL_law_830 : decode code 830 = .ok (.invokevirtual 101, 3) := by decide +kernel
theorem dL_law_833 : decode code 833 = .ok (.aload_n 2, 1) := by decide +kernel
theorem dL_law_834 : decode code 834 = .ok (.aload_n 0, 1) := by decide +kernel
theorem dL_law_835 : decode code 835 = .ok (.iload_n 3, 1) := by decide +kernel
theorem dL_law_836 : decode code 836 = .ok (.iconst 1, 1) := by decide +kernel
theorem dL_law_837 : decode code 837 = .ok (.iadd, 1) := by decide +kernel
theorem dL_law_838 : decode code 838 = .ok (.iaload, 1) := by decide +kernel
theorem dL_law_839 : decode code 839 = .ok (.aload_n 0, 1) := by decide +kernel
theorem dL_law_840 : decode code 840 = .ok (.iload_n 3, 1) := by decide +kernel
theorem dL_law_841 : decode code 841 = .ok (.iconst 2, 1) := by decide +kernel
theorem dL_law_842 : decode code 842 = .ok (.iadd, 1) := by decide +kernel
theorem dL_law_843 : decode code 843 = .ok (.iaload, 1) := by decide +kernel
theorem dL_law_844 : decode code 844 = .ok (.invokevirtual 104, 3) := by decide +kernel
theorem dL_law_847 : decode code 847 = .ok (.if_icmp .eq 615, 3) := by decide +kernel
set_option maxHeartbeats 4000000 in
set_option maxRecDepth 20000 in
theorem law_taken {E : EnT} {nm : String} {lay : LyT} {r : RfT} {h : HpT} {c b b0 L N : Nat} {sx : Int → Int} {i : Int} (hX : ScE E b0 L sx) (hi : 0 ≤ i ∧ i + 4 ≤ L) (hL : L ≤ 2048) (hcb : b = c + 101) (hLI : LI lay c b i r h) (K : ∀ r' h', LI lay c b (i + 4) r' h' → St E (mL_law nm) 1462 [some (.ref b0), some (.ref c), some (.ref b), some (vI i)] [] (122, 20801) N lay r' h') : St E (mL_law nm) 819 [some (.ref b0), some (.ref c), some (.ref b), some (vI i)] [] (122, 20801) N lay r h := by
  obtain ⟨q, n, tx, ep, km, mp, F, ux, sz, ho, sn, row, hI, hM, hle⟩ := hLI
  have hP0 := hI.2.2.2.2.2.1 0 (by omega) (by omega) (by have := hI.2.2.2.2.1.2.1; omega)
  rw [hI.2.2.2.2.2.2.1.1] at hP0
  have hT := hP0.1
  have hR := hP0.2.1
  have hep := hI.2.2.2.2.1
  have cl0 : lay c = (8, 0) := hI.1.1
  obtain ⟨a1, ha1⟩ : ∃ z, sx (i + 1) = z := ⟨_, rfl⟩
  have g1 := sc_rng hX (i + 1)
  rw [ha1] at g1
  obtain ⟨a2, ha2⟩ : ∃ z, sx (i + 2) = z := ⟨_, rfl⟩
  have g2 := sc_rng hX (i + 2)
  rw [ha2] at g2
  by_cases hc : (0 ≤ a1 ∧ a1 < 16) ∧ (0 ≤ a2 ∧ a2 ≤ 3)
  · refine r_aload_1 (pc := 819) dL_law_819 ?_
    refine r_aload_0 (pc := 820) dL_law_820 ?_
    refine r_iload_3 (pc := 821) dL_law_821 ?_
    refine r_iconst (pc := 822) dL_law_822 ?_
    refine r_iadd (pc := 823) dL_law_823 ?_
    refine r_sld (pc := 824) hX dL_law_824 (by omega) (by omega) (fun i_824 => ?_)
    rw [ha1]
    refine r_aload_0 (pc := 825) dL_law_825 ?_
    refine r_iload_3 (pc := 826) dL_law_826 ?_
    refine r_iconst (pc := 827) dL_law_827 ?_
    refine r_iadd (pc := 828) dL_law_828 ?_
    refine r_sld (pc := 829) hX dL_law_829 (by omega) (by omega) (fun i_829 => ?_)
    rw [ha2]
    refine k_VI2 (pc := 830) c_X7_taken lk_L_101 ⟨(Nat.le_of_ble_eq_true rfl), (Nat.le_of_ble_eq_true rfl)⟩ ⟨rfl, rfl⟩ ⟨(Nat.le_of_ble_eq_true rfl), (Nat.le_of_ble_eq_true rfl)⟩ (k := 7) rfl (by decide) cl0 dL_law_830 (Nat.le_of_ble_eq_true rfl) ?_
    refine ⟨c, q, n, tx, ep, km, mp, F, ux, sz, ho, sn, row, a1, a2, rfl, hI, g1, g2, fun z => absurd hc z, fun _ => ?_⟩
    have hM2 := hM
    obtain ⟨hMd2, ⟨e0, e5, e17, e19⟩, ⟨e1, e2, e12, e14, e15, e17r⟩, hWa2, hz2, hkp2, hes2⟩ := id hM2
    refine r_aload_2 (pc := 833) dL_law_833 ?_
    refine r_aload_0 (pc := 834) dL_law_834 ?_
    refine r_iload_3 (pc := 835) dL_law_835 ?_
    refine r_iconst (pc := 836) dL_law_836 ?_
    refine r_iadd (pc := 837) dL_law_837 ?_
    refine r_sld (pc := 838) hX dL_law_838 (by omega) (by omega) (fun i_838 => ?_)
    rw [ha1]
    refine r_aload_0 (pc := 839) dL_law_839 ?_
    refine r_iload_3 (pc := 840) dL_law_840 ?_
    refine r_iconst (pc := 841) dL_law_841 ?_
    refine r_iadd (pc := 842) dL_law_842 ?_
    refine r_sld (pc := 843) hX dL_law_843 (by omega) (by omega) (fun i_843 => ?_)
    rw [ha2]
    refine k_VI2 (pc := 844) c_X8_taken lk_L_104 ⟨(Nat.le_of_ble_eq_true rfl), (Nat.le_of_ble_eq_true rfl)⟩ ⟨rfl, rfl⟩ ⟨(Nat.le_of_ble_eq_true rfl), (Nat.le_of_ble_eq_true rfl)⟩ (k := 8) rfl (by decide) hMd2.1 dL_law_844 (Nat.le_of_ble_eq_true rfl) ?_
    refine ⟨b, mp, a1, a2, rfl, hMd2, e2, hT, hR, g1, g2, hWa2, fun z => absurd hc z, fun _ => fun h3 f3 => ?_⟩
    refine r_same (pc := 847) (tgt := 1462) (by first | rfl | (simp only [e0, e5, e17, e19, e1, e2, e12, e14, e15, e17r])) dL_law_847 (by decide) ?_
    exact K r h3 ⟨q, n, tx, ep, km, mp, F, ux, sz, ho, sn, row, hI.fr (fun x x0 x1 => f3 x (by omega)), hM2.s (fun j hj => by rw [f3 _ (by omega)]) (fun x x0 x1 hx => f3 x (by omega)), by omega⟩
  · refine r_aload_1 (pc := 819) dL_law_819 ?_
    refine r_aload_0 (pc := 820) dL_law_820 ?_
    refine r_iload_3 (pc := 821) dL_law_821 ?_
    refine r_iconst (pc := 822) dL_law_822 ?_
    refine r_iadd (pc := 823) dL_law_823 ?_
    refine r_sld (pc := 824) hX dL_law_824 (by omega) (by omega) (fun i_824 => ?_)
    rw [ha1]
    refine r_aload_0 (pc := 825) dL_law_825 ?_
    refine r_iload_3 (pc := 826) dL_law_826 ?_
    refine r_iconst (pc := 827) dL_law_827 ?_
    refine r_iadd (pc := 828) dL_law_828 ?_
    refine r_sld (pc := 829) hX dL_law_829 (by omega) (by omega) (fun i_829 => ?_)
    rw [ha2]
    refine k_VI2 (pc := 830) c_X7_taken lk_L_101 ⟨(Nat.le_of_ble_eq_true rfl), (Nat.le_of_ble_eq_true rfl)⟩ ⟨rfl, rfl⟩ ⟨(Nat.le_of_ble_eq_true rfl), (Nat.le_of_ble_eq_true rfl)⟩ (k := 7) rfl (by decide) cl0 dL_law_830 (Nat.le_of_ble_eq_true rfl) ?_
    refine ⟨c, q, n, tx, ep, km, mp, F, ux, sz, ho, sn, row, a1, a2, rfl, hI, g1, g2, fun _ => ?_, fun z => absurd z hc⟩
    have hM2 := hM
    obtain ⟨hMd2, ⟨e0, e5, e17, e19⟩, ⟨e1, e2, e12, e14, e15, e17r⟩, hWa2, hz2, hkp2, hes2⟩ := id hM2
    refine r_aload_2 (pc := 833) dL_law_833 ?_
    refine r_aload_0 (pc := 834) dL_law_834 ?_
    refine r_iload_3 (pc := 835) dL_law_835 ?_
    refine r_iconst (pc := 836) dL_law_836 ?_
    refine r_iadd (pc := 837) dL_law_837 ?_
    refine r_sld (pc := 838) hX dL_law_838 (by omega) (by omega) (fun i_838 => ?_)
    rw [ha1]
    refine r_aload_0 (pc := 839) dL_law_839 ?_
    refine r_iload_3 (pc := 840) dL_law_840 ?_
    refine r_iconst (pc := 841) dL_law_841 ?_
    refine r_iadd (pc := 842) dL_law_842 ?_
    refine r_sld (pc := 843) hX dL_law_843 (by omega) (by omega) (fun i_843 => ?_)
    rw [ha2]
    refine k_VI2 (pc := 844) c_X8_taken lk_L_104 ⟨(Nat.le_of_ble_eq_true rfl), (Nat.le_of_ble_eq_true rfl)⟩ ⟨rfl, rfl⟩ ⟨(Nat.le_of_ble_eq_true rfl), (Nat.le_of_ble_eq_true rfl)⟩ (k := 8) rfl (by decide) hMd2.1 dL_law_844 (Nat.le_of_ble_eq_true rfl) ?_
    refine ⟨b, mp, a1, a2, rfl, hMd2, e2, hT, hR, g1, g2, hWa2, fun _ => ?_, fun z => absurd z hc⟩
    refine r_same (pc := 847) (tgt := 1462) (by first | rfl | (simp only [e0, e5, e17, e19, e1, e2, e12, e14, e15, e17r])) dL_law_847 (by decide) ?_
    exact K r h ⟨q, n, tx, ep, km, mp, F, ux, sz, ho, sn, row, hI, hM2, by omega⟩
theorem dL_law_997 : decode code 997 = .ok (.aload_n 1, 1) := by decide +kernel
theorem dL_law_998 : decode code 998 = .ok (.aload_n 0, 1) := by decide +kernel
theorem dL_law_999 : decode code 999 = .ok (.iload_n 3, 1) := by decide +kernel
theorem dL_law_1000 : decode code 1000 = .ok (.iconst 1, 1) := by decide +kernel
theorem dL_law_1001 : decode code 1001 = .ok (.iadd, 1) := by decide +kernel
theorem dL_law_1002 : decode code 1002 = .ok (.iaload, 1) := by decide +kernel
theorem dL_law_1003 : decode code 1003 = .ok (.aload_n 0, 1) := by decide +kernel
theorem dL_law_1004 : decode code 1004 = .ok (.iload_n 3, 1) := by decide +kernel
theorem dL_law_1005 : decode code 1005 = .ok (.iconst 2, 1) := by decide +kernel
theorem dL_law_1006 : decode code 1006 = .ok (.iadd, 1) := by decide +kernel
theorem dL_law_1007 : decode code 1007 = .ok (.iaload, 1) := by decide +kernel
theorem dL_law_1008 : decode code 1008 = .ok (.aload_n 0, 1) := by decide +kernel
theorem dL_law_1009 : decode code 1009 = .ok (.iload_n 3, 1) := by decide +kernel
theorem dL_law_1010 : decode code 1010 = .ok (.iconst 3, 1) := by decide +kernel
theorem dL_law_1011 : decode code 1011 = .ok (.iadd, 1) := by decide +kernel
theorem dL_law_1012 : decode code 1012 = .ok (.iaload, 1) := by decide +kernel
theorem dL_law_1013 : decode code 1013 = .ok (.invokevirtual 125, 3) := by decide +kernel
theorem dL_law_1016 : decode code 1016 = .ok (.aload_n 2, 1) := by decide +kernel
theorem dL_law_1017 : decode code 1017 = .ok (.aload_n 0, 1) := by decide +kernel
theorem dL_law_1018 : decode code 1018 = .ok (.iload_n 3, 1) := by decide +kernel
theorem dL_law_1019 : decode code 1019 = .ok (.iconst 1, 1) := by decide +kernel
theorem dL_law_1020 : decode code 1020 = .ok (.iadd, 1) := by decide +kernel
theorem dL_law_1021 : decode code 1021 = .ok (.iaload, 1) := by decide +kernel
theorem dL_law_1022 : decode code 1022 = .ok (.aload_n 0, 1) := by decide +kernel
theorem dL_law_1023 : decode code 1023 = .ok (.iload_n 3, 1) := by decide +kernel
theorem dL_law_1024 : decode code 1024 = .ok (.iconst 2, 1) := by decide +kernel
theorem dL_law_1025 : decode code 1025 = .ok (.iadd, 1) := by decide +kernel
theorem dL_law_1026 : decode code 1026 = .ok (.iaload, 1) := by decide +kernel
theorem dL_law_1027 : decode code 1027 = .ok (.aload_n 0, 1) := by decide +kernel
theorem dL_law_1028 : decode code 1028 = .ok (.iload_n 3, 1) := by decide +kernel
theorem dL_law_1029 : decode code 1029 = .ok (.iconst 3, 1) := by decide +kernel
theorem dL_law_1030 : decode code 1030 = .ok (.iadd, 1) := by decide +kernel
theorem dL_law_1031 : decode code 1031 = .ok (.iaload, 1) := by decide +kernel
theorem dL_law_1032 : decode code 1032 = .ok (.invokevirtual 128, 3) := by decide +kernel
theorem dL_law_1035 : decode code 1035 = .ok (.if_icmp .eq 427, 3) := by decide +kernel
set_option maxHeartbeats 4000000 in
set_option maxRecDepth 20000 in
theorem law_would {E : EnT} {nm : String} {lay : LyT} {r : RfT} {h : HpT} {c b b0 L N : Nat} {sx : Int → Int} {i : Int} (hX : ScE E b0 L sx) (hi : 0 ≤ i ∧ i + 4 ≤ L) (hL : L ≤ 2048) (hcb : b = c + 101) (hLI : LI lay c b i r h) (K : ∀ r' h', LI lay c b (i + 4) r' h' → St E (mL_law nm) 1462 [some (.ref b0), some (.ref c), some (.ref b), some (vI i)] [] (122, 20801) N lay r' h') : St E (mL_law nm) 997 [some (.ref b0), some (.ref c), some (.ref b), some (vI i)] [] (122, 20801) N lay r h := by
  obtain ⟨q, n, tx, ep, km, mp, F, ux, sz, ho, sn, row, hI, hM, hle⟩ := hLI
  have hP0 := hI.2.2.2.2.2.1 0 (by omega) (by omega) (by have := hI.2.2.2.2.1.2.1; omega)
  rw [hI.2.2.2.2.2.2.1.1] at hP0
  have hT := hP0.1
  have hR := hP0.2.1
  have hep := hI.2.2.2.2.1
  have cl0 : lay c = (8, 0) := hI.1.1
  obtain ⟨a1, ha1⟩ : ∃ z, sx (i + 1) = z := ⟨_, rfl⟩
  have g1 := sc_rng hX (i + 1)
  rw [ha1] at g1
  obtain ⟨a2, ha2⟩ : ∃ z, sx (i + 2) = z := ⟨_, rfl⟩
  have g2 := sc_rng hX (i + 2)
  rw [ha2] at g2
  obtain ⟨a3, ha3⟩ : ∃ z, sx (i + 3) = z := ⟨_, rfl⟩
  have g3 := sc_rng hX (i + 3)
  rw [ha3] at g3
  by_cases hc : (10 ≤ a1 ∧ a1 ≤ 9 + mp 130) ∧ (0 ≤ a2 ∧ a2 ≤ 40) ∧ (0 ≤ a3 ∧ a3 ≤ 2)
  · refine r_aload_1 (pc := 997) dL_law_997 ?_
    refine r_aload_0 (pc := 998) dL_law_998 ?_
    refine r_iload_3 (pc := 999) dL_law_999 ?_
    refine r_iconst (pc := 1000) dL_law_1000 ?_
    refine r_iadd (pc := 1001) dL_law_1001 ?_
    refine r_sld (pc := 1002) hX dL_law_1002 (by omega) (by omega) (fun i_1002 => ?_)
    rw [ha1]
    refine r_aload_0 (pc := 1003) dL_law_1003 ?_
    refine r_iload_3 (pc := 1004) dL_law_1004 ?_
    refine r_iconst (pc := 1005) dL_law_1005 ?_
    refine r_iadd (pc := 1006) dL_law_1006 ?_
    refine r_sld (pc := 1007) hX dL_law_1007 (by omega) (by omega) (fun i_1007 => ?_)
    rw [ha2]
    refine r_aload_0 (pc := 1008) dL_law_1008 ?_
    refine r_iload_3 (pc := 1009) dL_law_1009 ?_
    refine r_iconst (pc := 1010) dL_law_1010 ?_
    refine r_iadd (pc := 1011) dL_law_1011 ?_
    refine r_sld (pc := 1012) hX dL_law_1012 (by omega) (by omega) (fun i_1012 => ?_)
    rw [ha3]
    refine k_VI3 (pc := 1013) c_X7_would lk_L_125 ⟨(Nat.le_of_ble_eq_true rfl), (Nat.le_of_ble_eq_true rfl)⟩ ⟨rfl, rfl⟩ ⟨(Nat.le_of_ble_eq_true rfl), (Nat.le_of_ble_eq_true rfl)⟩ (k := 7) rfl (by decide) cl0 dL_law_1013 (Nat.le_of_ble_eq_true rfl) ?_
    refine ⟨c, q, n, tx, ep, km, mp, F, ux, sz, ho, sn, row, a1, a2, a3, rfl, hI, g1, g2, g3, fun z => absurd hc z, fun _ => fun h2 f2 hI2 => ?_⟩
    have hM2 : MI lay r h2 b n tx ep km mp F ux sz ho sn row := hM.of (rfl) (fun x x0 x1 => f2 x (by omega))
    obtain ⟨hMd2, ⟨e0, e5, e17, e19⟩, ⟨e1, e2, e12, e14, e15, e17r⟩, hWa2, hz2, hkp2, hes2⟩ := id hM2
    refine r_aload_2 (pc := 1016) dL_law_1016 ?_
    refine r_aload_0 (pc := 1017) dL_law_1017 ?_
    refine r_iload_3 (pc := 1018) dL_law_1018 ?_
    refine r_iconst (pc := 1019) dL_law_1019 ?_
    refine r_iadd (pc := 1020) dL_law_1020 ?_
    refine r_sld (pc := 1021) hX dL_law_1021 (by omega) (by omega) (fun i_1021 => ?_)
    rw [ha1]
    refine r_aload_0 (pc := 1022) dL_law_1022 ?_
    refine r_iload_3 (pc := 1023) dL_law_1023 ?_
    refine r_iconst (pc := 1024) dL_law_1024 ?_
    refine r_iadd (pc := 1025) dL_law_1025 ?_
    refine r_sld (pc := 1026) hX dL_law_1026 (by omega) (by omega) (fun i_1026 => ?_)
    rw [ha2]
    refine r_aload_0 (pc := 1027) dL_law_1027 ?_
    refine r_iload_3 (pc := 1028) dL_law_1028 ?_
    refine r_iconst (pc := 1029) dL_law_1029 ?_
    refine r_iadd (pc := 1030) dL_law_1030 ?_
    refine r_sld (pc := 1031) hX dL_law_1031 (by omega) (by omega) (fun i_1031 => ?_)
    rw [ha3]
    refine k_VI3 (pc := 1032) c_X8_would lk_L_128 ⟨(Nat.le_of_ble_eq_true rfl), (Nat.le_of_ble_eq_true rfl)⟩ ⟨rfl, rfl⟩ ⟨(Nat.le_of_ble_eq_true rfl), (Nat.le_of_ble_eq_true rfl)⟩ (k := 8) rfl (by decide) hMd2.1 dL_law_1032 (Nat.le_of_ble_eq_true rfl) ?_
    refine ⟨b, mp, a1, a2, a3, rfl, hMd2, e2, hT, hR, g1, g2, g3, hWa2, fun z => absurd hc z, fun _ => fun h3 f3 => ?_⟩
    refine r_same (pc := 1035) (tgt := 1462) (by first | rfl | (simp only [e0, e5, e17, e19, e1, e2, e12, e14, e15, e17r])) dL_law_1035 (by decide) ?_
    exact K r h3 ⟨q, n, tx, ep, km, mp, F, ux, sz, ho, sn, row, hI2.fr (fun x x0 x1 => f3 x (by omega)), hM2.s (fun j hj => by rw [f3 _ (by omega)]) (fun x x0 x1 hx => f3 x (by omega)), by omega⟩
  · refine r_aload_1 (pc := 997) dL_law_997 ?_
    refine r_aload_0 (pc := 998) dL_law_998 ?_
    refine r_iload_3 (pc := 999) dL_law_999 ?_
    refine r_iconst (pc := 1000) dL_law_1000 ?_
    refine r_iadd (pc := 1001) dL_law_1001 ?_
    refine r_sld (pc := 1002) hX dL_law_1002 (by omega) (by omega) (fun i_1002 => ?_)
    rw [ha1]
    refine r_aload_0 (pc := 1003) dL_law_1003 ?_
    refine r_iload_3 (pc := 1004) dL_law_1004 ?_
    refine r_iconst (pc := 1005) dL_law_1005 ?_
    refine r_iadd (pc := 1006) dL_law_1006 ?_
    refine r_sld (pc := 1007) hX dL_law_1007 (by omega) (by omega) (fun i_1007 => ?_)
    rw [ha2]
    refine r_aload_0 (pc := 1008) dL_law_1008 ?_
    refine r_iload_3 (pc := 1009) dL_law_1009 ?_
    refine r_iconst (pc := 1010) dL_law_1010 ?_
    refine r_iadd (pc := 1011) dL_law_1011 ?_
    refine r_sld (pc := 1012) hX dL_law_1012 (by omega) (by omega) (fun i_1012 => ?_)
    rw [ha3]
    refine k_VI3 (pc := 1013) c_X7_would lk_L_125 ⟨(Nat.le_of_ble_eq_true rfl), (Nat.le_of_ble_eq_true rfl)⟩ ⟨rfl, rfl⟩ ⟨(Nat.le_of_ble_eq_true rfl), (Nat.le_of_ble_eq_true rfl)⟩ (k := 7) rfl (by decide) cl0 dL_law_1013 (Nat.le_of_ble_eq_true rfl) ?_
    refine ⟨c, q, n, tx, ep, km, mp, F, ux, sz, ho, sn, row, a1, a2, a3, rfl, hI, g1, g2, g3, fun _ => ?_, fun z => absurd z hc⟩
    have hM2 := hM
    obtain ⟨hMd2, ⟨e0, e5, e17, e19⟩, ⟨e1, e2, e12, e14, e15, e17r⟩, hWa2, hz2, hkp2, hes2⟩ := id hM2
    refine r_aload_2 (pc := 1016) dL_law_1016 ?_
    refine r_aload_0 (pc := 1017) dL_law_1017 ?_
    refine r_iload_3 (pc := 1018) dL_law_1018 ?_
    refine r_iconst (pc := 1019) dL_law_1019 ?_
    refine r_iadd (pc := 1020) dL_law_1020 ?_
    refine r_sld (pc := 1021) hX dL_law_1021 (by omega) (by omega) (fun i_1021 => ?_)
    rw [ha1]
    refine r_aload_0 (pc := 1022) dL_law_1022 ?_
    refine r_iload_3 (pc := 1023) dL_law_1023 ?_
    refine r_iconst (pc := 1024) dL_law_1024 ?_
    refine r_iadd (pc := 1025) dL_law_1025 ?_
    refine r_sld (pc := 1026) hX dL_law_1026 (by omega) (by omega) (fun i_1026 => ?_)
    rw [ha2]
    refine r_aload_0 (pc := 1027) dL_law_1027 ?_
    refine r_iload_3 (pc := 1028) dL_law_1028 ?_
    refine r_iconst (pc := 1029) dL_law_1029 ?_
    refine r_iadd (pc := 1030) dL_law_1030 ?_
    refine r_sld (pc := 1031) hX dL_law_1031 (by omega) (by omega) (fun i_1031 => ?_)
    rw [ha3]
    refine k_VI3 (pc := 1032) c_X8_would lk_L_128 ⟨(Nat.le_of_ble_eq_true rfl), (Nat.le_of_ble_eq_true rfl)⟩ ⟨rfl, rfl⟩ ⟨(Nat.le_of_ble_eq_true rfl), (Nat.le_of_ble_eq_true rfl)⟩ (k := 8) rfl (by decide) hMd2.1 dL_law_1032 (Nat.le_of_ble_eq_true rfl) ?_
    refine ⟨b, mp, a1, a2, a3, rfl, hMd2, e2, hT, hR, g1, g2, g3, hWa2, fun _ => ?_, fun z => absurd z hc⟩
    refine r_same (pc := 1035) (tgt := 1462) (by first | rfl | (simp only [e0, e5, e17, e19, e1, e2, e12, e14, e15, e17r])) dL_law_1035 (by decide) ?_
    exact K r h ⟨q, n, tx, ep, km, mp, F, ux, sz, ho, sn, row, hI, hM2, by omega⟩
theorem dL_law_1040 : decode code 1040 = .ok (.aload_n 1, 1) := by decide +kernel
theorem dL_law_1041 : decode code 1041 = .ok (.aload_n 0, 1) := by decide +kernel
theorem dL_law_1042 : decode code 1042 = .ok (.iload_n 3, 1) := by decide +kernel
theorem dL_law_1043 : decode code 1043 = .ok (.iconst 1, 1) := by decide +kernel
theorem dL_law_1044 : decode code 1044 = .ok (.iadd, 1) := by decide +kernel
theorem dL_law_1045 : decode code 1045 = .ok (.iaload, 1) := by decide +kernel
theorem dL_law_1046 : decode code 1046 = .ok (.aload_n 0, 1) := by decide +kernel
theorem dL_law_1047 : decode code 1047 = .ok (.iload_n 3, 1) := by decide +kernel
theorem dL_law_1048 : decode code 1048 = .ok (.iconst 2, 1) := by decide +kernel
theorem dL_law_1049 : decode code 1049 = .ok (.iadd, 1) := by decide +kernel
theorem dL_law_1050 : decode code 1050 = .ok (.iaload, 1) := by decide +kernel
theorem dL_law_1051 : decode code 1051 = .ok (.invokevirtual 129, 3) := by decide +kernel
theorem dL_law_1054 : decode code 1054 = .ok (.aload_n 2, 1) := by decide +kernel
theorem dL_law_1055 : decode code 1055 = .ok (.aload_n 0, 1) := by decide +kernel
theorem dL_law_1056 : decode code 1056 = .ok (.iload_n 3, 1) := by decide +kernel
theorem dL_law_1057 : decode code 1057 = .ok (.iconst 1, 1) := by decide +kernel
theorem dL_law_1058 : decode code 1058 = .ok (.iadd, 1) := by decide +kernel
theorem dL_law_1059 : decode code 1059 = .ok (.iaload, 1) := by decide +kernel
theorem dL_law_1060 : decode code 1060 = .ok (.aload_n 0, 1) := by decide +kernel
theorem dL_law_1061 : decode code 1061 = .ok (.iload_n 3, 1) := by decide +kernel
theorem dL_law_1062 : decode code 1062 = .ok (.iconst 2, 1) := by decide +kernel
theorem dL_law_1063 : decode code 1063 = .ok (.iadd, 1) := by decide +kernel
theorem dL_law_1064 : decode code 1064 = .ok (.iaload, 1) := by decide +kernel
theorem dL_law_1065 : decode code 1065 = .ok (.invokevirtual 132, 3) := by decide +kernel
theorem dL_law_1068 : decode code 1068 = .ok (.if_icmp .eq 394, 3) := by decide +kernel
set_option maxHeartbeats 4000000 in
set_option maxRecDepth 20000 in
theorem law_least {E : EnT} {nm : String} {lay : LyT} {r : RfT} {h : HpT} {c b b0 L N : Nat} {sx : Int → Int} {i : Int} (hX : ScE E b0 L sx) (hi : 0 ≤ i ∧ i + 4 ≤ L) (hL : L ≤ 2048) (hcb : b = c + 101) (hLI : LI lay c b i r h) (K : ∀ r' h', LI lay c b (i + 4) r' h' → St E (mL_law nm) 1462 [some (.ref b0), some (.ref c), some (.ref b), some (vI i)] [] (122, 20801) N lay r' h') : St E (mL_law nm) 1040 [some (.ref b0), some (.ref c), some (.ref b), some (vI i)] [] (122, 20801) N lay r h := by
  obtain ⟨q, n, tx, ep, km, mp, F, ux, sz, ho, sn, row, hI, hM, hle⟩ := hLI
  have hP0 := hI.2.2.2.2.2.1 0 (by omega) (by omega) (by have := hI.2.2.2.2.1.2.1; omega)
  rw [hI.2.2.2.2.2.2.1.1] at hP0
  have hT := hP0.1
  have hR := hP0.2.1
  have hep := hI.2.2.2.2.1
  have cl0 : lay c = (8, 0) := hI.1.1
  obtain ⟨a1, ha1⟩ : ∃ z, sx (i + 1) = z := ⟨_, rfl⟩
  have g1 := sc_rng hX (i + 1)
  rw [ha1] at g1
  obtain ⟨a2, ha2⟩ : ∃ z, sx (i + 2) = z := ⟨_, rfl⟩
  have g2 := sc_rng hX (i + 2)
  rw [ha2] at g2
  by_cases hc : (10 ≤ a1 ∧ a1 ≤ 9 + mp 130) ∧ (1 ≤ a2 ∧ a2 ≤ 16)
  · refine r_aload_1 (pc := 1040) dL_law_1040 ?_
    refine r_aload_0 (pc := 1041) dL_law_1041 ?_
    refine r_iload_3 (pc := 1042) dL_law_1042 ?_
    refine r_iconst (pc := 1043) dL_law_1043 ?_
    refine r_iadd (pc := 1044) dL_law_1044 ?_
    refine r_sld (pc := 1045) hX dL_law_1045 (by omega) (by omega) (fun i_1045 => ?_)
    rw [ha1]
    refine r_aload_0 (pc := 1046) dL_law_1046 ?_
    refine r_iload_3 (pc := 1047) dL_law_1047 ?_
    refine r_iconst (pc := 1048) dL_law_1048 ?_
    refine r_iadd (pc := 1049) dL_law_1049 ?_
    refine r_sld (pc := 1050) hX dL_law_1050 (by omega) (by omega) (fun i_1050 => ?_)
    rw [ha2]
    refine k_VI2 (pc := 1051) c_X7_least lk_L_129 ⟨(Nat.le_of_ble_eq_true rfl), (Nat.le_of_ble_eq_true rfl)⟩ ⟨rfl, rfl⟩ ⟨(Nat.le_of_ble_eq_true rfl), (Nat.le_of_ble_eq_true rfl)⟩ (k := 7) rfl (by decide) cl0 dL_law_1051 (Nat.le_of_ble_eq_true rfl) ?_
    refine ⟨c, q, n, tx, ep, km, mp, F, ux, sz, ho, sn, row, a1, a2, rfl, hI, g1, g2, fun z => absurd hc z, fun _ => fun h2 f2 hI2 => ?_⟩
    have hM2 : MI lay r h2 b n tx ep km mp F ux sz ho sn row := hM.of (rfl) (fun x x0 x1 => f2 x (by omega))
    obtain ⟨hMd2, ⟨e0, e5, e17, e19⟩, ⟨e1, e2, e12, e14, e15, e17r⟩, hWa2, hz2, hkp2, hes2⟩ := id hM2
    refine r_aload_2 (pc := 1054) dL_law_1054 ?_
    refine r_aload_0 (pc := 1055) dL_law_1055 ?_
    refine r_iload_3 (pc := 1056) dL_law_1056 ?_
    refine r_iconst (pc := 1057) dL_law_1057 ?_
    refine r_iadd (pc := 1058) dL_law_1058 ?_
    refine r_sld (pc := 1059) hX dL_law_1059 (by omega) (by omega) (fun i_1059 => ?_)
    rw [ha1]
    refine r_aload_0 (pc := 1060) dL_law_1060 ?_
    refine r_iload_3 (pc := 1061) dL_law_1061 ?_
    refine r_iconst (pc := 1062) dL_law_1062 ?_
    refine r_iadd (pc := 1063) dL_law_1063 ?_
    refine r_sld (pc := 1064) hX dL_law_1064 (by omega) (by omega) (fun i_1064 => ?_)
    rw [ha2]
    refine k_VI2 (pc := 1065) c_X8_least lk_L_132 ⟨(Nat.le_of_ble_eq_true rfl), (Nat.le_of_ble_eq_true rfl)⟩ ⟨rfl, rfl⟩ ⟨(Nat.le_of_ble_eq_true rfl), (Nat.le_of_ble_eq_true rfl)⟩ (k := 8) rfl (by decide) hMd2.1 dL_law_1065 (Nat.le_of_ble_eq_true rfl) ?_
    refine ⟨b, mp, a1, a2, rfl, hMd2, e2, hT, hR, g1, g2, hWa2, fun z => absurd hc z, fun _ => fun h3 f3 => ?_⟩
    refine r_same (pc := 1068) (tgt := 1462) (by first | rfl | (simp only [e0, e5, e17, e19, e1, e2, e12, e14, e15, e17r])) dL_law_1068 (by decide) ?_
    exact K r h3 ⟨q, n, tx, ep, km, mp, F, ux, sz, ho, sn, row, hI2.fr (fun x x0 x1 => f3 x (by omega)), hM2.s (fun j hj => by rw [f3 _ (by omega)]) (fun x x0 x1 hx => f3 x (by omega)), by omega⟩
  · refine r_aload_1 (pc := 1040) dL_law_1040 ?_
    refine r_aload_0 (pc := 1041) dL_law_1041 ?_
    refine r_iload_3 (pc := 1042) dL_law_1042 ?_
    refine r_iconst (pc := 1043) dL_law_1043 ?_
    refine r_iadd (pc := 1044) dL_law_1044 ?_
    refine r_sld (pc := 1045) hX dL_law_1045 (by omega) (by omega) (fun i_1045 => ?_)
    rw [ha1]
    refine r_aload_0 (pc := 1046) dL_law_1046 ?_
    refine r_iload_3 (pc := 1047) dL_law_1047 ?_
    refine r_iconst (pc := 1048) dL_law_1048 ?_
    refine r_iadd (pc := 1049) dL_law_1049 ?_
    refine r_sld (pc := 1050) hX dL_law_1050 (by omega) (by omega) (fun i_1050 => ?_)
    rw [ha2]
    refine k_VI2 (pc := 1051) c_X7_least lk_L_129 ⟨(Nat.le_of_ble_eq_true rfl), (Nat.le_of_ble_eq_true rfl)⟩ ⟨rfl, rfl⟩ ⟨(Nat.le_of_ble_eq_true rfl), (Nat.le_of_ble_eq_true rfl)⟩ (k := 7) rfl (by decide) cl0 dL_law_1051 (Nat.le_of_ble_eq_true rfl) ?_
    refine ⟨c, q, n, tx, ep, km, mp, F, ux, sz, ho, sn, row, a1, a2, rfl, hI, g1, g2, fun _ => ?_, fun z => absurd z hc⟩
    have hM2 := hM
    obtain ⟨hMd2, ⟨e0, e5, e17, e19⟩, ⟨e1, e2, e12, e14, e15, e17r⟩, hWa2, hz2, hkp2, hes2⟩ := id hM2
    refine r_aload_2 (pc := 1054) dL_law_1054 ?_
    refine r_aload_0 (pc := 1055) dL_law_1055 ?_
    refine r_iload_3 (pc := 1056) dL_law_1056 ?_
    refine r_iconst (pc := 1057) dL_law_1057 ?_
    refine r_iadd (pc := 1058) dL_law_1058 ?_
    refine r_sld (pc := 1059) hX dL_law_1059 (by omega) (by omega) (fun i_1059 => ?_)
    rw [ha1]
    refine r_aload_0 (pc := 1060) dL_law_1060 ?_
    refine r_iload_3 (pc := 1061) dL_law_1061 ?_
    refine r_iconst (pc := 1062) dL_law_1062 ?_
    refine r_iadd (pc := 1063) dL_law_1063 ?_
    refine r_sld (pc := 1064) hX dL_law_1064 (by omega) (by omega) (fun i_1064 => ?_)
    rw [ha2]
    refine k_VI2 (pc := 1065) c_X8_least lk_L_132 ⟨(Nat.le_of_ble_eq_true rfl), (Nat.le_of_ble_eq_true rfl)⟩ ⟨rfl, rfl⟩ ⟨(Nat.le_of_ble_eq_true rfl), (Nat.le_of_ble_eq_true rfl)⟩ (k := 8) rfl (by decide) hMd2.1 dL_law_1065 (Nat.le_of_ble_eq_true rfl) ?_
    refine ⟨b, mp, a1, a2, rfl, hMd2, e2, hT, hR, g1, g2, hWa2, fun _ => ?_, fun z => absurd z hc⟩
    refine r_same (pc := 1068) (tgt := 1462) (by first | rfl | (simp only [e0, e5, e17, e19, e1, e2, e12, e14, e15, e17r])) dL_law_1068 (by decide) ?_
    exact K r h ⟨q, n, tx, ep, km, mp, F, ux, sz, ho, sn, row, hI, hM2, by omega⟩
theorem dL_law_311 : decode code 311 = .ok (.aload_n 1, 1) := by decide +kernel
theorem dL_law_312 : decode code 312 = .ok (.aload_n 0, 1) := by decide +kernel
theorem dL_law_313 : decode code 313 = .ok (.iload_n 3, 1) := by decide +kernel
theorem dL_law_314 : decode code 314 = .ok (.iconst 1, 1) := by decide +kernel
theorem dL_law_315 : decode code 315 = .ok (.iadd, 1) := by decide +kernel
theorem dL_law_316 : decode code 316 = .ok (.iaload, 1) := by decide +kernel
theorem dL_law_317 : decode code 317 = .ok (.aload_n 0, 1) := by decide +kernel
theorem dL_law_318 : decode code 318 = .ok (.iload_n 3, 1) := by decide +kernel
theorem dL_law_319 : decode code 319 = .ok (.iconst 2, 1) := by decide +kernel
theorem dL_law_320 : decode code 320 = .ok (.iadd, 1) := by decide +kernel
theorem dL_law_321 : decode code 321 = .ok (.iaload, 1) := by decide +kernel
theorem dL_law_322 : decode code 322 = .ok (.invokevirtual 36, 3) := by decide +kernel
theorem dL_law_325 : decode code 325 = .ok (.aload_n 2, 1) := by decide +kernel
theorem dL_law_326 : decode code 326 = .ok (.aload_n 0, 1) := by decide +kernel
theorem dL_law_327 : decode code 327 = .ok (.iload_n 3, 1) := by decide +kernel
theorem dL_law_328 : decode code 328 = .ok (.iconst 1, 1) := by decide +kernel
theorem dL_law_329 : decode code 329 = .ok (.iadd, 1) := by decide +kernel
theorem dL_law_330 : decode code 330 = .ok (.iaload, 1) := by decide +kernel
theorem dL_law_331 : decode code 331 = .ok (.aload_n 0, 1) := by decide +kernel
theorem dL_law_332 : decode code 332 = .ok (.iload_n 3, 1) := by decide +kernel
theorem dL_law_333 : decode code 333 = .ok (.iconst 2, 1) := by decide +kernel
theorem dL_law_334 : decode code 334 = .ok (.iadd, 1) := by decide +kernel
theorem dL_law_335 : decode code 335 = .ok (.iaload, 1) := by decide +kernel
theorem dL_law_336 : decode code 336 = .ok (.invokevirtual 39, 3) := by decide +kernel
theorem dL_law_339 : decode code 339 = .ok (.if_icmp .eq 1123, 3) := by decide +kernel
set_option maxHeartbeats 4000000 in
set_option maxRecDepth 20000 in
theorem law_override {E : EnT} {nm : String} {lay : LyT} {r : RfT} {h : HpT} {c b b0 L N : Nat} {sx : Int → Int} {i : Int} (hX : ScE E b0 L sx) (hi : 0 ≤ i ∧ i + 4 ≤ L) (hL : L ≤ 2048) (hcb : b = c + 101) (hLI : LI lay c b i r h) (K : ∀ r' h', LI lay c b (i + 4) r' h' → St E (mL_law nm) 1462 [some (.ref b0), some (.ref c), some (.ref b), some (vI i)] [] (122, 20801) N lay r' h') : St E (mL_law nm) 311 [some (.ref b0), some (.ref c), some (.ref b), some (vI i)] [] (122, 20801) N lay r h := by
  obtain ⟨q, n, tx, ep, km, mp, F, ux, sz, ho, sn, row, hI, hM, hle⟩ := hLI
  have hP0 := hI.2.2.2.2.2.1 0 (by omega) (by omega) (by have := hI.2.2.2.2.1.2.1; omega)
  rw [hI.2.2.2.2.2.2.1.1] at hP0
  have hT := hP0.1
  have hR := hP0.2.1
  have hep := hI.2.2.2.2.1
  have cl0 : lay c = (8, 0) := hI.1.1
  obtain ⟨a1, ha1⟩ : ∃ z, sx (i + 1) = z := ⟨_, rfl⟩
  have g1 := sc_rng hX (i + 1)
  rw [ha1] at g1
  obtain ⟨a2, ha2⟩ : ∃ z, sx (i + 2) = z := ⟨_, rfl⟩
  have g2 := sc_rng hX (i + 2)
  rw [ha2] at g2
  by_cases hc : (0 ≤ a1 ∧ a1 ≤ mp 135 - 1) ∧ (0 ≤ a2 ∧ a2 ≤ 3)
  · by_cases hw : a2 < 3
    · refine r_aload_1 (pc := 311) dL_law_311 ?_
      refine r_aload_0 (pc := 312) dL_law_312 ?_
      refine r_iload_3 (pc := 313) dL_law_313 ?_
      refine r_iconst (pc := 314) dL_law_314 ?_
      refine r_iadd (pc := 315) dL_law_315 ?_
      refine r_sld (pc := 316) hX dL_law_316 (by omega) (by omega) (fun i_316 => ?_)
      rw [ha1]
      refine r_aload_0 (pc := 317) dL_law_317 ?_
      refine r_iload_3 (pc := 318) dL_law_318 ?_
      refine r_iconst (pc := 319) dL_law_319 ?_
      refine r_iadd (pc := 320) dL_law_320 ?_
      refine r_sld (pc := 321) hX dL_law_321 (by omega) (by omega) (fun i_321 => ?_)
      rw [ha2]
      refine k_VI2 (pc := 322) c_X7_override lk_L_36 ⟨(Nat.le_of_ble_eq_true rfl), (Nat.le_of_ble_eq_true rfl)⟩ ⟨rfl, rfl⟩ ⟨(Nat.le_of_ble_eq_true rfl), (Nat.le_of_ble_eq_true rfl)⟩ (k := 7) rfl (by decide) cl0 dL_law_322 (Nat.le_of_ble_eq_true rfl) ?_
      refine ⟨c, q, n, tx, ep, km, mp, F, ux, sz, ho, sn, row, a1, a2, rfl, hI, g1, g2, fun z => absurd hc z, fun _ => ⟨fun _ => ?_, fun z => by omega⟩⟩
      have hM2 := hM
      obtain ⟨hMd2, ⟨e0, e5, e17, e19⟩, ⟨e1, e2, e12, e14, e15, e17r⟩, hWa2, hz2, hkp2, hes2⟩ := id hM2
      refine r_aload_2 (pc := 325) dL_law_325 ?_
      refine r_aload_0 (pc := 326) dL_law_326 ?_
      refine r_iload_3 (pc := 327) dL_law_327 ?_
      refine r_iconst (pc := 328) dL_law_328 ?_
      refine r_iadd (pc := 329) dL_law_329 ?_
      refine r_sld (pc := 330) hX dL_law_330 (by omega) (by omega) (fun i_330 => ?_)
      rw [ha1]
      refine r_aload_0 (pc := 331) dL_law_331 ?_
      refine r_iload_3 (pc := 332) dL_law_332 ?_
      refine r_iconst (pc := 333) dL_law_333 ?_
      refine r_iadd (pc := 334) dL_law_334 ?_
      refine r_sld (pc := 335) hX dL_law_335 (by omega) (by omega) (fun i_335 => ?_)
      rw [ha2]
      refine k_VI2 (pc := 336) c_X8_override lk_L_39 ⟨(Nat.le_of_ble_eq_true rfl), (Nat.le_of_ble_eq_true rfl)⟩ ⟨rfl, rfl⟩ ⟨(Nat.le_of_ble_eq_true rfl), (Nat.le_of_ble_eq_true rfl)⟩ (k := 8) rfl (by decide) hMd2.1 dL_law_336 (Nat.le_of_ble_eq_true rfl) ?_
      refine ⟨b, mp, a1, a2, rfl, hMd2, e2, hT, hR, g1, g2, hWa2, fun z => absurd hc z, fun _ => ⟨fun _ => ?_, fun z => by omega⟩⟩
      refine r_same (pc := 339) (tgt := 1462) (by first | rfl | (simp only [e0, e5, e17, e19, e1, e2, e12, e14, e15, e17r])) dL_law_339 (by decide) ?_
      exact K r h ⟨q, n, tx, ep, km, mp, F, ux, sz, ho, sn, row, hI, hM2, by omega⟩
    · refine r_aload_1 (pc := 311) dL_law_311 ?_
      refine r_aload_0 (pc := 312) dL_law_312 ?_
      refine r_iload_3 (pc := 313) dL_law_313 ?_
      refine r_iconst (pc := 314) dL_law_314 ?_
      refine r_iadd (pc := 315) dL_law_315 ?_
      refine r_sld (pc := 316) hX dL_law_316 (by omega) (by omega) (fun i_316 => ?_)
      rw [ha1]
      refine r_aload_0 (pc := 317) dL_law_317 ?_
      refine r_iload_3 (pc := 318) dL_law_318 ?_
      refine r_iconst (pc := 319) dL_law_319 ?_
      refine r_iadd (pc := 320) dL_law_320 ?_
      refine r_sld (pc := 321) hX dL_law_321 (by omega) (by omega) (fun i_321 => ?_)
      rw [ha2]
      refine k_VI2 (pc := 322) c_X7_override lk_L_36 ⟨(Nat.le_of_ble_eq_true rfl), (Nat.le_of_ble_eq_true rfl)⟩ ⟨rfl, rfl⟩ ⟨(Nat.le_of_ble_eq_true rfl), (Nat.le_of_ble_eq_true rfl)⟩ (k := 7) rfl (by decide) cl0 dL_law_322 (Nat.le_of_ble_eq_true rfl) ?_
      refine ⟨c, q, n, tx, ep, km, mp, F, ux, sz, ho, sn, row, a1, a2, rfl, hI, g1, g2, fun z => absurd hc z, fun _ => ⟨fun z => absurd z hw, fun _ => ?_⟩⟩
      have hM2 := hM
      obtain ⟨hMd2, ⟨e0, e5, e17, e19⟩, ⟨e1, e2, e12, e14, e15, e17r⟩, hWa2, hz2, hkp2, hes2⟩ := id hM2
      refine r_aload_2 (pc := 325) dL_law_325 ?_
      refine r_aload_0 (pc := 326) dL_law_326 ?_
      refine r_iload_3 (pc := 327) dL_law_327 ?_
      refine r_iconst (pc := 328) dL_law_328 ?_
      refine r_iadd (pc := 329) dL_law_329 ?_
      refine r_sld (pc := 330) hX dL_law_330 (by omega) (by omega) (fun i_330 => ?_)
      rw [ha1]
      refine r_aload_0 (pc := 331) dL_law_331 ?_
      refine r_iload_3 (pc := 332) dL_law_332 ?_
      refine r_iconst (pc := 333) dL_law_333 ?_
      refine r_iadd (pc := 334) dL_law_334 ?_
      refine r_sld (pc := 335) hX dL_law_335 (by omega) (by omega) (fun i_335 => ?_)
      rw [ha2]
      refine k_VI2 (pc := 336) c_X8_override lk_L_39 ⟨(Nat.le_of_ble_eq_true rfl), (Nat.le_of_ble_eq_true rfl)⟩ ⟨rfl, rfl⟩ ⟨(Nat.le_of_ble_eq_true rfl), (Nat.le_of_ble_eq_true rfl)⟩ (k := 8) rfl (by decide) hMd2.1 dL_law_336 (Nat.le_of_ble_eq_true rfl) ?_
      refine ⟨b, mp, a1, a2, rfl, hMd2, e2, hT, hR, g1, g2, hWa2, fun z => absurd hc z, fun _ => ⟨fun z => absurd z hw, fun _ h3 f3 => ?_⟩⟩
      refine r_same (pc := 339) (tgt := 1462) (by first | rfl | (simp only [e0, e5, e17, e19, e1, e2, e12, e14, e15, e17r])) dL_law_339 (by decide) ?_
      exact K r h3 ⟨q, n, tx, ep, km, mp, F, ux, sz, ho, sn, row, hI.fr (fun x x0 x1 => f3 x (by omega)), hM2.s (fun j hj => by rw [f3 _ (by omega)]) (fun x x0 x1 hx => f3 x (by omega)), by omega⟩
  · refine r_aload_1 (pc := 311) dL_law_311 ?_
    refine r_aload_0 (pc := 312) dL_law_312 ?_
    refine r_iload_3 (pc := 313) dL_law_313 ?_
    refine r_iconst (pc := 314) dL_law_314 ?_
    refine r_iadd (pc := 315) dL_law_315 ?_
    refine r_sld (pc := 316) hX dL_law_316 (by omega) (by omega) (fun i_316 => ?_)
    rw [ha1]
    refine r_aload_0 (pc := 317) dL_law_317 ?_
    refine r_iload_3 (pc := 318) dL_law_318 ?_
    refine r_iconst (pc := 319) dL_law_319 ?_
    refine r_iadd (pc := 320) dL_law_320 ?_
    refine r_sld (pc := 321) hX dL_law_321 (by omega) (by omega) (fun i_321 => ?_)
    rw [ha2]
    refine k_VI2 (pc := 322) c_X7_override lk_L_36 ⟨(Nat.le_of_ble_eq_true rfl), (Nat.le_of_ble_eq_true rfl)⟩ ⟨rfl, rfl⟩ ⟨(Nat.le_of_ble_eq_true rfl), (Nat.le_of_ble_eq_true rfl)⟩ (k := 7) rfl (by decide) cl0 dL_law_322 (Nat.le_of_ble_eq_true rfl) ?_
    refine ⟨c, q, n, tx, ep, km, mp, F, ux, sz, ho, sn, row, a1, a2, rfl, hI, g1, g2, fun _ => ?_, fun z => absurd z hc⟩
    have hM2 := hM
    obtain ⟨hMd2, ⟨e0, e5, e17, e19⟩, ⟨e1, e2, e12, e14, e15, e17r⟩, hWa2, hz2, hkp2, hes2⟩ := id hM2
    refine r_aload_2 (pc := 325) dL_law_325 ?_
    refine r_aload_0 (pc := 326) dL_law_326 ?_
    refine r_iload_3 (pc := 327) dL_law_327 ?_
    refine r_iconst (pc := 328) dL_law_328 ?_
    refine r_iadd (pc := 329) dL_law_329 ?_
    refine r_sld (pc := 330) hX dL_law_330 (by omega) (by omega) (fun i_330 => ?_)
    rw [ha1]
    refine r_aload_0 (pc := 331) dL_law_331 ?_
    refine r_iload_3 (pc := 332) dL_law_332 ?_
    refine r_iconst (pc := 333) dL_law_333 ?_
    refine r_iadd (pc := 334) dL_law_334 ?_
    refine r_sld (pc := 335) hX dL_law_335 (by omega) (by omega) (fun i_335 => ?_)
    rw [ha2]
    refine k_VI2 (pc := 336) c_X8_override lk_L_39 ⟨(Nat.le_of_ble_eq_true rfl), (Nat.le_of_ble_eq_true rfl)⟩ ⟨rfl, rfl⟩ ⟨(Nat.le_of_ble_eq_true rfl), (Nat.le_of_ble_eq_true rfl)⟩ (k := 8) rfl (by decide) hMd2.1 dL_law_336 (Nat.le_of_ble_eq_true rfl) ?_
    refine ⟨b, mp, a1, a2, rfl, hMd2, e2, hT, hR, g1, g2, hWa2, fun _ => ?_, fun z => absurd z hc⟩
    refine r_same (pc := 339) (tgt := 1462) (by first | rfl | (simp only [e0, e5, e17, e19, e1, e2, e12, e14, e15, e17r])) dL_law_339 (by decide) ?_
    exact K r h ⟨q, n, tx, ep, km, mp, F, ux, sz, ho, sn, row, hI, hM2, by omega⟩
theorem dL_law_1208 : decode code 1208 = .ok (.aload_n 1, 1) := by decide +kernel
theorem dL_law_1209 : decode code 1209 = .ok (.aload_n 0, 1) := by decide +kernel
theorem dL_law_1210 : decode code 1210 = .ok (.iload_n 3, 1) := by decide +kernel
theorem dL_law_1211 : decode code 1211 = .ok (.iconst 1, 1) := by decide +kernel
theorem dL_law_1212 : decode code 1212 = .ok (.iadd, 1) := by decide +kernel
theorem dL_law_1213 : decode code 1213 = .ok (.iaload, 1) := by decide +kernel
theorem dL_law_1214 : decode code 1214 = .ok (.aload_n 0, 1) := by decide +kernel
theorem dL_law_1215 : decode code 1215 = .ok (.iload_n 3, 1) := by decide +kernel
theorem dL_law_1216 : decode code 1216 = .ok (.iconst 2, 1) := by decide +kernel
theorem dL_law_1217 : decode code 1217 = .ok (.iadd, 1) := by decide +kernel
theorem dL_law_1218 : decode code 1218 = .ok (.iaload, 1) := by decide +kernel
theorem dL_law_1219 : decode code 1219 = .ok (.invokevirtual 153, 3) := by decide +kernel
theorem dL_law_1222 : decode code 1222 = .ok (.aload_n 2, 1) := by decide +kernel
theorem dL_law_1223 : decode code 1223 = .ok (.aload_n 0, 1) := by decide +kernel
theorem dL_law_1224 : decode code 1224 = .ok (.iload_n 3, 1) := by decide +kernel
theorem dL_law_1225 : decode code 1225 = .ok (.iconst 1, 1) := by decide +kernel
theorem dL_law_1226 : decode code 1226 = .ok (.iadd, 1) := by decide +kernel
theorem dL_law_1227 : decode code 1227 = .ok (.iaload, 1) := by decide +kernel
theorem dL_law_1228 : decode code 1228 = .ok (.aload_n 0, 1) := by decide +kernel
theorem dL_law_1229 : decode code 1229 = .ok (.iload_n 3, 1) := by decide +kernel
theorem dL_law_1230 : decode code 1230 = .ok (.iconst 2, 1) := by decide +kernel
theorem dL_law_1231 : decode code 1231 = .ok (.iadd, 1) := by decide +kernel
theorem dL_law_1232 : decode code 1232 = .ok (.iaload, 1) := by decide +kernel
theorem dL_law_1233 : decode code 1233 = .ok (.invokevirtual 156, 3) := by decide +kernel
theorem dL_law_1236 : decode code 1236 = .ok (.if_icmp .eq 226, 3) := by decide +kernel
set_option maxHeartbeats 4000000 in
set_option maxRecDepth 20000 in
theorem law_held {E : EnT} {nm : String} {lay : LyT} {r : RfT} {h : HpT} {c b b0 L N : Nat} {sx : Int → Int} {i : Int} (hX : ScE E b0 L sx) (hi : 0 ≤ i ∧ i + 4 ≤ L) (hL : L ≤ 2048) (hcb : b = c + 101) (hLI : LI lay c b i r h) (K : ∀ r' h', LI lay c b (i + 4) r' h' → St E (mL_law nm) 1462 [some (.ref b0), some (.ref c), some (.ref b), some (vI i)] [] (122, 20801) N lay r' h') : St E (mL_law nm) 1208 [some (.ref b0), some (.ref c), some (.ref b), some (vI i)] [] (122, 20801) N lay r h := by
  obtain ⟨q, n, tx, ep, km, mp, F, ux, sz, ho, sn, row, hI, hM, hle⟩ := hLI
  have hP0 := hI.2.2.2.2.2.1 0 (by omega) (by omega) (by have := hI.2.2.2.2.1.2.1; omega)
  rw [hI.2.2.2.2.2.2.1.1] at hP0
  have hT := hP0.1
  have hR := hP0.2.1
  have hep := hI.2.2.2.2.1
  have cl0 : lay c = (8, 0) := hI.1.1
  obtain ⟨a1, ha1⟩ : ∃ z, sx (i + 1) = z := ⟨_, rfl⟩
  have g1 := sc_rng hX (i + 1)
  rw [ha1] at g1
  obtain ⟨a2, ha2⟩ : ∃ z, sx (i + 2) = z := ⟨_, rfl⟩
  have g2 := sc_rng hX (i + 2)
  rw [ha2] at g2
  by_cases hc : (0 ≤ a1 ∧ a1 < 16) ∧ (0 ≤ a2 ∧ a2 ≤ 2)
  · rcases (show a2 = 0 ∨ a2 = 1 ∨ a2 = 2 by omega) with hv | hv | hv
    · refine r_aload_1 (pc := 1208) dL_law_1208 ?_
      refine r_aload_0 (pc := 1209) dL_law_1209 ?_
      refine r_iload_3 (pc := 1210) dL_law_1210 ?_
      refine r_iconst (pc := 1211) dL_law_1211 ?_
      refine r_iadd (pc := 1212) dL_law_1212 ?_
      refine r_sld (pc := 1213) hX dL_law_1213 (by omega) (by omega) (fun i_1213 => ?_)
      rw [ha1]
      refine r_aload_0 (pc := 1214) dL_law_1214 ?_
      refine r_iload_3 (pc := 1215) dL_law_1215 ?_
      refine r_iconst (pc := 1216) dL_law_1216 ?_
      refine r_iadd (pc := 1217) dL_law_1217 ?_
      refine r_sld (pc := 1218) hX dL_law_1218 (by omega) (by omega) (fun i_1218 => ?_)
      rw [ha2]
      refine k_VI2 (pc := 1219) c_X7_held lk_L_153 ⟨(Nat.le_of_ble_eq_true rfl), (Nat.le_of_ble_eq_true rfl)⟩ ⟨rfl, rfl⟩ ⟨(Nat.le_of_ble_eq_true rfl), (Nat.le_of_ble_eq_true rfl)⟩ (k := 7) rfl (by decide) cl0 dL_law_1219 (Nat.le_of_ble_eq_true rfl) ?_
      refine ⟨c, q, n, tx, ep, km, mp, F, ux, sz, ho, sn, row, a1, a2, rfl, hI, g1, g2, fun z => absurd hc z, fun _ => ⟨fun _ => ?_, fun z => by omega, fun z => by omega⟩⟩
      have hM2 := hM
      obtain ⟨hMd2, ⟨e0, e5, e17, e19⟩, ⟨e1, e2, e12, e14, e15, e17r⟩, hWa2, hz2, hkp2, hes2⟩ := id hM2
      refine r_aload_2 (pc := 1222) dL_law_1222 ?_
      refine r_aload_0 (pc := 1223) dL_law_1223 ?_
      refine r_iload_3 (pc := 1224) dL_law_1224 ?_
      refine r_iconst (pc := 1225) dL_law_1225 ?_
      refine r_iadd (pc := 1226) dL_law_1226 ?_
      refine r_sld (pc := 1227) hX dL_law_1227 (by omega) (by omega) (fun i_1227 => ?_)
      rw [ha1]
      refine r_aload_0 (pc := 1228) dL_law_1228 ?_
      refine r_iload_3 (pc := 1229) dL_law_1229 ?_
      refine r_iconst (pc := 1230) dL_law_1230 ?_
      refine r_iadd (pc := 1231) dL_law_1231 ?_
      refine r_sld (pc := 1232) hX dL_law_1232 (by omega) (by omega) (fun i_1232 => ?_)
      rw [ha2]
      refine k_VI2 (pc := 1233) c_X8_held lk_L_156 ⟨(Nat.le_of_ble_eq_true rfl), (Nat.le_of_ble_eq_true rfl)⟩ ⟨rfl, rfl⟩ ⟨(Nat.le_of_ble_eq_true rfl), (Nat.le_of_ble_eq_true rfl)⟩ (k := 8) rfl (by decide) hMd2.1 dL_law_1233 (Nat.le_of_ble_eq_true rfl) ?_
      refine ⟨b, mp, a1, a2, rfl, hMd2, e2, hT, hR, g1, g2, fun z => absurd hc z, fun _ => ⟨fun _ => ?_, fun z => by omega, fun z => by omega⟩⟩
      refine r_same (pc := 1236) (tgt := 1462) (by first | rfl | (simp only [e0, e5, e17, e19, e1, e2, e12, e14, e15, e17r])) dL_law_1236 (by decide) ?_
      exact K r h ⟨q, n, tx, ep, km, mp, F, ux, sz, ho, sn, row, hI, hM2, by omega⟩
    · refine r_aload_1 (pc := 1208) dL_law_1208 ?_
      refine r_aload_0 (pc := 1209) dL_law_1209 ?_
      refine r_iload_3 (pc := 1210) dL_law_1210 ?_
      refine r_iconst (pc := 1211) dL_law_1211 ?_
      refine r_iadd (pc := 1212) dL_law_1212 ?_
      refine r_sld (pc := 1213) hX dL_law_1213 (by omega) (by omega) (fun i_1213 => ?_)
      rw [ha1]
      refine r_aload_0 (pc := 1214) dL_law_1214 ?_
      refine r_iload_3 (pc := 1215) dL_law_1215 ?_
      refine r_iconst (pc := 1216) dL_law_1216 ?_
      refine r_iadd (pc := 1217) dL_law_1217 ?_
      refine r_sld (pc := 1218) hX dL_law_1218 (by omega) (by omega) (fun i_1218 => ?_)
      rw [ha2]
      refine k_VI2 (pc := 1219) c_X7_held lk_L_153 ⟨(Nat.le_of_ble_eq_true rfl), (Nat.le_of_ble_eq_true rfl)⟩ ⟨rfl, rfl⟩ ⟨(Nat.le_of_ble_eq_true rfl), (Nat.le_of_ble_eq_true rfl)⟩ (k := 7) rfl (by decide) cl0 dL_law_1219 (Nat.le_of_ble_eq_true rfl) ?_
      refine ⟨c, q, n, tx, ep, km, mp, F, ux, sz, ho, sn, row, a1, a2, rfl, hI, g1, g2, fun z => absurd hc z, fun _ => ⟨fun z => by omega, fun _ => ?_, fun z => by omega⟩⟩
      have hM2 := hM
      obtain ⟨hMd2, ⟨e0, e5, e17, e19⟩, ⟨e1, e2, e12, e14, e15, e17r⟩, hWa2, hz2, hkp2, hes2⟩ := id hM2
      refine r_aload_2 (pc := 1222) dL_law_1222 ?_
      refine r_aload_0 (pc := 1223) dL_law_1223 ?_
      refine r_iload_3 (pc := 1224) dL_law_1224 ?_
      refine r_iconst (pc := 1225) dL_law_1225 ?_
      refine r_iadd (pc := 1226) dL_law_1226 ?_
      refine r_sld (pc := 1227) hX dL_law_1227 (by omega) (by omega) (fun i_1227 => ?_)
      rw [ha1]
      refine r_aload_0 (pc := 1228) dL_law_1228 ?_
      refine r_iload_3 (pc := 1229) dL_law_1229 ?_
      refine r_iconst (pc := 1230) dL_law_1230 ?_
      refine r_iadd (pc := 1231) dL_law_1231 ?_
      refine r_sld (pc := 1232) hX dL_law_1232 (by omega) (by omega) (fun i_1232 => ?_)
      rw [ha2]
      refine k_VI2 (pc := 1233) c_X8_held lk_L_156 ⟨(Nat.le_of_ble_eq_true rfl), (Nat.le_of_ble_eq_true rfl)⟩ ⟨rfl, rfl⟩ ⟨(Nat.le_of_ble_eq_true rfl), (Nat.le_of_ble_eq_true rfl)⟩ (k := 8) rfl (by decide) hMd2.1 dL_law_1233 (Nat.le_of_ble_eq_true rfl) ?_
      refine ⟨b, mp, a1, a2, rfl, hMd2, e2, hT, hR, g1, g2, fun z => absurd hc z, fun _ => ⟨fun z => by omega, fun _ => ?_, fun z => by omega⟩⟩
      refine r_same (pc := 1236) (tgt := 1462) (by first | rfl | (simp only [e0, e5, e17, e19, e1, e2, e12, e14, e15, e17r])) dL_law_1236 (by decide) ?_
      exact K r h ⟨q, n, tx, ep, km, mp, F, ux, sz, ho, sn, row, hI, hM2, by omega⟩
    · refine r_aload_1 (pc := 1208) dL_law_1208 ?_
      refine r_aload_0 (pc := 1209) dL_law_1209 ?_
      refine r_iload_3 (pc := 1210) dL_law_1210 ?_
      refine r_iconst (pc := 1211) dL_law_1211 ?_
      refine r_iadd (pc := 1212) dL_law_1212 ?_
      refine r_sld (pc := 1213) hX dL_law_1213 (by omega) (by omega) (fun i_1213 => ?_)
      rw [ha1]
      refine r_aload_0 (pc := 1214) dL_law_1214 ?_
      refine r_iload_3 (pc := 1215) dL_law_1215 ?_
      refine r_iconst (pc := 1216) dL_law_1216 ?_
      refine r_iadd (pc := 1217) dL_law_1217 ?_
      refine r_sld (pc := 1218) hX dL_law_1218 (by omega) (by omega) (fun i_1218 => ?_)
      rw [ha2]
      refine k_VI2 (pc := 1219) c_X7_held lk_L_153 ⟨(Nat.le_of_ble_eq_true rfl), (Nat.le_of_ble_eq_true rfl)⟩ ⟨rfl, rfl⟩ ⟨(Nat.le_of_ble_eq_true rfl), (Nat.le_of_ble_eq_true rfl)⟩ (k := 7) rfl (by decide) cl0 dL_law_1219 (Nat.le_of_ble_eq_true rfl) ?_
      refine ⟨c, q, n, tx, ep, km, mp, F, ux, sz, ho, sn, row, a1, a2, rfl, hI, g1, g2, fun z => absurd hc z, fun _ => ⟨fun z => by omega, fun z => by omega, fun _ => ?_⟩⟩
      have hM2 := hM
      obtain ⟨hMd2, ⟨e0, e5, e17, e19⟩, ⟨e1, e2, e12, e14, e15, e17r⟩, hWa2, hz2, hkp2, hes2⟩ := id hM2
      refine r_aload_2 (pc := 1222) dL_law_1222 ?_
      refine r_aload_0 (pc := 1223) dL_law_1223 ?_
      refine r_iload_3 (pc := 1224) dL_law_1224 ?_
      refine r_iconst (pc := 1225) dL_law_1225 ?_
      refine r_iadd (pc := 1226) dL_law_1226 ?_
      refine r_sld (pc := 1227) hX dL_law_1227 (by omega) (by omega) (fun i_1227 => ?_)
      rw [ha1]
      refine r_aload_0 (pc := 1228) dL_law_1228 ?_
      refine r_iload_3 (pc := 1229) dL_law_1229 ?_
      refine r_iconst (pc := 1230) dL_law_1230 ?_
      refine r_iadd (pc := 1231) dL_law_1231 ?_
      refine r_sld (pc := 1232) hX dL_law_1232 (by omega) (by omega) (fun i_1232 => ?_)
      rw [ha2]
      refine k_VI2 (pc := 1233) c_X8_held lk_L_156 ⟨(Nat.le_of_ble_eq_true rfl), (Nat.le_of_ble_eq_true rfl)⟩ ⟨rfl, rfl⟩ ⟨(Nat.le_of_ble_eq_true rfl), (Nat.le_of_ble_eq_true rfl)⟩ (k := 8) rfl (by decide) hMd2.1 dL_law_1233 (Nat.le_of_ble_eq_true rfl) ?_
      refine ⟨b, mp, a1, a2, rfl, hMd2, e2, hT, hR, g1, g2, fun z => absurd hc z, fun _ => ⟨fun z => by omega, fun z => by omega, fun _ => ?_⟩⟩
      refine r_same (pc := 1236) (tgt := 1462) (by first | rfl | (simp only [e0, e5, e17, e19, e1, e2, e12, e14, e15, e17r])) dL_law_1236 (by decide) ?_
      exact K r h ⟨q, n, tx, ep, km, mp, F, ux, sz, ho, sn, row, hI, hM2, by omega⟩
  · refine r_aload_1 (pc := 1208) dL_law_1208 ?_
    refine r_aload_0 (pc := 1209) dL_law_1209 ?_
    refine r_iload_3 (pc := 1210) dL_law_1210 ?_
    refine r_iconst (pc := 1211) dL_law_1211 ?_
    refine r_iadd (pc := 1212) dL_law_1212 ?_
    refine r_sld (pc := 1213) hX dL_law_1213 (by omega) (by omega) (fun i_1213 => ?_)
    rw [ha1]
    refine r_aload_0 (pc := 1214) dL_law_1214 ?_
    refine r_iload_3 (pc := 1215) dL_law_1215 ?_
    refine r_iconst (pc := 1216) dL_law_1216 ?_
    refine r_iadd (pc := 1217) dL_law_1217 ?_
    refine r_sld (pc := 1218) hX dL_law_1218 (by omega) (by omega) (fun i_1218 => ?_)
    rw [ha2]
    refine k_VI2 (pc := 1219) c_X7_held lk_L_153 ⟨(Nat.le_of_ble_eq_true rfl), (Nat.le_of_ble_eq_true rfl)⟩ ⟨rfl, rfl⟩ ⟨(Nat.le_of_ble_eq_true rfl), (Nat.le_of_ble_eq_true rfl)⟩ (k := 7) rfl (by decide) cl0 dL_law_1219 (Nat.le_of_ble_eq_true rfl) ?_
    refine ⟨c, q, n, tx, ep, km, mp, F, ux, sz, ho, sn, row, a1, a2, rfl, hI, g1, g2, fun _ => ?_, fun z => absurd z hc⟩
    have hM2 := hM
    obtain ⟨hMd2, ⟨e0, e5, e17, e19⟩, ⟨e1, e2, e12, e14, e15, e17r⟩, hWa2, hz2, hkp2, hes2⟩ := id hM2
    refine r_aload_2 (pc := 1222) dL_law_1222 ?_
    refine r_aload_0 (pc := 1223) dL_law_1223 ?_
    refine r_iload_3 (pc := 1224) dL_law_1224 ?_
    refine r_iconst (pc := 1225) dL_law_1225 ?_
    refine r_iadd (pc := 1226) dL_law_1226 ?_
    refine r_sld (pc := 1227) hX dL_law_1227 (by omega) (by omega) (fun i_1227 => ?_)
    rw [ha1]
    refine r_aload_0 (pc := 1228) dL_law_1228 ?_
    refine r_iload_3 (pc := 1229) dL_law_1229 ?_
    refine r_iconst (pc := 1230) dL_law_1230 ?_
    refine r_iadd (pc := 1231) dL_law_1231 ?_
    refine r_sld (pc := 1232) hX dL_law_1232 (by omega) (by omega) (fun i_1232 => ?_)
    rw [ha2]
    refine k_VI2 (pc := 1233) c_X8_held lk_L_156 ⟨(Nat.le_of_ble_eq_true rfl), (Nat.le_of_ble_eq_true rfl)⟩ ⟨rfl, rfl⟩ ⟨(Nat.le_of_ble_eq_true rfl), (Nat.le_of_ble_eq_true rfl)⟩ (k := 8) rfl (by decide) hMd2.1 dL_law_1233 (Nat.le_of_ble_eq_true rfl) ?_
    refine ⟨b, mp, a1, a2, rfl, hMd2, e2, hT, hR, g1, g2, fun _ => ?_, fun z => absurd z hc⟩
    refine r_same (pc := 1236) (tgt := 1462) (by first | rfl | (simp only [e0, e5, e17, e19, e1, e2, e12, e14, e15, e17r])) dL_law_1236 (by decide) ?_
    exact K r h ⟨q, n, tx, ep, km, mp, F, ux, sz, ho, sn, row, hI, hM2, by omega⟩
theorem dL_law_1241 : decode code 1241 = .ok (.aload_n 1, 1) := by decide +kernel
theorem dL_law_1242 : decode code 1242 = .ok (.aload_n 0, 1) := by decide +kernel
theorem dL_law_1243 : decode code 1243 = .ok (.iload_n 3, 1) := by decide +kernel
theorem dL_law_1244 : decode code 1244 = .ok (.iconst 1, 1) := by decide +kernel
theorem dL_law_1245 : decode code 1245 = .ok (.iadd, 1) := by decide +kernel
theorem dL_law_1246 : decode code 1246 = .ok (.iaload, 1) := by decide +kernel
theorem dL_law_1247 : decode code 1247 = .ok (.aload_n 0, 1) := by decide +kernel
theorem dL_law_1248 : decode code 1248 = .ok (.iload_n 3, 1) := by decide +kernel
theorem dL_law_1249 : decode code 1249 = .ok (.iconst 2, 1) := by decide +kernel
theorem dL_law_1250 : decode code 1250 = .ok (.iadd, 1) := by decide +kernel
theorem dL_law_1251 : decode code 1251 = .ok (.iaload, 1) := by decide +kernel
theorem dL_law_1252 : decode code 1252 = .ok (.invokevirtual 157, 3) := by decide +kernel
theorem dL_law_1255 : decode code 1255 = .ok (.aload_n 2, 1) := by decide +kernel
theorem dL_law_1256 : decode code 1256 = .ok (.aload_n 0, 1) := by decide +kernel
theorem dL_law_1257 : decode code 1257 = .ok (.iload_n 3, 1) := by decide +kernel
theorem dL_law_1258 : decode code 1258 = .ok (.iconst 1, 1) := by decide +kernel
theorem dL_law_1259 : decode code 1259 = .ok (.iadd, 1) := by decide +kernel
theorem dL_law_1260 : decode code 1260 = .ok (.iaload, 1) := by decide +kernel
theorem dL_law_1261 : decode code 1261 = .ok (.aload_n 0, 1) := by decide +kernel
theorem dL_law_1262 : decode code 1262 = .ok (.iload_n 3, 1) := by decide +kernel
theorem dL_law_1263 : decode code 1263 = .ok (.iconst 2, 1) := by decide +kernel
theorem dL_law_1264 : decode code 1264 = .ok (.iadd, 1) := by decide +kernel
theorem dL_law_1265 : decode code 1265 = .ok (.iaload, 1) := by decide +kernel
theorem dL_law_1266 : decode code 1266 = .ok (.invokevirtual 160, 3) := by decide +kernel
theorem dL_law_1269 : decode code 1269 = .ok (.if_icmp .eq 193, 3) := by decide +kernel
set_option maxHeartbeats 4000000 in
set_option maxRecDepth 20000 in
theorem law_load {E : EnT} {nm : String} {lay : LyT} {r : RfT} {h : HpT} {c b b0 L N : Nat} {sx : Int → Int} {i : Int} (hX : ScE E b0 L sx) (hi : 0 ≤ i ∧ i + 4 ≤ L) (hL : L ≤ 2048) (hcb : b = c + 101) (hLI : LI lay c b i r h) (K : ∀ r' h', LI lay c b (i + 4) r' h' → St E (mL_law nm) 1462 [some (.ref b0), some (.ref c), some (.ref b), some (vI i)] [] (122, 20801) N lay r' h') : St E (mL_law nm) 1241 [some (.ref b0), some (.ref c), some (.ref b), some (vI i)] [] (122, 20801) N lay r h := by
  obtain ⟨q, n, tx, ep, km, mp, F, ux, sz, ho, sn, row, hI, hM, hle⟩ := hLI
  have hP0 := hI.2.2.2.2.2.1 0 (by omega) (by omega) (by have := hI.2.2.2.2.1.2.1; omega)
  rw [hI.2.2.2.2.2.2.1.1] at hP0
  have hT := hP0.1
  have hR := hP0.2.1
  have hep := hI.2.2.2.2.1
  have cl0 : lay c = (8, 0) := hI.1.1
  obtain ⟨a1, ha1⟩ : ∃ z, sx (i + 1) = z := ⟨_, rfl⟩
  have g1 := sc_rng hX (i + 1)
  rw [ha1] at g1
  obtain ⟨a2, ha2⟩ : ∃ z, sx (i + 2) = z := ⟨_, rfl⟩
  have g2 := sc_rng hX (i + 2)
  rw [ha2] at g2
  by_cases hc : (10 ≤ a1 ∧ a1 ≤ 9 + mp 130) ∧ (0 ≤ a2 ∧ a2 ≤ 1)
  · rcases (show a2 = 0 ∨ a2 = 1 by omega) with hv | hv
    · refine r_aload_1 (pc := 1241) dL_law_1241 ?_
      refine r_aload_0 (pc := 1242) dL_law_1242 ?_
      refine r_iload_3 (pc := 1243) dL_law_1243 ?_
      refine r_iconst (pc := 1244) dL_law_1244 ?_
      refine r_iadd (pc := 1245) dL_law_1245 ?_
      refine r_sld (pc := 1246) hX dL_law_1246 (by omega) (by omega) (fun i_1246 => ?_)
      rw [ha1]
      refine r_aload_0 (pc := 1247) dL_law_1247 ?_
      refine r_iload_3 (pc := 1248) dL_law_1248 ?_
      refine r_iconst (pc := 1249) dL_law_1249 ?_
      refine r_iadd (pc := 1250) dL_law_1250 ?_
      refine r_sld (pc := 1251) hX dL_law_1251 (by omega) (by omega) (fun i_1251 => ?_)
      rw [ha2]
      refine k_VI2 (pc := 1252) c_X7_load lk_L_157 ⟨(Nat.le_of_ble_eq_true rfl), (Nat.le_of_ble_eq_true rfl)⟩ ⟨rfl, rfl⟩ ⟨(Nat.le_of_ble_eq_true rfl), (Nat.le_of_ble_eq_true rfl)⟩ (k := 7) rfl (by decide) cl0 dL_law_1252 (Nat.le_of_ble_eq_true rfl) ?_
      refine ⟨c, q, n, tx, ep, km, mp, F, ux, sz, ho, sn, row, a1, a2, rfl, hI, g1, g2, fun z => absurd hc z, fun _ => ⟨fun _ => ?_, fun z => by omega⟩⟩
      have hM2 := hM
      obtain ⟨hMd2, ⟨e0, e5, e17, e19⟩, ⟨e1, e2, e12, e14, e15, e17r⟩, hWa2, hz2, hkp2, hes2⟩ := id hM2
      refine r_aload_2 (pc := 1255) dL_law_1255 ?_
      refine r_aload_0 (pc := 1256) dL_law_1256 ?_
      refine r_iload_3 (pc := 1257) dL_law_1257 ?_
      refine r_iconst (pc := 1258) dL_law_1258 ?_
      refine r_iadd (pc := 1259) dL_law_1259 ?_
      refine r_sld (pc := 1260) hX dL_law_1260 (by omega) (by omega) (fun i_1260 => ?_)
      rw [ha1]
      refine r_aload_0 (pc := 1261) dL_law_1261 ?_
      refine r_iload_3 (pc := 1262) dL_law_1262 ?_
      refine r_iconst (pc := 1263) dL_law_1263 ?_
      refine r_iadd (pc := 1264) dL_law_1264 ?_
      refine r_sld (pc := 1265) hX dL_law_1265 (by omega) (by omega) (fun i_1265 => ?_)
      rw [ha2]
      refine k_VI2 (pc := 1266) c_X8_load lk_L_160 ⟨(Nat.le_of_ble_eq_true rfl), (Nat.le_of_ble_eq_true rfl)⟩ ⟨rfl, rfl⟩ ⟨(Nat.le_of_ble_eq_true rfl), (Nat.le_of_ble_eq_true rfl)⟩ (k := 8) rfl (by decide) hMd2.1 dL_law_1266 (Nat.le_of_ble_eq_true rfl) ?_
      refine ⟨b, mp, a1, a2, rfl, hMd2, e2, hT, hR, g1, g2, fun z => absurd hc z, fun _ => ⟨fun _ => ?_, fun z => by omega⟩⟩
      refine r_same (pc := 1269) (tgt := 1462) (by first | rfl | (simp only [e0, e5, e17, e19, e1, e2, e12, e14, e15, e17r])) dL_law_1269 (by decide) ?_
      exact K r h ⟨q, n, tx, ep, km, mp, F, ux, sz, ho, sn, row, hI, hM2, by omega⟩
    · refine r_aload_1 (pc := 1241) dL_law_1241 ?_
      refine r_aload_0 (pc := 1242) dL_law_1242 ?_
      refine r_iload_3 (pc := 1243) dL_law_1243 ?_
      refine r_iconst (pc := 1244) dL_law_1244 ?_
      refine r_iadd (pc := 1245) dL_law_1245 ?_
      refine r_sld (pc := 1246) hX dL_law_1246 (by omega) (by omega) (fun i_1246 => ?_)
      rw [ha1]
      refine r_aload_0 (pc := 1247) dL_law_1247 ?_
      refine r_iload_3 (pc := 1248) dL_law_1248 ?_
      refine r_iconst (pc := 1249) dL_law_1249 ?_
      refine r_iadd (pc := 1250) dL_law_1250 ?_
      refine r_sld (pc := 1251) hX dL_law_1251 (by omega) (by omega) (fun i_1251 => ?_)
      rw [ha2]
      refine k_VI2 (pc := 1252) c_X7_load lk_L_157 ⟨(Nat.le_of_ble_eq_true rfl), (Nat.le_of_ble_eq_true rfl)⟩ ⟨rfl, rfl⟩ ⟨(Nat.le_of_ble_eq_true rfl), (Nat.le_of_ble_eq_true rfl)⟩ (k := 7) rfl (by decide) cl0 dL_law_1252 (Nat.le_of_ble_eq_true rfl) ?_
      refine ⟨c, q, n, tx, ep, km, mp, F, ux, sz, ho, sn, row, a1, a2, rfl, hI, g1, g2, fun z => absurd hc z, fun _ => ⟨fun z => by omega, fun _ => ?_⟩⟩
      have hM2 := hM
      obtain ⟨hMd2, ⟨e0, e5, e17, e19⟩, ⟨e1, e2, e12, e14, e15, e17r⟩, hWa2, hz2, hkp2, hes2⟩ := id hM2
      refine r_aload_2 (pc := 1255) dL_law_1255 ?_
      refine r_aload_0 (pc := 1256) dL_law_1256 ?_
      refine r_iload_3 (pc := 1257) dL_law_1257 ?_
      refine r_iconst (pc := 1258) dL_law_1258 ?_
      refine r_iadd (pc := 1259) dL_law_1259 ?_
      refine r_sld (pc := 1260) hX dL_law_1260 (by omega) (by omega) (fun i_1260 => ?_)
      rw [ha1]
      refine r_aload_0 (pc := 1261) dL_law_1261 ?_
      refine r_iload_3 (pc := 1262) dL_law_1262 ?_
      refine r_iconst (pc := 1263) dL_law_1263 ?_
      refine r_iadd (pc := 1264) dL_law_1264 ?_
      refine r_sld (pc := 1265) hX dL_law_1265 (by omega) (by omega) (fun i_1265 => ?_)
      rw [ha2]
      refine k_VI2 (pc := 1266) c_X8_load lk_L_160 ⟨(Nat.le_of_ble_eq_true rfl), (Nat.le_of_ble_eq_true rfl)⟩ ⟨rfl, rfl⟩ ⟨(Nat.le_of_ble_eq_true rfl), (Nat.le_of_ble_eq_true rfl)⟩ (k := 8) rfl (by decide) hMd2.1 dL_law_1266 (Nat.le_of_ble_eq_true rfl) ?_
      refine ⟨b, mp, a1, a2, rfl, hMd2, e2, hT, hR, g1, g2, fun z => absurd hc z, fun _ => ⟨fun z => by omega, fun _ => ?_⟩⟩
      refine r_same (pc := 1269) (tgt := 1462) (by first | rfl | (simp only [e0, e5, e17, e19, e1, e2, e12, e14, e15, e17r])) dL_law_1269 (by decide) ?_
      exact K r h ⟨q, n, tx, ep, km, mp, F, ux, sz, ho, sn, row, hI, hM2, by omega⟩
  · refine r_aload_1 (pc := 1241) dL_law_1241 ?_
    refine r_aload_0 (pc := 1242) dL_law_1242 ?_
    refine r_iload_3 (pc := 1243) dL_law_1243 ?_
    refine r_iconst (pc := 1244) dL_law_1244 ?_
    refine r_iadd (pc := 1245) dL_law_1245 ?_
    refine r_sld (pc := 1246) hX dL_law_1246 (by omega) (by omega) (fun i_1246 => ?_)
    rw [ha1]
    refine r_aload_0 (pc := 1247) dL_law_1247 ?_
    refine r_iload_3 (pc := 1248) dL_law_1248 ?_
    refine r_iconst (pc := 1249) dL_law_1249 ?_
    refine r_iadd (pc := 1250) dL_law_1250 ?_
    refine r_sld (pc := 1251) hX dL_law_1251 (by omega) (by omega) (fun i_1251 => ?_)
    rw [ha2]
    refine k_VI2 (pc := 1252) c_X7_load lk_L_157 ⟨(Nat.le_of_ble_eq_true rfl), (Nat.le_of_ble_eq_true rfl)⟩ ⟨rfl, rfl⟩ ⟨(Nat.le_of_ble_eq_true rfl), (Nat.le_of_ble_eq_true rfl)⟩ (k := 7) rfl (by decide) cl0 dL_law_1252 (Nat.le_of_ble_eq_true rfl) ?_
    refine ⟨c, q, n, tx, ep, km, mp, F, ux, sz, ho, sn, row, a1, a2, rfl, hI, g1, g2, fun _ => ?_, fun z => absurd z hc⟩
    have hM2 := hM
    obtain ⟨hMd2, ⟨e0, e5, e17, e19⟩, ⟨e1, e2, e12, e14, e15, e17r⟩, hWa2, hz2, hkp2, hes2⟩ := id hM2
    refine r_aload_2 (pc := 1255) dL_law_1255 ?_
    refine r_aload_0 (pc := 1256) dL_law_1256 ?_
    refine r_iload_3 (pc := 1257) dL_law_1257 ?_
    refine r_iconst (pc := 1258) dL_law_1258 ?_
    refine r_iadd (pc := 1259) dL_law_1259 ?_
    refine r_sld (pc := 1260) hX dL_law_1260 (by omega) (by omega) (fun i_1260 => ?_)
    rw [ha1]
    refine r_aload_0 (pc := 1261) dL_law_1261 ?_
    refine r_iload_3 (pc := 1262) dL_law_1262 ?_
    refine r_iconst (pc := 1263) dL_law_1263 ?_
    refine r_iadd (pc := 1264) dL_law_1264 ?_
    refine r_sld (pc := 1265) hX dL_law_1265 (by omega) (by omega) (fun i_1265 => ?_)
    rw [ha2]
    refine k_VI2 (pc := 1266) c_X8_load lk_L_160 ⟨(Nat.le_of_ble_eq_true rfl), (Nat.le_of_ble_eq_true rfl)⟩ ⟨rfl, rfl⟩ ⟨(Nat.le_of_ble_eq_true rfl), (Nat.le_of_ble_eq_true rfl)⟩ (k := 8) rfl (by decide) hMd2.1 dL_law_1266 (Nat.le_of_ble_eq_true rfl) ?_
    refine ⟨b, mp, a1, a2, rfl, hMd2, e2, hT, hR, g1, g2, fun _ => ?_, fun z => absurd z hc⟩
    refine r_same (pc := 1269) (tgt := 1462) (by first | rfl | (simp only [e0, e5, e17, e19, e1, e2, e12, e14, e15, e17r])) dL_law_1269 (by decide) ?_
    exact K r h ⟨q, n, tx, ep, km, mp, F, ux, sz, ho, sn, row, hI, hM2, by omega⟩
theorem dL_law_1274 : decode code 1274 = .ok (.aload_n 1, 1) := by decide +kernel
theorem dL_law_1275 : decode code 1275 = .ok (.aload_n 0, 1) := by decide +kernel
theorem dL_law_1276 : decode code 1276 = .ok (.iload_n 3, 1) := by decide +kernel
theorem dL_law_1277 : decode code 1277 = .ok (.iconst 1, 1) := by decide +kernel
theorem dL_law_1278 : decode code 1278 = .ok (.iadd, 1) := by decide +kernel
theorem dL_law_1279 : decode code 1279 = .ok (.iaload, 1) := by decide +kernel
theorem dL_law_1280 : decode code 1280 = .ok (.aload_n 0, 1) := by decide +kernel
theorem dL_law_1281 : decode code 1281 = .ok (.iload_n 3, 1) := by decide +kernel
theorem dL_law_1282 : decode code 1282 = .ok (.iconst 2, 1) := by decide +kernel
theorem dL_law_1283 : decode code 1283 = .ok (.iadd, 1) := by decide +kernel
theorem dL_law_1284 : decode code 1284 = .ok (.iaload, 1) := by decide +kernel
theorem dL_law_1285 : decode code 1285 = .ok (.invokevirtual 161, 3) := by decide +kernel
theorem dL_law_1288 : decode code 1288 = .ok (.aload_n 2, 1) := by decide +kernel
theorem dL_law_1289 : decode code 1289 = .ok (.aload_n 0, 1) := by decide +kernel
theorem dL_law_1290 : decode code 1290 = .ok (.iload_n 3, 1) := by decide +kernel
theorem dL_law_1291 : decode code 1291 = .ok (.iconst 1, 1) := by decide +kernel
theorem dL_law_1292 : decode code 1292 = .ok (.iadd, 1) := by decide +kernel
theorem dL_law_1293 : decode code 1293 = .ok (.iaload, 1) := by decide +kernel
theorem dL_law_1294 : decode code 1294 = .ok (.aload_n 0, 1) := by decide +kernel
theorem dL_law_1295 : decode code 1295 = .ok (.iload_n 3, 1) := by decide +kernel
theorem dL_law_1296 : decode code 1296 = .ok (.iconst 2, 1) := by decide +kernel
theorem dL_law_1297 : decode code 1297 = .ok (.iadd, 1) := by decide +kernel
theorem dL_law_1298 : decode code 1298 = .ok (.iaload, 1) := by decide +kernel
theorem dL_law_1299 : decode code 1299 = .ok (.invokevirtual 164, 3) := by decide +kernel
theorem dL_law_1302 : decode code 1302 = .ok (.if_icmp .eq 160, 3) := by decide +kernel
set_option maxHeartbeats 4000000 in
set_option maxRecDepth 20000 in
theorem law_loses {E : EnT} {nm : String} {lay : LyT} {r : RfT} {h : HpT} {c b b0 L N : Nat} {sx : Int → Int} {i : Int} (hX : ScE E b0 L sx) (hi : 0 ≤ i ∧ i + 4 ≤ L) (hL : L ≤ 2048) (hcb : b = c + 101) (hLI : LI lay c b i r h) (K : ∀ r' h', LI lay c b (i + 4) r' h' → St E (mL_law nm) 1462 [some (.ref b0), some (.ref c), some (.ref b), some (vI i)] [] (122, 20801) N lay r' h') : St E (mL_law nm) 1274 [some (.ref b0), some (.ref c), some (.ref b), some (vI i)] [] (122, 20801) N lay r h := by
  obtain ⟨q, n, tx, ep, km, mp, F, ux, sz, ho, sn, row, hI, hM, hle⟩ := hLI
  have hP0 := hI.2.2.2.2.2.1 0 (by omega) (by omega) (by have := hI.2.2.2.2.1.2.1; omega)
  rw [hI.2.2.2.2.2.2.1.1] at hP0
  have hT := hP0.1
  have hR := hP0.2.1
  have hep := hI.2.2.2.2.1
  have cl0 : lay c = (8, 0) := hI.1.1
  obtain ⟨a1, ha1⟩ : ∃ z, sx (i + 1) = z := ⟨_, rfl⟩
  have g1 := sc_rng hX (i + 1)
  rw [ha1] at g1
  obtain ⟨a2, ha2⟩ : ∃ z, sx (i + 2) = z := ⟨_, rfl⟩
  have g2 := sc_rng hX (i + 2)
  rw [ha2] at g2
  by_cases hc : isNd mp a1 ∧ isNd mp a2
  · refine r_aload_1 (pc := 1274) dL_law_1274 ?_
    refine r_aload_0 (pc := 1275) dL_law_1275 ?_
    refine r_iload_3 (pc := 1276) dL_law_1276 ?_
    refine r_iconst (pc := 1277) dL_law_1277 ?_
    refine r_iadd (pc := 1278) dL_law_1278 ?_
    refine r_sld (pc := 1279) hX dL_law_1279 (by omega) (by omega) (fun i_1279 => ?_)
    rw [ha1]
    refine r_aload_0 (pc := 1280) dL_law_1280 ?_
    refine r_iload_3 (pc := 1281) dL_law_1281 ?_
    refine r_iconst (pc := 1282) dL_law_1282 ?_
    refine r_iadd (pc := 1283) dL_law_1283 ?_
    refine r_sld (pc := 1284) hX dL_law_1284 (by omega) (by omega) (fun i_1284 => ?_)
    rw [ha2]
    refine k_VI2 (pc := 1285) c_X7_loses lk_L_161 ⟨(Nat.le_of_ble_eq_true rfl), (Nat.le_of_ble_eq_true rfl)⟩ ⟨rfl, rfl⟩ ⟨(Nat.le_of_ble_eq_true rfl), (Nat.le_of_ble_eq_true rfl)⟩ (k := 7) rfl (by decide) cl0 dL_law_1285 (Nat.le_of_ble_eq_true rfl) ?_
    refine ⟨c, q, n, tx, ep, km, mp, F, ux, sz, ho, sn, row, a1, a2, rfl, hI, g1, g2, fun z => absurd hc z, fun _ => ?_⟩
    have hM2 := hM
    obtain ⟨hMd2, ⟨e0, e5, e17, e19⟩, ⟨e1, e2, e12, e14, e15, e17r⟩, hWa2, hz2, hkp2, hes2⟩ := id hM2
    refine r_aload_2 (pc := 1288) dL_law_1288 ?_
    refine r_aload_0 (pc := 1289) dL_law_1289 ?_
    refine r_iload_3 (pc := 1290) dL_law_1290 ?_
    refine r_iconst (pc := 1291) dL_law_1291 ?_
    refine r_iadd (pc := 1292) dL_law_1292 ?_
    refine r_sld (pc := 1293) hX dL_law_1293 (by omega) (by omega) (fun i_1293 => ?_)
    rw [ha1]
    refine r_aload_0 (pc := 1294) dL_law_1294 ?_
    refine r_iload_3 (pc := 1295) dL_law_1295 ?_
    refine r_iconst (pc := 1296) dL_law_1296 ?_
    refine r_iadd (pc := 1297) dL_law_1297 ?_
    refine r_sld (pc := 1298) hX dL_law_1298 (by omega) (by omega) (fun i_1298 => ?_)
    rw [ha2]
    refine k_VI2 (pc := 1299) c_X8_loses lk_L_164 ⟨(Nat.le_of_ble_eq_true rfl), (Nat.le_of_ble_eq_true rfl)⟩ ⟨rfl, rfl⟩ ⟨(Nat.le_of_ble_eq_true rfl), (Nat.le_of_ble_eq_true rfl)⟩ (k := 8) rfl (by decide) hMd2.1 dL_law_1299 (Nat.le_of_ble_eq_true rfl) ?_
    refine ⟨b, mp, a1, a2, rfl, hMd2, e2, hT, hR, g1, g2, fun z => absurd hc z, fun _ => ?_⟩
    refine r_same (pc := 1302) (tgt := 1462) (by first | rfl | (simp only [e0, e5, e17, e19, e1, e2, e12, e14, e15, e17r])) dL_law_1302 (by decide) ?_
    exact K r h ⟨q, n, tx, ep, km, mp, F, ux, sz, ho, sn, row, hI, hM2, by omega⟩
  · refine r_aload_1 (pc := 1274) dL_law_1274 ?_
    refine r_aload_0 (pc := 1275) dL_law_1275 ?_
    refine r_iload_3 (pc := 1276) dL_law_1276 ?_
    refine r_iconst (pc := 1277) dL_law_1277 ?_
    refine r_iadd (pc := 1278) dL_law_1278 ?_
    refine r_sld (pc := 1279) hX dL_law_1279 (by omega) (by omega) (fun i_1279 => ?_)
    rw [ha1]
    refine r_aload_0 (pc := 1280) dL_law_1280 ?_
    refine r_iload_3 (pc := 1281) dL_law_1281 ?_
    refine r_iconst (pc := 1282) dL_law_1282 ?_
    refine r_iadd (pc := 1283) dL_law_1283 ?_
    refine r_sld (pc := 1284) hX dL_law_1284 (by omega) (by omega) (fun i_1284 => ?_)
    rw [ha2]
    refine k_VI2 (pc := 1285) c_X7_loses lk_L_161 ⟨(Nat.le_of_ble_eq_true rfl), (Nat.le_of_ble_eq_true rfl)⟩ ⟨rfl, rfl⟩ ⟨(Nat.le_of_ble_eq_true rfl), (Nat.le_of_ble_eq_true rfl)⟩ (k := 7) rfl (by decide) cl0 dL_law_1285 (Nat.le_of_ble_eq_true rfl) ?_
    refine ⟨c, q, n, tx, ep, km, mp, F, ux, sz, ho, sn, row, a1, a2, rfl, hI, g1, g2, fun _ => ?_, fun z => absurd z hc⟩
    have hM2 := hM
    obtain ⟨hMd2, ⟨e0, e5, e17, e19⟩, ⟨e1, e2, e12, e14, e15, e17r⟩, hWa2, hz2, hkp2, hes2⟩ := id hM2
    refine r_aload_2 (pc := 1288) dL_law_1288 ?_
    refine r_aload_0 (pc := 1289) dL_law_1289 ?_
    refine r_iload_3 (pc := 1290) dL_law_1290 ?_
    refine r_iconst (pc := 1291) dL_law_1291 ?_
    refine r_iadd (pc := 1292) dL_law_1292 ?_
    refine r_sld (pc := 1293) hX dL_law_1293 (by omega) (by omega) (fun i_1293 => ?_)
    rw [ha1]
    refine r_aload_0 (pc := 1294) dL_law_1294 ?_
    refine r_iload_3 (pc := 1295) dL_law_1295 ?_
    refine r_iconst (pc := 1296) dL_law_1296 ?_
    refine r_iadd (pc := 1297) dL_law_1297 ?_
    refine r_sld (pc := 1298) hX dL_law_1298 (by omega) (by omega) (fun i_1298 => ?_)
    rw [ha2]
    refine k_VI2 (pc := 1299) c_X8_loses lk_L_164 ⟨(Nat.le_of_ble_eq_true rfl), (Nat.le_of_ble_eq_true rfl)⟩ ⟨rfl, rfl⟩ ⟨(Nat.le_of_ble_eq_true rfl), (Nat.le_of_ble_eq_true rfl)⟩ (k := 8) rfl (by decide) hMd2.1 dL_law_1299 (Nat.le_of_ble_eq_true rfl) ?_
    refine ⟨b, mp, a1, a2, rfl, hMd2, e2, hT, hR, g1, g2, fun _ => ?_, fun z => absurd z hc⟩
    refine r_same (pc := 1302) (tgt := 1462) (by first | rfl | (simp only [e0, e5, e17, e19, e1, e2, e12, e14, e15, e17r])) dL_law_1302 (by decide) ?_
    exact K r h ⟨q, n, tx, ep, km, mp, F, ux, sz, ho, sn, row, hI, hM2, by omega⟩
theorem dL_law_852 : decode code 852 = .ok (.aload_n 1, 1) := by decide +kernel
theorem dL_law_853 : decode code 853 = .ok (.aload_n 0, 1) := by decide +kernel
theorem dL_law_854 : decode code 854 = .ok (.iload_n 3, 1) := by decide +kernel
theorem dL_law_855 : decode code 855 = .ok (.iconst 1, 1) := by decide +kernel
theorem dL_law_856 : decode code 856 = .ok (.iadd, 1) := by decide +kernel
theorem dL_law_857 : decode code 857 = .ok (.iaload, 1) := by decide +kernel
theorem dL_law_858 : decode code 858 = .ok (.invokevirtual 105, 3) := by decide +kernel
theorem dL_law_861 : decode code 861 = .ok (.aload_n 2, 1) := by decide +kernel
theorem dL_law_862 : decode code 862 = .ok (.aload_n 0, 1) := by decide +kernel
theorem dL_law_863 : decode code 863 = .ok (.iload_n 3, 1) := by decide +kernel
theorem dL_law_864 : decode code 864 = .ok (.iconst 1, 1) := by decide +kernel
theorem dL_law_865 : decode code 865 = .ok (.iadd, 1) := by decide +kernel
theorem dL_law_866 : decode code 866 = .ok (.iaload, 1) := by decide +kernel
theorem dL_law_867 : decode code 867 = .ok (.invokevirtual 108, 3) := by decide +kernel
theorem dL_law_870 : decode code 870 = .ok (.if_icmp .eq 592, 3) := by decide +kernel
set_option maxHeartbeats 4000000 in
set_option maxRecDepth 20000 in
theorem law_groups {E : EnT} {nm : String} {lay : LyT} {r : RfT} {h : HpT} {c b b0 L N : Nat} {sx : Int → Int} {i : Int} (hX : ScE E b0 L sx) (hi : 0 ≤ i ∧ i + 4 ≤ L) (hL : L ≤ 2048) (hcb : b = c + 101) (hLI : LI lay c b i r h) (K : ∀ r' h', LI lay c b (i + 4) r' h' → St E (mL_law nm) 1462 [some (.ref b0), some (.ref c), some (.ref b), some (vI i)] [] (122, 20801) N lay r' h') : St E (mL_law nm) 852 [some (.ref b0), some (.ref c), some (.ref b), some (vI i)] [] (122, 20801) N lay r h := by
  obtain ⟨q, n, tx, ep, km, mp, F, ux, sz, ho, sn, row, hI, hM, hle⟩ := hLI
  have hP0 := hI.2.2.2.2.2.1 0 (by omega) (by omega) (by have := hI.2.2.2.2.1.2.1; omega)
  rw [hI.2.2.2.2.2.2.1.1] at hP0
  have hT := hP0.1
  have hR := hP0.2.1
  have hep := hI.2.2.2.2.1
  have cl0 : lay c = (8, 0) := hI.1.1
  obtain ⟨a1, ha1⟩ : ∃ z, sx (i + 1) = z := ⟨_, rfl⟩
  have g1 := sc_rng hX (i + 1)
  rw [ha1] at g1
  by_cases hc : isNd mp a1
  · refine r_aload_1 (pc := 852) dL_law_852 ?_
    refine r_aload_0 (pc := 853) dL_law_853 ?_
    refine r_iload_3 (pc := 854) dL_law_854 ?_
    refine r_iconst (pc := 855) dL_law_855 ?_
    refine r_iadd (pc := 856) dL_law_856 ?_
    refine r_sld (pc := 857) hX dL_law_857 (by omega) (by omega) (fun i_857 => ?_)
    rw [ha1]
    refine k_VI1 (pc := 858) c_X7_groups lk_L_105 ⟨(Nat.le_of_ble_eq_true rfl), (Nat.le_of_ble_eq_true rfl)⟩ ⟨rfl, rfl⟩ ⟨(Nat.le_of_ble_eq_true rfl), (Nat.le_of_ble_eq_true rfl)⟩ (k := 7) rfl (by decide) cl0 dL_law_858 (Nat.le_of_ble_eq_true rfl) ?_
    refine ⟨c, q, n, tx, ep, km, mp, F, ux, sz, ho, sn, row, a1, rfl, hI, g1, fun z => absurd hc z, fun _ => ?_⟩
    have hM2 := hM
    obtain ⟨hMd2, ⟨e0, e5, e17, e19⟩, ⟨e1, e2, e12, e14, e15, e17r⟩, hWa2, hz2, hkp2, hes2⟩ := id hM2
    refine r_aload_2 (pc := 861) dL_law_861 ?_
    refine r_aload_0 (pc := 862) dL_law_862 ?_
    refine r_iload_3 (pc := 863) dL_law_863 ?_
    refine r_iconst (pc := 864) dL_law_864 ?_
    refine r_iadd (pc := 865) dL_law_865 ?_
    refine r_sld (pc := 866) hX dL_law_866 (by omega) (by omega) (fun i_866 => ?_)
    rw [ha1]
    refine k_VI1 (pc := 867) c_X8_groups lk_L_108 ⟨(Nat.le_of_ble_eq_true rfl), (Nat.le_of_ble_eq_true rfl)⟩ ⟨rfl, rfl⟩ ⟨(Nat.le_of_ble_eq_true rfl), (Nat.le_of_ble_eq_true rfl)⟩ (k := 8) rfl (by decide) hMd2.1 dL_law_867 (Nat.le_of_ble_eq_true rfl) ?_
    refine ⟨b, mp, a1, rfl, hMd2, e2, hT, hR, g1, (fun j j0 j1 => by rw [e12, ← hI.2.2.2.2.2.2.2.1 j j0 j1]; exact plr_r hT hR j), fun z => absurd hc z, fun _ => ?_⟩
    refine r_same (pc := 870) (tgt := 1462) (by first | rfl | (simp only [e0, e5, e17, e19, e1, e2, e12, e14, e15, e17r])) dL_law_870 (by decide) ?_
    exact K r h ⟨q, n, tx, ep, km, mp, F, ux, sz, ho, sn, row, hI, hM2, by omega⟩
  · refine r_aload_1 (pc := 852) dL_law_852 ?_
    refine r_aload_0 (pc := 853) dL_law_853 ?_
    refine r_iload_3 (pc := 854) dL_law_854 ?_
    refine r_iconst (pc := 855) dL_law_855 ?_
    refine r_iadd (pc := 856) dL_law_856 ?_
    refine r_sld (pc := 857) hX dL_law_857 (by omega) (by omega) (fun i_857 => ?_)
    rw [ha1]
    refine k_VI1 (pc := 858) c_X7_groups lk_L_105 ⟨(Nat.le_of_ble_eq_true rfl), (Nat.le_of_ble_eq_true rfl)⟩ ⟨rfl, rfl⟩ ⟨(Nat.le_of_ble_eq_true rfl), (Nat.le_of_ble_eq_true rfl)⟩ (k := 7) rfl (by decide) cl0 dL_law_858 (Nat.le_of_ble_eq_true rfl) ?_
    refine ⟨c, q, n, tx, ep, km, mp, F, ux, sz, ho, sn, row, a1, rfl, hI, g1, fun _ => ?_, fun z => absurd z hc⟩
    have hM2 := hM
    obtain ⟨hMd2, ⟨e0, e5, e17, e19⟩, ⟨e1, e2, e12, e14, e15, e17r⟩, hWa2, hz2, hkp2, hes2⟩ := id hM2
    refine r_aload_2 (pc := 861) dL_law_861 ?_
    refine r_aload_0 (pc := 862) dL_law_862 ?_
    refine r_iload_3 (pc := 863) dL_law_863 ?_
    refine r_iconst (pc := 864) dL_law_864 ?_
    refine r_iadd (pc := 865) dL_law_865 ?_
    refine r_sld (pc := 866) hX dL_law_866 (by omega) (by omega) (fun i_866 => ?_)
    rw [ha1]
    refine k_VI1 (pc := 867) c_X8_groups lk_L_108 ⟨(Nat.le_of_ble_eq_true rfl), (Nat.le_of_ble_eq_true rfl)⟩ ⟨rfl, rfl⟩ ⟨(Nat.le_of_ble_eq_true rfl), (Nat.le_of_ble_eq_true rfl)⟩ (k := 8) rfl (by decide) hMd2.1 dL_law_867 (Nat.le_of_ble_eq_true rfl) ?_
    refine ⟨b, mp, a1, rfl, hMd2, e2, hT, hR, g1, (fun j j0 j1 => by rw [e12, ← hI.2.2.2.2.2.2.2.1 j j0 j1]; exact plr_r hT hR j), fun _ => ?_, fun z => absurd z hc⟩
    refine r_same (pc := 870) (tgt := 1462) (by first | rfl | (simp only [e0, e5, e17, e19, e1, e2, e12, e14, e15, e17r])) dL_law_870 (by decide) ?_
    exact K r h ⟨q, n, tx, ep, km, mp, F, ux, sz, ho, sn, row, hI, hM2, by omega⟩
