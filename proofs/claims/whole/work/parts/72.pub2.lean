/-! THE CLASS: public methods that change no map, second part -/
theorem dX7_held_0 : decode cX7_held 0 = .ok (.iload_n 1, 1) := by decide +kernel
theorem dX7_held_1 : decode cX7_held 1 = .ok (.invokestatic 172, 3) := by decide +kernel
theorem dX7_held_4 : decode cX7_held 4 = .ok (.ifCond .eq 12, 3) := by decide +kernel
theorem dX7_held_7 : decode cX7_held 7 = .ok (.iload_n 2, 1) := by decide +kernel
theorem dX7_held_8 : decode cX7_held 8 = .ok (.ifCond .lt 8, 3) := by decide +kernel
theorem dX7_held_11 : decode cX7_held 11 = .ok (.iload_n 2, 1) := by decide +kernel
theorem dX7_held_12 : decode cX7_held 12 = .ok (.iconst 2, 1) := by decide +kernel
theorem dX7_held_13 : decode cX7_held 13 = .ok (.if_icmp .le 5, 3) := by decide +kernel
theorem dX7_held_16 : decode cX7_held 16 = .ok (.iconst (-1), 1) := by decide +kernel
theorem dX7_held_17 : decode cX7_held 17 = .ok (.ireturn, 1) := by decide +kernel
theorem dX7_held_18 : decode cX7_held 18 = .ok (.iload_n 2, 1) := by decide +kernel
theorem dX7_held_19 : decode cX7_held 19 = .ok (.lookupswitch 45 #[(0, 25), (1, 35)], 25) := by decide +kernel
theorem dX7_held_44 : decode cX7_held 44 = .ok (.aload_n 0, 1) := by decide +kernel
theorem dX7_held_45 : decode cX7_held 45 = .ok (.getfield 37, 3) := by decide +kernel
theorem dX7_held_48 : decode cX7_held 48 = .ok (.getfield 154, 3) := by decide +kernel
theorem dX7_held_51 : decode cX7_held 51 = .ok (.iload_n 1, 1) := by decide +kernel
theorem dX7_held_52 : decode cX7_held 52 = .ok (.iaload, 1) := by decide +kernel
theorem dX7_held_53 : decode cX7_held 53 = .ok (.ireturn, 1) := by decide +kernel
theorem dX7_held_54 : decode cX7_held 54 = .ok (.aload_n 0, 1) := by decide +kernel
theorem dX7_held_55 : decode cX7_held 55 = .ok (.getfield 37, 3) := by decide +kernel
theorem dX7_held_58 : decode cX7_held 58 = .ok (.getfield 287, 3) := by decide +kernel
theorem dX7_held_61 : decode cX7_held 61 = .ok (.iload_n 1, 1) := by decide +kernel
theorem dX7_held_62 : decode cX7_held 62 = .ok (.iaload, 1) := by decide +kernel
theorem dX7_held_63 : decode cX7_held 63 = .ok (.ireturn, 1) := by decide +kernel
theorem dX7_held_64 : decode cX7_held 64 = .ok (.aload_n 0, 1) := by decide +kernel
theorem dX7_held_65 : decode cX7_held 65 = .ok (.getfield 37, 3) := by decide +kernel
theorem dX7_held_68 : decode cX7_held 68 = .ok (.aload_n 0, 1) := by decide +kernel
theorem dX7_held_69 : decode cX7_held 69 = .ok (.getfield 51, 3) := by decide +kernel
theorem dX7_held_72 : decode cX7_held 72 = .ok (.iload_n 1, 1) := by decide +kernel
theorem dX7_held_73 : decode cX7_held 73 = .ok (.invokevirtual 297, 3) := by decide +kernel
theorem dX7_held_76 : decode cX7_held 76 = .ok (.ireturn, 1) := by decide +kernel
set_option maxHeartbeats 4000000 in
set_option maxRecDepth 20000 in
theorem c_X7_held : ConI mX7_held (fun args N lay r h Q => ∃ (c : Nat) (q : Int → Nat) (n : Int) (tx : Int → Int) (ep : Int) (km : Int → Int → Int) (mp F : Int → Int) (ux : Int) (sz ho : Int → Int) (sn : Int) (row : Int → Int) (g w : Int), args = [.ref c, vI g, vI w] ∧ CI lay r h c q n tx ep km mp F ux sz ho sn row ∧ (-2147483648 ≤ g ∧ g < 2147483648) ∧ (-2147483648 ≤ w ∧ w < 2147483648) ∧ (¬ ((0 ≤ g ∧ g < 16) ∧ (0 ≤ w ∧ w ≤ 2)) → Q (-1) N lay r h) ∧ (((0 ≤ g ∧ g < 16) ∧ (0 ≤ w ∧ w ≤ 2)) → (w = 0 → Q (ho g) N lay r h) ∧ (w = 1 → Q (sz g) N lay r h) ∧ (w = 2 → Q (srv F (iA (ho g) ux) g) N lay r h))) := by
  refine ConI.of (by decide) (by rintro _ N lay r h Q ⟨c, q, n, tx, ep, km, mp, F, ux, sz, ho, sn, row, g, w, rfl, hI, h_g, h_w, hB, hQ⟩; exact ⟨rfl, Nat.le_of_ble_eq_true rfl⟩) ?_
  rintro E _ N lay r h Q ⟨c, q, n, tx, ep, km, mp, F, ux, sz, ho, sn, row, g, w, rfl, hI, h_g, h_w, hB, hQ⟩ hret
  obtain ⟨hC, hLt, ⟨hCT, htx⟩, hSK, ⟨he8, hep⟩, hkm, ⟨hk0, h130⟩, hF0, ⟨hDa, hMk, hsz⟩, ⟨hOb, hSe⟩⟩ := id hI
  obtain ⟨cl0, cl6, ⟨cr0, cr1, cr2, cr3, cr4, cr5, cr6⟩, cT, cS, cP, cD, cE, cO⟩ := id hC
  obtain ⟨lr7, lr6, lpl, lrg, ldj⟩ := id hLt
  have hP0 := hkm 0 (by omega) (by omega) (by omega)
  rw [hk0] at hP0
  obtain ⟨hT, hR, hN, hW, hL, hPS⟩ := id hP0
  have hA := lpl 0 (by omega) (by omega)
  have q0r := lrg 0 (by omega) (by omega)
  obtain ⟨pl0, pl1, pl2, pl3, pl4, pl5, pl6, pl7, pl8, pl9, pl10, pl11, pl12, pl13, pr0, pr1, pr2, pr3, pr9, pr10, pr11, qr3, qr4, vr1, vr2, vr3, vr4⟩ := id hA
  obtain ⟨⟨n0, n1, n2⟩, up1, up2, uw, u0, uh⟩ := id hN
  obtain ⟨t1, t2, t3, t4, t5, t6, t7⟩ := id hT
  have hFI : FdI F := fun j j0 j1 => by rw [← hF0 j j0 j1]; exact FdI_plr hT hR j j0 j1
  have hp1 : ∀ j, 0 ≤ j → j < 64 → h (q 0 + 11) j = F j := fun j j0 j1 => (hPS.1 j j0 j1).trans (hF0 j j0 j1)
  have hp2 : ∀ g, 0 ≤ g → g < 16 → h (q 0 + 13) g = pb F g := fun g g0 g1 => (hPS.2.2.1 g g0 g1).trans (pb_c ⟨g0, g1⟩ hF0)
  obtain ⟨dl0, dl1, dl2, dr1, dr2⟩ := id cD
  obtain ⟨d0, d1, d2⟩ := id hDa
  show St E mX7_held 0 [some (.ref c), some (vI g), some (vI w)] [] (0, 0) N lay r h
  refine r_iload_1 (pc := 0) dX7_held_0 ?_
  refine k_SI1 (pc := 1) c_X7_isGroup lk_X7_172 ⟨Nat.le_of_ble_eq_true rfl, Nat.le_of_ble_eq_true rfl⟩ ⟨rfl, rfl⟩ ⟨Nat.le_of_ble_eq_true rfl, Nat.le_of_ble_eq_true rfl⟩ dX7_held_1 (Nat.le_of_ble_eq_true rfl) ?_
  refine ⟨_, rfl, by omega, ?_⟩
  refine r_ifeq_b (pc := 4) (tgt := 16) dX7_held_4 (by decide) (fun c_4 => ?_) (fun c_4 => ?_)
  · refine r_iconst (pc := 16) dX7_held_16 ?_
    refine r_iret (pc := 17) hret dX7_held_17 rfl rfl rfl ?_
    first
    | exact hB (fun z => c_4 z.1)
    | exact hB (by omega)
  · refine r_iload_2 (pc := 7) dX7_held_7 ?_
    refine r_if_lt (pc := 8) (tgt := 16) dX7_held_8 (by decide) (by omega) (fun c_8 => ?_) (fun c_8 => ?_)
    · refine r_iconst (pc := 16) dX7_held_16 ?_
      refine r_iret (pc := 17) hret dX7_held_17 rfl rfl rfl ?_
      first
      | exact hB (fun z => c_4 z.1)
      | exact hB (by omega)
    · refine r_iload_2 (pc := 11) dX7_held_11 ?_
      refine r_iconst (pc := 12) dX7_held_12 ?_
      refine r_icmp_le (pc := 13) (tgt := 18) dX7_held_13 (by decide) (by omega) (by omega) (fun c_13 => ?_) (fun c_13 => ?_)
      · refine r_iload_2 (pc := 18) dX7_held_18 ?_
        rcases (show w = 0 ∨ w = 1 ∨ w = 2 by omega) with rfl | rfl | rfl
        · refine r_lookup (pc := 19) (off := 25) (tgt := 44) dX7_held_19 (by omega) (by decide) rfl (by decide) ?_
          refine r_aload_0 (pc := 44) dX7_held_44 ?_
          refine gf_X7_37 (pc := 45) rfl (by assumption) dX7_held_45 (by assumption) ?_
          refine gf_X7_154 (pc := 48) rfl (by assumption) dX7_held_48 (by assumption) ?_
          refine r_iload_1 (pc := 51) dX7_held_51 ?_
          refine r_ialdE (pc := 52) (by assumption) (by first | assumption | exact rfl) dX7_held_52 (by omega) (by omega) (fun i_52 => ?_)
          refine r_iret (pc := 53) hret dX7_held_53 rfl rfl rfl ?_
          rw [d2 g (by omega) (by omega)]
          exact (hQ (by omega)).1 rfl
        · refine r_lookup (pc := 19) (off := 35) (tgt := 54) dX7_held_19 (by omega) (by decide) rfl (by decide) ?_
          refine r_aload_0 (pc := 54) dX7_held_54 ?_
          refine gf_X7_37 (pc := 55) rfl (by assumption) dX7_held_55 (by assumption) ?_
          refine gf_X7_287 (pc := 58) rfl (by assumption) dX7_held_58 (by assumption) ?_
          refine r_iload_1 (pc := 61) dX7_held_61 ?_
          refine r_ialdE (pc := 62) (by assumption) (by first | assumption | exact rfl) dX7_held_62 (by omega) (by omega) (fun i_62 => ?_)
          refine r_iret (pc := 63) hret dX7_held_63 rfl rfl rfl ?_
          rw [d1 g (by omega) (by omega)]
          exact (hQ (by omega)).2.1 rfl
        · refine r_lookup (pc := 19) (off := 45) (tgt := 64) dX7_held_19 (by omega) (by decide) rfl (by decide) ?_
          refine r_aload_0 (pc := 64) dX7_held_64 ?_
          refine gf_X7_37 (pc := 65) rfl (by assumption) dX7_held_65 (by assumption) ?_
          refine r_aload_0 (pc := 68) dX7_held_68 ?_
          refine gf_X7_51 (pc := 69) rfl (by assumption) dX7_held_69 (by assumption) ?_
          refine r_iload_1 (pc := 72) dX7_held_72 ?_
          refine k_VI2 (pc := 73) c_X0_serverOf lk_X7_297 ⟨Nat.le_of_ble_eq_true rfl, Nat.le_of_ble_eq_true rfl⟩ ⟨rfl, rfl⟩ ⟨Nat.le_of_ble_eq_true rfl, Nat.le_of_ble_eq_true rfl⟩ (k := 0) rfl (by decide) (by assumption) dX7_held_73 (Nat.le_of_ble_eq_true rfl) ?_
          refine ⟨_, ux, sz, ho, _, _, F, _, rfl, cD, hDa, hMk, pl0, pl11, pr9, hFI, hp1, by omega, ?_⟩
          refine r_iret (pc := 76) hret dX7_held_76 rfl rfl rfl ?_
          exact (hQ (by omega)).2.2 rfl
      · refine r_iconst (pc := 16) dX7_held_16 ?_
        refine r_iret (pc := 17) hret dX7_held_17 rfl rfl rfl ?_
        first
        | exact hB (fun z => c_4 z.1)
        | exact hB (by omega)

theorem dX7_load_0 : decode cX7_load 0 = .ok (.aload_n 0, 1) := by decide +kernel
theorem dX7_load_1 : decode cX7_load 1 = .ok (.getfield 51, 3) := by decide +kernel
theorem dX7_load_4 : decode cX7_load 4 = .ok (.getfield 84, 3) := by decide +kernel
theorem dX7_load_7 : decode cX7_load 7 = .ok (.iload_n 1, 1) := by decide +kernel
theorem dX7_load_8 : decode cX7_load 8 = .ok (.invokevirtual 97, 3) := by decide +kernel
theorem dX7_load_11 : decode cX7_load 11 = .ok (.ifCond .eq 12, 3) := by decide +kernel
theorem dX7_load_14 : decode cX7_load 14 = .ok (.iload_n 2, 1) := by decide +kernel
theorem dX7_load_15 : decode cX7_load 15 = .ok (.ifCond .lt 8, 3) := by decide +kernel
theorem dX7_load_18 : decode cX7_load 18 = .ok (.iload_n 2, 1) := by decide +kernel
theorem dX7_load_19 : decode cX7_load 19 = .ok (.iconst 1, 1) := by decide +kernel
theorem dX7_load_20 : decode cX7_load 20 = .ok (.if_icmp .le 5, 3) := by decide +kernel
theorem dX7_load_23 : decode cX7_load 23 = .ok (.iconst (-1), 1) := by decide +kernel
theorem dX7_load_24 : decode cX7_load 24 = .ok (.ireturn, 1) := by decide +kernel
theorem dX7_load_25 : decode cX7_load 25 = .ok (.iload_n 2, 1) := by decide +kernel
theorem dX7_load_26 : decode cX7_load 26 = .ok (.ifCond .ne 21, 3) := by decide +kernel
theorem dX7_load_29 : decode cX7_load 29 = .ok (.aload_n 0, 1) := by decide +kernel
theorem dX7_load_30 : decode cX7_load 30 = .ok (.getfield 37, 3) := by decide +kernel
theorem dX7_load_33 : decode cX7_load 33 = .ok (.iload_n 1, 1) := by decide +kernel
theorem dX7_load_34 : decode cX7_load 34 = .ok (.aload_n 0, 1) := by decide +kernel
theorem dX7_load_35 : decode cX7_load 35 = .ok (.getfield 37, 3) := by decide +kernel
theorem dX7_load_38 : decode cX7_load 38 = .ok (.getfield 154, 3) := by decide +kernel
theorem dX7_load_41 : decode cX7_load 41 = .ok (.invokevirtual 157, 3) := by decide +kernel
theorem dX7_load_44 : decode cX7_load 44 = .ok (.goto 18, 3) := by decide +kernel
theorem dX7_load_47 : decode cX7_load 47 = .ok (.aload_n 0, 1) := by decide +kernel
theorem dX7_load_48 : decode cX7_load 48 = .ok (.getfield 37, 3) := by decide +kernel
theorem dX7_load_51 : decode cX7_load 51 = .ok (.iload_n 1, 1) := by decide +kernel
theorem dX7_load_52 : decode cX7_load 52 = .ok (.aload_n 0, 1) := by decide +kernel
theorem dX7_load_53 : decode cX7_load 53 = .ok (.getfield 51, 3) := by decide +kernel
theorem dX7_load_56 : decode cX7_load 56 = .ok (.getfield 259, 3) := by decide +kernel
theorem dX7_load_59 : decode cX7_load 59 = .ok (.invokevirtual 157, 3) := by decide +kernel
theorem dX7_load_62 : decode cX7_load 62 = .ok (.ireturn, 1) := by decide +kernel
set_option maxHeartbeats 4000000 in
set_option maxRecDepth 20000 in
theorem c_X7_load : ConI mX7_load (fun args N lay r h Q => ∃ (c : Nat) (q : Int → Nat) (n : Int) (tx : Int → Int) (ep : Int) (km : Int → Int → Int) (mp F : Int → Int) (ux : Int) (sz ho : Int → Int) (sn : Int) (row : Int → Int) (d w : Int), args = [.ref c, vI d, vI w] ∧ CI lay r h c q n tx ep km mp F ux sz ho sn row ∧ (-2147483648 ≤ d ∧ d < 2147483648) ∧ (-2147483648 ≤ w ∧ w < 2147483648) ∧ (¬ ((10 ≤ d ∧ d ≤ 9 + mp 130) ∧ (0 ≤ w ∧ w ≤ 1)) → Q (-1) N lay r h) ∧ (((10 ≤ d ∧ d ≤ 9 + mp 130) ∧ (0 ≤ w ∧ w ≤ 1)) → (w = 0 → Q (sm (fun g => if iA (iSr (ho g) (d - 10)) 1 = 1 then sz g else 0) 16) N lay r h) ∧ (w = 1 → Q (sm (fun g => if hasB F g d = true then sz g else 0) 16) N lay r h))) := by
  refine ConI.of (by decide) (by rintro _ N lay r h Q ⟨c, q, n, tx, ep, km, mp, F, ux, sz, ho, sn, row, d, w, rfl, hI, h_d, h_w, hB, hQ⟩; exact ⟨rfl, Nat.le_of_ble_eq_true rfl⟩) ?_
  rintro E _ N lay r h Q ⟨c, q, n, tx, ep, km, mp, F, ux, sz, ho, sn, row, d, w, rfl, hI, h_d, h_w, hB, hQ⟩ hret
  obtain ⟨hC, hLt, ⟨hCT, htx⟩, hSK, ⟨he8, hep⟩, hkm, ⟨hk0, h130⟩, hF0, ⟨hDa, hMk, hsz⟩, ⟨hOb, hSe⟩⟩ := id hI
  obtain ⟨cl0, cl6, ⟨cr0, cr1, cr2, cr3, cr4, cr5, cr6⟩, cT, cS, cP, cD, cE, cO⟩ := id hC
  obtain ⟨lr7, lr6, lpl, lrg, ldj⟩ := id hLt
  have hP0 := hkm 0 (by omega) (by omega) (by omega)
  rw [hk0] at hP0
  obtain ⟨hT, hR, hN, hW, hL, hPS⟩ := id hP0
  have hA := lpl 0 (by omega) (by omega)
  have q0r := lrg 0 (by omega) (by omega)
  obtain ⟨pl0, pl1, pl2, pl3, pl4, pl5, pl6, pl7, pl8, pl9, pl10, pl11, pl12, pl13, pr0, pr1, pr2, pr3, pr9, pr10, pr11, qr3, qr4, vr1, vr2, vr3, vr4⟩ := id hA
  obtain ⟨⟨n0, n1, n2⟩, up1, up2, uw, u0, uh⟩ := id hN
  obtain ⟨t1, t2, t3, t4, t5, t6, t7⟩ := id hT
  have hFI : FdI F := fun j j0 j1 => by rw [← hF0 j j0 j1]; exact FdI_plr hT hR j j0 j1
  have hp1 : ∀ j, 0 ≤ j → j < 64 → h (q 0 + 11) j = F j := fun j j0 j1 => (hPS.1 j j0 j1).trans (hF0 j j0 j1)
  have hp2 : ∀ g, 0 ≤ g → g < 16 → h (q 0 + 13) g = pb F g := fun g g0 g1 => (hPS.2.2.1 g g0 g1).trans (pb_c ⟨g0, g1⟩ hF0)
  obtain ⟨dl0, dl1, dl2, dr1, dr2⟩ := id cD
  obtain ⟨d0, d1, d2⟩ := id hDa
  show St E mX7_load 0 [some (.ref c), some (vI d), some (vI w)] [] (0, 0) N lay r h
  refine r_aload_0 (pc := 0) dX7_load_0 ?_
  refine gf_X7_51 (pc := 1) rfl (by assumption) dX7_load_1 (by assumption) ?_
  refine gf_X7_84 (pc := 4) rfl (by assumption) dX7_load_4 (by assumption) ?_
  refine r_iload_1 (pc := 7) dX7_load_7 ?_
  refine k_VI1 (pc := 8) c_X6_isDisk lk_X7_97 ⟨Nat.le_of_ble_eq_true rfl, Nat.le_of_ble_eq_true rfl⟩ ⟨rfl, rfl⟩ ⟨Nat.le_of_ble_eq_true rfl, Nat.le_of_ble_eq_true rfl⟩ (k := 6) rfl (by decide) (by assumption) dX7_load_8 (Nat.le_of_ble_eq_true rfl) ?_
  refine ⟨_, _, _, rfl, by assumption, by omega, by omega, ?_⟩
  refine r_ifeq_b (pc := 11) (tgt := 23) dX7_load_11 (by decide) (fun c_11 => ?_) (fun c_11 => ?_)
  · refine r_iconst (pc := 23) dX7_load_23 ?_
    refine r_iret (pc := 24) hret dX7_load_24 rfl rfl rfl ?_
    first
    | exact hB (by omega)
    | (have k9 : w = 0 := by omega
       have q9 := (hQ (by omega)).1 k9
       rw [sm_c (g := fun g => if bP (ho g) d = true then sz g else 0) (fun k hk => by simp only [bP_iff])] at q9
       exact q9)
    | (have k9 : w = 1 := by omega
       have q9 := (hQ (by omega)).2 k9
       rw [sm_c (g := fun g => if bP (pb F g) d = true then sz g else 0) (fun k hk => by
         have m9 : Ms (pb F k) := pb_12 (hFI.g (by omega) (by omega))
         have e9 : bP (pb F k) d = true ↔ hasB F k d = true := (m9.t (by omega)).symm.trans (pb_bit hFI (by omega) (by omega) (by omega))
         simp only [e9])] at q9
       exact q9)
  · refine r_iload_2 (pc := 14) dX7_load_14 ?_
    refine r_if_lt (pc := 15) (tgt := 23) dX7_load_15 (by decide) (by omega) (fun c_15 => ?_) (fun c_15 => ?_)
    · refine r_iconst (pc := 23) dX7_load_23 ?_
      refine r_iret (pc := 24) hret dX7_load_24 rfl rfl rfl ?_
      first
      | exact hB (by omega)
      | (have k9 : w = 0 := by omega
         have q9 := (hQ (by omega)).1 k9
         rw [sm_c (g := fun g => if bP (ho g) d = true then sz g else 0) (fun k hk => by simp only [bP_iff])] at q9
         exact q9)
      | (have k9 : w = 1 := by omega
         have q9 := (hQ (by omega)).2 k9
         rw [sm_c (g := fun g => if bP (pb F g) d = true then sz g else 0) (fun k hk => by
           have m9 : Ms (pb F k) := pb_12 (hFI.g (by omega) (by omega))
           have e9 : bP (pb F k) d = true ↔ hasB F k d = true := (m9.t (by omega)).symm.trans (pb_bit hFI (by omega) (by omega) (by omega))
           simp only [e9])] at q9
         exact q9)
    · refine r_iload_2 (pc := 18) dX7_load_18 ?_
      refine r_iconst (pc := 19) dX7_load_19 ?_
      refine r_icmp_le (pc := 20) (tgt := 25) dX7_load_20 (by decide) (by omega) (by omega) (fun c_20 => ?_) (fun c_20 => ?_)
      · refine r_iload_2 (pc := 25) dX7_load_25 ?_
        refine r_if_ne (pc := 26) (tgt := 47) dX7_load_26 (by decide) (by omega) (fun c_26 => ?_) (fun c_26 => ?_)
        · refine r_aload_0 (pc := 47) dX7_load_47 ?_
          refine gf_X7_37 (pc := 48) rfl (by assumption) dX7_load_48 (by assumption) ?_
          refine r_iload_1 (pc := 51) dX7_load_51 ?_
          refine r_aload_0 (pc := 52) dX7_load_52 ?_
          refine gf_X7_51 (pc := 53) rfl (by assumption) dX7_load_53 (by assumption) ?_
          refine gf_X7_259 (pc := 56) rfl (by assumption) dX7_load_56 (by assumption) ?_
          refine k_VI2 (pc := 59) c_X0_sizeOn lk_X7_157 ⟨Nat.le_of_ble_eq_true rfl, Nat.le_of_ble_eq_true rfl⟩ ⟨rfl, rfl⟩ ⟨Nat.le_of_ble_eq_true rfl, Nat.le_of_ble_eq_true rfl⟩ (k := 0) rfl (by decide) (by assumption) dX7_load_59 (Nat.le_of_ble_eq_true rfl) ?_
          refine ⟨_, ux, sz, ho, _, _, pb F, rfl, cD, hDa, hMk, by omega, pl13, fun g g0 g1 => ⟨hp2 g g0 g1, pb_12 (hFI.g g0 g1)⟩, ?_⟩
          refine r_iret (pc := 62) hret dX7_load_62 rfl rfl rfl ?_
          first
          | exact hB (by omega)
          | (have k9 : w = 0 := by omega
             have q9 := (hQ (by omega)).1 k9
             rw [sm_c (g := fun g => if bP (ho g) d = true then sz g else 0) (fun k hk => by simp only [bP_iff])] at q9
             exact q9)
          | (have k9 : w = 1 := by omega
             have q9 := (hQ (by omega)).2 k9
             rw [sm_c (g := fun g => if bP (pb F g) d = true then sz g else 0) (fun k hk => by
               have m9 : Ms (pb F k) := pb_12 (hFI.g (by omega) (by omega))
               have e9 : bP (pb F k) d = true ↔ hasB F k d = true := (m9.t (by omega)).symm.trans (pb_bit hFI (by omega) (by omega) (by omega))
               simp only [e9])] at q9
             exact q9)
        · refine r_aload_0 (pc := 29) dX7_load_29 ?_
          refine gf_X7_37 (pc := 30) rfl (by assumption) dX7_load_30 (by assumption) ?_
          refine r_iload_1 (pc := 33) dX7_load_33 ?_
          refine r_aload_0 (pc := 34) dX7_load_34 ?_
          refine gf_X7_37 (pc := 35) rfl (by assumption) dX7_load_35 (by assumption) ?_
          refine gf_X7_154 (pc := 38) rfl (by assumption) dX7_load_38 (by assumption) ?_
          refine k_VI2 (pc := 41) c_X0_sizeOn lk_X7_157 ⟨Nat.le_of_ble_eq_true rfl, Nat.le_of_ble_eq_true rfl⟩ ⟨rfl, rfl⟩ ⟨Nat.le_of_ble_eq_true rfl, Nat.le_of_ble_eq_true rfl⟩ (k := 0) rfl (by decide) (by assumption) dX7_load_41 (Nat.le_of_ble_eq_true rfl) ?_
          refine ⟨_, ux, sz, ho, _, _, ho, rfl, cD, hDa, hMk, by omega, dl2, fun g g0 g1 => ⟨d2 g g0 g1, hMk.2 g g0 g1⟩, ?_⟩
          refine r_goto (pc := 44) (tgt := 62) dX7_load_44 (by decide) ?_
          refine r_iret (pc := 62) hret dX7_load_62 rfl rfl rfl ?_
          first
          | exact hB (by omega)
          | (have k9 : w = 0 := by omega
             have q9 := (hQ (by omega)).1 k9
             rw [sm_c (g := fun g => if bP (ho g) d = true then sz g else 0) (fun k hk => by simp only [bP_iff])] at q9
             exact q9)
          | (have k9 : w = 1 := by omega
             have q9 := (hQ (by omega)).2 k9
             rw [sm_c (g := fun g => if bP (pb F g) d = true then sz g else 0) (fun k hk => by
               have m9 : Ms (pb F k) := pb_12 (hFI.g (by omega) (by omega))
               have e9 : bP (pb F k) d = true ↔ hasB F k d = true := (m9.t (by omega)).symm.trans (pb_bit hFI (by omega) (by omega) (by omega))
               simp only [e9])] at q9
             exact q9)
      · refine r_iconst (pc := 23) dX7_load_23 ?_
        refine r_iret (pc := 24) hret dX7_load_24 rfl rfl rfl ?_
        first
        | exact hB (by omega)
        | (have k9 : w = 0 := by omega
           have q9 := (hQ (by omega)).1 k9
           rw [sm_c (g := fun g => if bP (ho g) d = true then sz g else 0) (fun k hk => by simp only [bP_iff])] at q9
           exact q9)
        | (have k9 : w = 1 := by omega
           have q9 := (hQ (by omega)).2 k9
           rw [sm_c (g := fun g => if bP (pb F g) d = true then sz g else 0) (fun k hk => by
             have m9 : Ms (pb F k) := pb_12 (hFI.g (by omega) (by omega))
             have e9 : bP (pb F k) d = true ↔ hasB F k d = true := (m9.t (by omega)).symm.trans (pb_bit hFI (by omega) (by omega) (by omega))
             simp only [e9])] at q9
           exact q9)

theorem blm_b {mp : Int → Int} {n m : Int} : ∀ K : Nat, K ≤ 12 → Ms (blm mp n m K) ∧ ∀ k : Nat, tb (blm mp n m K) k = true ↔ k < K ∧ (bel mp (10 + (k : Int)) n ∨ bel mp (10 + (k : Int)) m)
  | 0, _ => by
    refine ⟨⟨Int.le_refl 0, (show (0 : Int) < 4096 by decide)⟩, fun k => ?_⟩
    show tb 0 k = true ↔ _
    rw [tb_0]
    constructor
    · intro z; cases z
    · intro z; omega
  | K + 1, hK => by
    obtain ⟨i1, i2⟩ := blm_b (mp := mp) (n := n) (m := m) K (by omega)
    have s := Ms_S (d := 10 + (K : Int)) (by omega)
    have e : blm mp n m (K + 1) = iO (blm mp n m K) (if bel mp (10 + (K : Int)) n ∨ bel mp (10 + (K : Int)) m then iSl 1 (10 + (K : Int) - 10) else 0) := rfl
    rw [e]
    by_cases hb : bel mp (10 + (K : Int)) n ∨ bel mp (10 + (K : Int)) m
    · rw [if_pos hb]
      refine ⟨Ms_O i1 s, fun k => ?_⟩
      rw [tb_O i1.b s.b, tb_S (by omega) (by omega), Bool.or_eq_true, i2 k, decide_eq_true_iff]
      constructor
      · rintro (z | z)
        · exact ⟨by omega, z.2⟩
        · have : k = K := by omega
          subst this; exact ⟨by omega, hb⟩
      · intro z
        by_cases e : k = K
        · exact Or.inr (by omega)
        · exact Or.inl ⟨by omega, z.2⟩
    · rw [if_neg hb, iO_0 (by have := i1.b; omega)]
      refine ⟨i1, fun k => ?_⟩
      rw [i2 k]
      constructor
      · intro z; exact ⟨by omega, z.2⟩
      · intro z
        by_cases e : k = K
        · subst e; exact absurd z.2 hb
        · exact ⟨by omega, z.2⟩
theorem blm_e {mp : Int → Int} {n m : Int} (h : 0 ≤ mp 130 ∧ mp 130 ≤ 12) : iO (dwm mp n (mp 130).toNat) (dwm mp m (mp 130).toNat) = blm mp n m (mp 130).toNat := by
  obtain ⟨a1, a2⟩ := dwm_b (mp := mp) (n := n) (mp 130).toNat (by omega)
  obtain ⟨b1, b2⟩ := dwm_b (mp := mp) (n := m) (mp 130).toNat (by omega)
  obtain ⟨c1, c2⟩ := blm_b (mp := mp) (n := n) (m := m) (mp 130).toNat (by omega)
  refine tb_eq12 (Ms_O a1 b1) c1 (fun k hk => ?_)
  rw [Bool.eq_iff_iff, tb_O a1.b b1.b, Bool.or_eq_true, a2 k, b2 k, c2 k]
  constructor
  · rintro (z | z)
    · exact ⟨z.1, Or.inl z.2⟩
    · exact ⟨z.1, Or.inr z.2⟩
  · rintro ⟨z1, z2 | z2⟩
    · exact Or.inl ⟨z1, z2⟩
    · exact Or.inr ⟨z1, z2⟩
theorem dX7_loses_0 : decode cX7_loses 0 = .ok (.aload_n 0, 1) := by decide +kernel
theorem dX7_loses_1 : decode cX7_loses 1 = .ok (.getfield 51, 3) := by decide +kernel
theorem dX7_loses_4 : decode cX7_loses 4 = .ok (.getfield 84, 3) := by decide +kernel
theorem dX7_loses_7 : decode cX7_loses 7 = .ok (.iload_n 1, 1) := by decide +kernel
theorem dX7_loses_8 : decode cX7_loses 8 = .ok (.invokevirtual 93, 3) := by decide +kernel
theorem dX7_loses_11 : decode cX7_loses 11 = .ok (.ifCond .eq 17, 3) := by decide +kernel
theorem dX7_loses_14 : decode cX7_loses 14 = .ok (.aload_n 0, 1) := by decide +kernel
theorem dX7_loses_15 : decode cX7_loses 15 = .ok (.getfield 51, 3) := by decide +kernel
theorem dX7_loses_18 : decode cX7_loses 18 = .ok (.getfield 84, 3) := by decide +kernel
theorem dX7_loses_21 : decode cX7_loses 21 = .ok (.iload_n 2, 1) := by decide +kernel
theorem dX7_loses_22 : decode cX7_loses 22 = .ok (.invokevirtual 93, 3) := by decide +kernel
theorem dX7_loses_25 : decode cX7_loses 25 = .ok (.ifCond .ne 5, 3) := by decide +kernel
theorem dX7_loses_28 : decode cX7_loses 28 = .ok (.iconst (-1), 1) := by decide +kernel
theorem dX7_loses_29 : decode cX7_loses 29 = .ok (.ireturn, 1) := by decide +kernel
theorem dX7_loses_30 : decode cX7_loses 30 = .ok (.aload_n 0, 1) := by decide +kernel
theorem dX7_loses_31 : decode cX7_loses 31 = .ok (.getfield 51, 3) := by decide +kernel
theorem dX7_loses_34 : decode cX7_loses 34 = .ok (.getfield 84, 3) := by decide +kernel
theorem dX7_loses_37 : decode cX7_loses 37 = .ok (.iload_n 1, 1) := by decide +kernel
theorem dX7_loses_38 : decode cX7_loses 38 = .ok (.invokevirtual 256, 3) := by decide +kernel
theorem dX7_loses_41 : decode cX7_loses 41 = .ok (.aload_n 0, 1) := by decide +kernel
theorem dX7_loses_42 : decode cX7_loses 42 = .ok (.getfield 51, 3) := by decide +kernel
theorem dX7_loses_45 : decode cX7_loses 45 = .ok (.getfield 84, 3) := by decide +kernel
theorem dX7_loses_48 : decode cX7_loses 48 = .ok (.iload_n 2, 1) := by decide +kernel
theorem dX7_loses_49 : decode cX7_loses 49 = .ok (.invokevirtual 256, 3) := by decide +kernel
theorem dX7_loses_52 : decode cX7_loses 52 = .ok (.ior, 1) := by decide +kernel
theorem dX7_loses_53 : decode cX7_loses 53 = .ok (.istore_n 3, 1) := by decide +kernel
theorem dX7_loses_54 : decode cX7_loses 54 = .ok (.iconst 0, 1) := by decide +kernel
theorem dX7_loses_55 : decode cX7_loses 55 = .ok (.istore 4, 2) := by decide +kernel
theorem dX7_loses_57 : decode cX7_loses 57 = .ok (.iconst 0, 1) := by decide +kernel
theorem dX7_loses_58 : decode cX7_loses 58 = .ok (.istore 5, 2) := by decide +kernel
theorem dX7_loses_60 : decode cX7_loses 60 = .ok (.iload 5, 2) := by decide +kernel
theorem dX7_loses_62 : decode cX7_loses 62 = .ok (.bipush 16, 2) := by decide +kernel
theorem dX7_loses_64 : decode cX7_loses 64 = .ok (.if_icmp .ge 48, 3) := by decide +kernel
theorem dX7_loses_67 : decode cX7_loses 67 = .ok (.aload_n 0, 1) := by decide +kernel
theorem dX7_loses_68 : decode cX7_loses 68 = .ok (.getfield 37, 3) := by decide +kernel
theorem dX7_loses_71 : decode cX7_loses 71 = .ok (.getfield 154, 3) := by decide +kernel
theorem dX7_loses_74 : decode cX7_loses 74 = .ok (.iload 5, 2) := by decide +kernel
theorem dX7_loses_76 : decode cX7_loses 76 = .ok (.iaload, 1) := by decide +kernel
theorem dX7_loses_77 : decode cX7_loses 77 = .ok (.ifCond .eq 29, 3) := by decide +kernel
theorem dX7_loses_80 : decode cX7_loses 80 = .ok (.aload_n 0, 1) := by decide +kernel
theorem dX7_loses_81 : decode cX7_loses 81 = .ok (.getfield 37, 3) := by decide +kernel
theorem dX7_loses_84 : decode cX7_loses 84 = .ok (.getfield 154, 3) := by decide +kernel
theorem dX7_loses_87 : decode cX7_loses 87 = .ok (.iload 5, 2) := by decide +kernel
theorem dX7_loses_89 : decode cX7_loses 89 = .ok (.iaload, 1) := by decide +kernel
theorem dX7_loses_90 : decode cX7_loses 90 = .ok (.iload_n 3, 1) := by decide +kernel
theorem dX7_loses_91 : decode cX7_loses 91 = .ok (.iconst (-1), 1) := by decide +kernel
theorem dX7_loses_92 : decode cX7_loses 92 = .ok (.ixor, 1) := by decide +kernel
theorem dX7_loses_93 : decode cX7_loses 93 = .ok (.iand, 1) := by decide +kernel
theorem dX7_loses_94 : decode cX7_loses 94 = .ok (.ifCond .ne 12, 3) := by decide +kernel
theorem dX7_loses_97 : decode cX7_loses 97 = .ok (.iload 4, 2) := by decide +kernel
theorem dX7_loses_99 : decode cX7_loses 99 = .ok (.iconst 1, 1) := by decide +kernel
theorem dX7_loses_100 : decode cX7_loses 100 = .ok (.iload 5, 2) := by decide +kernel
theorem dX7_loses_102 : decode cX7_loses 102 = .ok (.ishl, 1) := by decide +kernel
theorem dX7_loses_103 : decode cX7_loses 103 = .ok (.ior, 1) := by decide +kernel
theorem dX7_loses_104 : decode cX7_loses 104 = .ok (.istore 4, 2) := by decide +kernel
theorem dX7_loses_106 : decode cX7_loses 106 = .ok (.iinc 5 1, 3) := by decide +kernel
theorem dX7_loses_109 : decode cX7_loses 109 = .ok (.goto (-49), 3) := by decide +kernel
theorem dX7_loses_112 : decode cX7_loses 112 = .ok (.iload 4, 2) := by decide +kernel
theorem dX7_loses_114 : decode cX7_loses 114 = .ok (.ireturn, 1) := by decide +kernel
set_option maxHeartbeats 4000000 in
set_option maxRecDepth 20000 in
theorem c_X7_loses : ConI mX7_loses (fun args N lay r h Q => ∃ (c : Nat) (q : Int → Nat) (n : Int) (tx : Int → Int) (ep : Int) (km : Int → Int → Int) (mp F : Int → Int) (ux : Int) (sz ho : Int → Int) (sn : Int) (row : Int → Int) (m k : Int), args = [.ref c, vI m, vI k] ∧ CI lay r h c q n tx ep km mp F ux sz ho sn row ∧ (-2147483648 ≤ m ∧ m < 2147483648) ∧ (-2147483648 ≤ k ∧ k < 2147483648) ∧ (¬ (isNd mp m ∧ isNd mp k) → Q (-1) N lay r h) ∧ ((isNd mp m ∧ isNd mp k) → Q (sm (fun g => if ho g ≠ 0 ∧ iA (ho g) (iX (blm mp m k (mp 130).toNat) (-1)) = 0 then iSl 1 g else 0) 16) N lay r h)) := by
  refine ConI.of (by decide) (by rintro _ N lay r h Q ⟨c, q, n, tx, ep, km, mp, F, ux, sz, ho, sn, row, m, k, rfl, hI, h_m, h_k, hB, hQ⟩; exact ⟨rfl, Nat.le_of_ble_eq_true rfl⟩) ?_
  rintro E _ N lay r h Q ⟨c, q, n, tx, ep, km, mp, F, ux, sz, ho, sn, row, m, k, rfl, hI, h_m, h_k, hB, hQ⟩ hret
  obtain ⟨hC, hLt, ⟨hCT, htx⟩, hSK, ⟨he8, hep⟩, hkm, ⟨hk0, h130⟩, hF0, ⟨hDa, hMk, hsz⟩, ⟨hOb, hSe⟩⟩ := id hI
  obtain ⟨cl0, cl6, ⟨cr0, cr1, cr2, cr3, cr4, cr5, cr6⟩, cT, cS, cP, cD, cE, cO⟩ := id hC
  obtain ⟨lr7, lr6, lpl, lrg, ldj⟩ := id hLt
  have hP0 := hkm 0 (by omega) (by omega) (by omega)
  rw [hk0] at hP0
  obtain ⟨hT, hR, hN, hW, hL, hPS⟩ := id hP0
  have hA := lpl 0 (by omega) (by omega)
  have q0r := lrg 0 (by omega) (by omega)
  obtain ⟨pl0, pl1, pl2, pl3, pl4, pl5, pl6, pl7, pl8, pl9, pl10, pl11, pl12, pl13, pr0, pr1, pr2, pr3, pr9, pr10, pr11, qr3, qr4, vr1, vr2, vr3, vr4⟩ := id hA
  obtain ⟨⟨n0, n1, n2⟩, up1, up2, uw, u0, uh⟩ := id hN
  obtain ⟨t1, t2, t3, t4, t5, t6, t7⟩ := id hT
  obtain ⟨dl0, dl1, dl2, dr1, dr2⟩ := id cD
  obtain ⟨d0, d1, d2⟩ := id hDa
  show St E mX7_loses 0 [some (.ref c), some (vI m), some (vI k), none, none, none] [] (0, 0) N lay r h
  have lp : ∀ (n_ : Nat) (g : Int) (s : Int), (16 - g).toNat = n_ → (0 ≤ g ∧ g ≤ 16) → (s = sm (fun g => if ho g ≠ 0 ∧ iA (ho g) (iX (blm mp m k (mp 130).toNat) (-1)) = 0 then iSl 1 g else 0) g.toNat) → (isNd mp m ∧ isNd mp k) → St E mX7_loses 60 [some (.ref c), some (vI m), some (vI k), some (vI (blm mp m k (mp 130).toNat)), some (vI s), some (vI g)] [] (0, 0) N lay r h := by
    intro  n_
    induction n_ using Nat.strongRecOn with
    | ind n_ ih =>
      intro g s hn_ hg hs nd
      refine r_iload_5 (pc := 60) dX7_loses_60 ?_
      refine r_bipush (pc := 62) dX7_loses_62 (by decide) ?_
      refine r_icmp_ge (pc := 64) (tgt := 112) dX7_loses_64 (by decide) (by omega) (by omega) (fun c_64 => ?_) (fun c_64 => ?_)
      · refine r_iload_4 (pc := 112) dX7_loses_112 ?_
        refine r_iret (pc := 114) hret dX7_loses_114 rfl rfl rfl ?_
        have g9 : g = 16 := by omega
        subst g9
        rw [hs]
        exact hQ nd
      · refine r_aload_0 (pc := 67) dX7_loses_67 ?_
        refine gf_X7_37 (pc := 68) rfl (by assumption) dX7_loses_68 (by assumption) ?_
        refine gf_X7_154 (pc := 71) rfl (by assumption) dX7_loses_71 (by assumption) ?_
        refine r_iload_5 (pc := 74) dX7_loses_74 ?_
        refine r_ialdE (pc := 76) (by assumption) (by first | assumption | exact rfl) dX7_loses_76 (by omega) (by omega) (fun i_76 => ?_)
        rw [d2 g (by omega) (by omega)] at i_76 ⊢
        refine r_if_eq (pc := 77) (tgt := 106) dX7_loses_77 (by decide) (by omega) (fun c_77 => ?_) (fun c_77 => ?_)
        · refine r_iinc_5 (pc := 106) dX7_loses_106 rfl ?_
          refine r_goto (pc := 109) (tgt := 60) dX7_loses_109 (by decide) ?_
          first
          | (have k9 : ho g = 0 := c_77
             exact ih _ (by omega) (g + 1) s rfl (by omega) (by rw [← smb_f (by omega) (fun z => z.1 k9)]; exact hs) nd)
          | (have k9 : ¬ iA (ho g) (iX (blm mp m k (mp 130).toNat) (-1)) = 0 := c_94
             exact ih _ (by omega) (g + 1) s rfl (by omega) (by rw [← smb_f (by omega) (fun z => k9 z.2)]; exact hs) nd)
          | (have k9 : iA (ho g) (iX (blm mp m k (mp 130).toNat) (-1)) = 0 := c_94
             exact ih _ (by omega) (g + 1) _ rfl (by omega) (by rw [← smb_t (by omega) ⟨c_77, k9⟩, ← hs]) nd)
        · refine r_aload_0 (pc := 80) dX7_loses_80 ?_
          refine gf_X7_37 (pc := 81) rfl (by assumption) dX7_loses_81 (by assumption) ?_
          refine gf_X7_154 (pc := 84) rfl (by assumption) dX7_loses_84 (by assumption) ?_
          refine r_iload_5 (pc := 87) dX7_loses_87 ?_
          refine r_ialdE (pc := 89) (by assumption) (by first | assumption | exact rfl) dX7_loses_89 (by omega) (by omega) (fun i_89 => ?_)
          rw [d2 g (by omega) (by omega)] at i_89 ⊢
          refine r_iload_3 (pc := 90) dX7_loses_90 ?_
          refine r_iconst (pc := 91) dX7_loses_91 ?_
          refine r_ixor (pc := 92) dX7_loses_92 (fun i_92 => ?_)
          refine r_iand (pc := 93) dX7_loses_93 (fun i_93 => ?_)
          refine r_if_ne (pc := 94) (tgt := 106) dX7_loses_94 (by decide) (by omega) (fun c_94 => ?_) (fun c_94 => ?_)
          · refine r_iinc_5 (pc := 106) dX7_loses_106 rfl ?_
            refine r_goto (pc := 109) (tgt := 60) dX7_loses_109 (by decide) ?_
            first
            | (have k9 : ho g = 0 := c_77
               exact ih _ (by omega) (g + 1) s rfl (by omega) (by rw [← smb_f (by omega) (fun z => z.1 k9)]; exact hs) nd)
            | (have k9 : ¬ iA (ho g) (iX (blm mp m k (mp 130).toNat) (-1)) = 0 := c_94
               exact ih _ (by omega) (g + 1) s rfl (by omega) (by rw [← smb_f (by omega) (fun z => k9 z.2)]; exact hs) nd)
            | (have k9 : iA (ho g) (iX (blm mp m k (mp 130).toNat) (-1)) = 0 := c_94
               exact ih _ (by omega) (g + 1) _ rfl (by omega) (by rw [← smb_t (by omega) ⟨c_77, k9⟩, ← hs]) nd)
          · refine r_iload_4 (pc := 97) dX7_loses_97 ?_
            refine r_iconst (pc := 99) dX7_loses_99 ?_
            refine r_iload_5 (pc := 100) dX7_loses_100 ?_
            refine r_ishl (pc := 102) dX7_loses_102 (fun i_102 => ?_)
            refine r_ior (pc := 103) dX7_loses_103 (fun i_103 => ?_)
            refine r_istore_4 (pc := 104) dX7_loses_104 rfl ?_
            refine r_iinc_5 (pc := 106) dX7_loses_106 rfl ?_
            refine r_goto (pc := 109) (tgt := 60) dX7_loses_109 (by decide) ?_
            first
            | (have k9 : ho g = 0 := c_77
               exact ih _ (by omega) (g + 1) s rfl (by omega) (by rw [← smb_f (by omega) (fun z => z.1 k9)]; exact hs) nd)
            | (have k9 : ¬ iA (ho g) (iX (blm mp m k (mp 130).toNat) (-1)) = 0 := c_94
               exact ih _ (by omega) (g + 1) s rfl (by omega) (by rw [← smb_f (by omega) (fun z => k9 z.2)]; exact hs) nd)
            | (have k9 : iA (ho g) (iX (blm mp m k (mp 130).toNat) (-1)) = 0 := c_94
               exact ih _ (by omega) (g + 1) _ rfl (by omega) (by rw [← smb_t (by omega) ⟨c_77, k9⟩, ← hs]) nd)
  refine r_aload_0 (pc := 0) dX7_loses_0 ?_
  refine gf_X7_51 (pc := 1) rfl (by assumption) dX7_loses_1 (by assumption) ?_
  refine gf_X7_84 (pc := 4) rfl (by assumption) dX7_loses_4 (by assumption) ?_
  refine r_iload_1 (pc := 7) dX7_loses_7 ?_
  refine k_VI1 (pc := 8) c_X6_isNode lk_X7_93 ⟨Nat.le_of_ble_eq_true rfl, Nat.le_of_ble_eq_true rfl⟩ ⟨rfl, rfl⟩ ⟨Nat.le_of_ble_eq_true rfl, Nat.le_of_ble_eq_true rfl⟩ (k := 6) rfl (by decide) (by assumption) dX7_loses_8 (Nat.le_of_ble_eq_true rfl) ?_
  refine ⟨_, mp, _, rfl, hA.tr, hN.no, hT, by omega, ?_⟩
  refine r_ifeq_b (pc := 11) (tgt := 28) dX7_loses_11 (by decide) (fun c_11 => ?_) (fun c_11 => ?_)
  · refine r_iconst (pc := 28) dX7_loses_28 ?_
    refine r_iret (pc := 29) hret dX7_loses_29 rfl rfl rfl ?_
    first | exact hB (fun z => c_11 z.1) | exact hB (fun z => c_25 z.2)
  · refine r_aload_0 (pc := 14) dX7_loses_14 ?_
    refine gf_X7_51 (pc := 15) rfl (by assumption) dX7_loses_15 (by assumption) ?_
    refine gf_X7_84 (pc := 18) rfl (by assumption) dX7_loses_18 (by assumption) ?_
    refine r_iload_2 (pc := 21) dX7_loses_21 ?_
    refine k_VI1 (pc := 22) c_X6_isNode lk_X7_93 ⟨Nat.le_of_ble_eq_true rfl, Nat.le_of_ble_eq_true rfl⟩ ⟨rfl, rfl⟩ ⟨Nat.le_of_ble_eq_true rfl, Nat.le_of_ble_eq_true rfl⟩ (k := 6) rfl (by decide) (by assumption) dX7_loses_22 (Nat.le_of_ble_eq_true rfl) ?_
    refine ⟨_, mp, _, rfl, hA.tr, hN.no, hT, by omega, ?_⟩
    refine r_ifne_b (pc := 25) (tgt := 30) dX7_loses_25 (by decide) (fun c_25 => ?_) (fun c_25 => ?_)
    · refine r_aload_0 (pc := 30) dX7_loses_30 ?_
      refine gf_X7_51 (pc := 31) rfl (by assumption) dX7_loses_31 (by assumption) ?_
      refine gf_X7_84 (pc := 34) rfl (by assumption) dX7_loses_34 (by assumption) ?_
      refine r_iload_1 (pc := 37) dX7_loses_37 ?_
      refine k_VI1 (pc := 38) c_X6_disksWithin lk_X7_256 ⟨Nat.le_of_ble_eq_true rfl, Nat.le_of_ble_eq_true rfl⟩ ⟨rfl, rfl⟩ ⟨Nat.le_of_ble_eq_true rfl, Nat.le_of_ble_eq_true rfl⟩ (k := 6) rfl (by decide) (by assumption) dX7_loses_38 (Nat.le_of_ble_eq_true rfl) ?_
      refine ⟨_, mp, _, rfl, hA.tr, hN.no, hN.up, hT, by omega, ?_⟩
      refine r_aload_0 (pc := 41) dX7_loses_41 ?_
      refine gf_X7_51 (pc := 42) rfl (by assumption) dX7_loses_42 (by assumption) ?_
      refine gf_X7_84 (pc := 45) rfl (by assumption) dX7_loses_45 (by assumption) ?_
      refine r_iload_2 (pc := 48) dX7_loses_48 ?_
      refine k_VI1 (pc := 49) c_X6_disksWithin lk_X7_256 ⟨Nat.le_of_ble_eq_true rfl, Nat.le_of_ble_eq_true rfl⟩ ⟨rfl, rfl⟩ ⟨Nat.le_of_ble_eq_true rfl, Nat.le_of_ble_eq_true rfl⟩ (k := 6) rfl (by decide) (by assumption) dX7_loses_49 (Nat.le_of_ble_eq_true rfl) ?_
      refine ⟨_, mp, _, rfl, hA.tr, hN.no, hN.up, hT, by omega, ?_⟩
      refine r_ior (pc := 52) dX7_loses_52 (fun i_52 => ?_)
      rw [blm_e t3] at i_52 ⊢
      refine r_istore_3 (pc := 53) dX7_loses_53 rfl ?_
      refine r_iconst (pc := 54) dX7_loses_54 ?_
      refine r_istore_4 (pc := 55) dX7_loses_55 rfl ?_
      refine r_iconst (pc := 57) dX7_loses_57 ?_
      refine r_istore_5 (pc := 58) dX7_loses_58 rfl ?_
      exact lp _ 0 0 rfl (by omega) rfl ⟨c_11, c_25⟩
    · refine r_iconst (pc := 28) dX7_loses_28 ?_
      refine r_iret (pc := 29) hret dX7_loses_29 rfl rfl rfl ?_
      first | exact hB (fun z => c_11 z.1) | exact hB (fun z => c_25 z.2)

theorem gpk_b {mp F : Int → Int} {n g : Int} (hT : TrM mp) (hF : ∀ j, 0 ≤ j → j < 64 → F j = -4 ∨ (10 ≤ F j ∧ F j < 10 + mp 130)) (hFI : FdI F) (hg : 0 ≤ g ∧ g < 16) : iA (pb F g) (dwm mp n (mp 130).toNat) ≠ 0 ↔ gpk F mp n g 4 = true := by
  have t3 := hT.2.2.1
  obtain ⟨a1, a2⟩ := dwm_b (mp := mp) (n := n) (mp 130).toNat (by omega)
  have p1 : Ms (pb F g) := pb_12 (hFI.g hg.1 hg.2)
  rw [tb_nz12 (Ms_A p1 a1)]
  have q : ∀ m : Nat, m ≤ 4 → (gpk F mp n g m = true ↔ ∃ c : Nat, c < m ∧ 0 ≤ F (4 * g + c) ∧ bel mp (F (4 * g + c)) n) := by
    intro m
    induction m with
    | zero =>
      intro _
      constructor
      · intro z; cases z
      · rintro ⟨c, z, _⟩; omega
    | succ m ih =>
      intro hm
      rw [gpk_s, Bool.or_eq_true, ih (by omega), decide_eq_true_iff]
      constructor
      · rintro (⟨c, z1, z2⟩ | z)
        · exact ⟨c, by omega, z2⟩
        · exact ⟨m, by omega, z⟩
      · rintro ⟨c, z1, z2⟩
        by_cases e : c = m
        · subst e; exact Or.inr z2
        · exact Or.inl ⟨c, by omega, z2⟩
  rw [q 4 (by omega)]
  constructor
  · rintro ⟨k, k1, k2⟩
    rw [tb_A p1.b a1.b, Bool.and_eq_true, a2 k, tb_pb (hFI.g hg.1 hg.2)] at k2
    obtain ⟨c, c0, c1, c2⟩ := hasB_iff.mp k2.1
    obtain ⟨j, rfl⟩ : ∃ j : Nat, c = j := ⟨c.toNat, by omega⟩
    exact ⟨j, by omega, by omega, by rw [c2]; exact k2.2.2⟩
  · rintro ⟨c, c1, c2, c3⟩
    have f9 := hF (4 * g + c) (by omega) (by omega)
    refine ⟨(F (4 * g + c) - 10).toNat, by omega, ?_⟩
    rw [tb_A p1.b a1.b, Bool.and_eq_true, a2, tb_pb (hFI.g hg.1 hg.2), show 10 + (((F (4 * g + c) - 10).toNat : Nat) : Int) = F (4 * g + c) by omega]
    exact ⟨hasB_iff.mpr ⟨c, by omega, by omega, rfl⟩, by omega, c3⟩
theorem dX7_groups_0 : decode cX7_groups 0 = .ok (.aload_n 0, 1) := by decide +kernel
theorem dX7_groups_1 : decode cX7_groups 1 = .ok (.getfield 51, 3) := by decide +kernel
theorem dX7_groups_4 : decode cX7_groups 4 = .ok (.getfield 84, 3) := by decide +kernel
theorem dX7_groups_7 : decode cX7_groups 7 = .ok (.iload_n 1, 1) := by decide +kernel
theorem dX7_groups_8 : decode cX7_groups 8 = .ok (.invokevirtual 93, 3) := by decide +kernel
theorem dX7_groups_11 : decode cX7_groups 11 = .ok (.ifCond .ne 5, 3) := by decide +kernel
theorem dX7_groups_14 : decode cX7_groups 14 = .ok (.iconst (-1), 1) := by decide +kernel
theorem dX7_groups_15 : decode cX7_groups 15 = .ok (.ireturn, 1) := by decide +kernel
theorem dX7_groups_16 : decode cX7_groups 16 = .ok (.aload_n 0, 1) := by decide +kernel
theorem dX7_groups_17 : decode cX7_groups 17 = .ok (.getfield 51, 3) := by decide +kernel
theorem dX7_groups_20 : decode cX7_groups 20 = .ok (.getfield 84, 3) := by decide +kernel
theorem dX7_groups_23 : decode cX7_groups 23 = .ok (.iload_n 1, 1) := by decide +kernel
theorem dX7_groups_24 : decode cX7_groups 24 = .ok (.invokevirtual 256, 3) := by decide +kernel
theorem dX7_groups_27 : decode cX7_groups 27 = .ok (.istore_n 2, 1) := by decide +kernel
theorem dX7_groups_28 : decode cX7_groups 28 = .ok (.iconst 0, 1) := by decide +kernel
theorem dX7_groups_29 : decode cX7_groups 29 = .ok (.istore_n 3, 1) := by decide +kernel
theorem dX7_groups_30 : decode cX7_groups 30 = .ok (.iconst 0, 1) := by decide +kernel
theorem dX7_groups_31 : decode cX7_groups 31 = .ok (.istore 4, 2) := by decide +kernel
theorem dX7_groups_33 : decode cX7_groups 33 = .ok (.iload 4, 2) := by decide +kernel
theorem dX7_groups_35 : decode cX7_groups 35 = .ok (.bipush 16, 2) := by decide +kernel
theorem dX7_groups_37 : decode cX7_groups 37 = .ok (.if_icmp .ge 31, 3) := by decide +kernel
theorem dX7_groups_40 : decode cX7_groups 40 = .ok (.aload_n 0, 1) := by decide +kernel
theorem dX7_groups_41 : decode cX7_groups 41 = .ok (.getfield 51, 3) := by decide +kernel
theorem dX7_groups_44 : decode cX7_groups 44 = .ok (.getfield 259, 3) := by decide +kernel
theorem dX7_groups_47 : decode cX7_groups 47 = .ok (.iload 4, 2) := by decide +kernel
theorem dX7_groups_49 : decode cX7_groups 49 = .ok (.iaload, 1) := by decide +kernel
theorem dX7_groups_50 : decode cX7_groups 50 = .ok (.iload_n 2, 1) := by decide +kernel
theorem dX7_groups_51 : decode cX7_groups 51 = .ok (.iand, 1) := by decide +kernel
theorem dX7_groups_52 : decode cX7_groups 52 = .ok (.ifCond .eq 10, 3) := by decide +kernel
theorem dX7_groups_55 : decode cX7_groups 55 = .ok (.iload_n 3, 1) := by decide +kernel
theorem dX7_groups_56 : decode cX7_groups 56 = .ok (.iconst 1, 1) := by decide +kernel
theorem dX7_groups_57 : decode cX7_groups 57 = .ok (.iload 4, 2) := by decide +kernel
theorem dX7_groups_59 : decode cX7_groups 59 = .ok (.ishl, 1) := by decide +kernel
theorem dX7_groups_60 : decode cX7_groups 60 = .ok (.ior, 1) := by decide +kernel
theorem dX7_groups_61 : decode cX7_groups 61 = .ok (.istore_n 3, 1) := by decide +kernel
theorem dX7_groups_62 : decode cX7_groups 62 = .ok (.iinc 4 1, 3) := by decide +kernel
theorem dX7_groups_65 : decode cX7_groups 65 = .ok (.goto (-32), 3) := by decide +kernel
theorem dX7_groups_68 : decode cX7_groups 68 = .ok (.iload_n 3, 1) := by decide +kernel
theorem dX7_groups_69 : decode cX7_groups 69 = .ok (.ireturn, 1) := by decide +kernel
set_option maxHeartbeats 4000000 in
set_option maxRecDepth 20000 in
theorem c_X7_groups : ConI mX7_groups (fun args N lay r h Q => ∃ (c : Nat) (q : Int → Nat) (n : Int) (tx : Int → Int) (ep : Int) (km : Int → Int → Int) (mp F : Int → Int) (ux : Int) (sz ho : Int → Int) (sn : Int) (row : Int → Int) (m : Int), args = [.ref c, vI m] ∧ CI lay r h c q n tx ep km mp F ux sz ho sn row ∧ (-2147483648 ≤ m ∧ m < 2147483648) ∧ (¬ (isNd mp m) → Q (-1) N lay r h) ∧ ((isNd mp m) → Q (sm (fun g => if gpk F mp m g 4 = true then iSl 1 g else 0) 16) N lay r h)) := by
  refine ConI.of (by decide) (by rintro _ N lay r h Q ⟨c, q, n, tx, ep, km, mp, F, ux, sz, ho, sn, row, m, rfl, hI, h_m, hB, hQ⟩; exact ⟨rfl, Nat.le_of_ble_eq_true rfl⟩) ?_
  rintro E _ N lay r h Q ⟨c, q, n, tx, ep, km, mp, F, ux, sz, ho, sn, row, m, rfl, hI, h_m, hB, hQ⟩ hret
  obtain ⟨hC, hLt, ⟨hCT, htx⟩, hSK, ⟨he8, hep⟩, hkm, ⟨hk0, h130⟩, hF0, ⟨hDa, hMk, hsz⟩, ⟨hOb, hSe⟩⟩ := id hI
  obtain ⟨cl0, cl6, ⟨cr0, cr1, cr2, cr3, cr4, cr5, cr6⟩, cT, cS, cP, cD, cE, cO⟩ := id hC
  obtain ⟨lr7, lr6, lpl, lrg, ldj⟩ := id hLt
  have hP0 := hkm 0 (by omega) (by omega) (by omega)
  rw [hk0] at hP0
  obtain ⟨hT, hR, hN, hW, hL, hPS⟩ := id hP0
  have hA := lpl 0 (by omega) (by omega)
  have q0r := lrg 0 (by omega) (by omega)
  obtain ⟨pl0, pl1, pl2, pl3, pl4, pl5, pl6, pl7, pl8, pl9, pl10, pl11, pl12, pl13, pr0, pr1, pr2, pr3, pr9, pr10, pr11, qr3, qr4, vr1, vr2, vr3, vr4⟩ := id hA
  obtain ⟨⟨n0, n1, n2⟩, up1, up2, uw, u0, uh⟩ := id hN
  obtain ⟨t1, t2, t3, t4, t5, t6, t7⟩ := id hT
  have hFI : FdI F := fun j j0 j1 => by rw [← hF0 j j0 j1]; exact FdI_plr hT hR j j0 j1
  have hp1 : ∀ j, 0 ≤ j → j < 64 → h (q 0 + 11) j = F j := fun j j0 j1 => (hPS.1 j j0 j1).trans (hF0 j j0 j1)
  have hp2 : ∀ g, 0 ≤ g → g < 16 → h (q 0 + 13) g = pb F g := fun g g0 g1 => (hPS.2.2.1 g g0 g1).trans (pb_c ⟨g0, g1⟩ hF0)
  have hFr : ∀ j, 0 ≤ j → j < 64 → F j = -4 ∨ (10 ≤ F j ∧ F j < 10 + mp 130) := fun j j0 j1 => by rw [← hF0 j j0 j1]; exact plr_r hT hR j
  show St E mX7_groups 0 [some (.ref c), some (vI m), none, none, none] [] (0, 0) N lay r h
  have lp : ∀ (n_ : Nat) (g : Int) (s : Int), (16 - g).toNat = n_ → (0 ≤ g ∧ g ≤ 16) → (s = sm (fun g => if gpk F mp m g 4 = true then iSl 1 g else 0) g.toNat) → (isNd mp m) → St E mX7_groups 33 [some (.ref c), some (vI m), some (vI (dwm mp m (mp 130).toNat)), some (vI s), some (vI g)] [] (0, 0) N lay r h := by
    intro  n_
    induction n_ using Nat.strongRecOn with
    | ind n_ ih =>
      intro g s hn_ hg hs nd
      refine r_iload_4 (pc := 33) dX7_groups_33 ?_
      refine r_bipush (pc := 35) dX7_groups_35 (by decide) ?_
      refine r_icmp_ge (pc := 37) (tgt := 68) dX7_groups_37 (by decide) (by omega) (by omega) (fun c_37 => ?_) (fun c_37 => ?_)
      · refine r_iload_3 (pc := 68) dX7_groups_68 ?_
        refine r_iret (pc := 69) hret dX7_groups_69 rfl rfl rfl ?_
        have g9 : g = 16 := by omega
        subst g9
        rw [hs]
        exact hQ nd
      · refine r_aload_0 (pc := 40) dX7_groups_40 ?_
        refine gf_X7_51 (pc := 41) rfl (by assumption) dX7_groups_41 (by assumption) ?_
        refine gf_X7_259 (pc := 44) rfl (by assumption) dX7_groups_44 (by assumption) ?_
        refine r_iload_4 (pc := 47) dX7_groups_47 ?_
        refine r_ialdE (pc := 49) (by assumption) (by first | assumption | exact rfl) dX7_groups_49 (by omega) (by omega) (fun i_49 => ?_)
        rw [hp2 g (by omega) (by omega)] at i_49 ⊢
        refine r_iload_2 (pc := 50) dX7_groups_50 ?_
        refine r_iand (pc := 51) dX7_groups_51 (fun i_51 => ?_)
        refine r_if_eq (pc := 52) (tgt := 62) dX7_groups_52 (by decide) (by omega) (fun c_52 => ?_) (fun c_52 => ?_)
        · refine r_iinc_4 (pc := 62) dX7_groups_62 rfl ?_
          refine r_goto (pc := 65) (tgt := 33) dX7_groups_65 (by decide) ?_
          first
          | (have k9 : iA (pb F g) (dwm mp m (mp 130).toNat) = 0 := c_52
             exact ih _ (by omega) (g + 1) s rfl (by omega) (by rw [← smb_f (P := fun g => gpk F mp m g 4 = true) (by omega) (fun z => (gpk_b hT hFr hFI (by omega)).mpr z k9)]; exact hs) nd)
          | (have k9 : ¬ iA (pb F g) (dwm mp m (mp 130).toNat) = 0 := c_52
             exact ih _ (by omega) (g + 1) _ rfl (by omega) (by rw [← smb_t (P := fun g => gpk F mp m g 4 = true) (by omega) ((gpk_b hT hFr hFI (by omega)).mp k9), ← hs]) nd)
        · refine r_iload_3 (pc := 55) dX7_groups_55 ?_
          refine r_iconst (pc := 56) dX7_groups_56 ?_
          refine r_iload_4 (pc := 57) dX7_groups_57 ?_
          refine r_ishl (pc := 59) dX7_groups_59 (fun i_59 => ?_)
          refine r_ior (pc := 60) dX7_groups_60 (fun i_60 => ?_)
          refine r_istore_3 (pc := 61) dX7_groups_61 rfl ?_
          refine r_iinc_4 (pc := 62) dX7_groups_62 rfl ?_
          refine r_goto (pc := 65) (tgt := 33) dX7_groups_65 (by decide) ?_
          first
          | (have k9 : iA (pb F g) (dwm mp m (mp 130).toNat) = 0 := c_52
             exact ih _ (by omega) (g + 1) s rfl (by omega) (by rw [← smb_f (P := fun g => gpk F mp m g 4 = true) (by omega) (fun z => (gpk_b hT hFr hFI (by omega)).mpr z k9)]; exact hs) nd)
          | (have k9 : ¬ iA (pb F g) (dwm mp m (mp 130).toNat) = 0 := c_52
             exact ih _ (by omega) (g + 1) _ rfl (by omega) (by rw [← smb_t (P := fun g => gpk F mp m g 4 = true) (by omega) ((gpk_b hT hFr hFI (by omega)).mp k9), ← hs]) nd)
  refine r_aload_0 (pc := 0) dX7_groups_0 ?_
  refine gf_X7_51 (pc := 1) rfl (by assumption) dX7_groups_1 (by assumption) ?_
  refine gf_X7_84 (pc := 4) rfl (by assumption) dX7_groups_4 (by assumption) ?_
  refine r_iload_1 (pc := 7) dX7_groups_7 ?_
  refine k_VI1 (pc := 8) c_X6_isNode lk_X7_93 ⟨Nat.le_of_ble_eq_true rfl, Nat.le_of_ble_eq_true rfl⟩ ⟨rfl, rfl⟩ ⟨Nat.le_of_ble_eq_true rfl, Nat.le_of_ble_eq_true rfl⟩ (k := 6) rfl (by decide) (by assumption) dX7_groups_8 (Nat.le_of_ble_eq_true rfl) ?_
  refine ⟨_, mp, _, rfl, hA.tr, hN.no, hT, by omega, ?_⟩
  refine r_ifne_b (pc := 11) (tgt := 16) dX7_groups_11 (by decide) (fun c_11 => ?_) (fun c_11 => ?_)
  · refine r_aload_0 (pc := 16) dX7_groups_16 ?_
    refine gf_X7_51 (pc := 17) rfl (by assumption) dX7_groups_17 (by assumption) ?_
    refine gf_X7_84 (pc := 20) rfl (by assumption) dX7_groups_20 (by assumption) ?_
    refine r_iload_1 (pc := 23) dX7_groups_23 ?_
    refine k_VI1 (pc := 24) c_X6_disksWithin lk_X7_256 ⟨Nat.le_of_ble_eq_true rfl, Nat.le_of_ble_eq_true rfl⟩ ⟨rfl, rfl⟩ ⟨Nat.le_of_ble_eq_true rfl, Nat.le_of_ble_eq_true rfl⟩ (k := 6) rfl (by decide) (by assumption) dX7_groups_24 (Nat.le_of_ble_eq_true rfl) ?_
    refine ⟨_, mp, _, rfl, hA.tr, hN.no, hN.up, hT, by omega, ?_⟩
    refine r_istore_2 (pc := 27) dX7_groups_27 rfl ?_
    refine r_iconst (pc := 28) dX7_groups_28 ?_
    refine r_istore_3 (pc := 29) dX7_groups_29 rfl ?_
    refine r_iconst (pc := 30) dX7_groups_30 ?_
    refine r_istore_4 (pc := 31) dX7_groups_31 rfl ?_
    exact lp _ 0 0 rfl (by omega) rfl c_11
  · refine r_iconst (pc := 14) dX7_groups_14 ?_
    refine r_iret (pc := 15) hret dX7_groups_15 rfl rfl rfl ?_
    exact hB c_11

theorem wg_nd2 {mp : Int → Int} {n : Int} (h : isNd mp n) : wg mp n = wt mp n := if_pos h
theorem nd_r {mp : Int → Int} (hT : TrM mp) {n : Int} (h : isNd mp n) : 0 ≤ n ∧ n < 22 := by
  have t1 := hT.1
  have t2 := hT.2.1
  have t3 := hT.2.2.1
  rcases h with z | z | z | z <;> omega
theorem dX7_share_0 : decode cX7_share 0 = .ok (.aload_n 0, 1) := by decide +kernel
theorem dX7_share_1 : decode cX7_share 1 = .ok (.getfield 51, 3) := by decide +kernel
theorem dX7_share_4 : decode cX7_share 4 = .ok (.getfield 84, 3) := by decide +kernel
theorem dX7_share_7 : decode cX7_share 7 = .ok (.iload_n 1, 1) := by decide +kernel
theorem dX7_share_8 : decode cX7_share 8 = .ok (.invokevirtual 93, 3) := by decide +kernel
theorem dX7_share_11 : decode cX7_share 11 = .ok (.ifCond .eq 12, 3) := by decide +kernel
theorem dX7_share_14 : decode cX7_share 14 = .ok (.iload_n 2, 1) := by decide +kernel
theorem dX7_share_15 : decode cX7_share 15 = .ok (.ifCond .lt 8, 3) := by decide +kernel
theorem dX7_share_18 : decode cX7_share 18 = .ok (.iload_n 2, 1) := by decide +kernel
theorem dX7_share_19 : decode cX7_share 19 = .ok (.iconst 1, 1) := by decide +kernel
theorem dX7_share_20 : decode cX7_share 20 = .ok (.if_icmp .le 5, 3) := by decide +kernel
theorem dX7_share_23 : decode cX7_share 23 = .ok (.iconst (-1), 1) := by decide +kernel
theorem dX7_share_24 : decode cX7_share 24 = .ok (.ireturn, 1) := by decide +kernel
theorem dX7_share_25 : decode cX7_share 25 = .ok (.aload_n 0, 1) := by decide +kernel
theorem dX7_share_26 : decode cX7_share 26 = .ok (.getfield 51, 3) := by decide +kernel
theorem dX7_share_29 : decode cX7_share 29 = .ok (.getfield 84, 3) := by decide +kernel
theorem dX7_share_32 : decode cX7_share 32 = .ok (.getfield 100, 3) := by decide +kernel
theorem dX7_share_35 : decode cX7_share 35 = .ok (.iconst 0, 1) := by decide +kernel
theorem dX7_share_36 : decode cX7_share 36 = .ok (.iaload, 1) := by decide +kernel
theorem dX7_share_37 : decode cX7_share 37 = .ok (.istore_n 3, 1) := by decide +kernel
theorem dX7_share_38 : decode cX7_share 38 = .ok (.aload_n 0, 1) := by decide +kernel
theorem dX7_share_39 : decode cX7_share 39 = .ok (.getfield 51, 3) := by decide +kernel
theorem dX7_share_42 : decode cX7_share 42 = .ok (.getfield 84, 3) := by decide +kernel
theorem dX7_share_45 : decode cX7_share 45 = .ok (.getfield 100, 3) := by decide +kernel
theorem dX7_share_48 : decode cX7_share 48 = .ok (.iload_n 1, 1) := by decide +kernel
theorem dX7_share_49 : decode cX7_share 49 = .ok (.iaload, 1) := by decide +kernel
theorem dX7_share_50 : decode cX7_share 50 = .ok (.istore 4, 2) := by decide +kernel
theorem dX7_share_52 : decode cX7_share 52 = .ok (.iload_n 3, 1) := by decide +kernel
theorem dX7_share_53 : decode cX7_share 53 = .ok (.iload 4, 2) := by decide +kernel
theorem dX7_share_55 : decode cX7_share 55 = .ok (.invokestatic 265, 3) := by decide +kernel
theorem dX7_share_58 : decode cX7_share 58 = .ok (.istore 5, 2) := by decide +kernel
theorem dX7_share_60 : decode cX7_share 60 = .ok (.iload_n 3, 1) := by decide +kernel
theorem dX7_share_61 : decode cX7_share 61 = .ok (.ifCond .eq 8, 3) := by decide +kernel
theorem dX7_share_64 : decode cX7_share 64 = .ok (.iload 5, 2) := by decide +kernel
theorem dX7_share_66 : decode cX7_share 66 = .ok (.ifCond .ne 6, 3) := by decide +kernel
theorem dX7_share_69 : decode cX7_share 69 = .ok (.bipush (-4), 2) := by decide +kernel
theorem dX7_share_71 : decode cX7_share 71 = .ok (.ireturn, 1) := by decide +kernel
theorem dX7_share_72 : decode cX7_share 72 = .ok (.iload_n 2, 1) := by decide +kernel
theorem dX7_share_73 : decode cX7_share 73 = .ok (.ifCond .ne 8, 3) := by decide +kernel
theorem dX7_share_76 : decode cX7_share 76 = .ok (.iload 4, 2) := by decide +kernel
theorem dX7_share_78 : decode cX7_share 78 = .ok (.goto 4, 3) := by decide +kernel
theorem dX7_share_81 : decode cX7_share 81 = .ok (.iload_n 3, 1) := by decide +kernel
theorem dX7_share_82 : decode cX7_share 82 = .ok (.iload 5, 2) := by decide +kernel
theorem dX7_share_84 : decode cX7_share 84 = .ok (.idiv, 1) := by decide +kernel
theorem dX7_share_85 : decode cX7_share 85 = .ok (.ireturn, 1) := by decide +kernel
set_option maxHeartbeats 4000000 in
set_option maxRecDepth 20000 in
theorem c_X7_share : ConI mX7_share (fun args N lay r h Q => ∃ (c : Nat) (q : Int → Nat) (n : Int) (tx : Int → Int) (ep : Int) (km : Int → Int → Int) (mp F : Int → Int) (ux : Int) (sz ho : Int → Int) (sn : Int) (row : Int → Int) (m k : Int), args = [.ref c, vI m, vI k] ∧ CI lay r h c q n tx ep km mp F ux sz ho sn row ∧ (-2147483648 ≤ m ∧ m < 2147483648) ∧ (-2147483648 ≤ k ∧ k < 2147483648) ∧ (¬ (isNd mp m ∧ (0 ≤ k ∧ k ≤ 1)) → Q (-1) N lay r h) ∧ ((isNd mp m ∧ (0 ≤ k ∧ k ≤ 1)) → (wt mp 0 = 0 → Q (-4) N lay r h) ∧ (wt mp 0 ≠ 0 → (k = 0 → Q (wt mp m / (Int.gcd (wt mp 0) (wt mp m) : Nat)) N lay r h) ∧ (k ≠ 0 → Q (wt mp 0 / (Int.gcd (wt mp 0) (wt mp m) : Nat)) N lay r h)))) := by
  refine ConI.of (by decide) (by rintro _ N lay r h Q ⟨c, q, n, tx, ep, km, mp, F, ux, sz, ho, sn, row, m, k, rfl, hI, h_m, h_k, hB, hQ⟩; exact ⟨rfl, Nat.le_of_ble_eq_true rfl⟩) ?_
  rintro E _ N lay r h Q ⟨c, q, n, tx, ep, km, mp, F, ux, sz, ho, sn, row, m, k, rfl, hI, h_m, h_k, hB, hQ⟩ hret
  obtain ⟨hC, hLt, ⟨hCT, htx⟩, hSK, ⟨he8, hep⟩, hkm, ⟨hk0, h130⟩, hF0, ⟨hDa, hMk, hsz⟩, ⟨hOb, hSe⟩⟩ := id hI
  obtain ⟨cl0, cl6, ⟨cr0, cr1, cr2, cr3, cr4, cr5, cr6⟩, cT, cS, cP, cD, cE, cO⟩ := id hC
  obtain ⟨lr7, lr6, lpl, lrg, ldj⟩ := id hLt
  have hP0 := hkm 0 (by omega) (by omega) (by omega)
  rw [hk0] at hP0
  obtain ⟨hT, hR, hN, hW, hL, hPS⟩ := id hP0
  have hA := lpl 0 (by omega) (by omega)
  have q0r := lrg 0 (by omega) (by omega)
  obtain ⟨pl0, pl1, pl2, pl3, pl4, pl5, pl6, pl7, pl8, pl9, pl10, pl11, pl12, pl13, pr0, pr1, pr2, pr3, pr9, pr10, pr11, qr3, qr4, vr1, vr2, vr3, vr4⟩ := id hA
  obtain ⟨⟨n0, n1, n2⟩, up1, up2, uw, u0, uh⟩ := id hN
  obtain ⟨t1, t2, t3, t4, t5, t6, t7⟩ := id hT
  have w0 := wt_r hT 0
  have wm := wt_r hT m
  show St E mX7_share 0 [some (.ref c), some (vI m), some (vI k), none, none, none] [] (0, 0) N lay r h
  refine r_aload_0 (pc := 0) dX7_share_0 ?_
  refine gf_X7_51 (pc := 1) rfl (by assumption) dX7_share_1 (by assumption) ?_
  refine gf_X7_84 (pc := 4) rfl (by assumption) dX7_share_4 (by assumption) ?_
  refine r_iload_1 (pc := 7) dX7_share_7 ?_
  refine k_VI1 (pc := 8) c_X6_isNode lk_X7_93 ⟨Nat.le_of_ble_eq_true rfl, Nat.le_of_ble_eq_true rfl⟩ ⟨rfl, rfl⟩ ⟨Nat.le_of_ble_eq_true rfl, Nat.le_of_ble_eq_true rfl⟩ (k := 6) rfl (by decide) (by assumption) dX7_share_8 (Nat.le_of_ble_eq_true rfl) ?_
  refine ⟨_, mp, _, rfl, hA.tr, hN.no, hT, by omega, ?_⟩
  refine r_ifeq_b (pc := 11) (tgt := 23) dX7_share_11 (by decide) (fun c_11 => ?_) (fun c_11 => ?_)
  · refine r_iconst (pc := 23) dX7_share_23 ?_
    refine r_iret (pc := 24) hret dX7_share_24 rfl rfl rfl ?_
    first
    | exact hB (fun z => c_11 z.1)
    | exact hB (fun z => by have := z.2; omega)
    | exact (hQ ⟨c_11, by omega⟩).1 (by omega)
    | exact ((hQ ⟨c_11, by omega⟩).2 (by omega)).1 (by omega)
    | exact ((hQ ⟨c_11, by omega⟩).2 (by omega)).2 (by omega)
  · refine r_iload_2 (pc := 14) dX7_share_14 ?_
    refine r_if_lt (pc := 15) (tgt := 23) dX7_share_15 (by decide) (by omega) (fun c_15 => ?_) (fun c_15 => ?_)
    · refine r_iconst (pc := 23) dX7_share_23 ?_
      refine r_iret (pc := 24) hret dX7_share_24 rfl rfl rfl ?_
      first
      | exact hB (fun z => c_11 z.1)
      | exact hB (fun z => by have := z.2; omega)
      | exact (hQ ⟨c_11, by omega⟩).1 (by omega)
      | exact ((hQ ⟨c_11, by omega⟩).2 (by omega)).1 (by omega)
      | exact ((hQ ⟨c_11, by omega⟩).2 (by omega)).2 (by omega)
    · refine r_iload_2 (pc := 18) dX7_share_18 ?_
      refine r_iconst (pc := 19) dX7_share_19 ?_
      refine r_icmp_le (pc := 20) (tgt := 25) dX7_share_20 (by decide) (by omega) (by omega) (fun c_20 => ?_) (fun c_20 => ?_)
      · have nr := nd_r hT c_11
        have e0 : h (q 0 + 3) 0 = wt mp 0 := (ch_wt hT hN hW (Or.inl rfl)).trans (wg_nd2 (Or.inl rfl))
        have em : h (q 0 + 3) m = wt mp m := (ch_wt hT hN hW c_11).trans (wg_nd2 c_11)
        have gz : wt mp 0 ≠ 0 → 0 < ((Int.gcd (wt mp 0) (wt mp m) : Nat) : Int) := fun z => by have := Int.gcd_pos_of_ne_zero_left (wt mp m) z; omega
        have gl : ((Int.gcd (wt mp 0) (wt mp m) : Nat) : Int) ≤ 480 := by
          by_cases z : wt mp 0 = 0
          · rw [z, Int.gcd_zero_left]; omega
          · have := Int.le_of_dvd (show 0 < wt mp 0 by omega) (Int.gcd_dvd_left (wt mp 0) (wt mp m)); omega
        refine r_aload_0 (pc := 25) dX7_share_25 ?_
        refine gf_X7_51 (pc := 26) rfl (by assumption) dX7_share_26 (by assumption) ?_
        refine gf_X7_84 (pc := 29) rfl (by assumption) dX7_share_29 (by assumption) ?_
        refine gf_X7_100 (pc := 32) rfl (by assumption) dX7_share_32 (by assumption) ?_
        refine r_iconst (pc := 35) dX7_share_35 ?_
        refine r_ialdE (pc := 36) (by assumption) (by first | assumption | exact rfl) dX7_share_36 (by omega) (by omega) (fun i_36 => ?_)
        rw [e0] at i_36 ⊢
        refine r_istore_3 (pc := 37) dX7_share_37 rfl ?_
        refine r_aload_0 (pc := 38) dX7_share_38 ?_
        refine gf_X7_51 (pc := 39) rfl (by assumption) dX7_share_39 (by assumption) ?_
        refine gf_X7_84 (pc := 42) rfl (by assumption) dX7_share_42 (by assumption) ?_
        refine gf_X7_100 (pc := 45) rfl (by assumption) dX7_share_45 (by assumption) ?_
        refine r_iload_1 (pc := 48) dX7_share_48 ?_
        refine r_ialdE (pc := 49) (by assumption) (by first | assumption | exact rfl) dX7_share_49 (by omega) (by omega) (fun i_49 => ?_)
        rw [em] at i_49 ⊢
        refine r_istore_4 (pc := 50) dX7_share_50 rfl ?_
        refine r_iload_3 (pc := 52) dX7_share_52 ?_
        refine r_iload_4 (pc := 53) dX7_share_53 ?_
        refine k_SI2 (pc := 55) c_X7_commonDivisor lk_X7_265 ⟨Nat.le_of_ble_eq_true rfl, Nat.le_of_ble_eq_true rfl⟩ ⟨rfl, rfl⟩ ⟨Nat.le_of_ble_eq_true rfl, Nat.le_of_ble_eq_true rfl⟩ dX7_share_55 (Nat.le_of_ble_eq_true rfl) ?_
        refine ⟨_, _, rfl, by omega, by omega, ?_⟩
        refine r_istore_5 (pc := 58) dX7_share_58 rfl ?_
        refine r_iload_3 (pc := 60) dX7_share_60 ?_
        refine r_if_eq (pc := 61) (tgt := 69) dX7_share_61 (by decide) (by omega) (fun c_61 => ?_) (fun c_61 => ?_)
        · refine r_bipush (pc := 69) dX7_share_69 (by decide) ?_
          refine r_iret (pc := 71) hret dX7_share_71 rfl rfl rfl ?_
          first
          | exact hB (fun z => c_11 z.1)
          | exact hB (fun z => by have := z.2; omega)
          | exact (hQ ⟨c_11, by omega⟩).1 (by omega)
          | exact ((hQ ⟨c_11, by omega⟩).2 (by omega)).1 (by omega)
          | exact ((hQ ⟨c_11, by omega⟩).2 (by omega)).2 (by omega)
        · refine r_iload_5 (pc := 64) dX7_share_64 ?_
          refine r_if_ne (pc := 66) (tgt := 72) dX7_share_66 (by decide) (by omega) (fun c_66 => ?_) (fun c_66 => ?_)
          · have gz := gz (by omega)
            refine r_iload_2 (pc := 72) dX7_share_72 ?_
            refine r_if_ne (pc := 73) (tgt := 81) dX7_share_73 (by decide) (by omega) (fun c_73 => ?_) (fun c_73 => ?_)
            · refine r_iload_3 (pc := 81) dX7_share_81 ?_
              refine r_iload_5 (pc := 82) dX7_share_82 ?_
              refine r_idiv (pc := 84) dX7_share_84 (by omega) (by omega) ?_
              refine r_iret (pc := 85) hret dX7_share_85 rfl rfl rfl ?_
              first
              | exact hB (fun z => c_11 z.1)
              | exact hB (fun z => by have := z.2; omega)
              | exact (hQ ⟨c_11, by omega⟩).1 (by omega)
              | exact ((hQ ⟨c_11, by omega⟩).2 (by omega)).1 (by omega)
              | exact ((hQ ⟨c_11, by omega⟩).2 (by omega)).2 (by omega)
            · refine r_iload_4 (pc := 76) dX7_share_76 ?_
              refine r_goto (pc := 78) (tgt := 82) dX7_share_78 (by decide) ?_
              refine r_iload_5 (pc := 82) dX7_share_82 ?_
              refine r_idiv (pc := 84) dX7_share_84 (by omega) (by omega) ?_
              refine r_iret (pc := 85) hret dX7_share_85 rfl rfl rfl ?_
              first
              | exact hB (fun z => c_11 z.1)
              | exact hB (fun z => by have := z.2; omega)
              | exact (hQ ⟨c_11, by omega⟩).1 (by omega)
              | exact ((hQ ⟨c_11, by omega⟩).2 (by omega)).1 (by omega)
              | exact ((hQ ⟨c_11, by omega⟩).2 (by omega)).2 (by omega)
          · refine r_bipush (pc := 69) dX7_share_69 (by decide) ?_
            refine r_iret (pc := 71) hret dX7_share_71 rfl rfl rfl ?_
            first
            | exact hB (fun z => c_11 z.1)
            | exact hB (fun z => by have := z.2; omega)
            | exact (hQ ⟨c_11, by omega⟩).1 (by omega)
            | exact ((hQ ⟨c_11, by omega⟩).2 (by omega)).1 (by omega)
            | exact ((hQ ⟨c_11, by omega⟩).2 (by omega)).2 (by omega)
      · refine r_iconst (pc := 23) dX7_share_23 ?_
        refine r_iret (pc := 24) hret dX7_share_24 rfl rfl rfl ?_
        first
        | exact hB (fun z => c_11 z.1)
        | exact hB (fun z => by have := z.2; omega)
        | exact (hQ ⟨c_11, by omega⟩).1 (by omega)
        | exact ((hQ ⟨c_11, by omega⟩).2 (by omega)).1 (by omega)
        | exact ((hQ ⟨c_11, by omega⟩).2 (by omega)).2 (by omega)

