/-! THE CLASS: changes of the map, third part -/
theorem dX7_divert_0 : decode cX7_divert 0 = .ok (.iload_n 1, 1) := by decide +kernel
theorem dX7_divert_1 : decode cX7_divert 1 = .ok (.invokestatic 172, 3) := by decide +kernel
theorem dX7_divert_4 : decode cX7_divert 4 = .ok (.ifCond .eq 36, 3) := by decide +kernel
theorem dX7_divert_7 : decode cX7_divert 7 = .ok (.aload_n 0, 1) := by decide +kernel
theorem dX7_divert_8 : decode cX7_divert 8 = .ok (.getfield 51, 3) := by decide +kernel
theorem dX7_divert_11 : decode cX7_divert 11 = .ok (.getfield 84, 3) := by decide +kernel
theorem dX7_divert_14 : decode cX7_divert 14 = .ok (.iload_n 2, 1) := by decide +kernel
theorem dX7_divert_15 : decode cX7_divert 15 = .ok (.invokevirtual 97, 3) := by decide +kernel
theorem dX7_divert_18 : decode cX7_divert 18 = .ok (.ifCond .eq 22, 3) := by decide +kernel
theorem dX7_divert_21 : decode cX7_divert 21 = .ok (.aload_n 0, 1) := by decide +kernel
theorem dX7_divert_22 : decode cX7_divert 22 = .ok (.getfield 51, 3) := by decide +kernel
theorem dX7_divert_25 : decode cX7_divert 25 = .ok (.getfield 84, 3) := by decide +kernel
theorem dX7_divert_28 : decode cX7_divert 28 = .ok (.iload_n 3, 1) := by decide +kernel
theorem dX7_divert_29 : decode cX7_divert 29 = .ok (.invokevirtual 97, 3) := by decide +kernel
theorem dX7_divert_32 : decode cX7_divert 32 = .ok (.ifCond .eq 8, 3) := by decide +kernel
theorem dX7_divert_35 : decode cX7_divert 35 = .ok (.iload_n 2, 1) := by decide +kernel
theorem dX7_divert_36 : decode cX7_divert 36 = .ok (.iload_n 3, 1) := by decide +kernel
theorem dX7_divert_37 : decode cX7_divert 37 = .ok (.if_icmp .ne 5, 3) := by decide +kernel
theorem dX7_divert_40 : decode cX7_divert 40 = .ok (.iconst (-1), 1) := by decide +kernel
theorem dX7_divert_41 : decode cX7_divert 41 = .ok (.ireturn, 1) := by decide +kernel
theorem dX7_divert_42 : decode cX7_divert 42 = .ok (.aload_n 0, 1) := by decide +kernel
theorem dX7_divert_43 : decode cX7_divert 43 = .ok (.getfield 51, 3) := by decide +kernel
theorem dX7_divert_46 : decode cX7_divert 46 = .ok (.getfield 123, 3) := by decide +kernel
theorem dX7_divert_49 : decode cX7_divert 49 = .ok (.iload_n 1, 1) := by decide +kernel
theorem dX7_divert_50 : decode cX7_divert 50 = .ok (.iload_n 2, 1) := by decide +kernel
theorem dX7_divert_51 : decode cX7_divert 51 = .ok (.iload_n 3, 1) := by decide +kernel
theorem dX7_divert_52 : decode cX7_divert 52 = .ok (.invokevirtual 175, 3) := by decide +kernel
theorem dX7_divert_55 : decode cX7_divert 55 = .ok (.ifCond .eq 6, 3) := by decide +kernel
theorem dX7_divert_58 : decode cX7_divert 58 = .ok (.bipush (-2), 2) := by decide +kernel
theorem dX7_divert_60 : decode cX7_divert 60 = .ok (.ireturn, 1) := by decide +kernel
theorem dX7_divert_61 : decode cX7_divert 61 = .ok (.aload_n 0, 1) := by decide +kernel
theorem dX7_divert_62 : decode cX7_divert 62 = .ok (.getfield 51, 3) := by decide +kernel
theorem dX7_divert_65 : decode cX7_divert 65 = .ok (.getfield 123, 3) := by decide +kernel
theorem dX7_divert_68 : decode cX7_divert 68 = .ok (.getfield 127, 3) := by decide +kernel
theorem dX7_divert_71 : decode cX7_divert 71 = .ok (.bipush 6, 2) := by decide +kernel
theorem dX7_divert_73 : decode cX7_divert 73 = .ok (.if_icmp .lt 6, 3) := by decide +kernel
theorem dX7_divert_76 : decode cX7_divert 76 = .ok (.bipush (-3), 2) := by decide +kernel
theorem dX7_divert_78 : decode cX7_divert 78 = .ok (.ireturn, 1) := by decide +kernel
theorem dX7_divert_79 : decode cX7_divert 79 = .ok (.aload_n 0, 1) := by decide +kernel
theorem dX7_divert_80 : decode cX7_divert 80 = .ok (.aload_n 0, 1) := by decide +kernel
theorem dX7_divert_81 : decode cX7_divert 81 = .ok (.getfield 51, 3) := by decide +kernel
theorem dX7_divert_84 : decode cX7_divert 84 = .ok (.invokevirtual 147, 3) := by decide +kernel
theorem dX7_divert_87 : decode cX7_divert 87 = .ok (.aload_n 0, 1) := by decide +kernel
theorem dX7_divert_88 : decode cX7_divert 88 = .ok (.getfield 51, 3) := by decide +kernel
theorem dX7_divert_91 : decode cX7_divert 91 = .ok (.getfield 123, 3) := by decide +kernel
theorem dX7_divert_94 : decode cX7_divert 94 = .ok (.iload_n 1, 1) := by decide +kernel
theorem dX7_divert_95 : decode cX7_divert 95 = .ok (.iload_n 2, 1) := by decide +kernel
theorem dX7_divert_96 : decode cX7_divert 96 = .ok (.iload_n 3, 1) := by decide +kernel
theorem dX7_divert_97 : decode cX7_divert 97 = .ok (.invokevirtual 179, 3) := by decide +kernel
theorem dX7_divert_100 : decode cX7_divert 100 = .ok (.aload_n 0, 1) := by decide +kernel
theorem dX7_divert_101 : decode cX7_divert 101 = .ok (.getfield 51, 3) := by decide +kernel
theorem dX7_divert_104 : decode cX7_divert 104 = .ok (.aload_n 0, 1) := by decide +kernel
theorem dX7_divert_105 : decode cX7_divert 105 = .ok (.getfield 19, 3) := by decide +kernel
theorem dX7_divert_108 : decode cX7_divert 108 = .ok (.invokevirtual 74, 3) := by decide +kernel
theorem dX7_divert_111 : decode cX7_divert 111 = .ok (.aload_n 0, 1) := by decide +kernel
theorem dX7_divert_112 : decode cX7_divert 112 = .ok (.getfield 51, 3) := by decide +kernel
theorem dX7_divert_115 : decode cX7_divert 115 = .ok (.getfield 123, 3) := by decide +kernel
theorem dX7_divert_118 : decode cX7_divert 118 = .ok (.getfield 127, 3) := by decide +kernel
theorem dX7_divert_121 : decode cX7_divert 121 = .ok (.ireturn, 1) := by decide +kernel
set_option maxHeartbeats 4000000 in
set_option maxRecDepth 20000 in
theorem c_X7_divert : ConI mX7_divert (fun args N lay r h Q => ∃ (c : Nat) (q : Int → Nat) (n : Int) (tx : Int → Int) (ep : Int) (km : Int → Int → Int) (mp F : Int → Int) (ux : Int) (sz ho : Int → Int) (sn : Int) (row : Int → Int) (g f t : Int), args = [.ref c, vI g, vI f, vI t] ∧ CI lay r h c q n tx ep km mp F ux sz ho sn row ∧ ep < 2147483646 ∧ (-2147483648 ≤ g ∧ g < 2147483648) ∧ (-2147483648 ≤ f ∧ f < 2147483648) ∧ (-2147483648 ≤ t ∧ t < 2147483648) ∧ (¬ ((0 ≤ g ∧ g < 16) ∧ (10 ≤ f ∧ f ≤ 9 + mp 130) ∧ (10 ≤ t ∧ t ≤ 9 + mp 130) ∧ f ≠ t) → Q (-1) N lay r h) ∧ (((0 ≤ g ∧ g < 16) ∧ (10 ≤ f ∧ f ≤ 9 + mp 130) ∧ (10 ≤ t ∧ t ≤ 9 + mp 130) ∧ f ≠ t) → ((∃ i, 0 ≤ i ∧ i < mp 135 ∧ mp (110 + 3 * i) = g ∧ mp (111 + 3 * i) = f ∧ mp (112 + 3 * i) = t) → Q (-2) N lay r h) ∧ (¬ (∃ i, 0 ≤ i ∧ i < mp 135 ∧ mp (110 + 3 * i) = g ∧ mp (111 + 3 * i) = f ∧ mp (112 + 3 * i) = t) → (mp 135 = 6 → Q (-3) N lay r h) ∧ (mp 135 ≠ 6 → ∀ (r2 : RfT) (h2 : HpT), FrR r r2 (fun x => x = c ∨ x = c + 6) → Fr h h2 (fun x => c ≤ x ∧ x < c + 101) → CI lay r2 h2 c (qN q) n tx (ep + 1) (kN km (dvM mp g f t)) (dvM mp g f t) (plr (dvM mp g f t)) ux sz ho sn row → Q (mp 135 + 1) N lay r2 h2)))) := by
  refine ConI.of (by decide) (by rintro _ N lay r h Q ⟨c, q, n, tx, ep, km, mp, F, ux, sz, ho, sn, row, g, f, t, rfl, hI, hep9, h_g, h_f, h_t, hB, hQ⟩; exact ⟨rfl, Nat.le_of_ble_eq_true rfl⟩) ?_
  rintro E _ N lay r h Q ⟨c, q, n, tx, ep, km, mp, F, ux, sz, ho, sn, row, g, f, t, rfl, hI, hep9, h_g, h_f, h_t, hB, hQ⟩ hret
  obtain ⟨hC, hLt, ⟨hCT, htx⟩, hSK, ⟨he8, hep⟩, hkm, ⟨hk0, h130⟩, hF0, ⟨hDa, hMk, hsz⟩, ⟨hOb, hSe⟩⟩ := id hI
  obtain ⟨cl0, cl6, ⟨cr0, cr1, cr2, cr3, cr4, cr5, cr6⟩, cT, cS, cP, cD, cE, cO⟩ := id hC
  obtain ⟨lr7, lr6, lpl, lrg, ldj⟩ := id hLt
  have hP0 := hkm 0 (by omega) (by omega) (by omega)
  rw [hk0] at hP0
  obtain ⟨hT, hR, hN, hW, hL, hPS⟩ := id hP0
  have hA := lpl 0 (by omega) (by omega)
  have q0r := lrg 0 (by omega) (by omega)
  obtain ⟨pl0, pl1, pl2, pl3, pl4, pl5, pl6, pl7, pl8, pl9, pl10, pl11, pl12, pl13, pr0, pr1, pr2, pr3, pr9, pr10, pr11, qr3, qr4, vr1, vr2, vr3, vr4⟩ := id hA
  obtain ⟨⟨n0, n1, n2⟩, up1, up2, uw, u0, uh⟩ := id hN
  obtain ⟨t1, t2, t3, t4, t5, t6, t7⟩ := id hT
  obtain ⟨⟨rl5, rl6, rl7, rl8⟩, rfu, rca, rre, rnu, rdv⟩ := id hL
  have r5 := hR.2.2.2.2.1
  show St E mX7_divert 0 [some (.ref c), some (vI g), some (vI f), some (vI t)] [] (0, 0) N lay r h
  refine r_iload_1 (pc := 0) dX7_divert_0 ?_
  refine k_SI1 (pc := 1) c_X7_isGroup lk_X7_172 ⟨Nat.le_of_ble_eq_true rfl, Nat.le_of_ble_eq_true rfl⟩ ⟨rfl, rfl⟩ ⟨Nat.le_of_ble_eq_true rfl, Nat.le_of_ble_eq_true rfl⟩ dX7_divert_1 (Nat.le_of_ble_eq_true rfl) ?_
  refine ⟨_, rfl, by omega, ?_⟩
  refine r_ifeq_b (pc := 4) (tgt := 40) dX7_divert_4 (by decide) (fun c_4 => ?_) (fun c_4 => ?_)
  · refine r_iconst (pc := 40) dX7_divert_40 ?_
    refine r_iret (pc := 41) hret dX7_divert_41 rfl rfl rfl ?_
    exact hB (by omega)
  · refine r_aload_0 (pc := 7) dX7_divert_7 ?_
    refine gf_X7_51 (pc := 8) rfl (by assumption) dX7_divert_8 (by assumption) ?_
    refine gf_X7_84 (pc := 11) rfl (by assumption) dX7_divert_11 (by assumption) ?_
    refine r_iload_2 (pc := 14) dX7_divert_14 ?_
    refine k_VI1 (pc := 15) c_X6_isDisk lk_X7_97 ⟨Nat.le_of_ble_eq_true rfl, Nat.le_of_ble_eq_true rfl⟩ ⟨rfl, rfl⟩ ⟨Nat.le_of_ble_eq_true rfl, Nat.le_of_ble_eq_true rfl⟩ (k := 6) rfl (by decide) (by assumption) dX7_divert_15 (Nat.le_of_ble_eq_true rfl) ?_
    refine ⟨_, _, _, rfl, by assumption, by omega, by omega, ?_⟩
    refine r_ifeq_b (pc := 18) (tgt := 40) dX7_divert_18 (by decide) (fun c_18 => ?_) (fun c_18 => ?_)
    · refine r_iconst (pc := 40) dX7_divert_40 ?_
      refine r_iret (pc := 41) hret dX7_divert_41 rfl rfl rfl ?_
      exact hB (by omega)
    · refine r_aload_0 (pc := 21) dX7_divert_21 ?_
      refine gf_X7_51 (pc := 22) rfl (by assumption) dX7_divert_22 (by assumption) ?_
      refine gf_X7_84 (pc := 25) rfl (by assumption) dX7_divert_25 (by assumption) ?_
      refine r_iload_3 (pc := 28) dX7_divert_28 ?_
      refine k_VI1 (pc := 29) c_X6_isDisk lk_X7_97 ⟨Nat.le_of_ble_eq_true rfl, Nat.le_of_ble_eq_true rfl⟩ ⟨rfl, rfl⟩ ⟨Nat.le_of_ble_eq_true rfl, Nat.le_of_ble_eq_true rfl⟩ (k := 6) rfl (by decide) (by assumption) dX7_divert_29 (Nat.le_of_ble_eq_true rfl) ?_
      refine ⟨_, _, _, rfl, by assumption, by omega, by omega, ?_⟩
      refine r_ifeq_b (pc := 32) (tgt := 40) dX7_divert_32 (by decide) (fun c_32 => ?_) (fun c_32 => ?_)
      · refine r_iconst (pc := 40) dX7_divert_40 ?_
        refine r_iret (pc := 41) hret dX7_divert_41 rfl rfl rfl ?_
        exact hB (by omega)
      · refine r_iload_2 (pc := 35) dX7_divert_35 ?_
        refine r_iload_3 (pc := 36) dX7_divert_36 ?_
        refine r_icmp_ne (pc := 37) (tgt := 42) dX7_divert_37 (by decide) (by omega) (by omega) (fun c_37 => ?_) (fun c_37 => ?_)
        · refine r_aload_0 (pc := 42) dX7_divert_42 ?_
          refine gf_X7_51 (pc := 43) rfl (by assumption) dX7_divert_43 (by assumption) ?_
          refine gf_X7_123 (pc := 46) rfl (by assumption) dX7_divert_46 (by assumption) ?_
          refine r_iload_1 (pc := 49) dX7_divert_49 ?_
          refine r_iload_2 (pc := 50) dX7_divert_50 ?_
          refine r_iload_3 (pc := 51) dX7_divert_51 ?_
          refine k_VI3 (pc := 52) c_X1_has lk_X7_175 ⟨Nat.le_of_ble_eq_true rfl, Nat.le_of_ble_eq_true rfl⟩ ⟨rfl, rfl⟩ ⟨Nat.le_of_ble_eq_true rfl, Nat.le_of_ble_eq_true rfl⟩ (k := 1) rfl (by decide) (by assumption) dX7_divert_52 (Nat.le_of_ble_eq_true rfl) ?_
          refine ⟨_, mp, _, _, _, rfl, hA, hT, hR, hN, hL, by omega, by omega, by omega, fun g_52 => ?_, fun g_52 => ?_⟩
          · refine r_ifeq_T (pc := 55) (tgt := 61) dX7_divert_55 (by decide) (by decide) ?_
            refine r_aload_0 (pc := 61) dX7_divert_61 ?_
            refine gf_X7_51 (pc := 62) rfl (by assumption) dX7_divert_62 (by assumption) ?_
            refine gf_X7_123 (pc := 65) rfl (by assumption) dX7_divert_65 (by assumption) ?_
            refine gf_X7_127 (pc := 68) rfl (by assumption) dX7_divert_68 (fun i_68 => ?_)
            refine r_bipush (pc := 71) dX7_divert_71 (by decide) ?_
            refine r_icmp_lt (pc := 73) (tgt := 79) dX7_divert_73 (by decide) (by omega) (by omega) (fun c_73 => ?_) (fun c_73 => ?_)
            · refine r_aload_0 (pc := 79) dX7_divert_79 ?_
              refine r_aload_0 (pc := 80) dX7_divert_80 ?_
              refine gf_X7_51 (pc := 81) rfl (by assumption) dX7_divert_81 (by assumption) ?_
              refine k_VV1 (pc := 84) c_X7_beginEpoch lk_X7_147 ⟨Nat.le_of_ble_eq_true rfl, Nat.le_of_ble_eq_true rfl⟩ ⟨rfl, rfl⟩ ⟨Nat.le_of_ble_eq_true rfl, Nat.le_of_ble_eq_true rfl⟩ (k := 7) rfl (by decide) (by assumption) dX7_divert_84 (Nat.le_of_ble_eq_true rfl) ?_
              refine ⟨_, _, q, 0, mp, rfl, hC, hLt, by omega, rfl, hP0, by omega, fun r_84 h_84 fr_84 hC2 hLt2 f_84 o_84 m_84 => ?_⟩
              have q4r := lrg 4 (by omega) (by omega)
              have lr7b : r_84 c 7 = some (q 4) := hLt2.1
              have hA4 : PlAt lay r_84 (q 4) := hLt2.2.2.1 0 (by omega) (by omega)
              obtain ⟨bl0, bl1, bl2, bl3, bl4, bl5, bl6, bl7, bl8, bl9, bl10, bl11, bl12, bl13, br0, br1, br2, br3, br9, br10, br11, cr3_, cr4_, wr1, wr2, wr3, wr4⟩ := id hA4
              obtain ⟨_, _, ⟨_, cr1b, _, _, cr4b, _, _⟩, _, cSb, _, cDb, _, _⟩ := id hC2
              have sl0 : lay (c + 4) = (5, 0) := cS.1
              have T0 : PTr h_84 (q 4) mp := m_84.2.2.1
              have L0 : PRl h_84 (q 4) mp := m_84.2.2.2.2.1
              have n4 := T0.1
              have SK0 : StK (h_84 (c + 4 + 1)) := by rw [f_84 _ (by omega)]; exact hSK
              have ec8 : h_84 c 8 = ep + 1 := by rw [o_84, up_s, he8]
              have ed0 : h_84 (c + 21) = h (c + 21) := f_84 _ (by omega)
              have DA0 : DaS h_84 (c + 21) ux sz ho := hDa.of (f_84 _ (by omega)) (f_84 _ (by omega)) (f_84 _ (by omega))
              have u4 : h_84 (q 4 + 4) 0 = mp 135 := L0.2.2.2.2.1
              refine r_aload_0 (pc := 87) dX7_divert_87 ?_
              refine gf_X7_51 (pc := 88) rfl (by assumption) dX7_divert_88 (by assumption) ?_
              refine gf_X7_123 (pc := 91) rfl (by assumption) dX7_divert_91 (by assumption) ?_
              refine r_iload_1 (pc := 94) dX7_divert_94 ?_
              refine r_iload_2 (pc := 95) dX7_divert_95 ?_
              refine r_iload_3 (pc := 96) dX7_divert_96 ?_
              refine k_VV3 (pc := 97) c_X1_add lk_X7_179 ⟨Nat.le_of_ble_eq_true rfl, Nat.le_of_ble_eq_true rfl⟩ ⟨rfl, rfl⟩ ⟨Nat.le_of_ble_eq_true rfl, Nat.le_of_ble_eq_true rfl⟩ (k := 1) rfl (by decide) (by assumption) dX7_divert_97 (Nat.le_of_ble_eq_true rfl) ?_
              refine ⟨_, _, _, _, rfl, hA4, by omega, by omega, by omega, by omega, ?_⟩
              have TM : TrM (dvM mp g f t) := TrM_c hT (fun j hj => by unfold dvM; rw [up_n (by omega), up_n (by omega), up_n (by omega), up_n (by omega)])
              have RM : RlM (dvM mp g f t) := RlM_dv hR hT (by omega) (by omega) (by omega) (by omega)
              have T1 : PTr (hr (hr (hr (hr h_84 (q 4 + 5) (up (h_84 (q 4 + 5)) (h_84 (q 4 + 4) 0) g)) (q 4 + 6) (up (h_84 (q 4 + 6)) (h_84 (q 4 + 4) 0) f)) (q 4 + 7) (up (h_84 (q 4 + 7)) (h_84 (q 4 + 4) 0) t)) (q 4 + 4) (up (h_84 (q 4 + 4)) 0 (h_84 (q 4 + 4) 0 + 1))) (q 4) (dvM mp g f t) := (T0.of (by rw [hr_n (by omega), hr_n (by omega), hr_n (by omega), hr_n (by omega)]) (by rw [hr_n (by omega), hr_n (by omega), hr_n (by omega), hr_n (by omega)]) (by rw [hr_n (by omega), hr_n (by omega), hr_n (by omega), hr_n (by omega)]) : PTr (hr (hr (hr (hr h_84 (q 4 + 5) (up (h_84 (q 4 + 5)) (h_84 (q 4 + 4) 0) g)) (q 4 + 6) (up (h_84 (q 4 + 6)) (h_84 (q 4 + 4) 0) f)) (q 4 + 7) (up (h_84 (q 4 + 7)) (h_84 (q 4 + 4) 0) t)) (q 4 + 4) (up (h_84 (q 4 + 4)) 0 (h_84 (q 4 + 4) 0 + 1))) (q 4) mp).cg (fun j j0 j1 => by unfold dvM; rw [up_n (by omega), up_n (by omega), up_n (by omega), up_n (by omega)]) hT
              have L1 : PRl (hr (hr (hr (hr h_84 (q 4 + 5) (up (h_84 (q 4 + 5)) (h_84 (q 4 + 4) 0) g)) (q 4 + 6) (up (h_84 (q 4 + 6)) (h_84 (q 4 + 4) 0) f)) (q 4 + 7) (up (h_84 (q 4 + 7)) (h_84 (q 4 + 4) 0) t)) (q 4 + 4) (up (h_84 (q 4 + 4)) 0 (h_84 (q 4 + 4) 0 + 1))) (q 4) (dvM mp g f t) := PRl_dv hT hR L0 (by omega)
              have SK1 : StK ((hr (hr (hr (hr h_84 (q 4 + 5) (up (h_84 (q 4 + 5)) (h_84 (q 4 + 4) 0) g)) (q 4 + 6) (up (h_84 (q 4 + 6)) (h_84 (q 4 + 4) 0) f)) (q 4 + 7) (up (h_84 (q 4 + 7)) (h_84 (q 4 + 4) 0) t)) (q 4 + 4) (up (h_84 (q 4 + 4)) 0 (h_84 (q 4 + 4) 0 + 1))) (c + 4 + 1)) := by rw [hr_n (by omega), hr_n (by omega), hr_n (by omega), hr_n (by omega)]; exact SK0
              refine r_aload_0 (pc := 100) dX7_divert_100 ?_
              refine gf_X7_51 (pc := 101) rfl (by assumption) dX7_divert_101 (by assumption) ?_
              refine r_aload_0 (pc := 104) dX7_divert_104 ?_
              refine gf_X7_19 (pc := 105) rfl (by assumption) dX7_divert_105 (by assumption) ?_
              refine k_VV1 (pc := 108) c_X3_settleAll lk_X7_74 ⟨Nat.le_of_ble_eq_true rfl, Nat.le_of_ble_eq_true rfl⟩ ⟨rfl, rfl⟩ ⟨Nat.le_of_ble_eq_true rfl, Nat.le_of_ble_eq_true rfl⟩ (k := 3) rfl (by decide) (by assumption) dX7_divert_108 (Nat.le_of_ble_eq_true rfl) ?_
              refine ⟨_, _, _, rfl, hA4, cSb, by omega, TM, RM, T1, L1, SK1, fun h_108 f_108 t_108 w_108 l_108 s_108 k_108 => ?_⟩
              refine r_aload_0 (pc := 111) dX7_divert_111 ?_
              refine gf_X7_51 (pc := 112) rfl (by assumption) dX7_divert_112 (by assumption) ?_
              refine gf_X7_123 (pc := 115) rfl (by assumption) dX7_divert_115 (by assumption) ?_
              refine gf_X7_127 (pc := 118) rfl (by assumption) dX7_divert_118 (fun i_118 => ?_)
              have v9 : h_108 (q 4 + 4) 0 = mp 135 + 1 := by rw [l_108.2.2.2.2.1]; exact up_s
              rw [v9] at i_118 ⊢
              refine r_iret (pc := 121) hret dX7_divert_121 rfl rfl rfl ?_
              first
              | exact ((hQ ⟨c_4, by omega, by omega, c_37⟩).2 g_52).1 (by omega)
              | (refine (((hQ ⟨c_4, by omega, by omega, c_37⟩).2 g_52).2 (by omega)) r_84 h_108 fr_84 (fun x hx => by rw [f_108 x (by omega), hr_n (by omega), hr_n (by omega), hr_n (by omega), hr_n (by omega)]; exact f_84 x (by omega)) (hI.ch hC2 hLt2 (fun x x0 x1 hx => by rw [f_108 x (by omega), hr_n (by omega), hr_n (by omega), hr_n (by omega), hr_n (by omega)]; exact f_84 x (by omega)) (by rw [f_108 _ (by omega), hr_n (by omega), hr_n (by omega), hr_n (by omega), hr_n (by omega)]; exact ec8) (by omega) k_108 ⟨TM, RM, t_108, w_108, l_108, s_108⟩ (by unfold dvM; rw [up_n (by omega), up_n (by omega), up_n (by omega), up_n (by omega)]; exact h130) ⟨(show DaS h_108 (c + 21) ux sz ho from DA0.of (by rw [f_108 _ (by omega), hr_n (by omega), hr_n (by omega), hr_n (by omega), hr_n (by omega)]) (by rw [f_108 _ (by omega), hr_n (by omega), hr_n (by omega), hr_n (by omega), hr_n (by omega)]) (by rw [f_108 _ (by omega), hr_n (by omega), hr_n (by omega), hr_n (by omega), hr_n (by omega)])), hMk⟩))
            · refine r_bipush (pc := 76) dX7_divert_76 (by decide) ?_
              refine r_iret (pc := 78) hret dX7_divert_78 rfl rfl rfl ?_
              first
              | exact ((hQ ⟨c_4, by omega, by omega, c_37⟩).2 g_52).1 (by omega)
              | (refine (((hQ ⟨c_4, by omega, by omega, c_37⟩).2 g_52).2 (by omega)) r_84 h_108 fr_84 (fun x hx => by rw [f_108 x (by omega), hr_n (by omega), hr_n (by omega), hr_n (by omega), hr_n (by omega)]; exact f_84 x (by omega)) (hI.ch hC2 hLt2 (fun x x0 x1 hx => by rw [f_108 x (by omega), hr_n (by omega), hr_n (by omega), hr_n (by omega), hr_n (by omega)]; exact f_84 x (by omega)) (by rw [f_108 _ (by omega), hr_n (by omega), hr_n (by omega), hr_n (by omega), hr_n (by omega)]; exact ec8) (by omega) k_108 ⟨TM, RM, t_108, w_108, l_108, s_108⟩ (by unfold dvM; rw [up_n (by omega), up_n (by omega), up_n (by omega), up_n (by omega)]; exact h130) ⟨(show DaS h_108 (c + 21) ux sz ho from DA0.of (by rw [f_108 _ (by omega), hr_n (by omega), hr_n (by omega), hr_n (by omega), hr_n (by omega)]) (by rw [f_108 _ (by omega), hr_n (by omega), hr_n (by omega), hr_n (by omega), hr_n (by omega)]) (by rw [f_108 _ (by omega), hr_n (by omega), hr_n (by omega), hr_n (by omega), hr_n (by omega)])), hMk⟩))
          · refine r_ifeq_F (pc := 55) (tgt := 61) dX7_divert_55 (by decide) (by decide) ?_
            refine r_bipush (pc := 58) dX7_divert_58 (by decide) ?_
            refine r_iret (pc := 60) hret dX7_divert_60 rfl rfl rfl ?_
            exact (hQ ⟨c_4, by omega, by omega, c_37⟩).1 g_52
        · refine r_iconst (pc := 40) dX7_divert_40 ?_
          refine r_iret (pc := 41) hret dX7_divert_41 rfl rfl rfl ?_
          exact hB (by omega)

theorem dX7_lift_0 : decode cX7_lift 0 = .ok (.iload_n 1, 1) := by decide +kernel
theorem dX7_lift_1 : decode cX7_lift 1 = .ok (.ifCond .lt 17, 3) := by decide +kernel
theorem dX7_lift_4 : decode cX7_lift 4 = .ok (.iload_n 1, 1) := by decide +kernel
theorem dX7_lift_5 : decode cX7_lift 5 = .ok (.aload_n 0, 1) := by decide +kernel
theorem dX7_lift_6 : decode cX7_lift 6 = .ok (.getfield 51, 3) := by decide +kernel
theorem dX7_lift_9 : decode cX7_lift 9 = .ok (.getfield 123, 3) := by decide +kernel
theorem dX7_lift_12 : decode cX7_lift 12 = .ok (.getfield 127, 3) := by decide +kernel
theorem dX7_lift_15 : decode cX7_lift 15 = .ok (.if_icmp .lt 5, 3) := by decide +kernel
theorem dX7_lift_18 : decode cX7_lift 18 = .ok (.iconst (-1), 1) := by decide +kernel
theorem dX7_lift_19 : decode cX7_lift 19 = .ok (.ireturn, 1) := by decide +kernel
theorem dX7_lift_20 : decode cX7_lift 20 = .ok (.aload_n 0, 1) := by decide +kernel
theorem dX7_lift_21 : decode cX7_lift 21 = .ok (.aload_n 0, 1) := by decide +kernel
theorem dX7_lift_22 : decode cX7_lift 22 = .ok (.getfield 51, 3) := by decide +kernel
theorem dX7_lift_25 : decode cX7_lift 25 = .ok (.invokevirtual 147, 3) := by decide +kernel
theorem dX7_lift_28 : decode cX7_lift 28 = .ok (.aload_n 0, 1) := by decide +kernel
theorem dX7_lift_29 : decode cX7_lift 29 = .ok (.getfield 51, 3) := by decide +kernel
theorem dX7_lift_32 : decode cX7_lift 32 = .ok (.getfield 123, 3) := by decide +kernel
theorem dX7_lift_35 : decode cX7_lift 35 = .ok (.iload_n 1, 1) := by decide +kernel
theorem dX7_lift_36 : decode cX7_lift 36 = .ok (.invokevirtual 183, 3) := by decide +kernel
theorem dX7_lift_39 : decode cX7_lift 39 = .ok (.aload_n 0, 1) := by decide +kernel
theorem dX7_lift_40 : decode cX7_lift 40 = .ok (.getfield 51, 3) := by decide +kernel
theorem dX7_lift_43 : decode cX7_lift 43 = .ok (.aload_n 0, 1) := by decide +kernel
theorem dX7_lift_44 : decode cX7_lift 44 = .ok (.getfield 19, 3) := by decide +kernel
theorem dX7_lift_47 : decode cX7_lift 47 = .ok (.invokevirtual 74, 3) := by decide +kernel
theorem dX7_lift_50 : decode cX7_lift 50 = .ok (.aload_n 0, 1) := by decide +kernel
theorem dX7_lift_51 : decode cX7_lift 51 = .ok (.getfield 51, 3) := by decide +kernel
theorem dX7_lift_54 : decode cX7_lift 54 = .ok (.getfield 123, 3) := by decide +kernel
theorem dX7_lift_57 : decode cX7_lift 57 = .ok (.getfield 127, 3) := by decide +kernel
theorem dX7_lift_60 : decode cX7_lift 60 = .ok (.ireturn, 1) := by decide +kernel
set_option maxHeartbeats 4000000 in
set_option maxRecDepth 20000 in
theorem c_X7_lift : ConI mX7_lift (fun args N lay r h Q => ∃ (c : Nat) (q : Int → Nat) (n : Int) (tx : Int → Int) (ep : Int) (km : Int → Int → Int) (mp F : Int → Int) (ux : Int) (sz ho : Int → Int) (sn : Int) (row : Int → Int) (i : Int), args = [.ref c, vI i] ∧ CI lay r h c q n tx ep km mp F ux sz ho sn row ∧ ep < 2147483646 ∧ (-2147483648 ≤ i ∧ i < 2147483648) ∧ (¬ (0 ≤ i ∧ i ≤ mp 135 - 1) → Q (-1) N lay r h) ∧ ((0 ≤ i ∧ i ≤ mp 135 - 1) → ∀ (r2 : RfT) (h2 : HpT), FrR r r2 (fun x => x = c ∨ x = c + 6) → Fr h h2 (fun x => c ≤ x ∧ x < c + 101) → CI lay r2 h2 c (qN q) n tx (ep + 1) (kN km (lfR mp i (3 * (mp 135 - 1)))) (lfR mp i (3 * (mp 135 - 1))) (plr (lfR mp i (3 * (mp 135 - 1)))) ux sz ho sn row → Q (mp 135 - 1) N lay r2 h2)) := by
  refine ConI.of (by decide) (by rintro _ N lay r h Q ⟨c, q, n, tx, ep, km, mp, F, ux, sz, ho, sn, row, i, rfl, hI, hep9, h_i, hB, hQ⟩; exact ⟨rfl, Nat.le_of_ble_eq_true rfl⟩) ?_
  rintro E _ N lay r h Q ⟨c, q, n, tx, ep, km, mp, F, ux, sz, ho, sn, row, i, rfl, hI, hep9, h_i, hB, hQ⟩ hret
  obtain ⟨hC, hLt, ⟨hCT, htx⟩, hSK, ⟨he8, hep⟩, hkm, ⟨hk0, h130⟩, hF0, ⟨hDa, hMk, hsz⟩, ⟨hOb, hSe⟩⟩ := id hI
  obtain ⟨cl0, cl6, ⟨cr0, cr1, cr2, cr3, cr4, cr5, cr6⟩, cT, cS, cP, cD, cE, cO⟩ := id hC
  obtain ⟨lr7, lr6, lpl, lrg, ldj⟩ := id hLt
  have hP0 := hkm 0 (by omega) (by omega) (by omega)
  rw [hk0] at hP0
  obtain ⟨hT, hR, hN, hW, hL, hPS⟩ := id hP0
  have hA := lpl 0 (by omega) (by omega)
  have q0r := lrg 0 (by omega) (by omega)
  obtain ⟨pl0, pl1, pl2, pl3, pl4, pl5, pl6, pl7, pl8, pl9, pl10, pl11, pl12, pl13, pr0, pr1, pr2, pr3, pr9, pr10, pr11, qr3, qr4, vr1, vr2, vr3, vr4⟩ := id hA
  obtain ⟨⟨n0, n1, n2⟩, up1, up2, uw, u0, uh⟩ := id hN
  obtain ⟨t1, t2, t3, t4, t5, t6, t7⟩ := id hT
  obtain ⟨⟨rl5, rl6, rl7, rl8⟩, rfu, rca, rre, rnu, rdv⟩ := id hL
  have r5 := hR.2.2.2.2.1
  show St E mX7_lift 0 [some (.ref c), some (vI i)] [] (0, 0) N lay r h
  refine r_iload_1 (pc := 0) dX7_lift_0 ?_
  refine r_if_lt (pc := 1) (tgt := 18) dX7_lift_1 (by decide) (by omega) (fun c_1 => ?_) (fun c_1 => ?_)
  · refine r_iconst (pc := 18) dX7_lift_18 ?_
    refine r_iret (pc := 19) hret dX7_lift_19 rfl rfl rfl ?_
    first
    | exact hB (by omega)
    | (refine (hQ (by omega)) r_25 h_47 fr_25 (fun x hx => by rw [f_47 x (by omega), hr_n (by omega), hr_n (by omega), hr_n (by omega), hr_n (by omega)]; exact f_25 x (by omega)) (hI.ch hC2 hLt2 (fun x x0 x1 hx => by rw [f_47 x (by omega), hr_n (by omega), hr_n (by omega), hr_n (by omega), hr_n (by omega)]; exact f_25 x (by omega)) (by rw [f_47 _ (by omega), hr_n (by omega), hr_n (by omega), hr_n (by omega), hr_n (by omega)]; exact ec8) (by omega) k_47 ⟨TM, RM, t_47, w_47, l_47, s_47⟩ (by unfold lfR; rw [if_neg (by omega), up_n (by omega)]; exact h130) ⟨(show DaS h_47 (c + 21) ux sz ho from DA0.of (by rw [f_47 _ (by omega), hr_n (by omega), hr_n (by omega), hr_n (by omega), hr_n (by omega)]) (by rw [f_47 _ (by omega), hr_n (by omega), hr_n (by omega), hr_n (by omega), hr_n (by omega)]) (by rw [f_47 _ (by omega), hr_n (by omega), hr_n (by omega), hr_n (by omega), hr_n (by omega)])), hMk⟩))
  · refine r_iload_1 (pc := 4) dX7_lift_4 ?_
    refine r_aload_0 (pc := 5) dX7_lift_5 ?_
    refine gf_X7_51 (pc := 6) rfl (by assumption) dX7_lift_6 (by assumption) ?_
    refine gf_X7_123 (pc := 9) rfl (by assumption) dX7_lift_9 (by assumption) ?_
    refine gf_X7_127 (pc := 12) rfl (by assumption) dX7_lift_12 (fun i_12 => ?_)
    refine r_icmp_lt (pc := 15) (tgt := 20) dX7_lift_15 (by decide) (by omega) (by omega) (fun c_15 => ?_) (fun c_15 => ?_)
    · refine r_aload_0 (pc := 20) dX7_lift_20 ?_
      refine r_aload_0 (pc := 21) dX7_lift_21 ?_
      refine gf_X7_51 (pc := 22) rfl (by assumption) dX7_lift_22 (by assumption) ?_
      refine k_VV1 (pc := 25) c_X7_beginEpoch lk_X7_147 ⟨Nat.le_of_ble_eq_true rfl, Nat.le_of_ble_eq_true rfl⟩ ⟨rfl, rfl⟩ ⟨Nat.le_of_ble_eq_true rfl, Nat.le_of_ble_eq_true rfl⟩ (k := 7) rfl (by decide) (by assumption) dX7_lift_25 (Nat.le_of_ble_eq_true rfl) ?_
      refine ⟨_, _, q, 0, mp, rfl, hC, hLt, by omega, rfl, hP0, by omega, fun r_25 h_25 fr_25 hC2 hLt2 f_25 o_25 m_25 => ?_⟩
      have q4r := lrg 4 (by omega) (by omega)
      have lr7b : r_25 c 7 = some (q 4) := hLt2.1
      have hA4 : PlAt lay r_25 (q 4) := hLt2.2.2.1 0 (by omega) (by omega)
      obtain ⟨bl0, bl1, bl2, bl3, bl4, bl5, bl6, bl7, bl8, bl9, bl10, bl11, bl12, bl13, br0, br1, br2, br3, br9, br10, br11, cr3_, cr4_, wr1, wr2, wr3, wr4⟩ := id hA4
      obtain ⟨_, _, ⟨_, cr1b, _, _, cr4b, _, _⟩, _, cSb, _, cDb, _, _⟩ := id hC2
      have sl0 : lay (c + 4) = (5, 0) := cS.1
      have T0 : PTr h_25 (q 4) mp := m_25.2.2.1
      have L0 : PRl h_25 (q 4) mp := m_25.2.2.2.2.1
      have n4 := T0.1
      have SK0 : StK (h_25 (c + 4 + 1)) := by rw [f_25 _ (by omega)]; exact hSK
      have ec8 : h_25 c 8 = ep + 1 := by rw [o_25, up_s, he8]
      have ed0 : h_25 (c + 21) = h (c + 21) := f_25 _ (by omega)
      have DA0 : DaS h_25 (c + 21) ux sz ho := hDa.of (f_25 _ (by omega)) (f_25 _ (by omega)) (f_25 _ (by omega))
      have u4 : h_25 (q 4 + 4) 0 = mp 135 := L0.2.2.2.2.1
      refine r_aload_0 (pc := 28) dX7_lift_28 ?_
      refine gf_X7_51 (pc := 29) rfl (by assumption) dX7_lift_29 (by assumption) ?_
      refine gf_X7_123 (pc := 32) rfl (by assumption) dX7_lift_32 (by assumption) ?_
      refine r_iload_1 (pc := 35) dX7_lift_35 ?_
      refine k_VV1 (pc := 36) c_X1_removeAt lk_X7_183 ⟨Nat.le_of_ble_eq_true rfl, Nat.le_of_ble_eq_true rfl⟩ ⟨rfl, rfl⟩ ⟨Nat.le_of_ble_eq_true rfl, Nat.le_of_ble_eq_true rfl⟩ (k := 1) rfl (by decide) (by assumption) dX7_lift_36 (Nat.le_of_ble_eq_true rfl) ?_
      refine ⟨_, _, rfl, hA4, by omega, by omega, ?_⟩
      have TM : TrM (lfR mp i (3 * (mp 135 - 1))) := TrM_c hT (fun j hj => by unfold lfR; rw [if_neg (by omega), up_n (by omega)])
      have RM : RlM (lfR mp i (3 * (mp 135 - 1))) := RlM_lf hR hT (by omega)
      have T1 : PTr (hr (hr (hr (hr h_25 (q 4 + 4) (up (h_25 (q 4 + 4)) 0 (h_25 (q 4 + 4) 0 - 1))) (q 4 + 5) (shR (h_25 (q 4 + 5)) i (h_25 (q 4 + 4) 0 - 1))) (q 4 + 6) (shR (h_25 (q 4 + 6)) i (h_25 (q 4 + 4) 0 - 1))) (q 4 + 7) (shR (h_25 (q 4 + 7)) i (h_25 (q 4 + 4) 0 - 1))) (q 4) (lfR mp i (3 * (mp 135 - 1))) := (T0.of (by rw [hr_n (by omega), hr_n (by omega), hr_n (by omega), hr_n (by omega)]) (by rw [hr_n (by omega), hr_n (by omega), hr_n (by omega), hr_n (by omega)]) (by rw [hr_n (by omega), hr_n (by omega), hr_n (by omega), hr_n (by omega)]) : PTr (hr (hr (hr (hr h_25 (q 4 + 4) (up (h_25 (q 4 + 4)) 0 (h_25 (q 4 + 4) 0 - 1))) (q 4 + 5) (shR (h_25 (q 4 + 5)) i (h_25 (q 4 + 4) 0 - 1))) (q 4 + 6) (shR (h_25 (q 4 + 6)) i (h_25 (q 4 + 4) 0 - 1))) (q 4 + 7) (shR (h_25 (q 4 + 7)) i (h_25 (q 4 + 4) 0 - 1))) (q 4) mp).cg (fun j j0 j1 => by unfold lfR; rw [if_neg (by omega), up_n (by omega)]) hT
      have L1 : PRl (hr (hr (hr (hr h_25 (q 4 + 4) (up (h_25 (q 4 + 4)) 0 (h_25 (q 4 + 4) 0 - 1))) (q 4 + 5) (shR (h_25 (q 4 + 5)) i (h_25 (q 4 + 4) 0 - 1))) (q 4 + 6) (shR (h_25 (q 4 + 6)) i (h_25 (q 4 + 4) 0 - 1))) (q 4 + 7) (shR (h_25 (q 4 + 7)) i (h_25 (q 4 + 4) 0 - 1))) (q 4) (lfR mp i (3 * (mp 135 - 1))) := PRl_lf hT hR L0 (by omega)
      have SK1 : StK ((hr (hr (hr (hr h_25 (q 4 + 4) (up (h_25 (q 4 + 4)) 0 (h_25 (q 4 + 4) 0 - 1))) (q 4 + 5) (shR (h_25 (q 4 + 5)) i (h_25 (q 4 + 4) 0 - 1))) (q 4 + 6) (shR (h_25 (q 4 + 6)) i (h_25 (q 4 + 4) 0 - 1))) (q 4 + 7) (shR (h_25 (q 4 + 7)) i (h_25 (q 4 + 4) 0 - 1))) (c + 4 + 1)) := by rw [hr_n (by omega), hr_n (by omega), hr_n (by omega), hr_n (by omega)]; exact SK0
      refine r_aload_0 (pc := 39) dX7_lift_39 ?_
      refine gf_X7_51 (pc := 40) rfl (by assumption) dX7_lift_40 (by assumption) ?_
      refine r_aload_0 (pc := 43) dX7_lift_43 ?_
      refine gf_X7_19 (pc := 44) rfl (by assumption) dX7_lift_44 (by assumption) ?_
      refine k_VV1 (pc := 47) c_X3_settleAll lk_X7_74 ⟨Nat.le_of_ble_eq_true rfl, Nat.le_of_ble_eq_true rfl⟩ ⟨rfl, rfl⟩ ⟨Nat.le_of_ble_eq_true rfl, Nat.le_of_ble_eq_true rfl⟩ (k := 3) rfl (by decide) (by assumption) dX7_lift_47 (Nat.le_of_ble_eq_true rfl) ?_
      refine ⟨_, _, _, rfl, hA4, cSb, by omega, TM, RM, T1, L1, SK1, fun h_47 f_47 t_47 w_47 l_47 s_47 k_47 => ?_⟩
      refine r_aload_0 (pc := 50) dX7_lift_50 ?_
      refine gf_X7_51 (pc := 51) rfl (by assumption) dX7_lift_51 (by assumption) ?_
      refine gf_X7_123 (pc := 54) rfl (by assumption) dX7_lift_54 (by assumption) ?_
      refine gf_X7_127 (pc := 57) rfl (by assumption) dX7_lift_57 (fun i_57 => ?_)
      have v9 : h_47 (q 4 + 4) 0 = mp 135 - 1 := by rw [l_47.2.2.2.2.1]; unfold lfR; rw [if_neg (by omega), up_s]
      rw [v9] at i_57 ⊢
      refine r_iret (pc := 60) hret dX7_lift_60 rfl rfl rfl ?_
      first
      | exact hB (by omega)
      | (refine (hQ (by omega)) r_25 h_47 fr_25 (fun x hx => by rw [f_47 x (by omega), hr_n (by omega), hr_n (by omega), hr_n (by omega), hr_n (by omega)]; exact f_25 x (by omega)) (hI.ch hC2 hLt2 (fun x x0 x1 hx => by rw [f_47 x (by omega), hr_n (by omega), hr_n (by omega), hr_n (by omega), hr_n (by omega)]; exact f_25 x (by omega)) (by rw [f_47 _ (by omega), hr_n (by omega), hr_n (by omega), hr_n (by omega), hr_n (by omega)]; exact ec8) (by omega) k_47 ⟨TM, RM, t_47, w_47, l_47, s_47⟩ (by unfold lfR; rw [if_neg (by omega), up_n (by omega)]; exact h130) ⟨(show DaS h_47 (c + 21) ux sz ho from DA0.of (by rw [f_47 _ (by omega), hr_n (by omega), hr_n (by omega), hr_n (by omega), hr_n (by omega)]) (by rw [f_47 _ (by omega), hr_n (by omega), hr_n (by omega), hr_n (by omega), hr_n (by omega)]) (by rw [f_47 _ (by omega), hr_n (by omega), hr_n (by omega), hr_n (by omega), hr_n (by omega)])), hMk⟩))
    · refine r_iconst (pc := 18) dX7_lift_18 ?_
      refine r_iret (pc := 19) hret dX7_lift_19 rfl rfl rfl ?_
      first
      | exact hB (by omega)
      | (refine (hQ (by omega)) r_25 h_47 fr_25 (fun x hx => by rw [f_47 x (by omega), hr_n (by omega), hr_n (by omega), hr_n (by omega), hr_n (by omega)]; exact f_25 x (by omega)) (hI.ch hC2 hLt2 (fun x x0 x1 hx => by rw [f_47 x (by omega), hr_n (by omega), hr_n (by omega), hr_n (by omega), hr_n (by omega)]; exact f_25 x (by omega)) (by rw [f_47 _ (by omega), hr_n (by omega), hr_n (by omega), hr_n (by omega), hr_n (by omega)]; exact ec8) (by omega) k_47 ⟨TM, RM, t_47, w_47, l_47, s_47⟩ (by unfold lfR; rw [if_neg (by omega), up_n (by omega)]; exact h130) ⟨(show DaS h_47 (c + 21) ux sz ho from DA0.of (by rw [f_47 _ (by omega), hr_n (by omega), hr_n (by omega), hr_n (by omega), hr_n (by omega)]) (by rw [f_47 _ (by omega), hr_n (by omega), hr_n (by omega), hr_n (by omega), hr_n (by omega)]) (by rw [f_47 _ (by omega), hr_n (by omega), hr_n (by omega), hr_n (by omega), hr_n (by omega)])), hMk⟩))

theorem dX7_back_0 : decode cX7_back 0 = .ok (.aload_n 0, 1) := by decide +kernel
theorem dX7_back_1 : decode cX7_back 1 = .ok (.iload_n 1, 1) := by decide +kernel
theorem dX7_back_2 : decode cX7_back 2 = .ok (.invokevirtual 221, 3) := by decide +kernel
theorem dX7_back_5 : decode cX7_back 5 = .ok (.astore_n 2, 1) := by decide +kernel
theorem dX7_back_6 : decode cX7_back 6 = .ok (.aload_n 2, 1) := by decide +kernel
theorem dX7_back_7 : decode cX7_back 7 = .ok (.ifnonnull 5, 3) := by decide +kernel
theorem dX7_back_10 : decode cX7_back 10 = .ok (.iconst (-1), 1) := by decide +kernel
theorem dX7_back_11 : decode cX7_back 11 = .ok (.ireturn, 1) := by decide +kernel
theorem dX7_back_12 : decode cX7_back 12 = .ok (.iload_n 1, 1) := by decide +kernel
theorem dX7_back_13 : decode cX7_back 13 = .ok (.aload_n 0, 1) := by decide +kernel
theorem dX7_back_14 : decode cX7_back 14 = .ok (.getfield 225, 3) := by decide +kernel
theorem dX7_back_17 : decode cX7_back 17 = .ok (.if_icmp .eq 43, 3) := by decide +kernel
theorem dX7_back_20 : decode cX7_back 20 = .ok (.aload_n 2, 1) := by decide +kernel
theorem dX7_back_21 : decode cX7_back 21 = .ok (.getfield 84, 3) := by decide +kernel
theorem dX7_back_24 : decode cX7_back 24 = .ok (.getfield 205, 3) := by decide +kernel
theorem dX7_back_27 : decode cX7_back 27 = .ok (.aload_n 0, 1) := by decide +kernel
theorem dX7_back_28 : decode cX7_back 28 = .ok (.getfield 51, 3) := by decide +kernel
theorem dX7_back_31 : decode cX7_back 31 = .ok (.getfield 84, 3) := by decide +kernel
theorem dX7_back_34 : decode cX7_back 34 = .ok (.getfield 205, 3) := by decide +kernel
theorem dX7_back_37 : decode cX7_back 37 = .ok (.if_icmp .lt 23, 3) := by decide +kernel
theorem dX7_back_40 : decode cX7_back 40 = .ok (.aload_n 2, 1) := by decide +kernel
theorem dX7_back_41 : decode cX7_back 41 = .ok (.getfield 84, 3) := by decide +kernel
theorem dX7_back_44 : decode cX7_back 44 = .ok (.getfield 88, 3) := by decide +kernel
theorem dX7_back_47 : decode cX7_back 47 = .ok (.aload_n 0, 1) := by decide +kernel
theorem dX7_back_48 : decode cX7_back 48 = .ok (.getfield 51, 3) := by decide +kernel
theorem dX7_back_51 : decode cX7_back 51 = .ok (.getfield 84, 3) := by decide +kernel
theorem dX7_back_54 : decode cX7_back 54 = .ok (.getfield 88, 3) := by decide +kernel
theorem dX7_back_57 : decode cX7_back 57 = .ok (.if_icmp .ge 6, 3) := by decide +kernel
theorem dX7_back_60 : decode cX7_back 60 = .ok (.bipush (-2), 2) := by decide +kernel
theorem dX7_back_62 : decode cX7_back 62 = .ok (.ireturn, 1) := by decide +kernel
theorem dX7_back_63 : decode cX7_back 63 = .ok (.aload_n 0, 1) := by decide +kernel
theorem dX7_back_64 : decode cX7_back 64 = .ok (.aload_n 2, 1) := by decide +kernel
theorem dX7_back_65 : decode cX7_back 65 = .ok (.invokevirtual 147, 3) := by decide +kernel
theorem dX7_back_68 : decode cX7_back 68 = .ok (.aload_n 0, 1) := by decide +kernel
theorem dX7_back_69 : decode cX7_back 69 = .ok (.getfield 225, 3) := by decide +kernel
theorem dX7_back_72 : decode cX7_back 72 = .ok (.ireturn, 1) := by decide +kernel
set_option maxHeartbeats 4000000 in
set_option maxRecDepth 20000 in
theorem c_X7_back : ConI mX7_back (fun args N lay r h Q => ∃ (c : Nat) (q : Int → Nat) (n : Int) (tx : Int → Int) (ep : Int) (km : Int → Int → Int) (mp F : Int → Int) (ux : Int) (sz ho : Int → Int) (sn : Int) (row : Int → Int) (e : Int), args = [.ref c, vI e] ∧ CI lay r h c q n tx ep km mp F ux sz ho sn row ∧ ep < 2147483646 ∧ (-2147483648 ≤ e ∧ e < 2147483648) ∧ (¬ (1 ≤ e ∧ e ≤ ep ∧ ep - e < 5) → Q (-1) N lay r h) ∧ ((1 ≤ e ∧ e ≤ ep ∧ ep - e < 5) → ((e = ep ∨ km (ep - e) 129 < mp 129 ∨ km (ep - e) 130 < mp 130) → Q (-2) N lay r h) ∧ (¬ (e = ep ∨ km (ep - e) 129 < mp 129 ∨ km (ep - e) 130 < mp 130) → ∀ (r2 : RfT) (h2 : HpT), FrR r r2 (fun x => x = c ∨ x = c + 6) → Fr h h2 (fun x => c ≤ x ∧ x < c + 101) → CI lay r2 h2 c (qN q) n tx (ep + 1) (kN km (km (ep - e))) (km (ep - e)) (plr (km (ep - e))) ux sz ho sn row → Q (ep + 1) N lay r2 h2))) := by
  refine ConI.of (by decide) (by rintro _ N lay r h Q ⟨c, q, n, tx, ep, km, mp, F, ux, sz, ho, sn, row, e, rfl, hI, hep9, h_e, hB, hQ⟩; exact ⟨rfl, Nat.le_of_ble_eq_true rfl⟩) ?_
  rintro E _ N lay r h Q ⟨c, q, n, tx, ep, km, mp, F, ux, sz, ho, sn, row, e, rfl, hI, hep9, h_e, hB, hQ⟩ hret
  obtain ⟨hC, hLt, ⟨hCT, htx⟩, hSK, ⟨he8, hep⟩, hkm, ⟨hk0, h130⟩, hF0, ⟨hDa, hMk, hsz⟩, ⟨hOb, hSe⟩⟩ := id hI
  obtain ⟨cl0, cl6, ⟨cr0, cr1, cr2, cr3, cr4, cr5, cr6⟩, cT, cS, cP, cD, cE, cO⟩ := id hC
  obtain ⟨lr7, lr6, lpl, lrg, ldj⟩ := id hLt
  have hP0 := hkm 0 (by omega) (by omega) (by omega)
  rw [hk0] at hP0
  obtain ⟨hT, hR, hN, hW, hL, hPS⟩ := id hP0
  have hA := lpl 0 (by omega) (by omega)
  have q0r := lrg 0 (by omega) (by omega)
  obtain ⟨pl0, pl1, pl2, pl3, pl4, pl5, pl6, pl7, pl8, pl9, pl10, pl11, pl12, pl13, pr0, pr1, pr2, pr3, pr9, pr10, pr11, qr3, qr4, vr1, vr2, vr3, vr4⟩ := id hA
  obtain ⟨⟨n0, n1, n2⟩, up1, up2, uw, u0, uh⟩ := id hN
  obtain ⟨t1, t2, t3, t4, t5, t6, t7⟩ := id hT
  show St E mX7_back 0 [some (.ref c), some (vI e), none] [] (0, 0) N lay r h
  refine r_aload_0 (pc := 0) dX7_back_0 ?_
  refine r_iload_1 (pc := 1) dX7_back_1 ?_
  refine k_VQ1 (pc := 2) c_X7_planOf lk_X7_221 ⟨Nat.le_of_ble_eq_true rfl, Nat.le_of_ble_eq_true rfl⟩ ⟨rfl, rfl⟩ ⟨Nat.le_of_ble_eq_true rfl, Nat.le_of_ble_eq_true rfl⟩ (k := 7) rfl (by decide) (by assumption) dX7_back_2 (Nat.le_of_ble_eq_true rfl) ?_
  refine ⟨_, q, _, rfl, hC, hLt, by omega, fun g_2 => ?_, fun g_2 => ?_⟩
  · refine r_astoreN_2 (pc := 5) dX7_back_5 rfl ?_
    refine r_aloadN_2 (pc := 6) dX7_back_6 ?_
    refine r_ifnonnullN (pc := 7) dX7_back_7 ?_
    refine r_iconst (pc := 10) dX7_back_10 ?_
    refine r_iret (pc := 11) hret dX7_back_11 rfl rfl rfl ?_
    exact hB (by omega)
  · rw [he8] at g_2 ⊢
    have pe := lpl (ep - e) (by omega) (by omega)
    have pm := hkm (ep - e) (by omega) (by omega) (by omega)
    obtain ⟨yl0, yl1, yr0⟩ : lay (q (ep - e)) = (4, 0) ∧ lay (q (ep - e) + 1) = (7, 0) ∧ r (q (ep - e)) 0 = some (q (ep - e) + 1) := by
      obtain ⟨z0, z1, z2, z3, z4, z5, z6, z7, z8, z9, z10, z11, z12, z13, w0, _⟩ := pe
      exact ⟨z0, z1, w0⟩
    have y1 := pm.2.2.1.1.2.1
    have y2 := pm.2.2.1.1.2.2
    refine r_astore_2 (pc := 5) dX7_back_5 rfl ?_
    refine r_aload_2 (pc := 6) dX7_back_6 ?_
    refine r_ifnonnull (pc := 7) (tgt := 12) dX7_back_7 (by decide) ?_
    refine r_iload_1 (pc := 12) dX7_back_12 ?_
    refine r_aload_0 (pc := 13) dX7_back_13 ?_
    refine gf_X7_225 (pc := 14) rfl (by assumption) dX7_back_14 (fun i_14 => ?_)
    refine r_icmp_eq (pc := 17) (tgt := 60) dX7_back_17 (by decide) (by omega) (by omega) (fun c_17 => ?_) (fun c_17 => ?_)
    · refine r_bipush (pc := 60) dX7_back_60 (by decide) ?_
      refine r_iret (pc := 62) hret dX7_back_62 rfl rfl rfl ?_
      first
      | (have k9 : e = h c 8 := c_17
         exact (hQ (by omega)).1 (Or.inl (by omega)))
      | (have k9 : h (q (ep - e) + 1) 1 < h (q 0 + 1) 1 := c_37
         exact (hQ (by omega)).1 (Or.inr (Or.inl (by omega))))
      | (have k9 : h (q (ep - e) + 1) 2 < h (q 0 + 1) 2 := by omega
         exact (hQ (by omega)).1 (Or.inr (Or.inr (by omega))))
      | (rw [ec8]
         refine (hQ (by omega)).2 (fun z => by rcases z with z | z | z <;> omega) r_65 h_65 fr_65 (fun x hx => f_65 x (by omega)) (hI.ch hC2 hLt2 (fun x x0 x1 hx => f_65 x (by omega)) ec8 (by omega) SK0 m_65 (by omega) ⟨DA0, hMk⟩))
    · refine r_aload_2 (pc := 20) dX7_back_20 ?_
      refine gf_X7_84 (pc := 21) rfl (by assumption) dX7_back_21 (by assumption) ?_
      refine gf_X7_205 (pc := 24) rfl (by assumption) dX7_back_24 (fun i_24 => ?_)
      refine r_aload_0 (pc := 27) dX7_back_27 ?_
      refine gf_X7_51 (pc := 28) rfl (by assumption) dX7_back_28 (by assumption) ?_
      refine gf_X7_84 (pc := 31) rfl (by assumption) dX7_back_31 (by assumption) ?_
      refine gf_X7_205 (pc := 34) rfl (by assumption) dX7_back_34 (fun i_34 => ?_)
      refine r_icmp_lt (pc := 37) (tgt := 60) dX7_back_37 (by decide) (by omega) (by omega) (fun c_37 => ?_) (fun c_37 => ?_)
      · refine r_bipush (pc := 60) dX7_back_60 (by decide) ?_
        refine r_iret (pc := 62) hret dX7_back_62 rfl rfl rfl ?_
        first
        | (have k9 : e = h c 8 := c_17
           exact (hQ (by omega)).1 (Or.inl (by omega)))
        | (have k9 : h (q (ep - e) + 1) 1 < h (q 0 + 1) 1 := c_37
           exact (hQ (by omega)).1 (Or.inr (Or.inl (by omega))))
        | (have k9 : h (q (ep - e) + 1) 2 < h (q 0 + 1) 2 := by omega
           exact (hQ (by omega)).1 (Or.inr (Or.inr (by omega))))
        | (rw [ec8]
           refine (hQ (by omega)).2 (fun z => by rcases z with z | z | z <;> omega) r_65 h_65 fr_65 (fun x hx => f_65 x (by omega)) (hI.ch hC2 hLt2 (fun x x0 x1 hx => f_65 x (by omega)) ec8 (by omega) SK0 m_65 (by omega) ⟨DA0, hMk⟩))
      · refine r_aload_2 (pc := 40) dX7_back_40 ?_
        refine gf_X7_84 (pc := 41) rfl (by assumption) dX7_back_41 (by assumption) ?_
        refine gf_X7_88 (pc := 44) rfl (by assumption) dX7_back_44 (fun i_44 => ?_)
        refine r_aload_0 (pc := 47) dX7_back_47 ?_
        refine gf_X7_51 (pc := 48) rfl (by assumption) dX7_back_48 (by assumption) ?_
        refine gf_X7_84 (pc := 51) rfl (by assumption) dX7_back_51 (by assumption) ?_
        refine gf_X7_88 (pc := 54) rfl (by assumption) dX7_back_54 (fun i_54 => ?_)
        refine r_icmp_ge (pc := 57) (tgt := 63) dX7_back_57 (by decide) (by omega) (by omega) (fun c_57 => ?_) (fun c_57 => ?_)
        · refine r_aload_0 (pc := 63) dX7_back_63 ?_
          refine r_aload_2 (pc := 64) dX7_back_64 ?_
          refine k_VV1 (pc := 65) c_X7_beginEpoch lk_X7_147 ⟨Nat.le_of_ble_eq_true rfl, Nat.le_of_ble_eq_true rfl⟩ ⟨rfl, rfl⟩ ⟨Nat.le_of_ble_eq_true rfl, Nat.le_of_ble_eq_true rfl⟩ (k := 7) rfl (by decide) (by assumption) dX7_back_65 (Nat.le_of_ble_eq_true rfl) ?_
          refine ⟨_, _, q, ep - e, km (ep - e), rfl, hC, hLt, by omega, rfl, pm, by omega, fun r_65 h_65 fr_65 hC2 hLt2 f_65 o_65 m_65 => ?_⟩
          have q4r := lrg 4 (by omega) (by omega)
          have SK0 : StK (h_65 (c + 4 + 1)) := by rw [f_65 _ (by omega)]; exact hSK
          have ec8 : h_65 c 8 = ep + 1 := by rw [o_65, up_s, he8]
          have DA0 : DaS h_65 (c + 21) ux sz ho := hDa.of (f_65 _ (by omega)) (f_65 _ (by omega)) (f_65 _ (by omega))
          refine r_aload_0 (pc := 68) dX7_back_68 ?_
          refine gf_X7_225 (pc := 69) rfl (by assumption) dX7_back_69 (fun i_69 => ?_)
          refine r_iret (pc := 72) hret dX7_back_72 rfl rfl rfl ?_
          first
          | (have k9 : e = h c 8 := c_17
             exact (hQ (by omega)).1 (Or.inl (by omega)))
          | (have k9 : h (q (ep - e) + 1) 1 < h (q 0 + 1) 1 := c_37
             exact (hQ (by omega)).1 (Or.inr (Or.inl (by omega))))
          | (have k9 : h (q (ep - e) + 1) 2 < h (q 0 + 1) 2 := by omega
             exact (hQ (by omega)).1 (Or.inr (Or.inr (by omega))))
          | (rw [ec8]
             refine (hQ (by omega)).2 (fun z => by rcases z with z | z | z <;> omega) r_65 h_65 fr_65 (fun x hx => f_65 x (by omega)) (hI.ch hC2 hLt2 (fun x x0 x1 hx => f_65 x (by omega)) ec8 (by omega) SK0 m_65 (by omega) ⟨DA0, hMk⟩))
        · refine r_bipush (pc := 60) dX7_back_60 (by decide) ?_
          refine r_iret (pc := 62) hret dX7_back_62 rfl rfl rfl ?_
          first
          | (have k9 : e = h c 8 := c_17
             exact (hQ (by omega)).1 (Or.inl (by omega)))
          | (have k9 : h (q (ep - e) + 1) 1 < h (q 0 + 1) 1 := c_37
             exact (hQ (by omega)).1 (Or.inr (Or.inl (by omega))))
          | (have k9 : h (q (ep - e) + 1) 2 < h (q 0 + 1) 2 := by omega
             exact (hQ (by omega)).1 (Or.inr (Or.inr (by omega))))
          | (rw [ec8]
             refine (hQ (by omega)).2 (fun z => by rcases z with z | z | z <;> omega) r_65 h_65 fr_65 (fun x hx => f_65 x (by omega)) (hI.ch hC2 hLt2 (fun x x0 x1 hx => f_65 x (by omega)) ec8 (by omega) SK0 m_65 (by omega) ⟨DA0, hMk⟩))

