/-! THE CLASS: changes of the map, second part -/
theorem dX7_reweigh_0 : decode cX7_reweigh 0 = .ok (.aload_n 0, 1) := by decide +kernel
theorem dX7_reweigh_1 : decode cX7_reweigh 1 = .ok (.getfield 51, 3) := by decide +kernel
theorem dX7_reweigh_4 : decode cX7_reweigh 4 = .ok (.getfield 84, 3) := by decide +kernel
theorem dX7_reweigh_7 : decode cX7_reweigh 7 = .ok (.iload_n 1, 1) := by decide +kernel
theorem dX7_reweigh_8 : decode cX7_reweigh 8 = .ok (.invokevirtual 97, 3) := by decide +kernel
theorem dX7_reweigh_11 : decode cX7_reweigh 11 = .ok (.ifCond .eq 13, 3) := by decide +kernel
theorem dX7_reweigh_14 : decode cX7_reweigh 14 = .ok (.iload_n 2, 1) := by decide +kernel
theorem dX7_reweigh_15 : decode cX7_reweigh 15 = .ok (.ifCond .lt 9, 3) := by decide +kernel
theorem dX7_reweigh_18 : decode cX7_reweigh 18 = .ok (.iload_n 2, 1) := by decide +kernel
theorem dX7_reweigh_19 : decode cX7_reweigh 19 = .ok (.bipush 16, 2) := by decide +kernel
theorem dX7_reweigh_21 : decode cX7_reweigh 21 = .ok (.if_icmp .le 5, 3) := by decide +kernel
theorem dX7_reweigh_24 : decode cX7_reweigh 24 = .ok (.iconst (-1), 1) := by decide +kernel
theorem dX7_reweigh_25 : decode cX7_reweigh 25 = .ok (.ireturn, 1) := by decide +kernel
theorem dX7_reweigh_26 : decode cX7_reweigh 26 = .ok (.aload_n 0, 1) := by decide +kernel
theorem dX7_reweigh_27 : decode cX7_reweigh 27 = .ok (.getfield 51, 3) := by decide +kernel
theorem dX7_reweigh_30 : decode cX7_reweigh 30 = .ok (.getfield 111, 3) := by decide +kernel
theorem dX7_reweigh_33 : decode cX7_reweigh 33 = .ok (.iload_n 1, 1) := by decide +kernel
theorem dX7_reweigh_34 : decode cX7_reweigh 34 = .ok (.iaload, 1) := by decide +kernel
theorem dX7_reweigh_35 : decode cX7_reweigh 35 = .ok (.istore_n 3, 1) := by decide +kernel
theorem dX7_reweigh_36 : decode cX7_reweigh 36 = .ok (.iload_n 3, 1) := by decide +kernel
theorem dX7_reweigh_37 : decode cX7_reweigh 37 = .ok (.iload_n 2, 1) := by decide +kernel
theorem dX7_reweigh_38 : decode cX7_reweigh 38 = .ok (.if_icmp .ne 6, 3) := by decide +kernel
theorem dX7_reweigh_41 : decode cX7_reweigh 41 = .ok (.bipush (-2), 2) := by decide +kernel
theorem dX7_reweigh_43 : decode cX7_reweigh 43 = .ok (.ireturn, 1) := by decide +kernel
theorem dX7_reweigh_44 : decode cX7_reweigh 44 = .ok (.aload_n 0, 1) := by decide +kernel
theorem dX7_reweigh_45 : decode cX7_reweigh 45 = .ok (.aload_n 0, 1) := by decide +kernel
theorem dX7_reweigh_46 : decode cX7_reweigh 46 = .ok (.getfield 51, 3) := by decide +kernel
theorem dX7_reweigh_49 : decode cX7_reweigh 49 = .ok (.invokevirtual 147, 3) := by decide +kernel
theorem dX7_reweigh_52 : decode cX7_reweigh 52 = .ok (.aload_n 0, 1) := by decide +kernel
theorem dX7_reweigh_53 : decode cX7_reweigh 53 = .ok (.getfield 51, 3) := by decide +kernel
theorem dX7_reweigh_56 : decode cX7_reweigh 56 = .ok (.getfield 111, 3) := by decide +kernel
theorem dX7_reweigh_59 : decode cX7_reweigh 59 = .ok (.iload_n 1, 1) := by decide +kernel
theorem dX7_reweigh_60 : decode cX7_reweigh 60 = .ok (.iload_n 2, 1) := by decide +kernel
theorem dX7_reweigh_61 : decode cX7_reweigh 61 = .ok (.iastore, 1) := by decide +kernel
theorem dX7_reweigh_62 : decode cX7_reweigh 62 = .ok (.aload_n 0, 1) := by decide +kernel
theorem dX7_reweigh_63 : decode cX7_reweigh 63 = .ok (.getfield 51, 3) := by decide +kernel
theorem dX7_reweigh_66 : decode cX7_reweigh 66 = .ok (.aload_n 0, 1) := by decide +kernel
theorem dX7_reweigh_67 : decode cX7_reweigh 67 = .ok (.getfield 19, 3) := by decide +kernel
theorem dX7_reweigh_70 : decode cX7_reweigh 70 = .ok (.invokevirtual 74, 3) := by decide +kernel
theorem dX7_reweigh_73 : decode cX7_reweigh 73 = .ok (.iload_n 3, 1) := by decide +kernel
theorem dX7_reweigh_74 : decode cX7_reweigh 74 = .ok (.ireturn, 1) := by decide +kernel
set_option maxHeartbeats 4000000 in
set_option maxRecDepth 20000 in
theorem c_X7_reweigh : ConI mX7_reweigh (fun args N lay r h Q => ∃ (c : Nat) (q : Int → Nat) (n : Int) (tx : Int → Int) (ep : Int) (km : Int → Int → Int) (mp F : Int → Int) (ux : Int) (sz ho : Int → Int) (sn : Int) (row : Int → Int) (d w : Int), args = [.ref c, vI d, vI w] ∧ CI lay r h c q n tx ep km mp F ux sz ho sn row ∧ ep < 2147483646 ∧ (-2147483648 ≤ d ∧ d < 2147483648) ∧ (-2147483648 ≤ w ∧ w < 2147483648) ∧ (¬ ((10 ≤ d ∧ d ≤ 9 + mp 130) ∧ (0 ≤ w ∧ w ≤ 16)) → Q (-1) N lay r h) ∧ (((10 ≤ d ∧ d ≤ 9 + mp 130) ∧ (0 ≤ w ∧ w ≤ 16)) → (mp (66 + d) = w → Q (-2) N lay r h) ∧ (mp (66 + d) ≠ w → ∀ (r2 : RfT) (h2 : HpT), FrR r r2 (fun x => x = c ∨ x = c + 6) → Fr h h2 (fun x => c ≤ x ∧ x < c + 101) → CI lay r2 h2 c (qN q) n tx (ep + 1) (kN km (up mp (66 + d) w)) (up mp (66 + d) w) (plr (up mp (66 + d) w)) ux sz ho sn row → Q (mp (66 + d)) N lay r2 h2))) := by
  refine ConI.of (by decide) (by rintro _ N lay r h Q ⟨c, q, n, tx, ep, km, mp, F, ux, sz, ho, sn, row, d, w, rfl, hI, hep9, h_d, h_w, hB, hQ⟩; exact ⟨rfl, Nat.le_of_ble_eq_true rfl⟩) ?_
  rintro E _ N lay r h Q ⟨c, q, n, tx, ep, km, mp, F, ux, sz, ho, sn, row, d, w, rfl, hI, hep9, h_d, h_w, hB, hQ⟩ hret
  obtain ⟨hC, hLt, ⟨hCT, htx⟩, hSK, ⟨he8, hep⟩, hkm, ⟨hk0, h130⟩, hF0, ⟨hDa, hMk, hsz⟩, ⟨hOb, hSe⟩⟩ := id hI
  obtain ⟨cl0, cl6, ⟨cr0, cr1, cr2, cr3, cr4, cr5, cr6⟩, cT, cS, cP, cD, cE, cO⟩ := id hC
  obtain ⟨lr7, lr6, lpl, lrg, ldj⟩ := id hLt
  have hP0 := hkm 0 (by omega) (by omega) (by omega)
  rw [hk0] at hP0
  obtain ⟨hT, hR, hN, hW, hL, hPS⟩ := id hP0
  have hA := lpl 0 (by omega) (by omega)
  have q0r := lrg 0 (by omega) (by omega)
  obtain ⟨pl0, pl1, pl2, pl3, pl4, pl5, pl6, pl7, pl8, pl9, pl10, pl11, pl12, pl13, pr0, pr1, pr2, pr3, pr9, pr10, pr11, qr3, qr4, vr1, vr2, vr3, vr4⟩ := id hA
  obtain ⟨⟨n0, n1, n2⟩, up1, up2, uw, u0, uh⟩ := id hN
  obtain ⟨t1, t2, t3, t4, t5, t6, t7⟩ := id hT
  obtain ⟨⟨rl5, rl6, rl7, rl8⟩, rfu, rca, rre, rnu, rdv⟩ := id hL
  have r5 := hR.2.2.2.2.1
  show St E mX7_reweigh 0 [some (.ref c), some (vI d), some (vI w), none] [] (0, 0) N lay r h
  refine r_aload_0 (pc := 0) dX7_reweigh_0 ?_
  refine gf_X7_51 (pc := 1) rfl (by assumption) dX7_reweigh_1 (by assumption) ?_
  refine gf_X7_84 (pc := 4) rfl (by assumption) dX7_reweigh_4 (by assumption) ?_
  refine r_iload_1 (pc := 7) dX7_reweigh_7 ?_
  refine k_VI1 (pc := 8) c_X6_isDisk lk_X7_97 ⟨Nat.le_of_ble_eq_true rfl, Nat.le_of_ble_eq_true rfl⟩ ⟨rfl, rfl⟩ ⟨Nat.le_of_ble_eq_true rfl, Nat.le_of_ble_eq_true rfl⟩ (k := 6) rfl (by decide) (by assumption) dX7_reweigh_8 (Nat.le_of_ble_eq_true rfl) ?_
  refine ⟨_, _, _, rfl, by assumption, by omega, by omega, ?_⟩
  refine r_ifeq_b (pc := 11) (tgt := 24) dX7_reweigh_11 (by decide) (fun c_11 => ?_) (fun c_11 => ?_)
  · refine r_iconst (pc := 24) dX7_reweigh_24 ?_
    refine r_iret (pc := 25) hret dX7_reweigh_25 rfl rfl rfl ?_
    first
    | exact hB (by omega)
    | exact (hQ (by omega)).1 (by omega)
    | (refine ((hQ (by omega)).2 (by omega)) r_49 h_70 fr_49 (fun x hx => by rw [f_70 x (by omega), hr_n (by omega)]; exact f_49 x (by omega)) (hI.ch hC2 hLt2 (fun x x0 x1 hx => by rw [f_70 x (by omega), hr_n (by omega)]; exact f_49 x (by omega)) (by rw [f_70 _ (by omega), hr_n (by omega)]; exact ec8) (by omega) k_70 ⟨TM, RM, t_70, w_70, l_70, s_70⟩ (by rw [up_n (by omega)]; exact h130) ⟨(show DaS h_70 (c + 21) ux sz ho from DA0.of (by rw [f_70 _ (by omega), hr_n (by omega)]) (by rw [f_70 _ (by omega), hr_n (by omega)]) (by rw [f_70 _ (by omega), hr_n (by omega)])), hMk⟩))
  · refine r_iload_2 (pc := 14) dX7_reweigh_14 ?_
    refine r_if_lt (pc := 15) (tgt := 24) dX7_reweigh_15 (by decide) (by omega) (fun c_15 => ?_) (fun c_15 => ?_)
    · refine r_iconst (pc := 24) dX7_reweigh_24 ?_
      refine r_iret (pc := 25) hret dX7_reweigh_25 rfl rfl rfl ?_
      first
      | exact hB (by omega)
      | exact (hQ (by omega)).1 (by omega)
      | (refine ((hQ (by omega)).2 (by omega)) r_49 h_70 fr_49 (fun x hx => by rw [f_70 x (by omega), hr_n (by omega)]; exact f_49 x (by omega)) (hI.ch hC2 hLt2 (fun x x0 x1 hx => by rw [f_70 x (by omega), hr_n (by omega)]; exact f_49 x (by omega)) (by rw [f_70 _ (by omega), hr_n (by omega)]; exact ec8) (by omega) k_70 ⟨TM, RM, t_70, w_70, l_70, s_70⟩ (by rw [up_n (by omega)]; exact h130) ⟨(show DaS h_70 (c + 21) ux sz ho from DA0.of (by rw [f_70 _ (by omega), hr_n (by omega)]) (by rw [f_70 _ (by omega), hr_n (by omega)]) (by rw [f_70 _ (by omega), hr_n (by omega)])), hMk⟩))
    · refine r_iload_2 (pc := 18) dX7_reweigh_18 ?_
      refine r_bipush (pc := 19) dX7_reweigh_19 (by decide) ?_
      refine r_icmp_le (pc := 21) (tgt := 26) dX7_reweigh_21 (by decide) (by omega) (by omega) (fun c_21 => ?_) (fun c_21 => ?_)
      · refine r_aload_0 (pc := 26) dX7_reweigh_26 ?_
        refine gf_X7_51 (pc := 27) rfl (by assumption) dX7_reweigh_27 (by assumption) ?_
        refine gf_X7_111 (pc := 30) rfl (by assumption) dX7_reweigh_30 (by assumption) ?_
        refine r_iload_1 (pc := 33) dX7_reweigh_33 ?_
        refine r_ialdE (pc := 34) (by assumption) (by first | assumption | exact rfl) dX7_reweigh_34 (by omega) (by omega) (fun i_34 => ?_)
        rw [rre d (by omega) (by omega)] at i_34 ⊢
        refine r_istore_3 (pc := 35) dX7_reweigh_35 rfl ?_
        refine r_iload_3 (pc := 36) dX7_reweigh_36 ?_
        refine r_iload_2 (pc := 37) dX7_reweigh_37 ?_
        refine r_icmp_ne (pc := 38) (tgt := 44) dX7_reweigh_38 (by decide) (by omega) (by omega) (fun c_38 => ?_) (fun c_38 => ?_)
        · refine r_aload_0 (pc := 44) dX7_reweigh_44 ?_
          refine r_aload_0 (pc := 45) dX7_reweigh_45 ?_
          refine gf_X7_51 (pc := 46) rfl (by assumption) dX7_reweigh_46 (by assumption) ?_
          refine k_VV1 (pc := 49) c_X7_beginEpoch lk_X7_147 ⟨Nat.le_of_ble_eq_true rfl, Nat.le_of_ble_eq_true rfl⟩ ⟨rfl, rfl⟩ ⟨Nat.le_of_ble_eq_true rfl, Nat.le_of_ble_eq_true rfl⟩ (k := 7) rfl (by decide) (by assumption) dX7_reweigh_49 (Nat.le_of_ble_eq_true rfl) ?_
          refine ⟨_, _, q, 0, mp, rfl, hC, hLt, by omega, rfl, hP0, by omega, fun r_49 h_49 fr_49 hC2 hLt2 f_49 o_49 m_49 => ?_⟩
          have q4r := lrg 4 (by omega) (by omega)
          have lr7b : r_49 c 7 = some (q 4) := hLt2.1
          have hA4 : PlAt lay r_49 (q 4) := hLt2.2.2.1 0 (by omega) (by omega)
          obtain ⟨bl0, bl1, bl2, bl3, bl4, bl5, bl6, bl7, bl8, bl9, bl10, bl11, bl12, bl13, br0, br1, br2, br3, br9, br10, br11, cr3_, cr4_, wr1, wr2, wr3, wr4⟩ := id hA4
          obtain ⟨_, _, ⟨_, cr1b, _, _, cr4b, _, _⟩, _, cSb, _, cDb, _, _⟩ := id hC2
          have sl0 : lay (c + 4) = (5, 0) := cS.1
          have T0 : PTr h_49 (q 4) mp := m_49.2.2.1
          have L0 : PRl h_49 (q 4) mp := m_49.2.2.2.2.1
          have n4 := T0.1
          have SK0 : StK (h_49 (c + 4 + 1)) := by rw [f_49 _ (by omega)]; exact hSK
          have ec8 : h_49 c 8 = ep + 1 := by rw [o_49, up_s, he8]
          have ed0 : h_49 (c + 21) = h (c + 21) := f_49 _ (by omega)
          have DA0 : DaS h_49 (c + 21) ux sz ho := hDa.of (f_49 _ (by omega)) (f_49 _ (by omega)) (f_49 _ (by omega))
          refine r_aload_0 (pc := 52) dX7_reweigh_52 ?_
          refine gf_X7_51 (pc := 53) rfl (by assumption) dX7_reweigh_53 (by assumption) ?_
          refine gf_X7_111 (pc := 56) rfl (by assumption) dX7_reweigh_56 (by assumption) ?_
          refine r_iload_1 (pc := 59) dX7_reweigh_59 ?_
          refine r_iload_2 (pc := 60) dX7_reweigh_60 ?_
          refine r_iastE (pc := 61) (by assumption) rfl dX7_reweigh_61 (by omega) (by omega) (by omega) ?_
          have TM : TrM (up mp (66 + d) w) := TrM_c hT (fun j hj => up_n (by omega))
          have RM : RlM (up mp (66 + d) w) := RlM_rw hR hT (by omega) (by omega)
          have T1 : PTr (hr h_49 (q 4 + 10) (up (h_49 (q 4 + 10)) d w)) (q 4) (up mp (66 + d) w) := (T0.of (hr_n (by omega)) (hr_n (by omega)) (hr_n (by omega)) : PTr (hr h_49 (q 4 + 10) (up (h_49 (q 4 + 10)) d w)) (q 4) mp).cg (fun j j0 j1 => up_n (by omega)) hT
          have L1 : PRl (hr h_49 (q 4 + 10) (up (h_49 (q 4 + 10)) d w)) (q 4) (up mp (66 + d) w) := PRl_rw hT hR L0 (by omega)
          have SK1 : StK ((hr h_49 (q 4 + 10) (up (h_49 (q 4 + 10)) d w)) (c + 4 + 1)) := by rw [hr_n (by omega)]; exact SK0
          refine r_aload_0 (pc := 62) dX7_reweigh_62 ?_
          refine gf_X7_51 (pc := 63) rfl (by assumption) dX7_reweigh_63 (by assumption) ?_
          refine r_aload_0 (pc := 66) dX7_reweigh_66 ?_
          refine gf_X7_19 (pc := 67) rfl (by assumption) dX7_reweigh_67 (by assumption) ?_
          refine k_VV1 (pc := 70) c_X3_settleAll lk_X7_74 ⟨Nat.le_of_ble_eq_true rfl, Nat.le_of_ble_eq_true rfl⟩ ⟨rfl, rfl⟩ ⟨Nat.le_of_ble_eq_true rfl, Nat.le_of_ble_eq_true rfl⟩ (k := 3) rfl (by decide) (by assumption) dX7_reweigh_70 (Nat.le_of_ble_eq_true rfl) ?_
          refine ⟨_, _, _, rfl, hA4, cSb, by omega, TM, RM, T1, L1, SK1, fun h_70 f_70 t_70 w_70 l_70 s_70 k_70 => ?_⟩
          refine r_iload_3 (pc := 73) dX7_reweigh_73 ?_
          refine r_iret (pc := 74) hret dX7_reweigh_74 rfl rfl rfl ?_
          first
          | exact hB (by omega)
          | exact (hQ (by omega)).1 (by omega)
          | (refine ((hQ (by omega)).2 (by omega)) r_49 h_70 fr_49 (fun x hx => by rw [f_70 x (by omega), hr_n (by omega)]; exact f_49 x (by omega)) (hI.ch hC2 hLt2 (fun x x0 x1 hx => by rw [f_70 x (by omega), hr_n (by omega)]; exact f_49 x (by omega)) (by rw [f_70 _ (by omega), hr_n (by omega)]; exact ec8) (by omega) k_70 ⟨TM, RM, t_70, w_70, l_70, s_70⟩ (by rw [up_n (by omega)]; exact h130) ⟨(show DaS h_70 (c + 21) ux sz ho from DA0.of (by rw [f_70 _ (by omega), hr_n (by omega)]) (by rw [f_70 _ (by omega), hr_n (by omega)]) (by rw [f_70 _ (by omega), hr_n (by omega)])), hMk⟩))
        · refine r_bipush (pc := 41) dX7_reweigh_41 (by decide) ?_
          refine r_iret (pc := 43) hret dX7_reweigh_43 rfl rfl rfl ?_
          first
          | exact hB (by omega)
          | exact (hQ (by omega)).1 (by omega)
          | (refine ((hQ (by omega)).2 (by omega)) r_49 h_70 fr_49 (fun x hx => by rw [f_70 x (by omega), hr_n (by omega)]; exact f_49 x (by omega)) (hI.ch hC2 hLt2 (fun x x0 x1 hx => by rw [f_70 x (by omega), hr_n (by omega)]; exact f_49 x (by omega)) (by rw [f_70 _ (by omega), hr_n (by omega)]; exact ec8) (by omega) k_70 ⟨TM, RM, t_70, w_70, l_70, s_70⟩ (by rw [up_n (by omega)]; exact h130) ⟨(show DaS h_70 (c + 21) ux sz ho from DA0.of (by rw [f_70 _ (by omega), hr_n (by omega)]) (by rw [f_70 _ (by omega), hr_n (by omega)]) (by rw [f_70 _ (by omega), hr_n (by omega)])), hMk⟩))
      · refine r_iconst (pc := 24) dX7_reweigh_24 ?_
        refine r_iret (pc := 25) hret dX7_reweigh_25 rfl rfl rfl ?_
        first
        | exact hB (by omega)
        | exact (hQ (by omega)).1 (by omega)
        | (refine ((hQ (by omega)).2 (by omega)) r_49 h_70 fr_49 (fun x hx => by rw [f_70 x (by omega), hr_n (by omega)]; exact f_49 x (by omega)) (hI.ch hC2 hLt2 (fun x x0 x1 hx => by rw [f_70 x (by omega), hr_n (by omega)]; exact f_49 x (by omega)) (by rw [f_70 _ (by omega), hr_n (by omega)]; exact ec8) (by omega) k_70 ⟨TM, RM, t_70, w_70, l_70, s_70⟩ (by rw [up_n (by omega)]; exact h130) ⟨(show DaS h_70 (c + 21) ux sz ho from DA0.of (by rw [f_70 _ (by omega), hr_n (by omega)]) (by rw [f_70 _ (by omega), hr_n (by omega)]) (by rw [f_70 _ (by omega), hr_n (by omega)])), hMk⟩))

theorem dX7_rule_0 : decode cX7_rule 0 = .ok (.iload_n 1, 1) := by decide +kernel
theorem dX7_rule_1 : decode cX7_rule 1 = .ok (.iload_n 2, 1) := by decide +kernel
theorem dX7_rule_2 : decode cX7_rule 2 = .ok (.iload_n 3, 1) := by decide +kernel
theorem dX7_rule_3 : decode cX7_rule 3 = .ok (.invokestatic 187, 3) := by decide +kernel
theorem dX7_rule_6 : decode cX7_rule 6 = .ok (.ifCond .ne 5, 3) := by decide +kernel
theorem dX7_rule_9 : decode cX7_rule 9 = .ok (.iconst (-1), 1) := by decide +kernel
theorem dX7_rule_10 : decode cX7_rule 10 = .ok (.ireturn, 1) := by decide +kernel
theorem dX7_rule_11 : decode cX7_rule 11 = .ok (.bipush 100, 2) := by decide +kernel
theorem dX7_rule_13 : decode cX7_rule 13 = .ok (.aload_n 0, 1) := by decide +kernel
theorem dX7_rule_14 : decode cX7_rule 14 = .ok (.getfield 51, 3) := by decide +kernel
theorem dX7_rule_17 : decode cX7_rule 17 = .ok (.getfield 190, 3) := by decide +kernel
theorem dX7_rule_20 : decode cX7_rule 20 = .ok (.imul, 1) := by decide +kernel
theorem dX7_rule_21 : decode cX7_rule 21 = .ok (.bipush 10, 2) := by decide +kernel
theorem dX7_rule_23 : decode cX7_rule 23 = .ok (.aload_n 0, 1) := by decide +kernel
theorem dX7_rule_24 : decode cX7_rule 24 = .ok (.getfield 51, 3) := by decide +kernel
theorem dX7_rule_27 : decode cX7_rule 27 = .ok (.getfield 193, 3) := by decide +kernel
theorem dX7_rule_30 : decode cX7_rule 30 = .ok (.imul, 1) := by decide +kernel
theorem dX7_rule_31 : decode cX7_rule 31 = .ok (.iadd, 1) := by decide +kernel
theorem dX7_rule_32 : decode cX7_rule 32 = .ok (.aload_n 0, 1) := by decide +kernel
theorem dX7_rule_33 : decode cX7_rule 33 = .ok (.getfield 51, 3) := by decide +kernel
theorem dX7_rule_36 : decode cX7_rule 36 = .ok (.getfield 196, 3) := by decide +kernel
theorem dX7_rule_39 : decode cX7_rule 39 = .ok (.iadd, 1) := by decide +kernel
theorem dX7_rule_40 : decode cX7_rule 40 = .ok (.istore 4, 2) := by decide +kernel
theorem dX7_rule_42 : decode cX7_rule 42 = .ok (.iload 4, 2) := by decide +kernel
theorem dX7_rule_44 : decode cX7_rule 44 = .ok (.bipush 100, 2) := by decide +kernel
theorem dX7_rule_46 : decode cX7_rule 46 = .ok (.iload_n 1, 1) := by decide +kernel
theorem dX7_rule_47 : decode cX7_rule 47 = .ok (.imul, 1) := by decide +kernel
theorem dX7_rule_48 : decode cX7_rule 48 = .ok (.bipush 10, 2) := by decide +kernel
theorem dX7_rule_50 : decode cX7_rule 50 = .ok (.iload_n 2, 1) := by decide +kernel
theorem dX7_rule_51 : decode cX7_rule 51 = .ok (.imul, 1) := by decide +kernel
theorem dX7_rule_52 : decode cX7_rule 52 = .ok (.iadd, 1) := by decide +kernel
theorem dX7_rule_53 : decode cX7_rule 53 = .ok (.iload_n 3, 1) := by decide +kernel
theorem dX7_rule_54 : decode cX7_rule 54 = .ok (.iadd, 1) := by decide +kernel
theorem dX7_rule_55 : decode cX7_rule 55 = .ok (.if_icmp .ne 6, 3) := by decide +kernel
theorem dX7_rule_58 : decode cX7_rule 58 = .ok (.bipush (-2), 2) := by decide +kernel
theorem dX7_rule_60 : decode cX7_rule 60 = .ok (.ireturn, 1) := by decide +kernel
theorem dX7_rule_61 : decode cX7_rule 61 = .ok (.aload_n 0, 1) := by decide +kernel
theorem dX7_rule_62 : decode cX7_rule 62 = .ok (.aload_n 0, 1) := by decide +kernel
theorem dX7_rule_63 : decode cX7_rule 63 = .ok (.getfield 51, 3) := by decide +kernel
theorem dX7_rule_66 : decode cX7_rule 66 = .ok (.invokevirtual 147, 3) := by decide +kernel
theorem dX7_rule_69 : decode cX7_rule 69 = .ok (.aload_n 0, 1) := by decide +kernel
theorem dX7_rule_70 : decode cX7_rule 70 = .ok (.getfield 51, 3) := by decide +kernel
theorem dX7_rule_73 : decode cX7_rule 73 = .ok (.iload_n 1, 1) := by decide +kernel
theorem dX7_rule_74 : decode cX7_rule 74 = .ok (.iload_n 2, 1) := by decide +kernel
theorem dX7_rule_75 : decode cX7_rule 75 = .ok (.iload_n 3, 1) := by decide +kernel
theorem dX7_rule_76 : decode cX7_rule 76 = .ok (.invokevirtual 199, 3) := by decide +kernel
theorem dX7_rule_79 : decode cX7_rule 79 = .ok (.aload_n 0, 1) := by decide +kernel
theorem dX7_rule_80 : decode cX7_rule 80 = .ok (.getfield 51, 3) := by decide +kernel
theorem dX7_rule_83 : decode cX7_rule 83 = .ok (.aload_n 0, 1) := by decide +kernel
theorem dX7_rule_84 : decode cX7_rule 84 = .ok (.getfield 19, 3) := by decide +kernel
theorem dX7_rule_87 : decode cX7_rule 87 = .ok (.invokevirtual 74, 3) := by decide +kernel
theorem dX7_rule_90 : decode cX7_rule 90 = .ok (.iload 4, 2) := by decide +kernel
theorem dX7_rule_92 : decode cX7_rule 92 = .ok (.ireturn, 1) := by decide +kernel
set_option maxHeartbeats 4000000 in
set_option maxRecDepth 20000 in
theorem c_X7_rule : ConI mX7_rule (fun args N lay r h Q => ∃ (c : Nat) (q : Int → Nat) (n : Int) (tx : Int → Int) (ep : Int) (km : Int → Int → Int) (mp F : Int → Int) (ux : Int) (sz ho : Int → Int) (sn : Int) (row : Int → Int) (x y z : Int), args = [.ref c, vI x, vI y, vI z] ∧ CI lay r h c q n tx ep km mp F ux sz ho sn row ∧ ep < 2147483646 ∧ (-2147483648 ≤ x ∧ x < 2147483648) ∧ (-2147483648 ≤ y ∧ y < 2147483648) ∧ (-2147483648 ≤ z ∧ z < 2147483648) ∧ (¬ ((1 ≤ x ∧ x ≤ 4) ∧ (1 ≤ y ∧ y ≤ 3) ∧ (0 ≤ z ∧ z ≤ 1)) → Q (-1) N lay r h) ∧ (((1 ≤ x ∧ x ≤ 4) ∧ (1 ≤ y ∧ y ≤ 3) ∧ (0 ≤ z ∧ z ≤ 1)) → (100 * mp 131 + 10 * mp 132 + mp 133 = 100 * x + 10 * y + z → Q (-2) N lay r h) ∧ (100 * mp 131 + 10 * mp 132 + mp 133 ≠ 100 * x + 10 * y + z → ∀ (r2 : RfT) (h2 : HpT), FrR r r2 (fun x => x = c ∨ x = c + 6) → Fr h h2 (fun x => c ≤ x ∧ x < c + 101) → CI lay r2 h2 c (qN q) n tx (ep + 1) (kN km (up (up (up mp 131 x) 132 y) 133 z)) (up (up (up mp 131 x) 132 y) 133 z) (plr (up (up (up mp 131 x) 132 y) 133 z)) ux sz ho sn row → Q (100 * mp 131 + 10 * mp 132 + mp 133) N lay r2 h2))) := by
  refine ConI.of (by decide) (by rintro _ N lay r h Q ⟨c, q, n, tx, ep, km, mp, F, ux, sz, ho, sn, row, x, y, z, rfl, hI, hep9, h_x, h_y, h_z, hB, hQ⟩; exact ⟨rfl, Nat.le_of_ble_eq_true rfl⟩) ?_
  rintro E _ N lay r h Q ⟨c, q, n, tx, ep, km, mp, F, ux, sz, ho, sn, row, x, y, z, rfl, hI, hep9, h_x, h_y, h_z, hB, hQ⟩ hret
  obtain ⟨hC, hLt, ⟨hCT, htx⟩, hSK, ⟨he8, hep⟩, hkm, ⟨hk0, h130⟩, hF0, ⟨hDa, hMk, hsz⟩, ⟨hOb, hSe⟩⟩ := id hI
  obtain ⟨cl0, cl6, ⟨cr0, cr1, cr2, cr3, cr4, cr5, cr6⟩, cT, cS, cP, cD, cE, cO⟩ := id hC
  obtain ⟨lr7, lr6, lpl, lrg, ldj⟩ := id hLt
  have hP0 := hkm 0 (by omega) (by omega) (by omega)
  rw [hk0] at hP0
  obtain ⟨hT, hR, hN, hW, hL, hPS⟩ := id hP0
  have hA := lpl 0 (by omega) (by omega)
  have q0r := lrg 0 (by omega) (by omega)
  obtain ⟨pl0, pl1, pl2, pl3, pl4, pl5, pl6, pl7, pl8, pl9, pl10, pl11, pl12, pl13, pr0, pr1, pr2, pr3, pr9, pr10, pr11, qr3, qr4, vr1, vr2, vr3, vr4⟩ := id hA
  obtain ⟨⟨n0, n1, n2⟩, up1, up2, uw, u0, uh⟩ := id hN
  obtain ⟨t1, t2, t3, t4, t5, t6, t7⟩ := id hT
  obtain ⟨⟨rl5, rl6, rl7, rl8⟩, rfu, rca, rre, rnu, rdv⟩ := id hL
  have r5 := hR.2.2.2.2.1
  obtain ⟨r1, r2, r3, r4, _, r6, r7⟩ := id hR
  show St E mX7_rule 0 [some (.ref c), some (vI x), some (vI y), some (vI z), none] [] (0, 0) N lay r h
  refine r_iload_1 (pc := 0) dX7_rule_0 ?_
  refine r_iload_2 (pc := 1) dX7_rule_1 ?_
  refine r_iload_3 (pc := 2) dX7_rule_2 ?_
  refine k_SI3 (pc := 3) c_X3_isRule lk_X7_187 ⟨Nat.le_of_ble_eq_true rfl, Nat.le_of_ble_eq_true rfl⟩ ⟨rfl, rfl⟩ ⟨Nat.le_of_ble_eq_true rfl, Nat.le_of_ble_eq_true rfl⟩ dX7_rule_3 (Nat.le_of_ble_eq_true rfl) ?_
  refine ⟨_, _, _, rfl, by omega, by omega, by omega, ?_⟩
  refine r_ifne_b (pc := 6) (tgt := 11) dX7_rule_6 (by decide) (fun c_6 => ?_) (fun c_6 => ?_)
  · refine r_bipush (pc := 11) dX7_rule_11 (by decide) ?_
    refine r_aload_0 (pc := 13) dX7_rule_13 ?_
    refine gf_X7_51 (pc := 14) rfl (by assumption) dX7_rule_14 (by assumption) ?_
    refine gf_X7_190 (pc := 17) rfl (by assumption) dX7_rule_17 (fun i_17 => ?_)
    refine r_imul (pc := 20) dX7_rule_20 ?_
    refine r_bipush (pc := 21) dX7_rule_21 (by decide) ?_
    refine r_aload_0 (pc := 23) dX7_rule_23 ?_
    refine gf_X7_51 (pc := 24) rfl (by assumption) dX7_rule_24 (by assumption) ?_
    refine gf_X7_193 (pc := 27) rfl (by assumption) dX7_rule_27 (fun i_27 => ?_)
    refine r_imul (pc := 30) dX7_rule_30 ?_
    refine r_iadd (pc := 31) dX7_rule_31 ?_
    refine r_aload_0 (pc := 32) dX7_rule_32 ?_
    refine gf_X7_51 (pc := 33) rfl (by assumption) dX7_rule_33 (by assumption) ?_
    refine gf_X7_196 (pc := 36) rfl (by assumption) dX7_rule_36 (fun i_36 => ?_)
    refine r_iadd (pc := 39) dX7_rule_39 ?_
    rw [show 100 * h (q 0) 5 + 10 * h (q 0) 6 + h (q 0) 7 = 100 * mp 131 + 10 * mp 132 + mp 133 by rw [rl5, rl6, rl7]]
    refine r_istore_4 (pc := 40) dX7_rule_40 rfl ?_
    refine r_iload_4 (pc := 42) dX7_rule_42 ?_
    refine r_bipush (pc := 44) dX7_rule_44 (by decide) ?_
    refine r_iload_1 (pc := 46) dX7_rule_46 ?_
    refine r_imul (pc := 47) dX7_rule_47 ?_
    refine r_bipush (pc := 48) dX7_rule_48 (by decide) ?_
    refine r_iload_2 (pc := 50) dX7_rule_50 ?_
    refine r_imul (pc := 51) dX7_rule_51 ?_
    refine r_iadd (pc := 52) dX7_rule_52 ?_
    refine r_iload_3 (pc := 53) dX7_rule_53 ?_
    refine r_iadd (pc := 54) dX7_rule_54 ?_
    refine r_icmp_ne (pc := 55) (tgt := 61) dX7_rule_55 (by decide) (by omega) (by omega) (fun c_55 => ?_) (fun c_55 => ?_)
    · refine r_aload_0 (pc := 61) dX7_rule_61 ?_
      refine r_aload_0 (pc := 62) dX7_rule_62 ?_
      refine gf_X7_51 (pc := 63) rfl (by assumption) dX7_rule_63 (by assumption) ?_
      refine k_VV1 (pc := 66) c_X7_beginEpoch lk_X7_147 ⟨Nat.le_of_ble_eq_true rfl, Nat.le_of_ble_eq_true rfl⟩ ⟨rfl, rfl⟩ ⟨Nat.le_of_ble_eq_true rfl, Nat.le_of_ble_eq_true rfl⟩ (k := 7) rfl (by decide) (by assumption) dX7_rule_66 (Nat.le_of_ble_eq_true rfl) ?_
      refine ⟨_, _, q, 0, mp, rfl, hC, hLt, by omega, rfl, hP0, by omega, fun r_66 h_66 fr_66 hC2 hLt2 f_66 o_66 m_66 => ?_⟩
      have q4r := lrg 4 (by omega) (by omega)
      have lr7b : r_66 c 7 = some (q 4) := hLt2.1
      have hA4 : PlAt lay r_66 (q 4) := hLt2.2.2.1 0 (by omega) (by omega)
      obtain ⟨bl0, bl1, bl2, bl3, bl4, bl5, bl6, bl7, bl8, bl9, bl10, bl11, bl12, bl13, br0, br1, br2, br3, br9, br10, br11, cr3_, cr4_, wr1, wr2, wr3, wr4⟩ := id hA4
      obtain ⟨_, _, ⟨_, cr1b, _, _, cr4b, _, _⟩, _, cSb, _, cDb, _, _⟩ := id hC2
      have sl0 : lay (c + 4) = (5, 0) := cS.1
      have T0 : PTr h_66 (q 4) mp := m_66.2.2.1
      have L0 : PRl h_66 (q 4) mp := m_66.2.2.2.2.1
      have n4 := T0.1
      have SK0 : StK (h_66 (c + 4 + 1)) := by rw [f_66 _ (by omega)]; exact hSK
      have ec8 : h_66 c 8 = ep + 1 := by rw [o_66, up_s, he8]
      have ed0 : h_66 (c + 21) = h (c + 21) := f_66 _ (by omega)
      have DA0 : DaS h_66 (c + 21) ux sz ho := hDa.of (f_66 _ (by omega)) (f_66 _ (by omega)) (f_66 _ (by omega))
      refine r_aload_0 (pc := 69) dX7_rule_69 ?_
      refine gf_X7_51 (pc := 70) rfl (by assumption) dX7_rule_70 (by assumption) ?_
      refine r_iload_1 (pc := 73) dX7_rule_73 ?_
      refine r_iload_2 (pc := 74) dX7_rule_74 ?_
      refine r_iload_3 (pc := 75) dX7_rule_75 ?_
      refine k_VV3 (pc := 76) c_X3_setRule lk_X7_199 ⟨Nat.le_of_ble_eq_true rfl, Nat.le_of_ble_eq_true rfl⟩ ⟨rfl, rfl⟩ ⟨Nat.le_of_ble_eq_true rfl, Nat.le_of_ble_eq_true rfl⟩ (k := 3) rfl (by decide) (by assumption) dX7_rule_76 (Nat.le_of_ble_eq_true rfl) ?_
      refine ⟨_, _, _, _, _, rfl, by assumption, by omega, by omega, by omega, ?_⟩
      have TM : TrM (up (up (up mp 131 x) 132 y) 133 z) := TrM_c hT (fun j hj => by rw [up_n (by omega), up_n (by omega), up_n (by omega)])
      have RM : RlM (up (up (up mp 131 x) 132 y) 133 z) := RlM_rule hR hT (by omega) (by omega) (by omega)
      have T1 : PTr (hr h_66 (q 4) (up (up (up (h_66 (q 4)) 5 x) 6 y) 7 z)) (q 4) (up (up (up mp 131 x) 132 y) 133 z) := (T0.of (hr_n (by omega)) (hr_n (by omega)) (hr_n (by omega)) : PTr (hr h_66 (q 4) (up (up (up (h_66 (q 4)) 5 x) 6 y) 7 z)) (q 4) mp).cg (fun j j0 j1 => by rw [up_n (by omega), up_n (by omega), up_n (by omega)]) hT
      have L1 : PRl (hr h_66 (q 4) (up (up (up (h_66 (q 4)) 5 x) 6 y) 7 z)) (q 4) (up (up (up mp 131 x) 132 y) 133 z) := PRl_rule L0 t3 r5
      have SK1 : StK ((hr h_66 (q 4) (up (up (up (h_66 (q 4)) 5 x) 6 y) 7 z)) (c + 4 + 1)) := by rw [hr_n (by omega)]; exact SK0
      refine r_aload_0 (pc := 79) dX7_rule_79 ?_
      refine gf_X7_51 (pc := 80) rfl (by assumption) dX7_rule_80 (by assumption) ?_
      refine r_aload_0 (pc := 83) dX7_rule_83 ?_
      refine gf_X7_19 (pc := 84) rfl (by assumption) dX7_rule_84 (by assumption) ?_
      refine k_VV1 (pc := 87) c_X3_settleAll lk_X7_74 ⟨Nat.le_of_ble_eq_true rfl, Nat.le_of_ble_eq_true rfl⟩ ⟨rfl, rfl⟩ ⟨Nat.le_of_ble_eq_true rfl, Nat.le_of_ble_eq_true rfl⟩ (k := 3) rfl (by decide) (by assumption) dX7_rule_87 (Nat.le_of_ble_eq_true rfl) ?_
      refine ⟨_, _, _, rfl, hA4, cSb, by omega, TM, RM, T1, L1, SK1, fun h_87 f_87 t_87 w_87 l_87 s_87 k_87 => ?_⟩
      refine r_iload_4 (pc := 90) dX7_rule_90 ?_
      refine r_iret (pc := 92) hret dX7_rule_92 rfl rfl rfl ?_
      first
      | exact hB c_6
      | exact (hQ c_6).1 c_55
      | (refine ((hQ c_6).2 c_55) r_66 h_87 fr_66 (fun x hx => by rw [f_87 x (by omega), hr_n (by omega)]; exact f_66 x (by omega)) (hI.ch hC2 hLt2 (fun x x0 x1 hx => by rw [f_87 x (by omega), hr_n (by omega)]; exact f_66 x (by omega)) (by rw [f_87 _ (by omega), hr_n (by omega)]; exact ec8) (by omega) k_87 ⟨TM, RM, t_87, w_87, l_87, s_87⟩ (by rw [up_n (by omega), up_n (by omega), up_n (by omega)]; exact h130) ⟨(show DaS h_87 (c + 21) ux sz ho from DA0.of (by rw [f_87 _ (by omega), hr_n (by omega)]) (by rw [f_87 _ (by omega), hr_n (by omega)]) (by rw [f_87 _ (by omega), hr_n (by omega)])), hMk⟩))
    · refine r_bipush (pc := 58) dX7_rule_58 (by decide) ?_
      refine r_iret (pc := 60) hret dX7_rule_60 rfl rfl rfl ?_
      first
      | exact hB c_6
      | exact (hQ c_6).1 c_55
      | (refine ((hQ c_6).2 c_55) r_66 h_87 fr_66 (fun x hx => by rw [f_87 x (by omega), hr_n (by omega)]; exact f_66 x (by omega)) (hI.ch hC2 hLt2 (fun x x0 x1 hx => by rw [f_87 x (by omega), hr_n (by omega)]; exact f_66 x (by omega)) (by rw [f_87 _ (by omega), hr_n (by omega)]; exact ec8) (by omega) k_87 ⟨TM, RM, t_87, w_87, l_87, s_87⟩ (by rw [up_n (by omega), up_n (by omega), up_n (by omega)]; exact h130) ⟨(show DaS h_87 (c + 21) ux sz ho from DA0.of (by rw [f_87 _ (by omega), hr_n (by omega)]) (by rw [f_87 _ (by omega), hr_n (by omega)]) (by rw [f_87 _ (by omega), hr_n (by omega)])), hMk⟩))
  · refine r_iconst (pc := 9) dX7_rule_9 ?_
    refine r_iret (pc := 10) hret dX7_rule_10 rfl rfl rfl ?_
    first
    | exact hB c_6
    | exact (hQ c_6).1 c_55
    | (refine ((hQ c_6).2 c_55) r_66 h_87 fr_66 (fun x hx => by rw [f_87 x (by omega), hr_n (by omega)]; exact f_66 x (by omega)) (hI.ch hC2 hLt2 (fun x x0 x1 hx => by rw [f_87 x (by omega), hr_n (by omega)]; exact f_66 x (by omega)) (by rw [f_87 _ (by omega), hr_n (by omega)]; exact ec8) (by omega) k_87 ⟨TM, RM, t_87, w_87, l_87, s_87⟩ (by rw [up_n (by omega), up_n (by omega), up_n (by omega)]; exact h130) ⟨(show DaS h_87 (c + 21) ux sz ho from DA0.of (by rw [f_87 _ (by omega), hr_n (by omega)]) (by rw [f_87 _ (by omega), hr_n (by omega)]) (by rw [f_87 _ (by omega), hr_n (by omega)])), hMk⟩))

theorem dX7_rack_0 : decode cX7_rack 0 = .ok (.aload_n 0, 1) := by decide +kernel
theorem dX7_rack_1 : decode cX7_rack 1 = .ok (.getfield 51, 3) := by decide +kernel
theorem dX7_rack_4 : decode cX7_rack 4 = .ok (.getfield 84, 3) := by decide +kernel
theorem dX7_rack_7 : decode cX7_rack 7 = .ok (.iload_n 1, 1) := by decide +kernel
theorem dX7_rack_8 : decode cX7_rack 8 = .ok (.invokevirtual 202, 3) := by decide +kernel
theorem dX7_rack_11 : decode cX7_rack 11 = .ok (.ifCond .ne 5, 3) := by decide +kernel
theorem dX7_rack_14 : decode cX7_rack 14 = .ok (.iconst (-1), 1) := by decide +kernel
theorem dX7_rack_15 : decode cX7_rack 15 = .ok (.ireturn, 1) := by decide +kernel
theorem dX7_rack_16 : decode cX7_rack 16 = .ok (.aload_n 0, 1) := by decide +kernel
theorem dX7_rack_17 : decode cX7_rack 17 = .ok (.getfield 51, 3) := by decide +kernel
theorem dX7_rack_20 : decode cX7_rack 20 = .ok (.getfield 84, 3) := by decide +kernel
theorem dX7_rack_23 : decode cX7_rack 23 = .ok (.getfield 205, 3) := by decide +kernel
theorem dX7_rack_26 : decode cX7_rack 26 = .ok (.bipush 6, 2) := by decide +kernel
theorem dX7_rack_28 : decode cX7_rack 28 = .ok (.if_icmp .lt 6, 3) := by decide +kernel
theorem dX7_rack_31 : decode cX7_rack 31 = .ok (.bipush (-3), 2) := by decide +kernel
theorem dX7_rack_33 : decode cX7_rack 33 = .ok (.ireturn, 1) := by decide +kernel
theorem dX7_rack_34 : decode cX7_rack 34 = .ok (.aload_n 0, 1) := by decide +kernel
theorem dX7_rack_35 : decode cX7_rack 35 = .ok (.aload_n 0, 1) := by decide +kernel
theorem dX7_rack_36 : decode cX7_rack 36 = .ok (.getfield 51, 3) := by decide +kernel
theorem dX7_rack_39 : decode cX7_rack 39 = .ok (.invokevirtual 147, 3) := by decide +kernel
theorem dX7_rack_42 : decode cX7_rack 42 = .ok (.aload_n 0, 1) := by decide +kernel
theorem dX7_rack_43 : decode cX7_rack 43 = .ok (.getfield 51, 3) := by decide +kernel
theorem dX7_rack_46 : decode cX7_rack 46 = .ok (.getfield 84, 3) := by decide +kernel
theorem dX7_rack_49 : decode cX7_rack 49 = .ok (.iload_n 1, 1) := by decide +kernel
theorem dX7_rack_50 : decode cX7_rack 50 = .ok (.invokevirtual 208, 3) := by decide +kernel
theorem dX7_rack_53 : decode cX7_rack 53 = .ok (.pop, 1) := by decide +kernel
theorem dX7_rack_54 : decode cX7_rack 54 = .ok (.aload_n 0, 1) := by decide +kernel
theorem dX7_rack_55 : decode cX7_rack 55 = .ok (.getfield 51, 3) := by decide +kernel
theorem dX7_rack_58 : decode cX7_rack 58 = .ok (.aload_n 0, 1) := by decide +kernel
theorem dX7_rack_59 : decode cX7_rack 59 = .ok (.getfield 19, 3) := by decide +kernel
theorem dX7_rack_62 : decode cX7_rack 62 = .ok (.invokevirtual 74, 3) := by decide +kernel
theorem dX7_rack_65 : decode cX7_rack 65 = .ok (.iconst 4, 1) := by decide +kernel
theorem dX7_rack_66 : decode cX7_rack 66 = .ok (.aload_n 0, 1) := by decide +kernel
theorem dX7_rack_67 : decode cX7_rack 67 = .ok (.getfield 51, 3) := by decide +kernel
theorem dX7_rack_70 : decode cX7_rack 70 = .ok (.getfield 84, 3) := by decide +kernel
theorem dX7_rack_73 : decode cX7_rack 73 = .ok (.getfield 205, 3) := by decide +kernel
theorem dX7_rack_76 : decode cX7_rack 76 = .ok (.iadd, 1) := by decide +kernel
theorem dX7_rack_77 : decode cX7_rack 77 = .ok (.iconst 1, 1) := by decide +kernel
theorem dX7_rack_78 : decode cX7_rack 78 = .ok (.isub, 1) := by decide +kernel
theorem dX7_rack_79 : decode cX7_rack 79 = .ok (.ireturn, 1) := by decide +kernel
set_option maxHeartbeats 4000000 in
set_option maxRecDepth 20000 in
theorem c_X7_rack : ConI mX7_rack (fun args N lay r h Q => ∃ (c : Nat) (q : Int → Nat) (n : Int) (tx : Int → Int) (ep : Int) (km : Int → Int → Int) (mp F : Int → Int) (ux : Int) (sz ho : Int → Int) (sn : Int) (row : Int → Int) (x : Int), args = [.ref c, vI x] ∧ CI lay r h c q n tx ep km mp F ux sz ho sn row ∧ ep < 2147483646 ∧ (-2147483648 ≤ x ∧ x < 2147483648) ∧ (¬ (1 ≤ x ∧ x ≤ mp 128) → Q (-1) N lay r h) ∧ ((1 ≤ x ∧ x ≤ mp 128) → (mp 129 = 6 → Q (-3) N lay r h) ∧ (mp 129 ≠ 6 → ∀ (r2 : RfT) (h2 : HpT), FrR r r2 (fun x => x = c ∨ x = c + 6) → Fr h h2 (fun x => c ≤ x ∧ x < c + 101) → CI lay r2 h2 c (qN q) n tx (ep + 1) (kN km (up (up mp (4 + mp 129) x) 129 (mp 129 + 1))) (up (up mp (4 + mp 129) x) 129 (mp 129 + 1)) (plr (up (up mp (4 + mp 129) x) 129 (mp 129 + 1))) ux sz ho sn row → Q (4 + mp 129) N lay r2 h2))) := by
  refine ConI.of (by decide) (by rintro _ N lay r h Q ⟨c, q, n, tx, ep, km, mp, F, ux, sz, ho, sn, row, x, rfl, hI, hep9, h_x, hB, hQ⟩; exact ⟨rfl, Nat.le_of_ble_eq_true rfl⟩) ?_
  rintro E _ N lay r h Q ⟨c, q, n, tx, ep, km, mp, F, ux, sz, ho, sn, row, x, rfl, hI, hep9, h_x, hB, hQ⟩ hret
  obtain ⟨hC, hLt, ⟨hCT, htx⟩, hSK, ⟨he8, hep⟩, hkm, ⟨hk0, h130⟩, hF0, ⟨hDa, hMk, hsz⟩, ⟨hOb, hSe⟩⟩ := id hI
  obtain ⟨cl0, cl6, ⟨cr0, cr1, cr2, cr3, cr4, cr5, cr6⟩, cT, cS, cP, cD, cE, cO⟩ := id hC
  obtain ⟨lr7, lr6, lpl, lrg, ldj⟩ := id hLt
  have hP0 := hkm 0 (by omega) (by omega) (by omega)
  rw [hk0] at hP0
  obtain ⟨hT, hR, hN, hW, hL, hPS⟩ := id hP0
  have hA := lpl 0 (by omega) (by omega)
  have q0r := lrg 0 (by omega) (by omega)
  obtain ⟨pl0, pl1, pl2, pl3, pl4, pl5, pl6, pl7, pl8, pl9, pl10, pl11, pl12, pl13, pr0, pr1, pr2, pr3, pr9, pr10, pr11, qr3, qr4, vr1, vr2, vr3, vr4⟩ := id hA
  obtain ⟨⟨n0, n1, n2⟩, up1, up2, uw, u0, uh⟩ := id hN
  obtain ⟨t1, t2, t3, t4, t5, t6, t7⟩ := id hT
  obtain ⟨⟨rl5, rl6, rl7, rl8⟩, rfu, rca, rre, rnu, rdv⟩ := id hL
  have r5 := hR.2.2.2.2.1
  show St E mX7_rack 0 [some (.ref c), some (vI x)] [] (0, 0) N lay r h
  refine r_aload_0 (pc := 0) dX7_rack_0 ?_
  refine gf_X7_51 (pc := 1) rfl (by assumption) dX7_rack_1 (by assumption) ?_
  refine gf_X7_84 (pc := 4) rfl (by assumption) dX7_rack_4 (by assumption) ?_
  refine r_iload_1 (pc := 7) dX7_rack_7 ?_
  refine k_VI1 (pc := 8) c_X6_isHall lk_X7_202 ⟨Nat.le_of_ble_eq_true rfl, Nat.le_of_ble_eq_true rfl⟩ ⟨rfl, rfl⟩ ⟨Nat.le_of_ble_eq_true rfl, Nat.le_of_ble_eq_true rfl⟩ (k := 6) rfl (by decide) (by assumption) dX7_rack_8 (Nat.le_of_ble_eq_true rfl) ?_
  refine ⟨_, _, _, rfl, by assumption, by omega, by omega, ?_⟩
  refine r_ifne_b (pc := 11) (tgt := 16) dX7_rack_11 (by decide) (fun c_11 => ?_) (fun c_11 => ?_)
  · refine r_aload_0 (pc := 16) dX7_rack_16 ?_
    refine gf_X7_51 (pc := 17) rfl (by assumption) dX7_rack_17 (by assumption) ?_
    refine gf_X7_84 (pc := 20) rfl (by assumption) dX7_rack_20 (by assumption) ?_
    refine gf_X7_205 (pc := 23) rfl (by assumption) dX7_rack_23 (fun i_23 => ?_)
    refine r_bipush (pc := 26) dX7_rack_26 (by decide) ?_
    refine r_icmp_lt (pc := 28) (tgt := 34) dX7_rack_28 (by decide) (by omega) (by omega) (fun c_28 => ?_) (fun c_28 => ?_)
    · refine r_aload_0 (pc := 34) dX7_rack_34 ?_
      refine r_aload_0 (pc := 35) dX7_rack_35 ?_
      refine gf_X7_51 (pc := 36) rfl (by assumption) dX7_rack_36 (by assumption) ?_
      refine k_VV1 (pc := 39) c_X7_beginEpoch lk_X7_147 ⟨Nat.le_of_ble_eq_true rfl, Nat.le_of_ble_eq_true rfl⟩ ⟨rfl, rfl⟩ ⟨Nat.le_of_ble_eq_true rfl, Nat.le_of_ble_eq_true rfl⟩ (k := 7) rfl (by decide) (by assumption) dX7_rack_39 (Nat.le_of_ble_eq_true rfl) ?_
      refine ⟨_, _, q, 0, mp, rfl, hC, hLt, by omega, rfl, hP0, by omega, fun r_39 h_39 fr_39 hC2 hLt2 f_39 o_39 m_39 => ?_⟩
      have q4r := lrg 4 (by omega) (by omega)
      have lr7b : r_39 c 7 = some (q 4) := hLt2.1
      have hA4 : PlAt lay r_39 (q 4) := hLt2.2.2.1 0 (by omega) (by omega)
      obtain ⟨bl0, bl1, bl2, bl3, bl4, bl5, bl6, bl7, bl8, bl9, bl10, bl11, bl12, bl13, br0, br1, br2, br3, br9, br10, br11, cr3_, cr4_, wr1, wr2, wr3, wr4⟩ := id hA4
      obtain ⟨_, _, ⟨_, cr1b, _, _, cr4b, _, _⟩, _, cSb, _, cDb, _, _⟩ := id hC2
      have sl0 : lay (c + 4) = (5, 0) := cS.1
      have T0 : PTr h_39 (q 4) mp := m_39.2.2.1
      have L0 : PRl h_39 (q 4) mp := m_39.2.2.2.2.1
      have n4 := T0.1
      have SK0 : StK (h_39 (c + 4 + 1)) := by rw [f_39 _ (by omega)]; exact hSK
      have ec8 : h_39 c 8 = ep + 1 := by rw [o_39, up_s, he8]
      have ed0 : h_39 (c + 21) = h (c + 21) := f_39 _ (by omega)
      have DA0 : DaS h_39 (c + 21) ux sz ho := hDa.of (f_39 _ (by omega)) (f_39 _ (by omega)) (f_39 _ (by omega))
      refine r_aload_0 (pc := 42) dX7_rack_42 ?_
      refine gf_X7_51 (pc := 43) rfl (by assumption) dX7_rack_43 (by assumption) ?_
      refine gf_X7_84 (pc := 46) rfl (by assumption) dX7_rack_46 (by assumption) ?_
      refine r_iload_1 (pc := 49) dX7_rack_49 ?_
      refine k_VI1 (pc := 50) c_X6_addRack lk_X7_208 ⟨Nat.le_of_ble_eq_true rfl, Nat.le_of_ble_eq_true rfl⟩ ⟨rfl, rfl⟩ ⟨Nat.le_of_ble_eq_true rfl, Nat.le_of_ble_eq_true rfl⟩ (k := 6) rfl (by decide) (by assumption) dX7_rack_50 (Nat.le_of_ble_eq_true rfl) ?_
      refine ⟨_, _, rfl, hA4.tr, by omega, by omega, by omega, by omega, fun g_50 => ?_, fun g_50 => ?_⟩
      · omega
      show St E mX7_rack 53 _ _ _ N lay r_39 (hr (hr h_39 (q 4 + 2) (up (h_39 (q 4 + 2)) (4 + h_39 (q 4 + 1) 1) x)) (q 4 + 1) (up (h_39 (q 4 + 1)) 1 (h_39 (q 4 + 1) 1 + 1)))
      refine r_popI (pc := 53) dX7_rack_53 ?_
      have TM : TrM (up (up mp (4 + mp 129) x) 129 (mp 129 + 1)) := TrM_rack hT (by omega) (by omega)
      have RM : RlM (up (up mp (4 + mp 129) x) 129 (mp 129 + 1)) := RlM_c hR hT (fun j hj => by rw [up_n (by omega), up_n (by omega)])
      have T1 : PTr (hr (hr h_39 (q 4 + 2) (up (h_39 (q 4 + 2)) (4 + h_39 (q 4 + 1) 1) x)) (q 4 + 1) (up (h_39 (q 4 + 1)) 1 (h_39 (q 4 + 1) 1 + 1))) (q 4) (up (up mp (4 + mp 129) x) 129 (mp 129 + 1)) := PTr_rack hT T0 (by omega) rfl
      have L1 : PRl (hr (hr h_39 (q 4 + 2) (up (h_39 (q 4 + 2)) (4 + h_39 (q 4 + 1) 1) x)) (q 4 + 1) (up (h_39 (q 4 + 1)) 1 (h_39 (q 4 + 1) 1 + 1))) (q 4) (up (up mp (4 + mp 129) x) 129 (mp 129 + 1)) := L0.tr2.cg (fun j j0 j1 j2 j3 => by rw [up_n j3, up_n (by omega)]) t3 r5
      have SK1 : StK ((hr (hr h_39 (q 4 + 2) (up (h_39 (q 4 + 2)) (4 + h_39 (q 4 + 1) 1) x)) (q 4 + 1) (up (h_39 (q 4 + 1)) 1 (h_39 (q 4 + 1) 1 + 1))) (c + 4 + 1)) := by rw [hr_n (by omega), hr_n (by omega)]; exact SK0
      refine r_aload_0 (pc := 54) dX7_rack_54 ?_
      refine gf_X7_51 (pc := 55) rfl (by assumption) dX7_rack_55 (by assumption) ?_
      refine r_aload_0 (pc := 58) dX7_rack_58 ?_
      refine gf_X7_19 (pc := 59) rfl (by assumption) dX7_rack_59 (by assumption) ?_
      refine k_VV1 (pc := 62) c_X3_settleAll lk_X7_74 ⟨Nat.le_of_ble_eq_true rfl, Nat.le_of_ble_eq_true rfl⟩ ⟨rfl, rfl⟩ ⟨Nat.le_of_ble_eq_true rfl, Nat.le_of_ble_eq_true rfl⟩ (k := 3) rfl (by decide) (by assumption) dX7_rack_62 (Nat.le_of_ble_eq_true rfl) ?_
      refine ⟨_, _, _, rfl, hA4, cSb, by omega, TM, RM, T1, L1, SK1, fun h_62 f_62 t_62 w_62 l_62 s_62 k_62 => ?_⟩
      refine r_iconst (pc := 65) dX7_rack_65 ?_
      refine r_aload_0 (pc := 66) dX7_rack_66 ?_
      refine gf_X7_51 (pc := 67) rfl (by assumption) dX7_rack_67 (by assumption) ?_
      refine gf_X7_84 (pc := 70) rfl (by assumption) dX7_rack_70 (by assumption) ?_
      refine gf_X7_205 (pc := 73) rfl (by assumption) dX7_rack_73 (fun i_73 => ?_)
      have k9 : h_62 (q 4 + 1) 1 = mp 129 + 1 := by rw [t_62.1.2.1, up_s]
      rw [k9] at i_73 ⊢
      refine r_iadd (pc := 76) dX7_rack_76 ?_
      refine r_iconst (pc := 77) dX7_rack_77 ?_
      refine r_isub (pc := 78) dX7_rack_78 ?_
      rw [show 4 + (mp 129 + 1) - 1 = 4 + mp 129 by omega]
      refine r_iret (pc := 79) hret dX7_rack_79 rfl rfl rfl ?_
      first
      | exact hB (by omega)
      | exact (hQ (by omega)).1 (by omega)
      | (refine ((hQ (by omega)).2 (by omega)) r_39 h_62 fr_39 (fun x hx => by rw [f_62 x (by omega), hr_n (by omega), hr_n (by omega)]; exact f_39 x (by omega)) (hI.ch hC2 hLt2 (fun x x0 x1 hx => by rw [f_62 x (by omega), hr_n (by omega), hr_n (by omega)]; exact f_39 x (by omega)) (by rw [f_62 _ (by omega), hr_n (by omega), hr_n (by omega)]; exact ec8) (by omega) k_62 ⟨TM, RM, t_62, w_62, l_62, s_62⟩ (by rw [up_n (by omega), up_n (by omega)]; exact h130) ⟨(show DaS h_62 (c + 21) ux sz ho from DA0.of (by rw [f_62 _ (by omega), hr_n (by omega), hr_n (by omega)]) (by rw [f_62 _ (by omega), hr_n (by omega), hr_n (by omega)]) (by rw [f_62 _ (by omega), hr_n (by omega), hr_n (by omega)])), hMk⟩))
    · refine r_bipush (pc := 31) dX7_rack_31 (by decide) ?_
      refine r_iret (pc := 33) hret dX7_rack_33 rfl rfl rfl ?_
      first
      | exact hB (by omega)
      | exact (hQ (by omega)).1 (by omega)
      | (refine ((hQ (by omega)).2 (by omega)) r_39 h_62 fr_39 (fun x hx => by rw [f_62 x (by omega), hr_n (by omega), hr_n (by omega)]; exact f_39 x (by omega)) (hI.ch hC2 hLt2 (fun x x0 x1 hx => by rw [f_62 x (by omega), hr_n (by omega), hr_n (by omega)]; exact f_39 x (by omega)) (by rw [f_62 _ (by omega), hr_n (by omega), hr_n (by omega)]; exact ec8) (by omega) k_62 ⟨TM, RM, t_62, w_62, l_62, s_62⟩ (by rw [up_n (by omega), up_n (by omega)]; exact h130) ⟨(show DaS h_62 (c + 21) ux sz ho from DA0.of (by rw [f_62 _ (by omega), hr_n (by omega), hr_n (by omega)]) (by rw [f_62 _ (by omega), hr_n (by omega), hr_n (by omega)]) (by rw [f_62 _ (by omega), hr_n (by omega), hr_n (by omega)])), hMk⟩))
  · refine r_iconst (pc := 14) dX7_rack_14 ?_
    refine r_iret (pc := 15) hret dX7_rack_15 rfl rfl rfl ?_
    first
    | exact hB (by omega)
    | exact (hQ (by omega)).1 (by omega)
    | (refine ((hQ (by omega)).2 (by omega)) r_39 h_62 fr_39 (fun x hx => by rw [f_62 x (by omega), hr_n (by omega), hr_n (by omega)]; exact f_39 x (by omega)) (hI.ch hC2 hLt2 (fun x x0 x1 hx => by rw [f_62 x (by omega), hr_n (by omega), hr_n (by omega)]; exact f_39 x (by omega)) (by rw [f_62 _ (by omega), hr_n (by omega), hr_n (by omega)]; exact ec8) (by omega) k_62 ⟨TM, RM, t_62, w_62, l_62, s_62⟩ (by rw [up_n (by omega), up_n (by omega)]; exact h130) ⟨(show DaS h_62 (c + 21) ux sz ho from DA0.of (by rw [f_62 _ (by omega), hr_n (by omega), hr_n (by omega)]) (by rw [f_62 _ (by omega), hr_n (by omega), hr_n (by omega)]) (by rw [f_62 _ (by omega), hr_n (by omega), hr_n (by omega)])), hMk⟩))

theorem dX7_move_0 : decode cX7_move 0 = .ok (.aload_n 0, 1) := by decide +kernel
theorem dX7_move_1 : decode cX7_move 1 = .ok (.getfield 51, 3) := by decide +kernel
theorem dX7_move_4 : decode cX7_move 4 = .ok (.getfield 84, 3) := by decide +kernel
theorem dX7_move_7 : decode cX7_move 7 = .ok (.astore_n 3, 1) := by decide +kernel
theorem dX7_move_8 : decode cX7_move 8 = .ok (.aload_n 3, 1) := by decide +kernel
theorem dX7_move_9 : decode cX7_move 9 = .ok (.iload_n 1, 1) := by decide +kernel
theorem dX7_move_10 : decode cX7_move 10 = .ok (.invokevirtual 211, 3) := by decide +kernel
theorem dX7_move_13 : decode cX7_move 13 = .ok (.ifCond .eq 15, 3) := by decide +kernel
theorem dX7_move_16 : decode cX7_move 16 = .ok (.aload_n 3, 1) := by decide +kernel
theorem dX7_move_17 : decode cX7_move 17 = .ok (.iload_n 2, 1) := by decide +kernel
theorem dX7_move_18 : decode cX7_move 18 = .ok (.invokevirtual 202, 3) := by decide +kernel
theorem dX7_move_21 : decode cX7_move 21 = .ok (.ifCond .eq 7, 3) := by decide +kernel
theorem dX7_move_24 : decode cX7_move 24 = .ok (.iconst 1, 1) := by decide +kernel
theorem dX7_move_25 : decode cX7_move 25 = .ok (.goto 4, 3) := by decide +kernel
theorem dX7_move_28 : decode cX7_move 28 = .ok (.iconst 0, 1) := by decide +kernel
theorem dX7_move_29 : decode cX7_move 29 = .ok (.istore 4, 2) := by decide +kernel
theorem dX7_move_31 : decode cX7_move 31 = .ok (.aload_n 3, 1) := by decide +kernel
theorem dX7_move_32 : decode cX7_move 32 = .ok (.iload_n 1, 1) := by decide +kernel
theorem dX7_move_33 : decode cX7_move 33 = .ok (.invokevirtual 97, 3) := by decide +kernel
theorem dX7_move_36 : decode cX7_move 36 = .ok (.ifCond .eq 15, 3) := by decide +kernel
theorem dX7_move_39 : decode cX7_move 39 = .ok (.aload_n 3, 1) := by decide +kernel
theorem dX7_move_40 : decode cX7_move 40 = .ok (.iload_n 2, 1) := by decide +kernel
theorem dX7_move_41 : decode cX7_move 41 = .ok (.invokevirtual 211, 3) := by decide +kernel
theorem dX7_move_44 : decode cX7_move 44 = .ok (.ifCond .eq 7, 3) := by decide +kernel
theorem dX7_move_47 : decode cX7_move 47 = .ok (.iconst 1, 1) := by decide +kernel
theorem dX7_move_48 : decode cX7_move 48 = .ok (.goto 4, 3) := by decide +kernel
theorem dX7_move_51 : decode cX7_move 51 = .ok (.iconst 0, 1) := by decide +kernel
theorem dX7_move_52 : decode cX7_move 52 = .ok (.istore 5, 2) := by decide +kernel
theorem dX7_move_54 : decode cX7_move 54 = .ok (.iload 4, 2) := by decide +kernel
theorem dX7_move_56 : decode cX7_move 56 = .ok (.ifCond .ne 10, 3) := by decide +kernel
theorem dX7_move_59 : decode cX7_move 59 = .ok (.iload 5, 2) := by decide +kernel
theorem dX7_move_61 : decode cX7_move 61 = .ok (.ifCond .ne 5, 3) := by decide +kernel
theorem dX7_move_64 : decode cX7_move 64 = .ok (.iconst (-1), 1) := by decide +kernel
theorem dX7_move_65 : decode cX7_move 65 = .ok (.ireturn, 1) := by decide +kernel
theorem dX7_move_66 : decode cX7_move 66 = .ok (.aload_n 3, 1) := by decide +kernel
theorem dX7_move_67 : decode cX7_move 67 = .ok (.getfield 104, 3) := by decide +kernel
theorem dX7_move_70 : decode cX7_move 70 = .ok (.iload_n 1, 1) := by decide +kernel
theorem dX7_move_71 : decode cX7_move 71 = .ok (.iaload, 1) := by decide +kernel
theorem dX7_move_72 : decode cX7_move 72 = .ok (.istore 6, 2) := by decide +kernel
theorem dX7_move_74 : decode cX7_move 74 = .ok (.iload 6, 2) := by decide +kernel
theorem dX7_move_76 : decode cX7_move 76 = .ok (.iload_n 2, 1) := by decide +kernel
theorem dX7_move_77 : decode cX7_move 77 = .ok (.if_icmp .ne 6, 3) := by decide +kernel
theorem dX7_move_80 : decode cX7_move 80 = .ok (.bipush (-2), 2) := by decide +kernel
theorem dX7_move_82 : decode cX7_move 82 = .ok (.ireturn, 1) := by decide +kernel
theorem dX7_move_83 : decode cX7_move 83 = .ok (.aload_n 0, 1) := by decide +kernel
theorem dX7_move_84 : decode cX7_move 84 = .ok (.aload_n 0, 1) := by decide +kernel
theorem dX7_move_85 : decode cX7_move 85 = .ok (.getfield 51, 3) := by decide +kernel
theorem dX7_move_88 : decode cX7_move 88 = .ok (.invokevirtual 147, 3) := by decide +kernel
theorem dX7_move_91 : decode cX7_move 91 = .ok (.aload_n 0, 1) := by decide +kernel
theorem dX7_move_92 : decode cX7_move 92 = .ok (.getfield 51, 3) := by decide +kernel
theorem dX7_move_95 : decode cX7_move 95 = .ok (.getfield 84, 3) := by decide +kernel
theorem dX7_move_98 : decode cX7_move 98 = .ok (.getfield 104, 3) := by decide +kernel
theorem dX7_move_101 : decode cX7_move 101 = .ok (.iload_n 1, 1) := by decide +kernel
theorem dX7_move_102 : decode cX7_move 102 = .ok (.iload_n 2, 1) := by decide +kernel
theorem dX7_move_103 : decode cX7_move 103 = .ok (.iastore, 1) := by decide +kernel
theorem dX7_move_104 : decode cX7_move 104 = .ok (.aload_n 0, 1) := by decide +kernel
theorem dX7_move_105 : decode cX7_move 105 = .ok (.getfield 51, 3) := by decide +kernel
theorem dX7_move_108 : decode cX7_move 108 = .ok (.aload_n 0, 1) := by decide +kernel
theorem dX7_move_109 : decode cX7_move 109 = .ok (.getfield 19, 3) := by decide +kernel
theorem dX7_move_112 : decode cX7_move 112 = .ok (.invokevirtual 74, 3) := by decide +kernel
theorem dX7_move_115 : decode cX7_move 115 = .ok (.iload 6, 2) := by decide +kernel
theorem dX7_move_117 : decode cX7_move 117 = .ok (.ireturn, 1) := by decide +kernel
set_option maxHeartbeats 4000000 in
set_option maxRecDepth 20000 in
theorem c_X7_move : ConI mX7_move (fun args N lay r h Q => ∃ (c : Nat) (q : Int → Nat) (n : Int) (tx : Int → Int) (ep : Int) (km : Int → Int → Int) (mp F : Int → Int) (ux : Int) (sz ho : Int → Int) (sn : Int) (row : Int → Int) (m x : Int), args = [.ref c, vI m, vI x] ∧ CI lay r h c q n tx ep km mp F ux sz ho sn row ∧ ep < 2147483646 ∧ (-2147483648 ≤ m ∧ m < 2147483648) ∧ (-2147483648 ≤ x ∧ x < 2147483648) ∧ (¬ (((4 ≤ m ∧ m ≤ 3 + mp 129) ∧ (1 ≤ x ∧ x ≤ mp 128)) ∨ ((10 ≤ m ∧ m ≤ 9 + mp 130) ∧ (4 ≤ x ∧ x ≤ 3 + mp 129))) → Q (-1) N lay r h) ∧ ((((4 ≤ m ∧ m ≤ 3 + mp 129) ∧ (1 ≤ x ∧ x ≤ mp 128)) ∨ ((10 ≤ m ∧ m ≤ 9 + mp 130) ∧ (4 ≤ x ∧ x ≤ 3 + mp 129))) → (mp m = x → Q (-2) N lay r h) ∧ (mp m ≠ x → ∀ (r2 : RfT) (h2 : HpT), FrR r r2 (fun x => x = c ∨ x = c + 6) → Fr h h2 (fun x => c ≤ x ∧ x < c + 101) → CI lay r2 h2 c (qN q) n tx (ep + 1) (kN km (up mp m x)) (up mp m x) (plr (up mp m x)) ux sz ho sn row → Q (mp m) N lay r2 h2))) := by
  refine ConI.of (by decide) (by rintro _ N lay r h Q ⟨c, q, n, tx, ep, km, mp, F, ux, sz, ho, sn, row, m, x, rfl, hI, hep9, h_m, h_x, hB, hQ⟩; exact ⟨rfl, Nat.le_of_ble_eq_true rfl⟩) ?_
  rintro E _ N lay r h Q ⟨c, q, n, tx, ep, km, mp, F, ux, sz, ho, sn, row, m, x, rfl, hI, hep9, h_m, h_x, hB, hQ⟩ hret
  obtain ⟨hC, hLt, ⟨hCT, htx⟩, hSK, ⟨he8, hep⟩, hkm, ⟨hk0, h130⟩, hF0, ⟨hDa, hMk, hsz⟩, ⟨hOb, hSe⟩⟩ := id hI
  obtain ⟨cl0, cl6, ⟨cr0, cr1, cr2, cr3, cr4, cr5, cr6⟩, cT, cS, cP, cD, cE, cO⟩ := id hC
  obtain ⟨lr7, lr6, lpl, lrg, ldj⟩ := id hLt
  have hP0 := hkm 0 (by omega) (by omega) (by omega)
  rw [hk0] at hP0
  obtain ⟨hT, hR, hN, hW, hL, hPS⟩ := id hP0
  have hA := lpl 0 (by omega) (by omega)
  have q0r := lrg 0 (by omega) (by omega)
  obtain ⟨pl0, pl1, pl2, pl3, pl4, pl5, pl6, pl7, pl8, pl9, pl10, pl11, pl12, pl13, pr0, pr1, pr2, pr3, pr9, pr10, pr11, qr3, qr4, vr1, vr2, vr3, vr4⟩ := id hA
  obtain ⟨⟨n0, n1, n2⟩, up1, up2, uw, u0, uh⟩ := id hN
  obtain ⟨t1, t2, t3, t4, t5, t6, t7⟩ := id hT
  obtain ⟨⟨rl5, rl6, rl7, rl8⟩, rfu, rca, rre, rnu, rdv⟩ := id hL
  have r5 := hR.2.2.2.2.1
  show St E mX7_move 0 [some (.ref c), some (vI m), some (vI x), none, none, none, none] [] (0, 0) N lay r h
  refine r_aload_0 (pc := 0) dX7_move_0 ?_
  refine gf_X7_51 (pc := 1) rfl (by assumption) dX7_move_1 (by assumption) ?_
  refine gf_X7_84 (pc := 4) rfl (by assumption) dX7_move_4 (by assumption) ?_
  refine r_astore_3 (pc := 7) dX7_move_7 rfl ?_
  refine r_aload_3 (pc := 8) dX7_move_8 ?_
  refine r_iload_1 (pc := 9) dX7_move_9 ?_
  refine k_VI1 (pc := 10) c_X6_isRack lk_X7_211 ⟨Nat.le_of_ble_eq_true rfl, Nat.le_of_ble_eq_true rfl⟩ ⟨rfl, rfl⟩ ⟨Nat.le_of_ble_eq_true rfl, Nat.le_of_ble_eq_true rfl⟩ (k := 6) rfl (by decide) (by assumption) dX7_move_10 (Nat.le_of_ble_eq_true rfl) ?_
  refine ⟨_, _, _, rfl, by assumption, by omega, by omega, ?_⟩
  refine r_ifeq_b (pc := 13) (tgt := 28) dX7_move_13 (by decide) (fun c_13 => ?_) (fun c_13 => ?_)
  · refine r_iconst (pc := 28) dX7_move_28 ?_
    refine r_istore_4 (pc := 29) dX7_move_29 rfl ?_
    refine r_aload_3 (pc := 31) dX7_move_31 ?_
    refine r_iload_1 (pc := 32) dX7_move_32 ?_
    refine k_VI1 (pc := 33) c_X6_isDisk lk_X7_97 ⟨Nat.le_of_ble_eq_true rfl, Nat.le_of_ble_eq_true rfl⟩ ⟨rfl, rfl⟩ ⟨Nat.le_of_ble_eq_true rfl, Nat.le_of_ble_eq_true rfl⟩ (k := 6) rfl (by decide) (by assumption) dX7_move_33 (Nat.le_of_ble_eq_true rfl) ?_
    refine ⟨_, _, _, rfl, by assumption, by omega, by omega, ?_⟩
    refine r_ifeq_b (pc := 36) (tgt := 51) dX7_move_36 (by decide) (fun c_36 => ?_) (fun c_36 => ?_)
    · refine r_iconst (pc := 51) dX7_move_51 ?_
      refine r_istore_5 (pc := 52) dX7_move_52 rfl ?_
      refine r_iload_4 (pc := 54) dX7_move_54 ?_
      refine r_ifne_F (pc := 56) (tgt := 66) dX7_move_56 (by decide) (by decide) ?_
      refine r_iload_5 (pc := 59) dX7_move_59 ?_
      refine r_ifne_F (pc := 61) (tgt := 66) dX7_move_61 (by decide) (by decide) ?_
      refine r_iconst (pc := 64) dX7_move_64 ?_
      refine r_iret (pc := 65) hret dX7_move_65 rfl rfl rfl ?_
      first
      | exact hB (by omega)
      | exact (hQ cd).1 c_77
      | (refine ((hQ cd).2 c_77) r_88 h_112 fr_88 (fun x hx => by rw [f_112 x (by omega), hr_n (by omega)]; exact f_88 x (by omega)) (hI.ch hC2 hLt2 (fun x x0 x1 hx => by rw [f_112 x (by omega), hr_n (by omega)]; exact f_88 x (by omega)) (by rw [f_112 _ (by omega), hr_n (by omega)]; exact ec8) (by omega) k_112 ⟨TM, RM, t_112, w_112, l_112, s_112⟩ (by rw [up_n (by omega)]; exact h130) ⟨(show DaS h_112 (c + 21) ux sz ho from DA0.of (by rw [f_112 _ (by omega), hr_n (by omega)]) (by rw [f_112 _ (by omega), hr_n (by omega)]) (by rw [f_112 _ (by omega), hr_n (by omega)])), hMk⟩))
    · refine r_aload_3 (pc := 39) dX7_move_39 ?_
      refine r_iload_2 (pc := 40) dX7_move_40 ?_
      refine k_VI1 (pc := 41) c_X6_isRack lk_X7_211 ⟨Nat.le_of_ble_eq_true rfl, Nat.le_of_ble_eq_true rfl⟩ ⟨rfl, rfl⟩ ⟨Nat.le_of_ble_eq_true rfl, Nat.le_of_ble_eq_true rfl⟩ (k := 6) rfl (by decide) (by assumption) dX7_move_41 (Nat.le_of_ble_eq_true rfl) ?_
      refine ⟨_, _, _, rfl, by assumption, by omega, by omega, ?_⟩
      refine r_ifeq_b (pc := 44) (tgt := 51) dX7_move_44 (by decide) (fun c_44 => ?_) (fun c_44 => ?_)
      · refine r_iconst (pc := 51) dX7_move_51 ?_
        refine r_istore_5 (pc := 52) dX7_move_52 rfl ?_
        refine r_iload_4 (pc := 54) dX7_move_54 ?_
        refine r_ifne_F (pc := 56) (tgt := 66) dX7_move_56 (by decide) (by decide) ?_
        refine r_iload_5 (pc := 59) dX7_move_59 ?_
        refine r_ifne_F (pc := 61) (tgt := 66) dX7_move_61 (by decide) (by decide) ?_
        refine r_iconst (pc := 64) dX7_move_64 ?_
        refine r_iret (pc := 65) hret dX7_move_65 rfl rfl rfl ?_
        first
        | exact hB (by omega)
        | exact (hQ cd).1 c_77
        | (refine ((hQ cd).2 c_77) r_88 h_112 fr_88 (fun x hx => by rw [f_112 x (by omega), hr_n (by omega)]; exact f_88 x (by omega)) (hI.ch hC2 hLt2 (fun x x0 x1 hx => by rw [f_112 x (by omega), hr_n (by omega)]; exact f_88 x (by omega)) (by rw [f_112 _ (by omega), hr_n (by omega)]; exact ec8) (by omega) k_112 ⟨TM, RM, t_112, w_112, l_112, s_112⟩ (by rw [up_n (by omega)]; exact h130) ⟨(show DaS h_112 (c + 21) ux sz ho from DA0.of (by rw [f_112 _ (by omega), hr_n (by omega)]) (by rw [f_112 _ (by omega), hr_n (by omega)]) (by rw [f_112 _ (by omega), hr_n (by omega)])), hMk⟩))
      · refine r_iconst (pc := 47) dX7_move_47 ?_
        refine r_goto (pc := 48) (tgt := 52) dX7_move_48 (by decide) ?_
        refine r_istore_5 (pc := 52) dX7_move_52 rfl ?_
        refine r_iload_4 (pc := 54) dX7_move_54 ?_
        refine r_ifne_F (pc := 56) (tgt := 66) dX7_move_56 (by decide) (by decide) ?_
        refine r_iload_5 (pc := 59) dX7_move_59 ?_
        refine r_ifne_T (pc := 61) (tgt := 66) dX7_move_61 (by decide) (by decide) ?_
        have cd : ((4 ≤ m ∧ m ≤ 3 + mp 129) ∧ (1 ≤ x ∧ x ≤ mp 128)) ∨ ((10 ≤ m ∧ m ≤ 9 + mp 130) ∧ (4 ≤ x ∧ x ≤ 3 + mp 129)) := by omega
        have em : h (q 0 + 2) m = mp m := by
          rcases cd with z | z
          · exact up1 m (by omega) (by omega)
          · exact up2 m (by omega) (by omega)
        refine r_aload_3 (pc := 66) dX7_move_66 ?_
        refine gf_X7_104 (pc := 67) rfl (by assumption) dX7_move_67 (by assumption) ?_
        refine r_iload_1 (pc := 70) dX7_move_70 ?_
        refine r_ialdE (pc := 71) (by assumption) (by first | assumption | exact rfl) dX7_move_71 (by omega) (by omega) (fun i_71 => ?_)
        rw [em] at i_71 ⊢
        refine r_istore_6 (pc := 72) dX7_move_72 rfl ?_
        refine r_iload_6 (pc := 74) dX7_move_74 ?_
        refine r_iload_2 (pc := 76) dX7_move_76 ?_
        refine r_icmp_ne (pc := 77) (tgt := 83) dX7_move_77 (by decide) (by omega) (by omega) (fun c_77 => ?_) (fun c_77 => ?_)
        · refine r_aload_0 (pc := 83) dX7_move_83 ?_
          refine r_aload_0 (pc := 84) dX7_move_84 ?_
          refine gf_X7_51 (pc := 85) rfl (by assumption) dX7_move_85 (by assumption) ?_
          refine k_VV1 (pc := 88) c_X7_beginEpoch lk_X7_147 ⟨Nat.le_of_ble_eq_true rfl, Nat.le_of_ble_eq_true rfl⟩ ⟨rfl, rfl⟩ ⟨Nat.le_of_ble_eq_true rfl, Nat.le_of_ble_eq_true rfl⟩ (k := 7) rfl (by decide) (by assumption) dX7_move_88 (Nat.le_of_ble_eq_true rfl) ?_
          refine ⟨_, _, q, 0, mp, rfl, hC, hLt, by omega, rfl, hP0, by omega, fun r_88 h_88 fr_88 hC2 hLt2 f_88 o_88 m_88 => ?_⟩
          have q4r := lrg 4 (by omega) (by omega)
          have lr7b : r_88 c 7 = some (q 4) := hLt2.1
          have hA4 : PlAt lay r_88 (q 4) := hLt2.2.2.1 0 (by omega) (by omega)
          obtain ⟨bl0, bl1, bl2, bl3, bl4, bl5, bl6, bl7, bl8, bl9, bl10, bl11, bl12, bl13, br0, br1, br2, br3, br9, br10, br11, cr3_, cr4_, wr1, wr2, wr3, wr4⟩ := id hA4
          obtain ⟨_, _, ⟨_, cr1b, _, _, cr4b, _, _⟩, _, cSb, _, cDb, _, _⟩ := id hC2
          have sl0 : lay (c + 4) = (5, 0) := cS.1
          have T0 : PTr h_88 (q 4) mp := m_88.2.2.1
          have L0 : PRl h_88 (q 4) mp := m_88.2.2.2.2.1
          have n4 := T0.1
          have SK0 : StK (h_88 (c + 4 + 1)) := by rw [f_88 _ (by omega)]; exact hSK
          have ec8 : h_88 c 8 = ep + 1 := by rw [o_88, up_s, he8]
          have ed0 : h_88 (c + 21) = h (c + 21) := f_88 _ (by omega)
          have DA0 : DaS h_88 (c + 21) ux sz ho := hDa.of (f_88 _ (by omega)) (f_88 _ (by omega)) (f_88 _ (by omega))
          refine r_aload_0 (pc := 91) dX7_move_91 ?_
          refine gf_X7_51 (pc := 92) rfl (by assumption) dX7_move_92 (by assumption) ?_
          refine gf_X7_84 (pc := 95) rfl (by assumption) dX7_move_95 (by assumption) ?_
          refine gf_X7_104 (pc := 98) rfl (by assumption) dX7_move_98 (by assumption) ?_
          refine r_iload_1 (pc := 101) dX7_move_101 ?_
          refine r_iload_2 (pc := 102) dX7_move_102 ?_
          refine r_iastE (pc := 103) (by assumption) rfl dX7_move_103 (by omega) (by omega) (by omega) ?_
          have TM : TrM (up mp m x) := TrM_move hT (by omega)
          have RM : RlM (up mp m x) := RlM_c hR hT (fun j hj => up_n (by omega))
          have T1 : PTr (hr h_88 (q 4 + 2) (up (h_88 (q 4 + 2)) m x)) (q 4) (up mp m x) := PTr_mv hT T0 (by omega)
          have L1 : PRl (hr h_88 (q 4 + 2) (up (h_88 (q 4 + 2)) m x)) (q 4) (up mp m x) := (L0.of (hr_n (by omega)) (hr_n (by omega)) (hr_n (by omega)) (hr_n (by omega)) (hr_n (by omega)) (hr_n (by omega)) (hr_n (by omega)) : PRl (hr h_88 (q 4 + 2) (up (h_88 (q 4 + 2)) m x)) (q 4) mp).cg (fun j j0 j1 j2 j3 => up_n (by omega)) t3 r5
          have SK1 : StK ((hr h_88 (q 4 + 2) (up (h_88 (q 4 + 2)) m x)) (c + 4 + 1)) := by rw [hr_n (by omega)]; exact SK0
          refine r_aload_0 (pc := 104) dX7_move_104 ?_
          refine gf_X7_51 (pc := 105) rfl (by assumption) dX7_move_105 (by assumption) ?_
          refine r_aload_0 (pc := 108) dX7_move_108 ?_
          refine gf_X7_19 (pc := 109) rfl (by assumption) dX7_move_109 (by assumption) ?_
          refine k_VV1 (pc := 112) c_X3_settleAll lk_X7_74 ⟨Nat.le_of_ble_eq_true rfl, Nat.le_of_ble_eq_true rfl⟩ ⟨rfl, rfl⟩ ⟨Nat.le_of_ble_eq_true rfl, Nat.le_of_ble_eq_true rfl⟩ (k := 3) rfl (by decide) (by assumption) dX7_move_112 (Nat.le_of_ble_eq_true rfl) ?_
          refine ⟨_, _, _, rfl, hA4, cSb, by omega, TM, RM, T1, L1, SK1, fun h_112 f_112 t_112 w_112 l_112 s_112 k_112 => ?_⟩
          refine r_iload_6 (pc := 115) dX7_move_115 ?_
          refine r_iret (pc := 117) hret dX7_move_117 rfl rfl rfl ?_
          first
          | exact hB (by omega)
          | exact (hQ cd).1 c_77
          | (refine ((hQ cd).2 c_77) r_88 h_112 fr_88 (fun x hx => by rw [f_112 x (by omega), hr_n (by omega)]; exact f_88 x (by omega)) (hI.ch hC2 hLt2 (fun x x0 x1 hx => by rw [f_112 x (by omega), hr_n (by omega)]; exact f_88 x (by omega)) (by rw [f_112 _ (by omega), hr_n (by omega)]; exact ec8) (by omega) k_112 ⟨TM, RM, t_112, w_112, l_112, s_112⟩ (by rw [up_n (by omega)]; exact h130) ⟨(show DaS h_112 (c + 21) ux sz ho from DA0.of (by rw [f_112 _ (by omega), hr_n (by omega)]) (by rw [f_112 _ (by omega), hr_n (by omega)]) (by rw [f_112 _ (by omega), hr_n (by omega)])), hMk⟩))
        · refine r_bipush (pc := 80) dX7_move_80 (by decide) ?_
          refine r_iret (pc := 82) hret dX7_move_82 rfl rfl rfl ?_
          first
          | exact hB (by omega)
          | exact (hQ cd).1 c_77
          | (refine ((hQ cd).2 c_77) r_88 h_112 fr_88 (fun x hx => by rw [f_112 x (by omega), hr_n (by omega)]; exact f_88 x (by omega)) (hI.ch hC2 hLt2 (fun x x0 x1 hx => by rw [f_112 x (by omega), hr_n (by omega)]; exact f_88 x (by omega)) (by rw [f_112 _ (by omega), hr_n (by omega)]; exact ec8) (by omega) k_112 ⟨TM, RM, t_112, w_112, l_112, s_112⟩ (by rw [up_n (by omega)]; exact h130) ⟨(show DaS h_112 (c + 21) ux sz ho from DA0.of (by rw [f_112 _ (by omega), hr_n (by omega)]) (by rw [f_112 _ (by omega), hr_n (by omega)]) (by rw [f_112 _ (by omega), hr_n (by omega)])), hMk⟩))
  · refine r_aload_3 (pc := 16) dX7_move_16 ?_
    refine r_iload_2 (pc := 17) dX7_move_17 ?_
    refine k_VI1 (pc := 18) c_X6_isHall lk_X7_202 ⟨Nat.le_of_ble_eq_true rfl, Nat.le_of_ble_eq_true rfl⟩ ⟨rfl, rfl⟩ ⟨Nat.le_of_ble_eq_true rfl, Nat.le_of_ble_eq_true rfl⟩ (k := 6) rfl (by decide) (by assumption) dX7_move_18 (Nat.le_of_ble_eq_true rfl) ?_
    refine ⟨_, _, _, rfl, by assumption, by omega, by omega, ?_⟩
    refine r_ifeq_b (pc := 21) (tgt := 28) dX7_move_21 (by decide) (fun c_21 => ?_) (fun c_21 => ?_)
    · refine r_iconst (pc := 28) dX7_move_28 ?_
      refine r_istore_4 (pc := 29) dX7_move_29 rfl ?_
      refine r_aload_3 (pc := 31) dX7_move_31 ?_
      refine r_iload_1 (pc := 32) dX7_move_32 ?_
      refine k_VI1 (pc := 33) c_X6_isDisk lk_X7_97 ⟨Nat.le_of_ble_eq_true rfl, Nat.le_of_ble_eq_true rfl⟩ ⟨rfl, rfl⟩ ⟨Nat.le_of_ble_eq_true rfl, Nat.le_of_ble_eq_true rfl⟩ (k := 6) rfl (by decide) (by assumption) dX7_move_33 (Nat.le_of_ble_eq_true rfl) ?_
      refine ⟨_, _, _, rfl, by assumption, by omega, by omega, ?_⟩
      refine r_ifeq_b (pc := 36) (tgt := 51) dX7_move_36 (by decide) (fun c_36 => ?_) (fun c_36 => ?_)
      · refine r_iconst (pc := 51) dX7_move_51 ?_
        refine r_istore_5 (pc := 52) dX7_move_52 rfl ?_
        refine r_iload_4 (pc := 54) dX7_move_54 ?_
        refine r_ifne_F (pc := 56) (tgt := 66) dX7_move_56 (by decide) (by decide) ?_
        refine r_iload_5 (pc := 59) dX7_move_59 ?_
        refine r_ifne_F (pc := 61) (tgt := 66) dX7_move_61 (by decide) (by decide) ?_
        refine r_iconst (pc := 64) dX7_move_64 ?_
        refine r_iret (pc := 65) hret dX7_move_65 rfl rfl rfl ?_
        first
        | exact hB (by omega)
        | exact (hQ cd).1 c_77
        | (refine ((hQ cd).2 c_77) r_88 h_112 fr_88 (fun x hx => by rw [f_112 x (by omega), hr_n (by omega)]; exact f_88 x (by omega)) (hI.ch hC2 hLt2 (fun x x0 x1 hx => by rw [f_112 x (by omega), hr_n (by omega)]; exact f_88 x (by omega)) (by rw [f_112 _ (by omega), hr_n (by omega)]; exact ec8) (by omega) k_112 ⟨TM, RM, t_112, w_112, l_112, s_112⟩ (by rw [up_n (by omega)]; exact h130) ⟨(show DaS h_112 (c + 21) ux sz ho from DA0.of (by rw [f_112 _ (by omega), hr_n (by omega)]) (by rw [f_112 _ (by omega), hr_n (by omega)]) (by rw [f_112 _ (by omega), hr_n (by omega)])), hMk⟩))
      · refine r_aload_3 (pc := 39) dX7_move_39 ?_
        refine r_iload_2 (pc := 40) dX7_move_40 ?_
        refine k_VI1 (pc := 41) c_X6_isRack lk_X7_211 ⟨Nat.le_of_ble_eq_true rfl, Nat.le_of_ble_eq_true rfl⟩ ⟨rfl, rfl⟩ ⟨Nat.le_of_ble_eq_true rfl, Nat.le_of_ble_eq_true rfl⟩ (k := 6) rfl (by decide) (by assumption) dX7_move_41 (Nat.le_of_ble_eq_true rfl) ?_
        refine ⟨_, _, _, rfl, by assumption, by omega, by omega, ?_⟩
        refine r_ifeq_b (pc := 44) (tgt := 51) dX7_move_44 (by decide) (fun c_44 => ?_) (fun c_44 => ?_)
        · refine r_iconst (pc := 51) dX7_move_51 ?_
          refine r_istore_5 (pc := 52) dX7_move_52 rfl ?_
          refine r_iload_4 (pc := 54) dX7_move_54 ?_
          refine r_ifne_F (pc := 56) (tgt := 66) dX7_move_56 (by decide) (by decide) ?_
          refine r_iload_5 (pc := 59) dX7_move_59 ?_
          refine r_ifne_F (pc := 61) (tgt := 66) dX7_move_61 (by decide) (by decide) ?_
          refine r_iconst (pc := 64) dX7_move_64 ?_
          refine r_iret (pc := 65) hret dX7_move_65 rfl rfl rfl ?_
          first
          | exact hB (by omega)
          | exact (hQ cd).1 c_77
          | (refine ((hQ cd).2 c_77) r_88 h_112 fr_88 (fun x hx => by rw [f_112 x (by omega), hr_n (by omega)]; exact f_88 x (by omega)) (hI.ch hC2 hLt2 (fun x x0 x1 hx => by rw [f_112 x (by omega), hr_n (by omega)]; exact f_88 x (by omega)) (by rw [f_112 _ (by omega), hr_n (by omega)]; exact ec8) (by omega) k_112 ⟨TM, RM, t_112, w_112, l_112, s_112⟩ (by rw [up_n (by omega)]; exact h130) ⟨(show DaS h_112 (c + 21) ux sz ho from DA0.of (by rw [f_112 _ (by omega), hr_n (by omega)]) (by rw [f_112 _ (by omega), hr_n (by omega)]) (by rw [f_112 _ (by omega), hr_n (by omega)])), hMk⟩))
        · refine r_iconst (pc := 47) dX7_move_47 ?_
          refine r_goto (pc := 48) (tgt := 52) dX7_move_48 (by decide) ?_
          refine r_istore_5 (pc := 52) dX7_move_52 rfl ?_
          refine r_iload_4 (pc := 54) dX7_move_54 ?_
          refine r_ifne_F (pc := 56) (tgt := 66) dX7_move_56 (by decide) (by decide) ?_
          refine r_iload_5 (pc := 59) dX7_move_59 ?_
          refine r_ifne_T (pc := 61) (tgt := 66) dX7_move_61 (by decide) (by decide) ?_
          have cd : ((4 ≤ m ∧ m ≤ 3 + mp 129) ∧ (1 ≤ x ∧ x ≤ mp 128)) ∨ ((10 ≤ m ∧ m ≤ 9 + mp 130) ∧ (4 ≤ x ∧ x ≤ 3 + mp 129)) := by omega
          have em : h (q 0 + 2) m = mp m := by
            rcases cd with z | z
            · exact up1 m (by omega) (by omega)
            · exact up2 m (by omega) (by omega)
          refine r_aload_3 (pc := 66) dX7_move_66 ?_
          refine gf_X7_104 (pc := 67) rfl (by assumption) dX7_move_67 (by assumption) ?_
          refine r_iload_1 (pc := 70) dX7_move_70 ?_
          refine r_ialdE (pc := 71) (by assumption) (by first | assumption | exact rfl) dX7_move_71 (by omega) (by omega) (fun i_71 => ?_)
          rw [em] at i_71 ⊢
          refine r_istore_6 (pc := 72) dX7_move_72 rfl ?_
          refine r_iload_6 (pc := 74) dX7_move_74 ?_
          refine r_iload_2 (pc := 76) dX7_move_76 ?_
          refine r_icmp_ne (pc := 77) (tgt := 83) dX7_move_77 (by decide) (by omega) (by omega) (fun c_77 => ?_) (fun c_77 => ?_)
          · refine r_aload_0 (pc := 83) dX7_move_83 ?_
            refine r_aload_0 (pc := 84) dX7_move_84 ?_
            refine gf_X7_51 (pc := 85) rfl (by assumption) dX7_move_85 (by assumption) ?_
            refine k_VV1 (pc := 88) c_X7_beginEpoch lk_X7_147 ⟨Nat.le_of_ble_eq_true rfl, Nat.le_of_ble_eq_true rfl⟩ ⟨rfl, rfl⟩ ⟨Nat.le_of_ble_eq_true rfl, Nat.le_of_ble_eq_true rfl⟩ (k := 7) rfl (by decide) (by assumption) dX7_move_88 (Nat.le_of_ble_eq_true rfl) ?_
            refine ⟨_, _, q, 0, mp, rfl, hC, hLt, by omega, rfl, hP0, by omega, fun r_88 h_88 fr_88 hC2 hLt2 f_88 o_88 m_88 => ?_⟩
            have q4r := lrg 4 (by omega) (by omega)
            have lr7b : r_88 c 7 = some (q 4) := hLt2.1
            have hA4 : PlAt lay r_88 (q 4) := hLt2.2.2.1 0 (by omega) (by omega)
            obtain ⟨bl0, bl1, bl2, bl3, bl4, bl5, bl6, bl7, bl8, bl9, bl10, bl11, bl12, bl13, br0, br1, br2, br3, br9, br10, br11, cr3_, cr4_, wr1, wr2, wr3, wr4⟩ := id hA4
            obtain ⟨_, _, ⟨_, cr1b, _, _, cr4b, _, _⟩, _, cSb, _, cDb, _, _⟩ := id hC2
            have sl0 : lay (c + 4) = (5, 0) := cS.1
            have T0 : PTr h_88 (q 4) mp := m_88.2.2.1
            have L0 : PRl h_88 (q 4) mp := m_88.2.2.2.2.1
            have n4 := T0.1
            have SK0 : StK (h_88 (c + 4 + 1)) := by rw [f_88 _ (by omega)]; exact hSK
            have ec8 : h_88 c 8 = ep + 1 := by rw [o_88, up_s, he8]
            have ed0 : h_88 (c + 21) = h (c + 21) := f_88 _ (by omega)
            have DA0 : DaS h_88 (c + 21) ux sz ho := hDa.of (f_88 _ (by omega)) (f_88 _ (by omega)) (f_88 _ (by omega))
            refine r_aload_0 (pc := 91) dX7_move_91 ?_
            refine gf_X7_51 (pc := 92) rfl (by assumption) dX7_move_92 (by assumption) ?_
            refine gf_X7_84 (pc := 95) rfl (by assumption) dX7_move_95 (by assumption) ?_
            refine gf_X7_104 (pc := 98) rfl (by assumption) dX7_move_98 (by assumption) ?_
            refine r_iload_1 (pc := 101) dX7_move_101 ?_
            refine r_iload_2 (pc := 102) dX7_move_102 ?_
            refine r_iastE (pc := 103) (by assumption) rfl dX7_move_103 (by omega) (by omega) (by omega) ?_
            have TM : TrM (up mp m x) := TrM_move hT (by omega)
            have RM : RlM (up mp m x) := RlM_c hR hT (fun j hj => up_n (by omega))
            have T1 : PTr (hr h_88 (q 4 + 2) (up (h_88 (q 4 + 2)) m x)) (q 4) (up mp m x) := PTr_mv hT T0 (by omega)
            have L1 : PRl (hr h_88 (q 4 + 2) (up (h_88 (q 4 + 2)) m x)) (q 4) (up mp m x) := (L0.of (hr_n (by omega)) (hr_n (by omega)) (hr_n (by omega)) (hr_n (by omega)) (hr_n (by omega)) (hr_n (by omega)) (hr_n (by omega)) : PRl (hr h_88 (q 4 + 2) (up (h_88 (q 4 + 2)) m x)) (q 4) mp).cg (fun j j0 j1 j2 j3 => up_n (by omega)) t3 r5
            have SK1 : StK ((hr h_88 (q 4 + 2) (up (h_88 (q 4 + 2)) m x)) (c + 4 + 1)) := by rw [hr_n (by omega)]; exact SK0
            refine r_aload_0 (pc := 104) dX7_move_104 ?_
            refine gf_X7_51 (pc := 105) rfl (by assumption) dX7_move_105 (by assumption) ?_
            refine r_aload_0 (pc := 108) dX7_move_108 ?_
            refine gf_X7_19 (pc := 109) rfl (by assumption) dX7_move_109 (by assumption) ?_
            refine k_VV1 (pc := 112) c_X3_settleAll lk_X7_74 ⟨Nat.le_of_ble_eq_true rfl, Nat.le_of_ble_eq_true rfl⟩ ⟨rfl, rfl⟩ ⟨Nat.le_of_ble_eq_true rfl, Nat.le_of_ble_eq_true rfl⟩ (k := 3) rfl (by decide) (by assumption) dX7_move_112 (Nat.le_of_ble_eq_true rfl) ?_
            refine ⟨_, _, _, rfl, hA4, cSb, by omega, TM, RM, T1, L1, SK1, fun h_112 f_112 t_112 w_112 l_112 s_112 k_112 => ?_⟩
            refine r_iload_6 (pc := 115) dX7_move_115 ?_
            refine r_iret (pc := 117) hret dX7_move_117 rfl rfl rfl ?_
            first
            | exact hB (by omega)
            | exact (hQ cd).1 c_77
            | (refine ((hQ cd).2 c_77) r_88 h_112 fr_88 (fun x hx => by rw [f_112 x (by omega), hr_n (by omega)]; exact f_88 x (by omega)) (hI.ch hC2 hLt2 (fun x x0 x1 hx => by rw [f_112 x (by omega), hr_n (by omega)]; exact f_88 x (by omega)) (by rw [f_112 _ (by omega), hr_n (by omega)]; exact ec8) (by omega) k_112 ⟨TM, RM, t_112, w_112, l_112, s_112⟩ (by rw [up_n (by omega)]; exact h130) ⟨(show DaS h_112 (c + 21) ux sz ho from DA0.of (by rw [f_112 _ (by omega), hr_n (by omega)]) (by rw [f_112 _ (by omega), hr_n (by omega)]) (by rw [f_112 _ (by omega), hr_n (by omega)])), hMk⟩))
          · refine r_bipush (pc := 80) dX7_move_80 (by decide) ?_
            refine r_iret (pc := 82) hret dX7_move_82 rfl rfl rfl ?_
            first
            | exact hB (by omega)
            | exact (hQ cd).1 c_77
            | (refine ((hQ cd).2 c_77) r_88 h_112 fr_88 (fun x hx => by rw [f_112 x (by omega), hr_n (by omega)]; exact f_88 x (by omega)) (hI.ch hC2 hLt2 (fun x x0 x1 hx => by rw [f_112 x (by omega), hr_n (by omega)]; exact f_88 x (by omega)) (by rw [f_112 _ (by omega), hr_n (by omega)]; exact ec8) (by omega) k_112 ⟨TM, RM, t_112, w_112, l_112, s_112⟩ (by rw [up_n (by omega)]; exact h130) ⟨(show DaS h_112 (c + 21) ux sz ho from DA0.of (by rw [f_112 _ (by omega), hr_n (by omega)]) (by rw [f_112 _ (by omega), hr_n (by omega)]) (by rw [f_112 _ (by omega), hr_n (by omega)])), hMk⟩))
    · refine r_iconst (pc := 24) dX7_move_24 ?_
      refine r_goto (pc := 25) (tgt := 29) dX7_move_25 (by decide) ?_
      refine r_istore_4 (pc := 29) dX7_move_29 rfl ?_
      refine r_aload_3 (pc := 31) dX7_move_31 ?_
      refine r_iload_1 (pc := 32) dX7_move_32 ?_
      refine k_VI1 (pc := 33) c_X6_isDisk lk_X7_97 ⟨Nat.le_of_ble_eq_true rfl, Nat.le_of_ble_eq_true rfl⟩ ⟨rfl, rfl⟩ ⟨Nat.le_of_ble_eq_true rfl, Nat.le_of_ble_eq_true rfl⟩ (k := 6) rfl (by decide) (by assumption) dX7_move_33 (Nat.le_of_ble_eq_true rfl) ?_
      refine ⟨_, _, _, rfl, by assumption, by omega, by omega, ?_⟩
      refine r_ifeq_b (pc := 36) (tgt := 51) dX7_move_36 (by decide) (fun c_36 => ?_) (fun c_36 => ?_)
      · refine r_iconst (pc := 51) dX7_move_51 ?_
        refine r_istore_5 (pc := 52) dX7_move_52 rfl ?_
        refine r_iload_4 (pc := 54) dX7_move_54 ?_
        refine r_ifne_T (pc := 56) (tgt := 66) dX7_move_56 (by decide) (by decide) ?_
        have cd : ((4 ≤ m ∧ m ≤ 3 + mp 129) ∧ (1 ≤ x ∧ x ≤ mp 128)) ∨ ((10 ≤ m ∧ m ≤ 9 + mp 130) ∧ (4 ≤ x ∧ x ≤ 3 + mp 129)) := by omega
        have em : h (q 0 + 2) m = mp m := by
          rcases cd with z | z
          · exact up1 m (by omega) (by omega)
          · exact up2 m (by omega) (by omega)
        refine r_aload_3 (pc := 66) dX7_move_66 ?_
        refine gf_X7_104 (pc := 67) rfl (by assumption) dX7_move_67 (by assumption) ?_
        refine r_iload_1 (pc := 70) dX7_move_70 ?_
        refine r_ialdE (pc := 71) (by assumption) (by first | assumption | exact rfl) dX7_move_71 (by omega) (by omega) (fun i_71 => ?_)
        rw [em] at i_71 ⊢
        refine r_istore_6 (pc := 72) dX7_move_72 rfl ?_
        refine r_iload_6 (pc := 74) dX7_move_74 ?_
        refine r_iload_2 (pc := 76) dX7_move_76 ?_
        refine r_icmp_ne (pc := 77) (tgt := 83) dX7_move_77 (by decide) (by omega) (by omega) (fun c_77 => ?_) (fun c_77 => ?_)
        · refine r_aload_0 (pc := 83) dX7_move_83 ?_
          refine r_aload_0 (pc := 84) dX7_move_84 ?_
          refine gf_X7_51 (pc := 85) rfl (by assumption) dX7_move_85 (by assumption) ?_
          refine k_VV1 (pc := 88) c_X7_beginEpoch lk_X7_147 ⟨Nat.le_of_ble_eq_true rfl, Nat.le_of_ble_eq_true rfl⟩ ⟨rfl, rfl⟩ ⟨Nat.le_of_ble_eq_true rfl, Nat.le_of_ble_eq_true rfl⟩ (k := 7) rfl (by decide) (by assumption) dX7_move_88 (Nat.le_of_ble_eq_true rfl) ?_
          refine ⟨_, _, q, 0, mp, rfl, hC, hLt, by omega, rfl, hP0, by omega, fun r_88 h_88 fr_88 hC2 hLt2 f_88 o_88 m_88 => ?_⟩
          have q4r := lrg 4 (by omega) (by omega)
          have lr7b : r_88 c 7 = some (q 4) := hLt2.1
          have hA4 : PlAt lay r_88 (q 4) := hLt2.2.2.1 0 (by omega) (by omega)
          obtain ⟨bl0, bl1, bl2, bl3, bl4, bl5, bl6, bl7, bl8, bl9, bl10, bl11, bl12, bl13, br0, br1, br2, br3, br9, br10, br11, cr3_, cr4_, wr1, wr2, wr3, wr4⟩ := id hA4
          obtain ⟨_, _, ⟨_, cr1b, _, _, cr4b, _, _⟩, _, cSb, _, cDb, _, _⟩ := id hC2
          have sl0 : lay (c + 4) = (5, 0) := cS.1
          have T0 : PTr h_88 (q 4) mp := m_88.2.2.1
          have L0 : PRl h_88 (q 4) mp := m_88.2.2.2.2.1
          have n4 := T0.1
          have SK0 : StK (h_88 (c + 4 + 1)) := by rw [f_88 _ (by omega)]; exact hSK
          have ec8 : h_88 c 8 = ep + 1 := by rw [o_88, up_s, he8]
          have ed0 : h_88 (c + 21) = h (c + 21) := f_88 _ (by omega)
          have DA0 : DaS h_88 (c + 21) ux sz ho := hDa.of (f_88 _ (by omega)) (f_88 _ (by omega)) (f_88 _ (by omega))
          refine r_aload_0 (pc := 91) dX7_move_91 ?_
          refine gf_X7_51 (pc := 92) rfl (by assumption) dX7_move_92 (by assumption) ?_
          refine gf_X7_84 (pc := 95) rfl (by assumption) dX7_move_95 (by assumption) ?_
          refine gf_X7_104 (pc := 98) rfl (by assumption) dX7_move_98 (by assumption) ?_
          refine r_iload_1 (pc := 101) dX7_move_101 ?_
          refine r_iload_2 (pc := 102) dX7_move_102 ?_
          refine r_iastE (pc := 103) (by assumption) rfl dX7_move_103 (by omega) (by omega) (by omega) ?_
          have TM : TrM (up mp m x) := TrM_move hT (by omega)
          have RM : RlM (up mp m x) := RlM_c hR hT (fun j hj => up_n (by omega))
          have T1 : PTr (hr h_88 (q 4 + 2) (up (h_88 (q 4 + 2)) m x)) (q 4) (up mp m x) := PTr_mv hT T0 (by omega)
          have L1 : PRl (hr h_88 (q 4 + 2) (up (h_88 (q 4 + 2)) m x)) (q 4) (up mp m x) := (L0.of (hr_n (by omega)) (hr_n (by omega)) (hr_n (by omega)) (hr_n (by omega)) (hr_n (by omega)) (hr_n (by omega)) (hr_n (by omega)) : PRl (hr h_88 (q 4 + 2) (up (h_88 (q 4 + 2)) m x)) (q 4) mp).cg (fun j j0 j1 j2 j3 => up_n (by omega)) t3 r5
          have SK1 : StK ((hr h_88 (q 4 + 2) (up (h_88 (q 4 + 2)) m x)) (c + 4 + 1)) := by rw [hr_n (by omega)]; exact SK0
          refine r_aload_0 (pc := 104) dX7_move_104 ?_
          refine gf_X7_51 (pc := 105) rfl (by assumption) dX7_move_105 (by assumption) ?_
          refine r_aload_0 (pc := 108) dX7_move_108 ?_
          refine gf_X7_19 (pc := 109) rfl (by assumption) dX7_move_109 (by assumption) ?_
          refine k_VV1 (pc := 112) c_X3_settleAll lk_X7_74 ⟨Nat.le_of_ble_eq_true rfl, Nat.le_of_ble_eq_true rfl⟩ ⟨rfl, rfl⟩ ⟨Nat.le_of_ble_eq_true rfl, Nat.le_of_ble_eq_true rfl⟩ (k := 3) rfl (by decide) (by assumption) dX7_move_112 (Nat.le_of_ble_eq_true rfl) ?_
          refine ⟨_, _, _, rfl, hA4, cSb, by omega, TM, RM, T1, L1, SK1, fun h_112 f_112 t_112 w_112 l_112 s_112 k_112 => ?_⟩
          refine r_iload_6 (pc := 115) dX7_move_115 ?_
          refine r_iret (pc := 117) hret dX7_move_117 rfl rfl rfl ?_
          first
          | exact hB (by omega)
          | exact (hQ cd).1 c_77
          | (refine ((hQ cd).2 c_77) r_88 h_112 fr_88 (fun x hx => by rw [f_112 x (by omega), hr_n (by omega)]; exact f_88 x (by omega)) (hI.ch hC2 hLt2 (fun x x0 x1 hx => by rw [f_112 x (by omega), hr_n (by omega)]; exact f_88 x (by omega)) (by rw [f_112 _ (by omega), hr_n (by omega)]; exact ec8) (by omega) k_112 ⟨TM, RM, t_112, w_112, l_112, s_112⟩ (by rw [up_n (by omega)]; exact h130) ⟨(show DaS h_112 (c + 21) ux sz ho from DA0.of (by rw [f_112 _ (by omega), hr_n (by omega)]) (by rw [f_112 _ (by omega), hr_n (by omega)]) (by rw [f_112 _ (by omega), hr_n (by omega)])), hMk⟩))
        · refine r_bipush (pc := 80) dX7_move_80 (by decide) ?_
          refine r_iret (pc := 82) hret dX7_move_82 rfl rfl rfl ?_
          first
          | exact hB (by omega)
          | exact (hQ cd).1 c_77
          | (refine ((hQ cd).2 c_77) r_88 h_112 fr_88 (fun x hx => by rw [f_112 x (by omega), hr_n (by omega)]; exact f_88 x (by omega)) (hI.ch hC2 hLt2 (fun x x0 x1 hx => by rw [f_112 x (by omega), hr_n (by omega)]; exact f_88 x (by omega)) (by rw [f_112 _ (by omega), hr_n (by omega)]; exact ec8) (by omega) k_112 ⟨TM, RM, t_112, w_112, l_112, s_112⟩ (by rw [up_n (by omega)]; exact h130) ⟨(show DaS h_112 (c + 21) ux sz ho from DA0.of (by rw [f_112 _ (by omega), hr_n (by omega)]) (by rw [f_112 _ (by omega), hr_n (by omega)]) (by rw [f_112 _ (by omega), hr_n (by omega)])), hMk⟩))
      · refine r_aload_3 (pc := 39) dX7_move_39 ?_
        refine r_iload_2 (pc := 40) dX7_move_40 ?_
        refine k_VI1 (pc := 41) c_X6_isRack lk_X7_211 ⟨Nat.le_of_ble_eq_true rfl, Nat.le_of_ble_eq_true rfl⟩ ⟨rfl, rfl⟩ ⟨Nat.le_of_ble_eq_true rfl, Nat.le_of_ble_eq_true rfl⟩ (k := 6) rfl (by decide) (by assumption) dX7_move_41 (Nat.le_of_ble_eq_true rfl) ?_
        refine ⟨_, _, _, rfl, by assumption, by omega, by omega, ?_⟩
        refine r_ifeq_b (pc := 44) (tgt := 51) dX7_move_44 (by decide) (fun c_44 => ?_) (fun c_44 => ?_)
        · refine r_iconst (pc := 51) dX7_move_51 ?_
          refine r_istore_5 (pc := 52) dX7_move_52 rfl ?_
          refine r_iload_4 (pc := 54) dX7_move_54 ?_
          refine r_ifne_T (pc := 56) (tgt := 66) dX7_move_56 (by decide) (by decide) ?_
          have cd : ((4 ≤ m ∧ m ≤ 3 + mp 129) ∧ (1 ≤ x ∧ x ≤ mp 128)) ∨ ((10 ≤ m ∧ m ≤ 9 + mp 130) ∧ (4 ≤ x ∧ x ≤ 3 + mp 129)) := by omega
          have em : h (q 0 + 2) m = mp m := by
            rcases cd with z | z
            · exact up1 m (by omega) (by omega)
            · exact up2 m (by omega) (by omega)
          refine r_aload_3 (pc := 66) dX7_move_66 ?_
          refine gf_X7_104 (pc := 67) rfl (by assumption) dX7_move_67 (by assumption) ?_
          refine r_iload_1 (pc := 70) dX7_move_70 ?_
          refine r_ialdE (pc := 71) (by assumption) (by first | assumption | exact rfl) dX7_move_71 (by omega) (by omega) (fun i_71 => ?_)
          rw [em] at i_71 ⊢
          refine r_istore_6 (pc := 72) dX7_move_72 rfl ?_
          refine r_iload_6 (pc := 74) dX7_move_74 ?_
          refine r_iload_2 (pc := 76) dX7_move_76 ?_
          refine r_icmp_ne (pc := 77) (tgt := 83) dX7_move_77 (by decide) (by omega) (by omega) (fun c_77 => ?_) (fun c_77 => ?_)
          · refine r_aload_0 (pc := 83) dX7_move_83 ?_
            refine r_aload_0 (pc := 84) dX7_move_84 ?_
            refine gf_X7_51 (pc := 85) rfl (by assumption) dX7_move_85 (by assumption) ?_
            refine k_VV1 (pc := 88) c_X7_beginEpoch lk_X7_147 ⟨Nat.le_of_ble_eq_true rfl, Nat.le_of_ble_eq_true rfl⟩ ⟨rfl, rfl⟩ ⟨Nat.le_of_ble_eq_true rfl, Nat.le_of_ble_eq_true rfl⟩ (k := 7) rfl (by decide) (by assumption) dX7_move_88 (Nat.le_of_ble_eq_true rfl) ?_
            refine ⟨_, _, q, 0, mp, rfl, hC, hLt, by omega, rfl, hP0, by omega, fun r_88 h_88 fr_88 hC2 hLt2 f_88 o_88 m_88 => ?_⟩
            have q4r := lrg 4 (by omega) (by omega)
            have lr7b : r_88 c 7 = some (q 4) := hLt2.1
            have hA4 : PlAt lay r_88 (q 4) := hLt2.2.2.1 0 (by omega) (by omega)
            obtain ⟨bl0, bl1, bl2, bl3, bl4, bl5, bl6, bl7, bl8, bl9, bl10, bl11, bl12, bl13, br0, br1, br2, br3, br9, br10, br11, cr3_, cr4_, wr1, wr2, wr3, wr4⟩ := id hA4
            obtain ⟨_, _, ⟨_, cr1b, _, _, cr4b, _, _⟩, _, cSb, _, cDb, _, _⟩ := id hC2
            have sl0 : lay (c + 4) = (5, 0) := cS.1
            have T0 : PTr h_88 (q 4) mp := m_88.2.2.1
            have L0 : PRl h_88 (q 4) mp := m_88.2.2.2.2.1
            have n4 := T0.1
            have SK0 : StK (h_88 (c + 4 + 1)) := by rw [f_88 _ (by omega)]; exact hSK
            have ec8 : h_88 c 8 = ep + 1 := by rw [o_88, up_s, he8]
            have ed0 : h_88 (c + 21) = h (c + 21) := f_88 _ (by omega)
            have DA0 : DaS h_88 (c + 21) ux sz ho := hDa.of (f_88 _ (by omega)) (f_88 _ (by omega)) (f_88 _ (by omega))
            refine r_aload_0 (pc := 91) dX7_move_91 ?_
            refine gf_X7_51 (pc := 92) rfl (by assumption) dX7_move_92 (by assumption) ?_
            refine gf_X7_84 (pc := 95) rfl (by assumption) dX7_move_95 (by assumption) ?_
            refine gf_X7_104 (pc := 98) rfl (by assumption) dX7_move_98 (by assumption) ?_
            refine r_iload_1 (pc := 101) dX7_move_101 ?_
            refine r_iload_2 (pc := 102) dX7_move_102 ?_
            refine r_iastE (pc := 103) (by assumption) rfl dX7_move_103 (by omega) (by omega) (by omega) ?_
            have TM : TrM (up mp m x) := TrM_move hT (by omega)
            have RM : RlM (up mp m x) := RlM_c hR hT (fun j hj => up_n (by omega))
            have T1 : PTr (hr h_88 (q 4 + 2) (up (h_88 (q 4 + 2)) m x)) (q 4) (up mp m x) := PTr_mv hT T0 (by omega)
            have L1 : PRl (hr h_88 (q 4 + 2) (up (h_88 (q 4 + 2)) m x)) (q 4) (up mp m x) := (L0.of (hr_n (by omega)) (hr_n (by omega)) (hr_n (by omega)) (hr_n (by omega)) (hr_n (by omega)) (hr_n (by omega)) (hr_n (by omega)) : PRl (hr h_88 (q 4 + 2) (up (h_88 (q 4 + 2)) m x)) (q 4) mp).cg (fun j j0 j1 j2 j3 => up_n (by omega)) t3 r5
            have SK1 : StK ((hr h_88 (q 4 + 2) (up (h_88 (q 4 + 2)) m x)) (c + 4 + 1)) := by rw [hr_n (by omega)]; exact SK0
            refine r_aload_0 (pc := 104) dX7_move_104 ?_
            refine gf_X7_51 (pc := 105) rfl (by assumption) dX7_move_105 (by assumption) ?_
            refine r_aload_0 (pc := 108) dX7_move_108 ?_
            refine gf_X7_19 (pc := 109) rfl (by assumption) dX7_move_109 (by assumption) ?_
            refine k_VV1 (pc := 112) c_X3_settleAll lk_X7_74 ⟨Nat.le_of_ble_eq_true rfl, Nat.le_of_ble_eq_true rfl⟩ ⟨rfl, rfl⟩ ⟨Nat.le_of_ble_eq_true rfl, Nat.le_of_ble_eq_true rfl⟩ (k := 3) rfl (by decide) (by assumption) dX7_move_112 (Nat.le_of_ble_eq_true rfl) ?_
            refine ⟨_, _, _, rfl, hA4, cSb, by omega, TM, RM, T1, L1, SK1, fun h_112 f_112 t_112 w_112 l_112 s_112 k_112 => ?_⟩
            refine r_iload_6 (pc := 115) dX7_move_115 ?_
            refine r_iret (pc := 117) hret dX7_move_117 rfl rfl rfl ?_
            first
            | exact hB (by omega)
            | exact (hQ cd).1 c_77
            | (refine ((hQ cd).2 c_77) r_88 h_112 fr_88 (fun x hx => by rw [f_112 x (by omega), hr_n (by omega)]; exact f_88 x (by omega)) (hI.ch hC2 hLt2 (fun x x0 x1 hx => by rw [f_112 x (by omega), hr_n (by omega)]; exact f_88 x (by omega)) (by rw [f_112 _ (by omega), hr_n (by omega)]; exact ec8) (by omega) k_112 ⟨TM, RM, t_112, w_112, l_112, s_112⟩ (by rw [up_n (by omega)]; exact h130) ⟨(show DaS h_112 (c + 21) ux sz ho from DA0.of (by rw [f_112 _ (by omega), hr_n (by omega)]) (by rw [f_112 _ (by omega), hr_n (by omega)]) (by rw [f_112 _ (by omega), hr_n (by omega)])), hMk⟩))
          · refine r_bipush (pc := 80) dX7_move_80 (by decide) ?_
            refine r_iret (pc := 82) hret dX7_move_82 rfl rfl rfl ?_
            first
            | exact hB (by omega)
            | exact (hQ cd).1 c_77
            | (refine ((hQ cd).2 c_77) r_88 h_112 fr_88 (fun x hx => by rw [f_112 x (by omega), hr_n (by omega)]; exact f_88 x (by omega)) (hI.ch hC2 hLt2 (fun x x0 x1 hx => by rw [f_112 x (by omega), hr_n (by omega)]; exact f_88 x (by omega)) (by rw [f_112 _ (by omega), hr_n (by omega)]; exact ec8) (by omega) k_112 ⟨TM, RM, t_112, w_112, l_112, s_112⟩ (by rw [up_n (by omega)]; exact h130) ⟨(show DaS h_112 (c + 21) ux sz ho from DA0.of (by rw [f_112 _ (by omega), hr_n (by omega)]) (by rw [f_112 _ (by omega), hr_n (by omega)]) (by rw [f_112 _ (by omega), hr_n (by omega)])), hMk⟩))
        · refine r_iconst (pc := 47) dX7_move_47 ?_
          refine r_goto (pc := 48) (tgt := 52) dX7_move_48 (by decide) ?_
          refine r_istore_5 (pc := 52) dX7_move_52 rfl ?_
          refine r_iload_4 (pc := 54) dX7_move_54 ?_
          refine r_ifne_T (pc := 56) (tgt := 66) dX7_move_56 (by decide) (by decide) ?_
          have cd : ((4 ≤ m ∧ m ≤ 3 + mp 129) ∧ (1 ≤ x ∧ x ≤ mp 128)) ∨ ((10 ≤ m ∧ m ≤ 9 + mp 130) ∧ (4 ≤ x ∧ x ≤ 3 + mp 129)) := by omega
          have em : h (q 0 + 2) m = mp m := by
            rcases cd with z | z
            · exact up1 m (by omega) (by omega)
            · exact up2 m (by omega) (by omega)
          refine r_aload_3 (pc := 66) dX7_move_66 ?_
          refine gf_X7_104 (pc := 67) rfl (by assumption) dX7_move_67 (by assumption) ?_
          refine r_iload_1 (pc := 70) dX7_move_70 ?_
          refine r_ialdE (pc := 71) (by assumption) (by first | assumption | exact rfl) dX7_move_71 (by omega) (by omega) (fun i_71 => ?_)
          rw [em] at i_71 ⊢
          refine r_istore_6 (pc := 72) dX7_move_72 rfl ?_
          refine r_iload_6 (pc := 74) dX7_move_74 ?_
          refine r_iload_2 (pc := 76) dX7_move_76 ?_
          refine r_icmp_ne (pc := 77) (tgt := 83) dX7_move_77 (by decide) (by omega) (by omega) (fun c_77 => ?_) (fun c_77 => ?_)
          · refine r_aload_0 (pc := 83) dX7_move_83 ?_
            refine r_aload_0 (pc := 84) dX7_move_84 ?_
            refine gf_X7_51 (pc := 85) rfl (by assumption) dX7_move_85 (by assumption) ?_
            refine k_VV1 (pc := 88) c_X7_beginEpoch lk_X7_147 ⟨Nat.le_of_ble_eq_true rfl, Nat.le_of_ble_eq_true rfl⟩ ⟨rfl, rfl⟩ ⟨Nat.le_of_ble_eq_true rfl, Nat.le_of_ble_eq_true rfl⟩ (k := 7) rfl (by decide) (by assumption) dX7_move_88 (Nat.le_of_ble_eq_true rfl) ?_
            refine ⟨_, _, q, 0, mp, rfl, hC, hLt, by omega, rfl, hP0, by omega, fun r_88 h_88 fr_88 hC2 hLt2 f_88 o_88 m_88 => ?_⟩
            have q4r := lrg 4 (by omega) (by omega)
            have lr7b : r_88 c 7 = some (q 4) := hLt2.1
            have hA4 : PlAt lay r_88 (q 4) := hLt2.2.2.1 0 (by omega) (by omega)
            obtain ⟨bl0, bl1, bl2, bl3, bl4, bl5, bl6, bl7, bl8, bl9, bl10, bl11, bl12, bl13, br0, br1, br2, br3, br9, br10, br11, cr3_, cr4_, wr1, wr2, wr3, wr4⟩ := id hA4
            obtain ⟨_, _, ⟨_, cr1b, _, _, cr4b, _, _⟩, _, cSb, _, cDb, _, _⟩ := id hC2
            have sl0 : lay (c + 4) = (5, 0) := cS.1
            have T0 : PTr h_88 (q 4) mp := m_88.2.2.1
            have L0 : PRl h_88 (q 4) mp := m_88.2.2.2.2.1
            have n4 := T0.1
            have SK0 : StK (h_88 (c + 4 + 1)) := by rw [f_88 _ (by omega)]; exact hSK
            have ec8 : h_88 c 8 = ep + 1 := by rw [o_88, up_s, he8]
            have ed0 : h_88 (c + 21) = h (c + 21) := f_88 _ (by omega)
            have DA0 : DaS h_88 (c + 21) ux sz ho := hDa.of (f_88 _ (by omega)) (f_88 _ (by omega)) (f_88 _ (by omega))
            refine r_aload_0 (pc := 91) dX7_move_91 ?_
            refine gf_X7_51 (pc := 92) rfl (by assumption) dX7_move_92 (by assumption) ?_
            refine gf_X7_84 (pc := 95) rfl (by assumption) dX7_move_95 (by assumption) ?_
            refine gf_X7_104 (pc := 98) rfl (by assumption) dX7_move_98 (by assumption) ?_
            refine r_iload_1 (pc := 101) dX7_move_101 ?_
            refine r_iload_2 (pc := 102) dX7_move_102 ?_
            refine r_iastE (pc := 103) (by assumption) rfl dX7_move_103 (by omega) (by omega) (by omega) ?_
            have TM : TrM (up mp m x) := TrM_move hT (by omega)
            have RM : RlM (up mp m x) := RlM_c hR hT (fun j hj => up_n (by omega))
            have T1 : PTr (hr h_88 (q 4 + 2) (up (h_88 (q 4 + 2)) m x)) (q 4) (up mp m x) := PTr_mv hT T0 (by omega)
            have L1 : PRl (hr h_88 (q 4 + 2) (up (h_88 (q 4 + 2)) m x)) (q 4) (up mp m x) := (L0.of (hr_n (by omega)) (hr_n (by omega)) (hr_n (by omega)) (hr_n (by omega)) (hr_n (by omega)) (hr_n (by omega)) (hr_n (by omega)) : PRl (hr h_88 (q 4 + 2) (up (h_88 (q 4 + 2)) m x)) (q 4) mp).cg (fun j j0 j1 j2 j3 => up_n (by omega)) t3 r5
            have SK1 : StK ((hr h_88 (q 4 + 2) (up (h_88 (q 4 + 2)) m x)) (c + 4 + 1)) := by rw [hr_n (by omega)]; exact SK0
            refine r_aload_0 (pc := 104) dX7_move_104 ?_
            refine gf_X7_51 (pc := 105) rfl (by assumption) dX7_move_105 (by assumption) ?_
            refine r_aload_0 (pc := 108) dX7_move_108 ?_
            refine gf_X7_19 (pc := 109) rfl (by assumption) dX7_move_109 (by assumption) ?_
            refine k_VV1 (pc := 112) c_X3_settleAll lk_X7_74 ⟨Nat.le_of_ble_eq_true rfl, Nat.le_of_ble_eq_true rfl⟩ ⟨rfl, rfl⟩ ⟨Nat.le_of_ble_eq_true rfl, Nat.le_of_ble_eq_true rfl⟩ (k := 3) rfl (by decide) (by assumption) dX7_move_112 (Nat.le_of_ble_eq_true rfl) ?_
            refine ⟨_, _, _, rfl, hA4, cSb, by omega, TM, RM, T1, L1, SK1, fun h_112 f_112 t_112 w_112 l_112 s_112 k_112 => ?_⟩
            refine r_iload_6 (pc := 115) dX7_move_115 ?_
            refine r_iret (pc := 117) hret dX7_move_117 rfl rfl rfl ?_
            first
            | exact hB (by omega)
            | exact (hQ cd).1 c_77
            | (refine ((hQ cd).2 c_77) r_88 h_112 fr_88 (fun x hx => by rw [f_112 x (by omega), hr_n (by omega)]; exact f_88 x (by omega)) (hI.ch hC2 hLt2 (fun x x0 x1 hx => by rw [f_112 x (by omega), hr_n (by omega)]; exact f_88 x (by omega)) (by rw [f_112 _ (by omega), hr_n (by omega)]; exact ec8) (by omega) k_112 ⟨TM, RM, t_112, w_112, l_112, s_112⟩ (by rw [up_n (by omega)]; exact h130) ⟨(show DaS h_112 (c + 21) ux sz ho from DA0.of (by rw [f_112 _ (by omega), hr_n (by omega)]) (by rw [f_112 _ (by omega), hr_n (by omega)]) (by rw [f_112 _ (by omega), hr_n (by omega)])), hMk⟩))
          · refine r_bipush (pc := 80) dX7_move_80 (by decide) ?_
            refine r_iret (pc := 82) hret dX7_move_82 rfl rfl rfl ?_
            first
            | exact hB (by omega)
            | exact (hQ cd).1 c_77
            | (refine ((hQ cd).2 c_77) r_88 h_112 fr_88 (fun x hx => by rw [f_112 x (by omega), hr_n (by omega)]; exact f_88 x (by omega)) (hI.ch hC2 hLt2 (fun x x0 x1 hx => by rw [f_112 x (by omega), hr_n (by omega)]; exact f_88 x (by omega)) (by rw [f_112 _ (by omega), hr_n (by omega)]; exact ec8) (by omega) k_112 ⟨TM, RM, t_112, w_112, l_112, s_112⟩ (by rw [up_n (by omega)]; exact h130) ⟨(show DaS h_112 (c + 21) ux sz ho from DA0.of (by rw [f_112 _ (by omega), hr_n (by omega)]) (by rw [f_112 _ (by omega), hr_n (by omega)]) (by rw [f_112 _ (by omega), hr_n (by omega)])), hMk⟩))

theorem DkX_dk {mp : Int → Int} {x w c : Int} (h : 0 ≤ mp 130 ∧ mp 130 ≤ 12) (h2 : mp 130 < 12) : DkX mp (dkM mp x w c) x w (10 * c) := by
  unfold dkM
  refine ⟨?_, ?_, ?_, ?_, ?_, ?_, fun j j0 j1 h1 h2 h3 h4 h5 h6 => ?_⟩
  · rw [up_n (by omega), up_n (by omega), up_n (by omega), up_n (by omega), up_n (by omega), up_s]
  · rw [up_n (by omega), up_n (by omega), up_n (by omega), up_n (by omega), up_s]
  · rw [up_n (by omega), up_n (by omega), up_n (by omega), up_s]
  · rw [up_n (by omega), up_n (by omega), up_s]
  · rw [up_n (by omega), up_s]; decide
  · rw [up_s]
  · rw [up_n h1, up_n h6, up_n h5, up_n h4, up_n h3, up_n h2]
theorem dkM_130 {mp : Int → Int} {x w c : Int} : dkM mp x w c 130 = mp 130 + 1 := up_s
theorem dX7_disk_0 : decode cX7_disk 0 = .ok (.aload_n 0, 1) := by decide +kernel
theorem dX7_disk_1 : decode cX7_disk 1 = .ok (.getfield 51, 3) := by decide +kernel
theorem dX7_disk_4 : decode cX7_disk 4 = .ok (.getfield 84, 3) := by decide +kernel
theorem dX7_disk_7 : decode cX7_disk 7 = .ok (.iload_n 1, 1) := by decide +kernel
theorem dX7_disk_8 : decode cX7_disk 8 = .ok (.invokevirtual 211, 3) := by decide +kernel
theorem dX7_disk_11 : decode cX7_disk 11 = .ok (.ifCond .eq 20, 3) := by decide +kernel
theorem dX7_disk_14 : decode cX7_disk 14 = .ok (.iload_n 2, 1) := by decide +kernel
theorem dX7_disk_15 : decode cX7_disk 15 = .ok (.invokestatic 144, 3) := by decide +kernel
theorem dX7_disk_18 : decode cX7_disk 18 = .ok (.ifCond .eq 13, 3) := by decide +kernel
theorem dX7_disk_21 : decode cX7_disk 21 = .ok (.iload_n 3, 1) := by decide +kernel
theorem dX7_disk_22 : decode cX7_disk 22 = .ok (.ifCond .lt 9, 3) := by decide +kernel
theorem dX7_disk_25 : decode cX7_disk 25 = .ok (.iload_n 3, 1) := by decide +kernel
theorem dX7_disk_26 : decode cX7_disk 26 = .ok (.bipush 99, 2) := by decide +kernel
theorem dX7_disk_28 : decode cX7_disk 28 = .ok (.if_icmp .le 5, 3) := by decide +kernel
theorem dX7_disk_31 : decode cX7_disk 31 = .ok (.iconst (-1), 1) := by decide +kernel
theorem dX7_disk_32 : decode cX7_disk 32 = .ok (.ireturn, 1) := by decide +kernel
theorem dX7_disk_33 : decode cX7_disk 33 = .ok (.aload_n 0, 1) := by decide +kernel
theorem dX7_disk_34 : decode cX7_disk 34 = .ok (.getfield 51, 3) := by decide +kernel
theorem dX7_disk_37 : decode cX7_disk 37 = .ok (.getfield 84, 3) := by decide +kernel
theorem dX7_disk_40 : decode cX7_disk 40 = .ok (.getfield 88, 3) := by decide +kernel
theorem dX7_disk_43 : decode cX7_disk 43 = .ok (.bipush 12, 2) := by decide +kernel
theorem dX7_disk_45 : decode cX7_disk 45 = .ok (.if_icmp .lt 6, 3) := by decide +kernel
theorem dX7_disk_48 : decode cX7_disk 48 = .ok (.bipush (-3), 2) := by decide +kernel
theorem dX7_disk_50 : decode cX7_disk 50 = .ok (.ireturn, 1) := by decide +kernel
theorem dX7_disk_51 : decode cX7_disk 51 = .ok (.aload_n 0, 1) := by decide +kernel
theorem dX7_disk_52 : decode cX7_disk 52 = .ok (.aload_n 0, 1) := by decide +kernel
theorem dX7_disk_53 : decode cX7_disk 53 = .ok (.getfield 51, 3) := by decide +kernel
theorem dX7_disk_56 : decode cX7_disk 56 = .ok (.invokevirtual 147, 3) := by decide +kernel
theorem dX7_disk_59 : decode cX7_disk 59 = .ok (.aload_n 0, 1) := by decide +kernel
theorem dX7_disk_60 : decode cX7_disk 60 = .ok (.getfield 51, 3) := by decide +kernel
theorem dX7_disk_63 : decode cX7_disk 63 = .ok (.iload_n 1, 1) := by decide +kernel
theorem dX7_disk_64 : decode cX7_disk 64 = .ok (.iload_n 2, 1) := by decide +kernel
theorem dX7_disk_65 : decode cX7_disk 65 = .ok (.iload_n 3, 1) := by decide +kernel
theorem dX7_disk_66 : decode cX7_disk 66 = .ok (.invokevirtual 214, 3) := by decide +kernel
theorem dX7_disk_69 : decode cX7_disk 69 = .ok (.pop, 1) := by decide +kernel
theorem dX7_disk_70 : decode cX7_disk 70 = .ok (.aload_n 0, 1) := by decide +kernel
theorem dX7_disk_71 : decode cX7_disk 71 = .ok (.getfield 51, 3) := by decide +kernel
theorem dX7_disk_74 : decode cX7_disk 74 = .ok (.getfield 84, 3) := by decide +kernel
theorem dX7_disk_77 : decode cX7_disk 77 = .ok (.invokevirtual 151, 3) := by decide +kernel
theorem dX7_disk_80 : decode cX7_disk 80 = .ok (.iconst 1, 1) := by decide +kernel
theorem dX7_disk_81 : decode cX7_disk 81 = .ok (.isub, 1) := by decide +kernel
theorem dX7_disk_82 : decode cX7_disk 82 = .ok (.istore 4, 2) := by decide +kernel
theorem dX7_disk_84 : decode cX7_disk 84 = .ok (.aload_n 0, 1) := by decide +kernel
theorem dX7_disk_85 : decode cX7_disk 85 = .ok (.getfield 37, 3) := by decide +kernel
theorem dX7_disk_88 : decode cX7_disk 88 = .ok (.iload 4, 2) := by decide +kernel
theorem dX7_disk_90 : decode cX7_disk 90 = .ok (.iconst 1, 1) := by decide +kernel
theorem dX7_disk_91 : decode cX7_disk 91 = .ok (.invokevirtual 217, 3) := by decide +kernel
theorem dX7_disk_94 : decode cX7_disk 94 = .ok (.aload_n 0, 1) := by decide +kernel
theorem dX7_disk_95 : decode cX7_disk 95 = .ok (.getfield 51, 3) := by decide +kernel
theorem dX7_disk_98 : decode cX7_disk 98 = .ok (.aload_n 0, 1) := by decide +kernel
theorem dX7_disk_99 : decode cX7_disk 99 = .ok (.getfield 19, 3) := by decide +kernel
theorem dX7_disk_102 : decode cX7_disk 102 = .ok (.invokevirtual 74, 3) := by decide +kernel
theorem dX7_disk_105 : decode cX7_disk 105 = .ok (.iload 4, 2) := by decide +kernel
theorem dX7_disk_107 : decode cX7_disk 107 = .ok (.ireturn, 1) := by decide +kernel
set_option maxHeartbeats 4000000 in
set_option maxRecDepth 20000 in
theorem c_X7_disk : ConI mX7_disk (fun args N lay r h Q => ∃ (c : Nat) (q : Int → Nat) (n : Int) (tx : Int → Int) (ep : Int) (km : Int → Int → Int) (mp F : Int → Int) (ux : Int) (sz ho : Int → Int) (sn : Int) (row : Int → Int) (x w k : Int), args = [.ref c, vI x, vI w, vI k] ∧ CI lay r h c q n tx ep km mp F ux sz ho sn row ∧ ep < 2147483646 ∧ (-2147483648 ≤ x ∧ x < 2147483648) ∧ (-2147483648 ≤ w ∧ w < 2147483648) ∧ (-2147483648 ≤ k ∧ k < 2147483648) ∧ (¬ ((4 ≤ x ∧ x ≤ 3 + mp 129) ∧ (0 ≤ w ∧ w ≤ 40) ∧ (0 ≤ k ∧ k ≤ 99)) → Q (-1) N lay r h) ∧ (((4 ≤ x ∧ x ≤ 3 + mp 129) ∧ (0 ≤ w ∧ w ≤ 40) ∧ (0 ≤ k ∧ k ≤ 99)) → (mp 130 = 12 → Q (-3) N lay r h) ∧ (mp 130 ≠ 12 → ∀ (r2 : RfT) (h2 : HpT), FrR r r2 (fun x => x = c ∨ x = c + 6) → Fr h h2 (fun x => c ≤ x ∧ x < c + 101) → CI lay r2 h2 c (qN q) n tx (ep + 1) (kN km (dkM mp x w k)) (dkM mp x w k) (plr (dkM mp x w k)) (iO ux (iSl 1 (10 + mp 130 - 10))) sz ho sn row → Q (10 + mp 130) N lay r2 h2))) := by
  refine ConI.of (by decide) (by rintro _ N lay r h Q ⟨c, q, n, tx, ep, km, mp, F, ux, sz, ho, sn, row, x, w, k, rfl, hI, hep9, h_x, h_w, h_k, hB, hQ⟩; exact ⟨rfl, Nat.le_of_ble_eq_true rfl⟩) ?_
  rintro E _ N lay r h Q ⟨c, q, n, tx, ep, km, mp, F, ux, sz, ho, sn, row, x, w, k, rfl, hI, hep9, h_x, h_w, h_k, hB, hQ⟩ hret
  obtain ⟨hC, hLt, ⟨hCT, htx⟩, hSK, ⟨he8, hep⟩, hkm, ⟨hk0, h130⟩, hF0, ⟨hDa, hMk, hsz⟩, ⟨hOb, hSe⟩⟩ := id hI
  obtain ⟨cl0, cl6, ⟨cr0, cr1, cr2, cr3, cr4, cr5, cr6⟩, cT, cS, cP, cD, cE, cO⟩ := id hC
  obtain ⟨lr7, lr6, lpl, lrg, ldj⟩ := id hLt
  have hP0 := hkm 0 (by omega) (by omega) (by omega)
  rw [hk0] at hP0
  obtain ⟨hT, hR, hN, hW, hL, hPS⟩ := id hP0
  have hA := lpl 0 (by omega) (by omega)
  have q0r := lrg 0 (by omega) (by omega)
  obtain ⟨pl0, pl1, pl2, pl3, pl4, pl5, pl6, pl7, pl8, pl9, pl10, pl11, pl12, pl13, pr0, pr1, pr2, pr3, pr9, pr10, pr11, qr3, qr4, vr1, vr2, vr3, vr4⟩ := id hA
  obtain ⟨⟨n0, n1, n2⟩, up1, up2, uw, u0, uh⟩ := id hN
  obtain ⟨t1, t2, t3, t4, t5, t6, t7⟩ := id hT
  obtain ⟨dl0, dl1, dl2, dr1, dr2⟩ := id cD
  obtain ⟨d0, d1, d2⟩ := id hDa
  show St E mX7_disk 0 [some (.ref c), some (vI x), some (vI w), some (vI k), none] [] (0, 0) N lay r h
  refine r_aload_0 (pc := 0) dX7_disk_0 ?_
  refine gf_X7_51 (pc := 1) rfl (by assumption) dX7_disk_1 (by assumption) ?_
  refine gf_X7_84 (pc := 4) rfl (by assumption) dX7_disk_4 (by assumption) ?_
  refine r_iload_1 (pc := 7) dX7_disk_7 ?_
  refine k_VI1 (pc := 8) c_X6_isRack lk_X7_211 ⟨Nat.le_of_ble_eq_true rfl, Nat.le_of_ble_eq_true rfl⟩ ⟨rfl, rfl⟩ ⟨Nat.le_of_ble_eq_true rfl, Nat.le_of_ble_eq_true rfl⟩ (k := 6) rfl (by decide) (by assumption) dX7_disk_8 (Nat.le_of_ble_eq_true rfl) ?_
  refine ⟨_, _, _, rfl, by assumption, by omega, by omega, ?_⟩
  refine r_ifeq_b (pc := 11) (tgt := 31) dX7_disk_11 (by decide) (fun c_11 => ?_) (fun c_11 => ?_)
  · refine r_iconst (pc := 31) dX7_disk_31 ?_
    refine r_iret (pc := 32) hret dX7_disk_32 rfl rfl rfl ?_
    first
    | exact hB (by omega)
    | exact (hQ (by omega)).1 (by omega)
    | (refine ((hQ (by omega)).2 (by omega)) r_56 h_102 fr_56 (fun x hx => by rw [f_102 x (by omega), F1 x (by omega) (by omega)]; exact f_56 x (by omega)) (hI.ch hC2 hLt2 (fun x x0 x1 hx => by rw [f_102 x (by omega), F1 x (by omega) (by omega)]; exact f_56 x (by omega)) (by rw [f_102 _ (by omega), F1 _ (by omega) (by omega)]; exact ec8) (by omega) k_102 ⟨TM, RM, t_102, w_102, l_102, s_102⟩ (by rw [dkM_130]; omega) ⟨(show DaS h_102 (c + 21) (iO ux (iSl 1 (10 + mp 130 - 10))) sz ho from ⟨by rw [f_102 _ (by omega), hr_s, up_s, u66], fun g g0 g1 => by rw [f_102 _ (by omega), F1 _ (by omega) (by omega)]; exact DA0.2.1 g g0 g1, fun g g0 g1 => by rw [f_102 _ (by omega), F1 _ (by omega) (by omega)]; exact DA0.2.2 g g0 g1⟩), ⟨Ms_O hMk.1 (Ms_S (by omega)), hMk.2⟩⟩))
  · refine r_iload_2 (pc := 14) dX7_disk_14 ?_
    refine k_SI1 (pc := 15) c_X7_isWeight lk_X7_144 ⟨Nat.le_of_ble_eq_true rfl, Nat.le_of_ble_eq_true rfl⟩ ⟨rfl, rfl⟩ ⟨Nat.le_of_ble_eq_true rfl, Nat.le_of_ble_eq_true rfl⟩ dX7_disk_15 (Nat.le_of_ble_eq_true rfl) ?_
    refine ⟨_, rfl, by omega, ?_⟩
    refine r_ifeq_b (pc := 18) (tgt := 31) dX7_disk_18 (by decide) (fun c_18 => ?_) (fun c_18 => ?_)
    · refine r_iconst (pc := 31) dX7_disk_31 ?_
      refine r_iret (pc := 32) hret dX7_disk_32 rfl rfl rfl ?_
      first
      | exact hB (by omega)
      | exact (hQ (by omega)).1 (by omega)
      | (refine ((hQ (by omega)).2 (by omega)) r_56 h_102 fr_56 (fun x hx => by rw [f_102 x (by omega), F1 x (by omega) (by omega)]; exact f_56 x (by omega)) (hI.ch hC2 hLt2 (fun x x0 x1 hx => by rw [f_102 x (by omega), F1 x (by omega) (by omega)]; exact f_56 x (by omega)) (by rw [f_102 _ (by omega), F1 _ (by omega) (by omega)]; exact ec8) (by omega) k_102 ⟨TM, RM, t_102, w_102, l_102, s_102⟩ (by rw [dkM_130]; omega) ⟨(show DaS h_102 (c + 21) (iO ux (iSl 1 (10 + mp 130 - 10))) sz ho from ⟨by rw [f_102 _ (by omega), hr_s, up_s, u66], fun g g0 g1 => by rw [f_102 _ (by omega), F1 _ (by omega) (by omega)]; exact DA0.2.1 g g0 g1, fun g g0 g1 => by rw [f_102 _ (by omega), F1 _ (by omega) (by omega)]; exact DA0.2.2 g g0 g1⟩), ⟨Ms_O hMk.1 (Ms_S (by omega)), hMk.2⟩⟩))
    · refine r_iload_3 (pc := 21) dX7_disk_21 ?_
      refine r_if_lt (pc := 22) (tgt := 31) dX7_disk_22 (by decide) (by omega) (fun c_22 => ?_) (fun c_22 => ?_)
      · refine r_iconst (pc := 31) dX7_disk_31 ?_
        refine r_iret (pc := 32) hret dX7_disk_32 rfl rfl rfl ?_
        first
        | exact hB (by omega)
        | exact (hQ (by omega)).1 (by omega)
        | (refine ((hQ (by omega)).2 (by omega)) r_56 h_102 fr_56 (fun x hx => by rw [f_102 x (by omega), F1 x (by omega) (by omega)]; exact f_56 x (by omega)) (hI.ch hC2 hLt2 (fun x x0 x1 hx => by rw [f_102 x (by omega), F1 x (by omega) (by omega)]; exact f_56 x (by omega)) (by rw [f_102 _ (by omega), F1 _ (by omega) (by omega)]; exact ec8) (by omega) k_102 ⟨TM, RM, t_102, w_102, l_102, s_102⟩ (by rw [dkM_130]; omega) ⟨(show DaS h_102 (c + 21) (iO ux (iSl 1 (10 + mp 130 - 10))) sz ho from ⟨by rw [f_102 _ (by omega), hr_s, up_s, u66], fun g g0 g1 => by rw [f_102 _ (by omega), F1 _ (by omega) (by omega)]; exact DA0.2.1 g g0 g1, fun g g0 g1 => by rw [f_102 _ (by omega), F1 _ (by omega) (by omega)]; exact DA0.2.2 g g0 g1⟩), ⟨Ms_O hMk.1 (Ms_S (by omega)), hMk.2⟩⟩))
      · refine r_iload_3 (pc := 25) dX7_disk_25 ?_
        refine r_bipush (pc := 26) dX7_disk_26 (by decide) ?_
        refine r_icmp_le (pc := 28) (tgt := 33) dX7_disk_28 (by decide) (by omega) (by omega) (fun c_28 => ?_) (fun c_28 => ?_)
        · refine r_aload_0 (pc := 33) dX7_disk_33 ?_
          refine gf_X7_51 (pc := 34) rfl (by assumption) dX7_disk_34 (by assumption) ?_
          refine gf_X7_84 (pc := 37) rfl (by assumption) dX7_disk_37 (by assumption) ?_
          refine gf_X7_88 (pc := 40) rfl (by assumption) dX7_disk_40 (fun i_40 => ?_)
          refine r_bipush (pc := 43) dX7_disk_43 (by decide) ?_
          refine r_icmp_lt (pc := 45) (tgt := 51) dX7_disk_45 (by decide) (by omega) (by omega) (fun c_45 => ?_) (fun c_45 => ?_)
          · refine r_aload_0 (pc := 51) dX7_disk_51 ?_
            refine r_aload_0 (pc := 52) dX7_disk_52 ?_
            refine gf_X7_51 (pc := 53) rfl (by assumption) dX7_disk_53 (by assumption) ?_
            refine k_VV1 (pc := 56) c_X7_beginEpoch lk_X7_147 ⟨Nat.le_of_ble_eq_true rfl, Nat.le_of_ble_eq_true rfl⟩ ⟨rfl, rfl⟩ ⟨Nat.le_of_ble_eq_true rfl, Nat.le_of_ble_eq_true rfl⟩ (k := 7) rfl (by decide) (by assumption) dX7_disk_56 (Nat.le_of_ble_eq_true rfl) ?_
            refine ⟨_, _, q, 0, mp, rfl, hC, hLt, by omega, rfl, hP0, by omega, fun r_56 h_56 fr_56 hC2 hLt2 f_56 o_56 m_56 => ?_⟩
            have q4r := lrg 4 (by omega) (by omega)
            have lr7b : r_56 c 7 = some (q 4) := hLt2.1
            have hA4 : PlAt lay r_56 (q 4) := hLt2.2.2.1 0 (by omega) (by omega)
            obtain ⟨bl0, bl1, bl2, bl3, bl4, bl5, bl6, bl7, bl8, bl9, bl10, bl11, bl12, bl13, br0, br1, br2, br3, br9, br10, br11, cr3_, cr4_, wr1, wr2, wr3, wr4⟩ := id hA4
            obtain ⟨_, _, ⟨_, cr1b, _, _, cr4b, _, _⟩, _, cSb, _, cDb, _, _⟩ := id hC2
            have sl0 : lay (c + 4) = (5, 0) := cS.1
            have T0 : PTr h_56 (q 4) mp := m_56.2.2.1
            have L0 : PRl h_56 (q 4) mp := m_56.2.2.2.2.1
            have n4 := T0.1
            have SK0 : StK (h_56 (c + 4 + 1)) := by rw [f_56 _ (by omega)]; exact hSK
            have ec8 : h_56 c 8 = ep + 1 := by rw [o_56, up_s, he8]
            have ed0 : h_56 (c + 21) = h (c + 21) := f_56 _ (by omega)
            have DA0 : DaS h_56 (c + 21) ux sz ho := hDa.of (f_56 _ (by omega)) (f_56 _ (by omega)) (f_56 _ (by omega))
            refine r_aload_0 (pc := 59) dX7_disk_59 ?_
            refine gf_X7_51 (pc := 60) rfl (by assumption) dX7_disk_60 (by assumption) ?_
            refine r_iload_1 (pc := 63) dX7_disk_63 ?_
            refine r_iload_2 (pc := 64) dX7_disk_64 ?_
            refine r_iload_3 (pc := 65) dX7_disk_65 ?_
            refine k_VI3 (pc := 66) c_X3_addDisk lk_X7_214 ⟨Nat.le_of_ble_eq_true rfl, Nat.le_of_ble_eq_true rfl⟩ ⟨rfl, rfl⟩ ⟨Nat.le_of_ble_eq_true rfl, Nat.le_of_ble_eq_true rfl⟩ (k := 3) rfl (by decide) (by assumption) dX7_disk_66 (Nat.le_of_ble_eq_true rfl) ?_
            refine ⟨_, mp, _, _, _, rfl, hA4, hT, hR, T0, L0, by omega, by omega, by omega, fun g_66 => ?_, fun g_66 h_66 f_66 a_66 => ?_⟩
            · omega
            have dx := a_66 (dkM mp x w k) (DkX_dk t3 (by omega))
            have nx := dx.1.1.2.2
            rw [dkM_130] at nx
            refine r_popI (pc := 69) dX7_disk_69 ?_
            refine r_aload_0 (pc := 70) dX7_disk_70 ?_
            refine gf_X7_51 (pc := 71) rfl (by assumption) dX7_disk_71 (by assumption) ?_
            refine gf_X7_84 (pc := 74) rfl (by assumption) dX7_disk_74 (by assumption) ?_
            refine k_VI0 (pc := 77) c_X6_endOfDisks lk_X7_151 ⟨Nat.le_of_ble_eq_true rfl, Nat.le_of_ble_eq_true rfl⟩ ⟨rfl, rfl⟩ ⟨Nat.le_of_ble_eq_true rfl, Nat.le_of_ble_eq_true rfl⟩ (k := 6) rfl (by decide) (by assumption) dX7_disk_77 (Nat.le_of_ble_eq_true rfl) ?_
            refine ⟨_, _, rfl, by assumption, fun i_77 => ?_⟩
            refine r_iconst (pc := 80) dX7_disk_80 ?_
            refine r_isub (pc := 81) dX7_disk_81 ?_
            rw [nx, show 10 + (mp 130 + 1) - 1 = 10 + mp 130 by omega]
            refine r_istore_4 (pc := 82) dX7_disk_82 rfl ?_
            refine r_aload_0 (pc := 84) dX7_disk_84 ?_
            refine gf_X7_37 (pc := 85) rfl (by assumption) dX7_disk_85 (by assumption) ?_
            refine r_iload_4 (pc := 88) dX7_disk_88 ?_
            refine r_iconst (pc := 90) dX7_disk_90 ?_
            refine k_VV2 (pc := 91) c_X0_setUp lk_X7_217 ⟨Nat.le_of_ble_eq_true rfl, Nat.le_of_ble_eq_true rfl⟩ ⟨rfl, rfl⟩ ⟨Nat.le_of_ble_eq_true rfl, Nat.le_of_ble_eq_true rfl⟩ (k := 0) rfl (by decide) (by assumption) dX7_disk_91 (Nat.le_of_ble_eq_true rfl) ?_
            refine ⟨_, _, _, rfl, cDb, Or.inr rfl, fun z_91 => absurd z_91 (show ¬ (1 : Int) = 0 by decide), fun _ => ?_⟩
            have TM : TrM (dkM mp x w k) := TrM_disk hT (by omega) (by omega) (by omega)
            have RM : RlM (dkM mp x w k) := RlM_disk hR hT (by omega) (by omega)
            have T1 : PTr (hr h_66 (c + 21) (up (h_66 (c + 21)) 0 (iO (h_66 (c + 21) 0) (iSl 1 (10 + mp 130 - 10))))) (q 4) (dkM mp x w k) := dx.1.of (hr_n (by omega)) (hr_n (by omega)) (hr_n (by omega))
            have L1 : PRl (hr h_66 (c + 21) (up (h_66 (c + 21)) 0 (iO (h_66 (c + 21) 0) (iSl 1 (10 + mp 130 - 10))))) (q 4) (dkM mp x w k) := dx.2.of (hr_n (by omega)) (hr_n (by omega)) (hr_n (by omega)) (hr_n (by omega)) (hr_n (by omega)) (hr_n (by omega)) (hr_n (by omega))
            have SK1 : StK ((hr h_66 (c + 21) (up (h_66 (c + 21)) 0 (iO (h_66 (c + 21) 0) (iSl 1 (10 + mp 130 - 10))))) (c + 4 + 1)) := by rw [hr_n (by omega), f_66 _ (by omega)]; exact SK0
            have u66 : h_66 (c + 21) 0 = ux := by rw [f_66 _ (by omega)]; exact DA0.1
            have F1 : ∀ x, ¬ (x = c + 21) → ¬ (q 4 ≤ x ∧ x < q 4 + 14) → (hr h_66 (c + 21) (up (h_66 (c + 21)) 0 (iO (h_66 (c + 21) 0) (iSl 1 (10 + mp 130 - 10))))) x = h_56 x := fun x z1 z2 => by rw [hr_n z1]; exact f_66 x (by omega)
            refine r_aload_0 (pc := 94) dX7_disk_94 ?_
            refine gf_X7_51 (pc := 95) rfl (by assumption) dX7_disk_95 (by assumption) ?_
            refine r_aload_0 (pc := 98) dX7_disk_98 ?_
            refine gf_X7_19 (pc := 99) rfl (by assumption) dX7_disk_99 (by assumption) ?_
            refine k_VV1 (pc := 102) c_X3_settleAll lk_X7_74 ⟨Nat.le_of_ble_eq_true rfl, Nat.le_of_ble_eq_true rfl⟩ ⟨rfl, rfl⟩ ⟨Nat.le_of_ble_eq_true rfl, Nat.le_of_ble_eq_true rfl⟩ (k := 3) rfl (by decide) (by assumption) dX7_disk_102 (Nat.le_of_ble_eq_true rfl) ?_
            refine ⟨_, _, _, rfl, hA4, cSb, by omega, TM, RM, T1, L1, SK1, fun h_102 f_102 t_102 w_102 l_102 s_102 k_102 => ?_⟩
            refine r_iload_4 (pc := 105) dX7_disk_105 ?_
            refine r_iret (pc := 107) hret dX7_disk_107 rfl rfl rfl ?_
            first
            | exact hB (by omega)
            | exact (hQ (by omega)).1 (by omega)
            | (refine ((hQ (by omega)).2 (by omega)) r_56 h_102 fr_56 (fun x hx => by rw [f_102 x (by omega), F1 x (by omega) (by omega)]; exact f_56 x (by omega)) (hI.ch hC2 hLt2 (fun x x0 x1 hx => by rw [f_102 x (by omega), F1 x (by omega) (by omega)]; exact f_56 x (by omega)) (by rw [f_102 _ (by omega), F1 _ (by omega) (by omega)]; exact ec8) (by omega) k_102 ⟨TM, RM, t_102, w_102, l_102, s_102⟩ (by rw [dkM_130]; omega) ⟨(show DaS h_102 (c + 21) (iO ux (iSl 1 (10 + mp 130 - 10))) sz ho from ⟨by rw [f_102 _ (by omega), hr_s, up_s, u66], fun g g0 g1 => by rw [f_102 _ (by omega), F1 _ (by omega) (by omega)]; exact DA0.2.1 g g0 g1, fun g g0 g1 => by rw [f_102 _ (by omega), F1 _ (by omega) (by omega)]; exact DA0.2.2 g g0 g1⟩), ⟨Ms_O hMk.1 (Ms_S (by omega)), hMk.2⟩⟩))
          · refine r_bipush (pc := 48) dX7_disk_48 (by decide) ?_
            refine r_iret (pc := 50) hret dX7_disk_50 rfl rfl rfl ?_
            first
            | exact hB (by omega)
            | exact (hQ (by omega)).1 (by omega)
            | (refine ((hQ (by omega)).2 (by omega)) r_56 h_102 fr_56 (fun x hx => by rw [f_102 x (by omega), F1 x (by omega) (by omega)]; exact f_56 x (by omega)) (hI.ch hC2 hLt2 (fun x x0 x1 hx => by rw [f_102 x (by omega), F1 x (by omega) (by omega)]; exact f_56 x (by omega)) (by rw [f_102 _ (by omega), F1 _ (by omega) (by omega)]; exact ec8) (by omega) k_102 ⟨TM, RM, t_102, w_102, l_102, s_102⟩ (by rw [dkM_130]; omega) ⟨(show DaS h_102 (c + 21) (iO ux (iSl 1 (10 + mp 130 - 10))) sz ho from ⟨by rw [f_102 _ (by omega), hr_s, up_s, u66], fun g g0 g1 => by rw [f_102 _ (by omega), F1 _ (by omega) (by omega)]; exact DA0.2.1 g g0 g1, fun g g0 g1 => by rw [f_102 _ (by omega), F1 _ (by omega) (by omega)]; exact DA0.2.2 g g0 g1⟩), ⟨Ms_O hMk.1 (Ms_S (by omega)), hMk.2⟩⟩))
        · refine r_iconst (pc := 31) dX7_disk_31 ?_
          refine r_iret (pc := 32) hret dX7_disk_32 rfl rfl rfl ?_
          first
          | exact hB (by omega)
          | exact (hQ (by omega)).1 (by omega)
          | (refine ((hQ (by omega)).2 (by omega)) r_56 h_102 fr_56 (fun x hx => by rw [f_102 x (by omega), F1 x (by omega) (by omega)]; exact f_56 x (by omega)) (hI.ch hC2 hLt2 (fun x x0 x1 hx => by rw [f_102 x (by omega), F1 x (by omega) (by omega)]; exact f_56 x (by omega)) (by rw [f_102 _ (by omega), F1 _ (by omega) (by omega)]; exact ec8) (by omega) k_102 ⟨TM, RM, t_102, w_102, l_102, s_102⟩ (by rw [dkM_130]; omega) ⟨(show DaS h_102 (c + 21) (iO ux (iSl 1 (10 + mp 130 - 10))) sz ho from ⟨by rw [f_102 _ (by omega), hr_s, up_s, u66], fun g g0 g1 => by rw [f_102 _ (by omega), F1 _ (by omega) (by omega)]; exact DA0.2.1 g g0 g1, fun g g0 g1 => by rw [f_102 _ (by omega), F1 _ (by omega) (by omega)]; exact DA0.2.2 g g0 g1⟩), ⟨Ms_O hMk.1 (Ms_S (by omega)), hMk.2⟩⟩))

