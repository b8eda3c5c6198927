/-! THE CLASS: public methods that change no map, third part -/
theorem dX7_old_0 : decode cX7_old 0 = .ok (.iload_n 2, 1) := by decide +kernel
theorem dX7_old_1 : decode cX7_old 1 = .ok (.invokestatic 172, 3) := by decide +kernel
theorem dX7_old_4 : decode cX7_old 4 = .ok (.ifCond .eq 10, 3) := by decide +kernel
theorem dX7_old_7 : decode cX7_old 7 = .ok (.iload_n 3, 1) := by decide +kernel
theorem dX7_old_8 : decode cX7_old 8 = .ok (.invokestatic 246, 3) := by decide +kernel
theorem dX7_old_11 : decode cX7_old 11 = .ok (.ifCond .ne 5, 3) := by decide +kernel
theorem dX7_old_14 : decode cX7_old 14 = .ok (.iconst (-1), 1) := by decide +kernel
theorem dX7_old_15 : decode cX7_old 15 = .ok (.ireturn, 1) := by decide +kernel
theorem dX7_old_16 : decode cX7_old 16 = .ok (.aload_n 0, 1) := by decide +kernel
theorem dX7_old_17 : decode cX7_old 17 = .ok (.iload_n 1, 1) := by decide +kernel
theorem dX7_old_18 : decode cX7_old 18 = .ok (.invokevirtual 221, 3) := by decide +kernel
theorem dX7_old_21 : decode cX7_old 21 = .ok (.astore 4, 2) := by decide +kernel
theorem dX7_old_23 : decode cX7_old 23 = .ok (.aload 4, 2) := by decide +kernel
theorem dX7_old_25 : decode cX7_old 25 = .ok (.ifnonnull 8, 3) := by decide +kernel
theorem dX7_old_28 : decode cX7_old 28 = .ok (.bipush (-4), 2) := by decide +kernel
theorem dX7_old_30 : decode cX7_old 30 = .ok (.goto 10, 3) := by decide +kernel
theorem dX7_old_33 : decode cX7_old 33 = .ok (.aload 4, 2) := by decide +kernel
theorem dX7_old_35 : decode cX7_old 35 = .ok (.iload_n 2, 1) := by decide +kernel
theorem dX7_old_36 : decode cX7_old 36 = .ok (.iload_n 3, 1) := by decide +kernel
theorem dX7_old_37 : decode cX7_old 37 = .ok (.invokevirtual 249, 3) := by decide +kernel
theorem dX7_old_40 : decode cX7_old 40 = .ok (.ireturn, 1) := by decide +kernel
set_option maxHeartbeats 4000000 in
set_option maxRecDepth 20000 in
theorem c_X7_old : ConI mX7_old (fun args N lay r h Q => ∃ (c : Nat) (q : Int → Nat) (n : Int) (tx : Int → Int) (ep : Int) (km : Int → Int → Int) (mp F : Int → Int) (ux : Int) (sz ho : Int → Int) (sn : Int) (row : Int → Int) (e g k : Int), args = [.ref c, vI e, vI g, vI k] ∧ CI lay r h c q n tx ep km mp F ux sz ho sn row ∧ (-2147483648 ≤ e ∧ e < 2147483648) ∧ (-2147483648 ≤ g ∧ g < 2147483648) ∧ (-2147483648 ≤ k ∧ k < 2147483648) ∧ (¬ ((0 ≤ g ∧ g < 16) ∧ (0 ≤ k ∧ k ≤ 3)) → Q (-1) N lay r h) ∧ (((0 ≤ g ∧ g < 16) ∧ (0 ≤ k ∧ k ≤ 3)) → (¬ (1 ≤ e ∧ e ≤ ep ∧ ep - e < 5) → Q (-4) N lay r h) ∧ ((1 ≤ e ∧ e ≤ ep ∧ ep - e < 5) → Q (plc (km (ep - e)) g k) N lay r h))) := by
  refine ConI.of (by decide) (by rintro _ N lay r h Q ⟨c, q, n, tx, ep, km, mp, F, ux, sz, ho, sn, row, e, g, k, rfl, hI, h_e, h_g, h_k, hB, hQ⟩; exact ⟨rfl, Nat.le_of_ble_eq_true rfl⟩) ?_
  rintro E _ N lay r h Q ⟨c, q, n, tx, ep, km, mp, F, ux, sz, ho, sn, row, e, g, k, rfl, hI, h_e, h_g, h_k, hB, hQ⟩ hret
  obtain ⟨hC, hLt, ⟨hCT, htx⟩, hSK, ⟨he8, hep⟩, hkm, ⟨hk0, h130⟩, hF0, ⟨hDa, hMk, hsz⟩, ⟨hOb, hSe⟩⟩ := id hI
  obtain ⟨cl0, cl6, ⟨cr0, cr1, cr2, cr3, cr4, cr5, cr6⟩, cT, cS, cP, cD, cE, cO⟩ := id hC
  obtain ⟨lr7, lr6, lpl, lrg, ldj⟩ := id hLt
  have hP0 := hkm 0 (by omega) (by omega) (by omega)
  rw [hk0] at hP0
  obtain ⟨hT, hR, hN, hW, hL, hPS⟩ := id hP0
  have hA := lpl 0 (by omega) (by omega)
  have q0r := lrg 0 (by omega) (by omega)
  obtain ⟨pl0, pl1, pl2, pl3, pl4, pl5, pl6, pl7, pl8, pl9, pl10, pl11, pl12, pl13, pr0, pr1, pr2, pr3, pr9, pr10, pr11, qr3, qr4, vr1, vr2, vr3, vr4⟩ := id hA
  obtain ⟨⟨n0, n1, n2⟩, up1, up2, uw, u0, uh⟩ := id hN
  obtain ⟨t1, t2, t3, t4, t5, t6, t7⟩ := id hT
  show St E mX7_old 0 [some (.ref c), some (vI e), some (vI g), some (vI k), none] [] (0, 0) N lay r h
  refine r_iload_2 (pc := 0) dX7_old_0 ?_
  refine k_SI1 (pc := 1) c_X7_isGroup lk_X7_172 ⟨Nat.le_of_ble_eq_true rfl, Nat.le_of_ble_eq_true rfl⟩ ⟨rfl, rfl⟩ ⟨Nat.le_of_ble_eq_true rfl, Nat.le_of_ble_eq_true rfl⟩ dX7_old_1 (Nat.le_of_ble_eq_true rfl) ?_
  refine ⟨_, rfl, by omega, ?_⟩
  refine r_ifeq_b (pc := 4) (tgt := 14) dX7_old_4 (by decide) (fun c_4 => ?_) (fun c_4 => ?_)
  · refine r_iconst (pc := 14) dX7_old_14 ?_
    refine r_iret (pc := 15) hret dX7_old_15 rfl rfl rfl ?_
    exact hB (by omega)
  · refine r_iload_3 (pc := 7) dX7_old_7 ?_
    refine k_SI1 (pc := 8) c_X7_isCopy lk_X7_246 ⟨Nat.le_of_ble_eq_true rfl, Nat.le_of_ble_eq_true rfl⟩ ⟨rfl, rfl⟩ ⟨Nat.le_of_ble_eq_true rfl, Nat.le_of_ble_eq_true rfl⟩ dX7_old_8 (Nat.le_of_ble_eq_true rfl) ?_
    refine ⟨_, rfl, by omega, ?_⟩
    refine r_ifne_b (pc := 11) (tgt := 16) dX7_old_11 (by decide) (fun c_11 => ?_) (fun c_11 => ?_)
    · refine r_aload_0 (pc := 16) dX7_old_16 ?_
      refine r_iload_1 (pc := 17) dX7_old_17 ?_
      refine k_VQ1 (pc := 18) c_X7_planOf lk_X7_221 ⟨Nat.le_of_ble_eq_true rfl, Nat.le_of_ble_eq_true rfl⟩ ⟨rfl, rfl⟩ ⟨Nat.le_of_ble_eq_true rfl, Nat.le_of_ble_eq_true rfl⟩ (k := 7) rfl (by decide) (by assumption) dX7_old_18 (Nat.le_of_ble_eq_true rfl) ?_
      refine ⟨_, q, _, rfl, hC, hLt, by omega, fun g_18 => ?_, fun g_18 => ?_⟩
      · refine r_astoreN_4 (pc := 21) dX7_old_21 rfl ?_
        refine r_aloadN_4 (pc := 23) dX7_old_23 ?_
        refine r_ifnonnullN (pc := 25) dX7_old_25 ?_
        refine r_bipush (pc := 28) dX7_old_28 (by decide) ?_
        refine r_goto (pc := 30) (tgt := 40) dX7_old_30 (by decide) ?_
        refine r_iret (pc := 40) hret dX7_old_40 rfl rfl rfl ?_
        exact (hQ (by omega)).1 (by omega)
      · have pe := lpl (h c 8 - e) (by omega) (by omega)
        have pm := hkm (h c 8 - e) (by omega) (by omega) (by omega)
        obtain ⟨yl0, yl11, yr9⟩ : lay (q (h c 8 - e)) = (4, 0) ∧ lay (q (h c 8 - e) + 11) = (10, 64) ∧ r (q (h c 8 - e)) 9 = some (q (h c 8 - e) + 11) := by
          obtain ⟨z0, z1, z2, z3, z4, z5, z6, z7, z8, z9, z10, z11, z12, z13, w0, w1, w2, w3, w9, w10, w11, _⟩ := pe
          exact ⟨z0, z11, w9⟩
        refine r_astore_4 (pc := 21) dX7_old_21 rfl ?_
        refine r_aload_4 (pc := 23) dX7_old_23 ?_
        refine r_ifnonnull (pc := 25) (tgt := 33) dX7_old_25 (by decide) ?_
        refine r_aload_4 (pc := 33) dX7_old_33 ?_
        refine r_iload_2 (pc := 35) dX7_old_35 ?_
        refine r_iload_3 (pc := 36) dX7_old_36 ?_
        refine k_VI2 (pc := 37) c_X3_copyOf lk_X7_249 ⟨Nat.le_of_ble_eq_true rfl, Nat.le_of_ble_eq_true rfl⟩ ⟨rfl, rfl⟩ ⟨Nat.le_of_ble_eq_true rfl, Nat.le_of_ble_eq_true rfl⟩ (k := 3) rfl (by decide) (by assumption) dX7_old_37 (Nat.le_of_ble_eq_true rfl) ?_
        refine ⟨_, _, _, _, rfl, yl0, yl11, yr9, by omega, by omega, fun i_37 => ?_⟩
        refine r_iret (pc := 40) hret dX7_old_40 rfl rfl rfl ?_
        have q9 := (hQ (by omega)).2 (by omega)
        have e9 := pm.2.2.2.2.2.1 (4 * g + k) (by omega) (by omega)
        rw [plr_g (by omega)] at e9
        rw [e9, he8]
        exact q9
    · refine r_iconst (pc := 14) dX7_old_14 ?_
      refine r_iret (pc := 15) hret dX7_old_15 rfl rfl rfl ?_
      exact hB (by omega)

theorem dX7_chosen_0 : decode cX7_chosen 0 = .ok (.aload_n 0, 1) := by decide +kernel
theorem dX7_chosen_1 : decode cX7_chosen 1 = .ok (.getfield 51, 3) := by decide +kernel
theorem dX7_chosen_4 : decode cX7_chosen 4 = .ok (.getfield 84, 3) := by decide +kernel
theorem dX7_chosen_7 : decode cX7_chosen 7 = .ok (.astore 4, 2) := by decide +kernel
theorem dX7_chosen_9 : decode cX7_chosen 9 = .ok (.iload_n 1, 1) := by decide +kernel
theorem dX7_chosen_10 : decode cX7_chosen 10 = .ok (.invokestatic 172, 3) := by decide +kernel
theorem dX7_chosen_13 : decode cX7_chosen 13 = .ok (.ifCond .eq 31, 3) := by decide +kernel
theorem dX7_chosen_16 : decode cX7_chosen 16 = .ok (.iload_n 2, 1) := by decide +kernel
theorem dX7_chosen_17 : decode cX7_chosen 17 = .ok (.ifCond .lt 27, 3) := by decide +kernel
theorem dX7_chosen_20 : decode cX7_chosen 20 = .ok (.iload_n 2, 1) := by decide +kernel
theorem dX7_chosen_21 : decode cX7_chosen 21 = .ok (.bipush 99, 2) := by decide +kernel
theorem dX7_chosen_23 : decode cX7_chosen 23 = .ok (.if_icmp .gt 21, 3) := by decide +kernel
theorem dX7_chosen_26 : decode cX7_chosen 26 = .ok (.aload 4, 2) := by decide +kernel
theorem dX7_chosen_28 : decode cX7_chosen 28 = .ok (.iload_n 3, 1) := by decide +kernel
theorem dX7_chosen_29 : decode cX7_chosen 29 = .ok (.invokevirtual 93, 3) := by decide +kernel
theorem dX7_chosen_32 : decode cX7_chosen 32 = .ok (.ifCond .eq 12, 3) := by decide +kernel
theorem dX7_chosen_35 : decode cX7_chosen 35 = .ok (.aload 4, 2) := by decide +kernel
theorem dX7_chosen_37 : decode cX7_chosen 37 = .ok (.iload_n 3, 1) := by decide +kernel
theorem dX7_chosen_38 : decode cX7_chosen 38 = .ok (.invokevirtual 97, 3) := by decide +kernel
theorem dX7_chosen_41 : decode cX7_chosen 41 = .ok (.ifCond .eq 5, 3) := by decide +kernel
theorem dX7_chosen_44 : decode cX7_chosen 44 = .ok (.iconst (-1), 1) := by decide +kernel
theorem dX7_chosen_45 : decode cX7_chosen 45 = .ok (.ireturn, 1) := by decide +kernel
theorem dX7_chosen_46 : decode cX7_chosen 46 = .ok (.aload 4, 2) := by decide +kernel
theorem dX7_chosen_48 : decode cX7_chosen 48 = .ok (.aload_n 0, 1) := by decide +kernel
theorem dX7_chosen_49 : decode cX7_chosen 49 = .ok (.getfield 19, 3) := by decide +kernel
theorem dX7_chosen_52 : decode cX7_chosen 52 = .ok (.iload_n 1, 1) := by decide +kernel
theorem dX7_chosen_53 : decode cX7_chosen 53 = .ok (.iload_n 2, 1) := by decide +kernel
theorem dX7_chosen_54 : decode cX7_chosen 54 = .ok (.iload_n 3, 1) := by decide +kernel
theorem dX7_chosen_55 : decode cX7_chosen 55 = .ok (.invokevirtual 242, 3) := by decide +kernel
theorem dX7_chosen_58 : decode cX7_chosen 58 = .ok (.ireturn, 1) := by decide +kernel
set_option maxHeartbeats 4000000 in
set_option maxRecDepth 20000 in
theorem c_X7_chosen : ConI mX7_chosen (fun args N lay r h Q => ∃ (c : Nat) (q : Int → Nat) (n : Int) (tx : Int → Int) (ep : Int) (km : Int → Int → Int) (mp F : Int → Int) (ux : Int) (sz ho : Int → Int) (sn : Int) (row : Int → Int) (g t m : Int), args = [.ref c, vI g, vI t, vI m] ∧ CI lay r h c q n tx ep km mp F ux sz ho sn row ∧ (-2147483648 ≤ g ∧ g < 2147483648) ∧ (-2147483648 ≤ t ∧ t < 2147483648) ∧ (-2147483648 ≤ m ∧ m < 2147483648) ∧ (¬ ((0 ≤ g ∧ g < 16) ∧ (0 ≤ t ∧ t ≤ 99) ∧ isNd mp m ∧ m ≤ 9) → Q (-1) N lay r h) ∧ (((0 ≤ g ∧ g < 16) ∧ (0 ≤ t ∧ t ≤ 99) ∧ isNd mp m ∧ m ≤ 9) → ∀ h2, Fr h h2 (fun x => c ≤ x ∧ x < c + 101) → CI lay r h2 c q n tx ep km mp F ux sz ho sn row → Q (chz mp g t m) N lay r h2)) := by
  refine ConI.of (by decide) (by rintro _ N lay r h Q ⟨c, q, n, tx, ep, km, mp, F, ux, sz, ho, sn, row, g, t, m, rfl, hI, h_g, h_t, h_m, hB, hQ⟩; exact ⟨rfl, Nat.le_of_ble_eq_true rfl⟩) ?_
  rintro E _ N lay r h Q ⟨c, q, n, tx, ep, km, mp, F, ux, sz, ho, sn, row, g, t, m, rfl, hI, h_g, h_t, h_m, hB, hQ⟩ hret
  obtain ⟨hC, hLt, ⟨hCT, htx⟩, hSK, ⟨he8, hep⟩, hkm, ⟨hk0, h130⟩, hF0, ⟨hDa, hMk, hsz⟩, ⟨hOb, hSe⟩⟩ := id hI
  obtain ⟨cl0, cl6, ⟨cr0, cr1, cr2, cr3, cr4, cr5, cr6⟩, cT, cS, cP, cD, cE, cO⟩ := id hC
  obtain ⟨lr7, lr6, lpl, lrg, ldj⟩ := id hLt
  have hP0 := hkm 0 (by omega) (by omega) (by omega)
  rw [hk0] at hP0
  obtain ⟨hT, hR, hN, hW, hL, hPS⟩ := id hP0
  have hA := lpl 0 (by omega) (by omega)
  have q0r := lrg 0 (by omega) (by omega)
  obtain ⟨pl0, pl1, pl2, pl3, pl4, pl5, pl6, pl7, pl8, pl9, pl10, pl11, pl12, pl13, pr0, pr1, pr2, pr3, pr9, pr10, pr11, qr3, qr4, vr1, vr2, vr3, vr4⟩ := id hA
  obtain ⟨⟨n0, n1, n2⟩, up1, up2, uw, u0, uh⟩ := id hN
  obtain ⟨t1, t2, t3, t4, t5, t6, t7⟩ := id hT
  show St E mX7_chosen 0 [some (.ref c), some (vI g), some (vI t), some (vI m), none] [] (0, 0) N lay r h
  refine r_aload_0 (pc := 0) dX7_chosen_0 ?_
  refine gf_X7_51 (pc := 1) rfl (by assumption) dX7_chosen_1 (by assumption) ?_
  refine gf_X7_84 (pc := 4) rfl (by assumption) dX7_chosen_4 (by assumption) ?_
  refine r_astore_4 (pc := 7) dX7_chosen_7 rfl ?_
  refine r_iload_1 (pc := 9) dX7_chosen_9 ?_
  refine k_SI1 (pc := 10) c_X7_isGroup lk_X7_172 ⟨Nat.le_of_ble_eq_true rfl, Nat.le_of_ble_eq_true rfl⟩ ⟨rfl, rfl⟩ ⟨Nat.le_of_ble_eq_true rfl, Nat.le_of_ble_eq_true rfl⟩ dX7_chosen_10 (Nat.le_of_ble_eq_true rfl) ?_
  refine ⟨_, rfl, by omega, ?_⟩
  refine r_ifeq_b (pc := 13) (tgt := 44) dX7_chosen_13 (by decide) (fun c_13 => ?_) (fun c_13 => ?_)
  · refine r_iconst (pc := 44) dX7_chosen_44 ?_
    refine r_iret (pc := 45) hret dX7_chosen_45 rfl rfl rfl ?_
    first
    | exact hB (fun z => c_13 z.1)
    | exact hB (fun z => by have := z.2.1; omega)
    | exact hB (fun z => c_32 z.2.2.1)
    | exact hB (fun z => by have := z.2.2.2; omega)
    | (refine hQ ⟨c_13, by omega, c_32, by rcases c_32 with z | z | z | z <;> omega⟩ _ (fun x hx => hr_n (by omega)) (hI.t (fun x x0 x1 hx => hr_n (by omega)) (by rw [hr_n (by omega)]) (by rw [hr_s]; exact k_55)))
  · refine r_iload_2 (pc := 16) dX7_chosen_16 ?_
    refine r_if_lt (pc := 17) (tgt := 44) dX7_chosen_17 (by decide) (by omega) (fun c_17 => ?_) (fun c_17 => ?_)
    · refine r_iconst (pc := 44) dX7_chosen_44 ?_
      refine r_iret (pc := 45) hret dX7_chosen_45 rfl rfl rfl ?_
      first
      | exact hB (fun z => c_13 z.1)
      | exact hB (fun z => by have := z.2.1; omega)
      | exact hB (fun z => c_32 z.2.2.1)
      | exact hB (fun z => by have := z.2.2.2; omega)
      | (refine hQ ⟨c_13, by omega, c_32, by rcases c_32 with z | z | z | z <;> omega⟩ _ (fun x hx => hr_n (by omega)) (hI.t (fun x x0 x1 hx => hr_n (by omega)) (by rw [hr_n (by omega)]) (by rw [hr_s]; exact k_55)))
    · refine r_iload_2 (pc := 20) dX7_chosen_20 ?_
      refine r_bipush (pc := 21) dX7_chosen_21 (by decide) ?_
      refine r_icmp_gt (pc := 23) (tgt := 44) dX7_chosen_23 (by decide) (by omega) (by omega) (fun c_23 => ?_) (fun c_23 => ?_)
      · refine r_iconst (pc := 44) dX7_chosen_44 ?_
        refine r_iret (pc := 45) hret dX7_chosen_45 rfl rfl rfl ?_
        first
        | exact hB (fun z => c_13 z.1)
        | exact hB (fun z => by have := z.2.1; omega)
        | exact hB (fun z => c_32 z.2.2.1)
        | exact hB (fun z => by have := z.2.2.2; omega)
        | (refine hQ ⟨c_13, by omega, c_32, by rcases c_32 with z | z | z | z <;> omega⟩ _ (fun x hx => hr_n (by omega)) (hI.t (fun x x0 x1 hx => hr_n (by omega)) (by rw [hr_n (by omega)]) (by rw [hr_s]; exact k_55)))
      · refine r_aload_4 (pc := 26) dX7_chosen_26 ?_
        refine r_iload_3 (pc := 28) dX7_chosen_28 ?_
        refine k_VI1 (pc := 29) c_X6_isNode lk_X7_93 ⟨Nat.le_of_ble_eq_true rfl, Nat.le_of_ble_eq_true rfl⟩ ⟨rfl, rfl⟩ ⟨Nat.le_of_ble_eq_true rfl, Nat.le_of_ble_eq_true rfl⟩ (k := 6) rfl (by decide) (by assumption) dX7_chosen_29 (Nat.le_of_ble_eq_true rfl) ?_
        refine ⟨_, mp, _, rfl, hA.tr, hN.no, hT, by omega, ?_⟩
        refine r_ifeq_b (pc := 32) (tgt := 44) dX7_chosen_32 (by decide) (fun c_32 => ?_) (fun c_32 => ?_)
        · refine r_iconst (pc := 44) dX7_chosen_44 ?_
          refine r_iret (pc := 45) hret dX7_chosen_45 rfl rfl rfl ?_
          first
          | exact hB (fun z => c_13 z.1)
          | exact hB (fun z => by have := z.2.1; omega)
          | exact hB (fun z => c_32 z.2.2.1)
          | exact hB (fun z => by have := z.2.2.2; omega)
          | (refine hQ ⟨c_13, by omega, c_32, by rcases c_32 with z | z | z | z <;> omega⟩ _ (fun x hx => hr_n (by omega)) (hI.t (fun x x0 x1 hx => hr_n (by omega)) (by rw [hr_n (by omega)]) (by rw [hr_s]; exact k_55)))
        · refine r_aload_4 (pc := 35) dX7_chosen_35 ?_
          refine r_iload_3 (pc := 37) dX7_chosen_37 ?_
          refine k_VI1 (pc := 38) c_X6_isDisk lk_X7_97 ⟨Nat.le_of_ble_eq_true rfl, Nat.le_of_ble_eq_true rfl⟩ ⟨rfl, rfl⟩ ⟨Nat.le_of_ble_eq_true rfl, Nat.le_of_ble_eq_true rfl⟩ (k := 6) rfl (by decide) (by assumption) dX7_chosen_38 (Nat.le_of_ble_eq_true rfl) ?_
          refine ⟨_, _, _, rfl, by assumption, by omega, by omega, ?_⟩
          refine r_ifeq_b (pc := 41) (tgt := 46) dX7_chosen_41 (by decide) (fun c_41 => ?_) (fun c_41 => ?_)
          · have nr := nd_r hT c_32
            refine r_aload_4 (pc := 46) dX7_chosen_46 ?_
            refine r_aload_0 (pc := 48) dX7_chosen_48 ?_
            refine gf_X7_19 (pc := 49) rfl (by assumption) dX7_chosen_49 (by assumption) ?_
            refine r_iload_1 (pc := 52) dX7_chosen_52 ?_
            refine r_iload_2 (pc := 53) dX7_chosen_53 ?_
            refine r_iload_3 (pc := 54) dX7_chosen_54 ?_
            refine k_VI4 (pc := 55) c_X6_choiceAt lk_X7_242 ⟨Nat.le_of_ble_eq_true rfl, Nat.le_of_ble_eq_true rfl⟩ ⟨rfl, rfl⟩ ⟨Nat.le_of_ble_eq_true rfl, Nat.le_of_ble_eq_true rfl⟩ (k := 6) rfl (by decide) (by assumption) dX7_chosen_55 (Nat.le_of_ble_eq_true rfl) ?_
            refine ⟨_, mp, _, _, _, _, rfl, hA, cS, by omega, hT, hN, hW, hSK, by omega, by omega, by omega, fun f_55 k_55 => ?_⟩
            refine r_iret (pc := 58) hret dX7_chosen_58 rfl rfl rfl ?_
            first
            | exact hB (fun z => c_13 z.1)
            | exact hB (fun z => by have := z.2.1; omega)
            | exact hB (fun z => c_32 z.2.2.1)
            | exact hB (fun z => by have := z.2.2.2; omega)
            | (refine hQ ⟨c_13, by omega, c_32, by rcases c_32 with z | z | z | z <;> omega⟩ _ (fun x hx => hr_n (by omega)) (hI.t (fun x x0 x1 hx => hr_n (by omega)) (by rw [hr_n (by omega)]) (by rw [hr_s]; exact k_55)))
          · refine r_iconst (pc := 44) dX7_chosen_44 ?_
            refine r_iret (pc := 45) hret dX7_chosen_45 rfl rfl rfl ?_
            first
            | exact hB (fun z => c_13 z.1)
            | exact hB (fun z => by have := z.2.1; omega)
            | exact hB (fun z => c_32 z.2.2.1)
            | exact hB (fun z => by have := z.2.2.2; omega)
            | (refine hQ ⟨c_13, by omega, c_32, by rcases c_32 with z | z | z | z <;> omega⟩ _ (fun x hx => hr_n (by omega)) (hI.t (fun x x0 x1 hx => hr_n (by omega)) (by rw [hr_n (by omega)]) (by rw [hr_s]; exact k_55)))

theorem dX7_fault_0 : decode cX7_fault 0 = .ok (.aload_n 0, 1) := by decide +kernel
theorem dX7_fault_1 : decode cX7_fault 1 = .ok (.getfield 10, 3) := by decide +kernel
theorem dX7_fault_4 : decode cX7_fault 4 = .ok (.aload_n 0, 1) := by decide +kernel
theorem dX7_fault_5 : decode cX7_fault 5 = .ok (.getfield 30, 3) := by decide +kernel
theorem dX7_fault_8 : decode cX7_fault 8 = .ok (.invokevirtual 70, 3) := by decide +kernel
theorem dX7_fault_11 : decode cX7_fault 11 = .ok (.ireturn, 1) := by decide +kernel
set_option maxHeartbeats 4000000 in
set_option maxRecDepth 20000 in
theorem c_X7_fault : ConI mX7_fault (fun args N lay r h Q => ∃ (c : Nat) (q : Int → Nat) (n : Int) (tx : Int → Int) (ep : Int) (km : Int → Int → Int) (mp F : Int → Int) (ux : Int) (sz ho : Int → Int) (sn : Int) (row : Int → Int) (f0 : Int → Int), args = [.ref c] ∧ CI lay r h c q n tx ep km mp F ux sz ho sn row ∧ (∀ h2, Fr h h2 (fun x => c ≤ x ∧ x < c + 101) → CI lay r h2 c q n tx ep km mp F ux sz ho sn row → Q ((rds n tx 201 0 (bgn f0)).1) N lay r h2)) := by
  refine ConI.of (by decide) (by rintro _ N lay r h Q ⟨c, q, n, tx, ep, km, mp, F, ux, sz, ho, sn, row, f0, rfl, hI, hQ⟩; exact ⟨rfl, Nat.le_of_ble_eq_true rfl⟩) ?_
  rintro E _ N lay r h Q ⟨c, q, n, tx, ep, km, mp, F, ux, sz, ho, sn, row, f0, rfl, hI, hQ⟩ hret
  obtain ⟨hC, hLt, ⟨hCT, htx⟩, hSK, ⟨he8, hep⟩, hkm, ⟨hk0, h130⟩, hF0, ⟨hDa, hMk, hsz⟩, ⟨hOb, hSe⟩⟩ := id hI
  obtain ⟨cl0, cl6, ⟨cr0, cr1, cr2, cr3, cr4, cr5, cr6⟩, cT, cS, cP, cD, cE, cO⟩ := id hC
  obtain ⟨lr7, lr6, lpl, lrg, ldj⟩ := id hLt
  have hP0 := hkm 0 (by omega) (by omega) (by omega)
  rw [hk0] at hP0
  obtain ⟨hT, hR, hN, hW, hL, hPS⟩ := id hP0
  have hA := lpl 0 (by omega) (by omega)
  have q0r := lrg 0 (by omega) (by omega)
  obtain ⟨pl0, pl1, pl2, pl3, pl4, pl5, pl6, pl7, pl8, pl9, pl10, pl11, pl12, pl13, pr0, pr1, pr2, pr3, pr9, pr10, pr11, qr3, qr4, vr1, vr2, vr3, vr4⟩ := id hA
  obtain ⟨⟨n0, n1, n2⟩, up1, up2, uw, u0, uh⟩ := id hN
  obtain ⟨t1, t2, t3, t4, t5, t6, t7⟩ := id hT
  obtain ⟨xl0, xl1, xl2, xr1, xr3⟩ := id cT
  obtain ⟨x0, x1, x2⟩ := id hCT
  show St E mX7_fault 0 [some (.ref c)] [] (0, 0) N lay r h
  refine r_aload_0 (pc := 0) dX7_fault_0 ?_
  refine gf_X7_10 (pc := 1) rfl (by assumption) dX7_fault_1 (by assumption) ?_
  refine r_aload_0 (pc := 4) dX7_fault_4 ?_
  refine gf_X7_30 (pc := 5) rfl (by assumption) dX7_fault_5 (by assumption) ?_
  refine k_VI1 (pc := 8) c_X5_readInto lk_X7_70 ⟨Nat.le_of_ble_eq_true rfl, Nat.le_of_ble_eq_true rfl⟩ ⟨rfl, rfl⟩ ⟨Nat.le_of_ble_eq_true rfl, Nat.le_of_ble_eq_true rfl⟩ (k := 5) rfl (by decide) (by assumption) dX7_fault_8 (Nat.le_of_ble_eq_true rfl) ?_
  refine ⟨_, n, tx, _, f0, rfl, cT, hCT, htx, cP, by omega, fun h_8 f_8 o_8 a_8 => ?_⟩
  refine r_iret (pc := 11) hret dX7_fault_11 rfl rfl rfl ?_
  refine hQ h_8 (fun x hx => f_8 x (by omega)) (hI.t (fun x x0 x1 hx => f_8 x (by omega)) (by rw [o_8, up_n (by omega)]) (by rw [f_8 _ (by omega)]; exact hSK))

theorem ob_add {h : HpT} {o : Nat} {sn g d i : Int} {row : Int → Int} (hO : ObS h o sn row) (hs : 0 ≤ sn ∧ sn < 6) : ObS (hr (hr (hr (hr h (o + 1) (up (h (o + 1)) sn g)) (o + 2) (up (h (o + 2)) sn d)) (o + 3) (up (h (o + 3)) sn i)) o (up (h o) 0 (sn + 1))) o (sn + 1) (up (up (up row (3 * sn) g) (3 * sn + 1) d) (3 * sn + 2) i) := by
  obtain ⟨b0, b1⟩ := hO
  refine ⟨by rw [hr_s, up_s], fun k k0 k1 => ?_⟩
  rw [hr_n (by omega), hr_n (by omega), hr_n (by omega), hr_s, hr_n (by omega), hr_n (by omega), hr_s, hr_n (by omega), hr_s]
  by_cases e : k = sn
  · rw [e, up_s, up_s, up_s, up_n (by omega), up_n (by omega), up_s, up_n (by omega), up_s, up_s]
    exact ⟨rfl, rfl, rfl⟩
  · rw [up_n e, up_n e, up_n e, up_n (by omega), up_n (by omega), up_n (by omega), up_n (by omega), up_n (by omega), up_n (by omega), up_n (by omega), up_n (by omega), up_n (by omega)]
    exact b1 k k0 (by omega)
theorem se_add {sn g d i : Int} {row : Int → Int} (hS : SeI sn row) (hs : sn < 6) (hg : 0 ≤ g ∧ g < 16) (hd : 10 ≤ d ∧ d < 22) (hi : i = 0 ∨ i = 1) : SeI (sn + 1) (up (up (up row (3 * sn) g) (3 * sn + 1) d) (3 * sn + 2) i) := by
  obtain ⟨a, b⟩ := hS
  refine ⟨by omega, fun k k0 k1 => ?_⟩
  by_cases e : k = sn
  · rw [e, up_s, up_n (by omega), up_n (by omega), up_s, up_n (by omega), up_s]
    exact ⟨hg, hd, hi⟩
  · rw [up_n (by omega), up_n (by omega), up_n (by omega), up_n (by omega), up_n (by omega), up_n (by omega), up_n (by omega), up_n (by omega), up_n (by omega)]
    exact b k k0 (by omega)
theorem dX7_seen_0 : decode cX7_seen 0 = .ok (.iload_n 1, 1) := by decide +kernel
theorem dX7_seen_1 : decode cX7_seen 1 = .ok (.invokestatic 172, 3) := by decide +kernel
theorem dX7_seen_4 : decode cX7_seen 4 = .ok (.ifCond .eq 26, 3) := by decide +kernel
theorem dX7_seen_7 : decode cX7_seen 7 = .ok (.aload_n 0, 1) := by decide +kernel
theorem dX7_seen_8 : decode cX7_seen 8 = .ok (.getfield 51, 3) := by decide +kernel
theorem dX7_seen_11 : decode cX7_seen 11 = .ok (.getfield 84, 3) := by decide +kernel
theorem dX7_seen_14 : decode cX7_seen 14 = .ok (.iload_n 2, 1) := by decide +kernel
theorem dX7_seen_15 : decode cX7_seen 15 = .ok (.invokevirtual 97, 3) := by decide +kernel
theorem dX7_seen_18 : decode cX7_seen 18 = .ok (.ifCond .eq 12, 3) := by decide +kernel
theorem dX7_seen_21 : decode cX7_seen 21 = .ok (.iload_n 3, 1) := by decide +kernel
theorem dX7_seen_22 : decode cX7_seen 22 = .ok (.ifCond .lt 8, 3) := by decide +kernel
theorem dX7_seen_25 : decode cX7_seen 25 = .ok (.iload_n 3, 1) := by decide +kernel
theorem dX7_seen_26 : decode cX7_seen 26 = .ok (.iconst 1, 1) := by decide +kernel
theorem dX7_seen_27 : decode cX7_seen 27 = .ok (.if_icmp .le 5, 3) := by decide +kernel
theorem dX7_seen_30 : decode cX7_seen 30 = .ok (.iconst (-1), 1) := by decide +kernel
theorem dX7_seen_31 : decode cX7_seen 31 = .ok (.ireturn, 1) := by decide +kernel
theorem dX7_seen_32 : decode cX7_seen 32 = .ok (.aload_n 0, 1) := by decide +kernel
theorem dX7_seen_33 : decode cX7_seen 33 = .ok (.getfield 47, 3) := by decide +kernel
theorem dX7_seen_36 : decode cX7_seen 36 = .ok (.getfield 316, 3) := by decide +kernel
theorem dX7_seen_39 : decode cX7_seen 39 = .ok (.bipush 6, 2) := by decide +kernel
theorem dX7_seen_41 : decode cX7_seen 41 = .ok (.if_icmp .lt 6, 3) := by decide +kernel
theorem dX7_seen_44 : decode cX7_seen 44 = .ok (.bipush (-3), 2) := by decide +kernel
theorem dX7_seen_46 : decode cX7_seen 46 = .ok (.ireturn, 1) := by decide +kernel
theorem dX7_seen_47 : decode cX7_seen 47 = .ok (.aload_n 0, 1) := by decide +kernel
theorem dX7_seen_48 : decode cX7_seen 48 = .ok (.getfield 47, 3) := by decide +kernel
theorem dX7_seen_51 : decode cX7_seen 51 = .ok (.iload_n 1, 1) := by decide +kernel
theorem dX7_seen_52 : decode cX7_seen 52 = .ok (.iload_n 2, 1) := by decide +kernel
theorem dX7_seen_53 : decode cX7_seen 53 = .ok (.iload_n 3, 1) := by decide +kernel
theorem dX7_seen_54 : decode cX7_seen 54 = .ok (.iconst 1, 1) := by decide +kernel
theorem dX7_seen_55 : decode cX7_seen 55 = .ok (.if_icmp .ne 7, 3) := by decide +kernel
theorem dX7_seen_58 : decode cX7_seen 58 = .ok (.iconst 1, 1) := by decide +kernel
theorem dX7_seen_59 : decode cX7_seen 59 = .ok (.goto 4, 3) := by decide +kernel
theorem dX7_seen_62 : decode cX7_seen 62 = .ok (.iconst 0, 1) := by decide +kernel
theorem dX7_seen_63 : decode cX7_seen 63 = .ok (.invokevirtual 317, 3) := by decide +kernel
theorem dX7_seen_66 : decode cX7_seen 66 = .ok (.aload_n 0, 1) := by decide +kernel
theorem dX7_seen_67 : decode cX7_seen 67 = .ok (.getfield 47, 3) := by decide +kernel
theorem dX7_seen_70 : decode cX7_seen 70 = .ok (.getfield 316, 3) := by decide +kernel
theorem dX7_seen_73 : decode cX7_seen 73 = .ok (.ireturn, 1) := by decide +kernel
set_option maxHeartbeats 4000000 in
set_option maxRecDepth 20000 in
theorem c_X7_seen : ConI mX7_seen (fun args N lay r h Q => ∃ (c : Nat) (q : Int → Nat) (n : Int) (tx : Int → Int) (ep : Int) (km : Int → Int → Int) (mp F : Int → Int) (ux : Int) (sz ho : Int → Int) (sn : Int) (row : Int → Int) (g d i : Int), args = [.ref c, vI g, vI d, vI i] ∧ CI lay r h c q n tx ep km mp F ux sz ho sn row ∧ (-2147483648 ≤ g ∧ g < 2147483648) ∧ (-2147483648 ≤ d ∧ d < 2147483648) ∧ (-2147483648 ≤ i ∧ i < 2147483648) ∧ (¬ ((0 ≤ g ∧ g < 16) ∧ (10 ≤ d ∧ d ≤ 9 + mp 130) ∧ (0 ≤ i ∧ i ≤ 1)) → Q (-1) N lay r h) ∧ (((0 ≤ g ∧ g < 16) ∧ (10 ≤ d ∧ d ≤ 9 + mp 130) ∧ (0 ≤ i ∧ i ≤ 1)) → (sn = 6 → Q (-3) N lay r h) ∧ (sn ≠ 6 → ∀ h2, Fr h h2 (fun x => c ≤ x ∧ x < c + 101) → CI lay r h2 c q n tx ep km mp F ux sz ho (sn + 1) (up (up (up row (3 * sn) g) (3 * sn + 1) d) (3 * sn + 2) i) → Q (sn + 1) N lay r h2))) := by
  refine ConI.of (by decide) (by rintro _ N lay r h Q ⟨c, q, n, tx, ep, km, mp, F, ux, sz, ho, sn, row, g, d, i, rfl, hI, h_g, h_d, h_i, hB, hQ⟩; exact ⟨rfl, Nat.le_of_ble_eq_true rfl⟩) ?_
  rintro E _ N lay r h Q ⟨c, q, n, tx, ep, km, mp, F, ux, sz, ho, sn, row, g, d, i, rfl, hI, h_g, h_d, h_i, hB, hQ⟩ hret
  obtain ⟨hC, hLt, ⟨hCT, htx⟩, hSK, ⟨he8, hep⟩, hkm, ⟨hk0, h130⟩, hF0, ⟨hDa, hMk, hsz⟩, ⟨hOb, hSe⟩⟩ := id hI
  obtain ⟨cl0, cl6, ⟨cr0, cr1, cr2, cr3, cr4, cr5, cr6⟩, cT, cS, cP, cD, cE, cO⟩ := id hC
  obtain ⟨lr7, lr6, lpl, lrg, ldj⟩ := id hLt
  have hP0 := hkm 0 (by omega) (by omega) (by omega)
  rw [hk0] at hP0
  obtain ⟨hT, hR, hN, hW, hL, hPS⟩ := id hP0
  have hA := lpl 0 (by omega) (by omega)
  have q0r := lrg 0 (by omega) (by omega)
  obtain ⟨pl0, pl1, pl2, pl3, pl4, pl5, pl6, pl7, pl8, pl9, pl10, pl11, pl12, pl13, pr0, pr1, pr2, pr3, pr9, pr10, pr11, qr3, qr4, vr1, vr2, vr3, vr4⟩ := id hA
  obtain ⟨⟨n0, n1, n2⟩, up1, up2, uw, u0, uh⟩ := id hN
  obtain ⟨t1, t2, t3, t4, t5, t6, t7⟩ := id hT
  obtain ⟨ol0, ol1, ol2, ol3, or1, or2, or3⟩ := id cO
  obtain ⟨b0, b1⟩ := id hOb
  have sr := hSe.1
  show St E mX7_seen 0 [some (.ref c), some (vI g), some (vI d), some (vI i)] [] (0, 0) N lay r h
  refine r_iload_1 (pc := 0) dX7_seen_0 ?_
  refine k_SI1 (pc := 1) c_X7_isGroup lk_X7_172 ⟨Nat.le_of_ble_eq_true rfl, Nat.le_of_ble_eq_true rfl⟩ ⟨rfl, rfl⟩ ⟨Nat.le_of_ble_eq_true rfl, Nat.le_of_ble_eq_true rfl⟩ dX7_seen_1 (Nat.le_of_ble_eq_true rfl) ?_
  refine ⟨_, rfl, by omega, ?_⟩
  refine r_ifeq_b (pc := 4) (tgt := 30) dX7_seen_4 (by decide) (fun c_4 => ?_) (fun c_4 => ?_)
  · refine r_iconst (pc := 30) dX7_seen_30 ?_
    refine r_iret (pc := 31) hret dX7_seen_31 rfl rfl rfl ?_
    first
    | exact hB (fun z => by have := z.1; have := z.2.1; have := z.2.2; omega)
    | exact (hQ ⟨by omega, by omega, by omega⟩).1 (by omega)
    | (have k9 : i = 1 := by omega
       subst k9
       refine (hQ ⟨by omega, by omega, by omega⟩).2 (by omega) _ (fun x hx => by rw [hr_n (by omega), hr_n (by omega), hr_n (by omega), hr_n (by omega)]) (hI.g (fun x hx => by rw [hr_n (by omega), hr_n (by omega), hr_n (by omega), hr_n (by omega)]) ⟨hCT.of (by rw [hr_n (by omega), hr_n (by omega), hr_n (by omega), hr_n (by omega)]) (by rw [hr_n (by omega), hr_n (by omega), hr_n (by omega), hr_n (by omega)]), htx⟩ (by rw [hr_n (by omega), hr_n (by omega), hr_n (by omega), hr_n (by omega)]; exact hSK) ⟨hDa.of (by rw [hr_n (by omega), hr_n (by omega), hr_n (by omega), hr_n (by omega)]) (by rw [hr_n (by omega), hr_n (by omega), hr_n (by omega), hr_n (by omega)]) (by rw [hr_n (by omega), hr_n (by omega), hr_n (by omega), hr_n (by omega)]), hMk, hsz⟩ ⟨ob_add hOb (by omega), se_add hSe (by omega) (by omega) (by omega) (Or.inr rfl)⟩))
    | (have k9 : i = 0 := by omega
       subst k9
       refine (hQ ⟨by omega, by omega, by omega⟩).2 (by omega) _ (fun x hx => by rw [hr_n (by omega), hr_n (by omega), hr_n (by omega), hr_n (by omega)]) (hI.g (fun x hx => by rw [hr_n (by omega), hr_n (by omega), hr_n (by omega), hr_n (by omega)]) ⟨hCT.of (by rw [hr_n (by omega), hr_n (by omega), hr_n (by omega), hr_n (by omega)]) (by rw [hr_n (by omega), hr_n (by omega), hr_n (by omega), hr_n (by omega)]), htx⟩ (by rw [hr_n (by omega), hr_n (by omega), hr_n (by omega), hr_n (by omega)]; exact hSK) ⟨hDa.of (by rw [hr_n (by omega), hr_n (by omega), hr_n (by omega), hr_n (by omega)]) (by rw [hr_n (by omega), hr_n (by omega), hr_n (by omega), hr_n (by omega)]) (by rw [hr_n (by omega), hr_n (by omega), hr_n (by omega), hr_n (by omega)]), hMk, hsz⟩ ⟨ob_add hOb (by omega), se_add hSe (by omega) (by omega) (by omega) (Or.inl rfl)⟩))
  · refine r_aload_0 (pc := 7) dX7_seen_7 ?_
    refine gf_X7_51 (pc := 8) rfl (by assumption) dX7_seen_8 (by assumption) ?_
    refine gf_X7_84 (pc := 11) rfl (by assumption) dX7_seen_11 (by assumption) ?_
    refine r_iload_2 (pc := 14) dX7_seen_14 ?_
    refine k_VI1 (pc := 15) c_X6_isDisk lk_X7_97 ⟨Nat.le_of_ble_eq_true rfl, Nat.le_of_ble_eq_true rfl⟩ ⟨rfl, rfl⟩ ⟨Nat.le_of_ble_eq_true rfl, Nat.le_of_ble_eq_true rfl⟩ (k := 6) rfl (by decide) (by assumption) dX7_seen_15 (Nat.le_of_ble_eq_true rfl) ?_
    refine ⟨_, _, _, rfl, by assumption, by omega, by omega, ?_⟩
    refine r_ifeq_b (pc := 18) (tgt := 30) dX7_seen_18 (by decide) (fun c_18 => ?_) (fun c_18 => ?_)
    · refine r_iconst (pc := 30) dX7_seen_30 ?_
      refine r_iret (pc := 31) hret dX7_seen_31 rfl rfl rfl ?_
      first
      | exact hB (fun z => by have := z.1; have := z.2.1; have := z.2.2; omega)
      | exact (hQ ⟨by omega, by omega, by omega⟩).1 (by omega)
      | (have k9 : i = 1 := by omega
         subst k9
         refine (hQ ⟨by omega, by omega, by omega⟩).2 (by omega) _ (fun x hx => by rw [hr_n (by omega), hr_n (by omega), hr_n (by omega), hr_n (by omega)]) (hI.g (fun x hx => by rw [hr_n (by omega), hr_n (by omega), hr_n (by omega), hr_n (by omega)]) ⟨hCT.of (by rw [hr_n (by omega), hr_n (by omega), hr_n (by omega), hr_n (by omega)]) (by rw [hr_n (by omega), hr_n (by omega), hr_n (by omega), hr_n (by omega)]), htx⟩ (by rw [hr_n (by omega), hr_n (by omega), hr_n (by omega), hr_n (by omega)]; exact hSK) ⟨hDa.of (by rw [hr_n (by omega), hr_n (by omega), hr_n (by omega), hr_n (by omega)]) (by rw [hr_n (by omega), hr_n (by omega), hr_n (by omega), hr_n (by omega)]) (by rw [hr_n (by omega), hr_n (by omega), hr_n (by omega), hr_n (by omega)]), hMk, hsz⟩ ⟨ob_add hOb (by omega), se_add hSe (by omega) (by omega) (by omega) (Or.inr rfl)⟩))
      | (have k9 : i = 0 := by omega
         subst k9
         refine (hQ ⟨by omega, by omega, by omega⟩).2 (by omega) _ (fun x hx => by rw [hr_n (by omega), hr_n (by omega), hr_n (by omega), hr_n (by omega)]) (hI.g (fun x hx => by rw [hr_n (by omega), hr_n (by omega), hr_n (by omega), hr_n (by omega)]) ⟨hCT.of (by rw [hr_n (by omega), hr_n (by omega), hr_n (by omega), hr_n (by omega)]) (by rw [hr_n (by omega), hr_n (by omega), hr_n (by omega), hr_n (by omega)]), htx⟩ (by rw [hr_n (by omega), hr_n (by omega), hr_n (by omega), hr_n (by omega)]; exact hSK) ⟨hDa.of (by rw [hr_n (by omega), hr_n (by omega), hr_n (by omega), hr_n (by omega)]) (by rw [hr_n (by omega), hr_n (by omega), hr_n (by omega), hr_n (by omega)]) (by rw [hr_n (by omega), hr_n (by omega), hr_n (by omega), hr_n (by omega)]), hMk, hsz⟩ ⟨ob_add hOb (by omega), se_add hSe (by omega) (by omega) (by omega) (Or.inl rfl)⟩))
    · refine r_iload_3 (pc := 21) dX7_seen_21 ?_
      refine r_if_lt (pc := 22) (tgt := 30) dX7_seen_22 (by decide) (by omega) (fun c_22 => ?_) (fun c_22 => ?_)
      · refine r_iconst (pc := 30) dX7_seen_30 ?_
        refine r_iret (pc := 31) hret dX7_seen_31 rfl rfl rfl ?_
        first
        | exact hB (fun z => by have := z.1; have := z.2.1; have := z.2.2; omega)
        | exact (hQ ⟨by omega, by omega, by omega⟩).1 (by omega)
        | (have k9 : i = 1 := by omega
           subst k9
           refine (hQ ⟨by omega, by omega, by omega⟩).2 (by omega) _ (fun x hx => by rw [hr_n (by omega), hr_n (by omega), hr_n (by omega), hr_n (by omega)]) (hI.g (fun x hx => by rw [hr_n (by omega), hr_n (by omega), hr_n (by omega), hr_n (by omega)]) ⟨hCT.of (by rw [hr_n (by omega), hr_n (by omega), hr_n (by omega), hr_n (by omega)]) (by rw [hr_n (by omega), hr_n (by omega), hr_n (by omega), hr_n (by omega)]), htx⟩ (by rw [hr_n (by omega), hr_n (by omega), hr_n (by omega), hr_n (by omega)]; exact hSK) ⟨hDa.of (by rw [hr_n (by omega), hr_n (by omega), hr_n (by omega), hr_n (by omega)]) (by rw [hr_n (by omega), hr_n (by omega), hr_n (by omega), hr_n (by omega)]) (by rw [hr_n (by omega), hr_n (by omega), hr_n (by omega), hr_n (by omega)]), hMk, hsz⟩ ⟨ob_add hOb (by omega), se_add hSe (by omega) (by omega) (by omega) (Or.inr rfl)⟩))
        | (have k9 : i = 0 := by omega
           subst k9
           refine (hQ ⟨by omega, by omega, by omega⟩).2 (by omega) _ (fun x hx => by rw [hr_n (by omega), hr_n (by omega), hr_n (by omega), hr_n (by omega)]) (hI.g (fun x hx => by rw [hr_n (by omega), hr_n (by omega), hr_n (by omega), hr_n (by omega)]) ⟨hCT.of (by rw [hr_n (by omega), hr_n (by omega), hr_n (by omega), hr_n (by omega)]) (by rw [hr_n (by omega), hr_n (by omega), hr_n (by omega), hr_n (by omega)]), htx⟩ (by rw [hr_n (by omega), hr_n (by omega), hr_n (by omega), hr_n (by omega)]; exact hSK) ⟨hDa.of (by rw [hr_n (by omega), hr_n (by omega), hr_n (by omega), hr_n (by omega)]) (by rw [hr_n (by omega), hr_n (by omega), hr_n (by omega), hr_n (by omega)]) (by rw [hr_n (by omega), hr_n (by omega), hr_n (by omega), hr_n (by omega)]), hMk, hsz⟩ ⟨ob_add hOb (by omega), se_add hSe (by omega) (by omega) (by omega) (Or.inl rfl)⟩))
      · refine r_iload_3 (pc := 25) dX7_seen_25 ?_
        refine r_iconst (pc := 26) dX7_seen_26 ?_
        refine r_icmp_le (pc := 27) (tgt := 32) dX7_seen_27 (by decide) (by omega) (by omega) (fun c_27 => ?_) (fun c_27 => ?_)
        · refine r_aload_0 (pc := 32) dX7_seen_32 ?_
          refine gf_X7_47 (pc := 33) rfl (by assumption) dX7_seen_33 (by assumption) ?_
          refine gf_X7_316 (pc := 36) rfl (by assumption) dX7_seen_36 (fun i_36 => ?_)
          refine r_bipush (pc := 39) dX7_seen_39 (by decide) ?_
          refine r_icmp_lt (pc := 41) (tgt := 47) dX7_seen_41 (by decide) (by omega) (by omega) (fun c_41 => ?_) (fun c_41 => ?_)
          · refine r_aload_0 (pc := 47) dX7_seen_47 ?_
            refine gf_X7_47 (pc := 48) rfl (by assumption) dX7_seen_48 (by assumption) ?_
            refine r_iload_1 (pc := 51) dX7_seen_51 ?_
            refine r_iload_2 (pc := 52) dX7_seen_52 ?_
            refine r_iload_3 (pc := 53) dX7_seen_53 ?_
            refine r_iconst (pc := 54) dX7_seen_54 ?_
            refine r_icmp_ne (pc := 55) (tgt := 62) dX7_seen_55 (by decide) (by omega) (by omega) (fun c_55 => ?_) (fun c_55 => ?_)
            · refine r_iconst (pc := 62) dX7_seen_62 ?_
              refine k_VV3 (pc := 63) c_X2_add lk_X7_317 ⟨Nat.le_of_ble_eq_true rfl, Nat.le_of_ble_eq_true rfl⟩ ⟨rfl, rfl⟩ ⟨Nat.le_of_ble_eq_true rfl, Nat.le_of_ble_eq_true rfl⟩ (k := 2) rfl (by decide) (by assumption) dX7_seen_63 (Nat.le_of_ble_eq_true rfl) ?_
              refine ⟨_, _, _, _, rfl, cO, by omega, by omega, by omega, by omega, ?_⟩
              refine r_aload_0 (pc := 66) dX7_seen_66 ?_
              refine gf_X7_47 (pc := 67) rfl (by assumption) dX7_seen_67 (by assumption) ?_
              refine gf_X7_316 (pc := 70) rfl (by assumption) dX7_seen_70 (fun i_70 => ?_)
              rw [hr_s, up_s, b0]
              refine r_iret (pc := 73) hret dX7_seen_73 rfl rfl rfl ?_
              first
              | exact hB (fun z => by have := z.1; have := z.2.1; have := z.2.2; omega)
              | exact (hQ ⟨by omega, by omega, by omega⟩).1 (by omega)
              | (have k9 : i = 1 := by omega
                 subst k9
                 refine (hQ ⟨by omega, by omega, by omega⟩).2 (by omega) _ (fun x hx => by rw [hr_n (by omega), hr_n (by omega), hr_n (by omega), hr_n (by omega)]) (hI.g (fun x hx => by rw [hr_n (by omega), hr_n (by omega), hr_n (by omega), hr_n (by omega)]) ⟨hCT.of (by rw [hr_n (by omega), hr_n (by omega), hr_n (by omega), hr_n (by omega)]) (by rw [hr_n (by omega), hr_n (by omega), hr_n (by omega), hr_n (by omega)]), htx⟩ (by rw [hr_n (by omega), hr_n (by omega), hr_n (by omega), hr_n (by omega)]; exact hSK) ⟨hDa.of (by rw [hr_n (by omega), hr_n (by omega), hr_n (by omega), hr_n (by omega)]) (by rw [hr_n (by omega), hr_n (by omega), hr_n (by omega), hr_n (by omega)]) (by rw [hr_n (by omega), hr_n (by omega), hr_n (by omega), hr_n (by omega)]), hMk, hsz⟩ ⟨ob_add hOb (by omega), se_add hSe (by omega) (by omega) (by omega) (Or.inr rfl)⟩))
              | (have k9 : i = 0 := by omega
                 subst k9
                 refine (hQ ⟨by omega, by omega, by omega⟩).2 (by omega) _ (fun x hx => by rw [hr_n (by omega), hr_n (by omega), hr_n (by omega), hr_n (by omega)]) (hI.g (fun x hx => by rw [hr_n (by omega), hr_n (by omega), hr_n (by omega), hr_n (by omega)]) ⟨hCT.of (by rw [hr_n (by omega), hr_n (by omega), hr_n (by omega), hr_n (by omega)]) (by rw [hr_n (by omega), hr_n (by omega), hr_n (by omega), hr_n (by omega)]), htx⟩ (by rw [hr_n (by omega), hr_n (by omega), hr_n (by omega), hr_n (by omega)]; exact hSK) ⟨hDa.of (by rw [hr_n (by omega), hr_n (by omega), hr_n (by omega), hr_n (by omega)]) (by rw [hr_n (by omega), hr_n (by omega), hr_n (by omega), hr_n (by omega)]) (by rw [hr_n (by omega), hr_n (by omega), hr_n (by omega), hr_n (by omega)]), hMk, hsz⟩ ⟨ob_add hOb (by omega), se_add hSe (by omega) (by omega) (by omega) (Or.inl rfl)⟩))
            · refine r_iconst (pc := 58) dX7_seen_58 ?_
              refine r_goto (pc := 59) (tgt := 63) dX7_seen_59 (by decide) ?_
              refine k_VV3 (pc := 63) c_X2_add lk_X7_317 ⟨Nat.le_of_ble_eq_true rfl, Nat.le_of_ble_eq_true rfl⟩ ⟨rfl, rfl⟩ ⟨Nat.le_of_ble_eq_true rfl, Nat.le_of_ble_eq_true rfl⟩ (k := 2) rfl (by decide) (by assumption) dX7_seen_63 (Nat.le_of_ble_eq_true rfl) ?_
              refine ⟨_, _, _, _, rfl, cO, by omega, by omega, by omega, by omega, ?_⟩
              refine r_aload_0 (pc := 66) dX7_seen_66 ?_
              refine gf_X7_47 (pc := 67) rfl (by assumption) dX7_seen_67 (by assumption) ?_
              refine gf_X7_316 (pc := 70) rfl (by assumption) dX7_seen_70 (fun i_70 => ?_)
              rw [hr_s, up_s, b0]
              refine r_iret (pc := 73) hret dX7_seen_73 rfl rfl rfl ?_
              first
              | exact hB (fun z => by have := z.1; have := z.2.1; have := z.2.2; omega)
              | exact (hQ ⟨by omega, by omega, by omega⟩).1 (by omega)
              | (have k9 : i = 1 := by omega
                 subst k9
                 refine (hQ ⟨by omega, by omega, by omega⟩).2 (by omega) _ (fun x hx => by rw [hr_n (by omega), hr_n (by omega), hr_n (by omega), hr_n (by omega)]) (hI.g (fun x hx => by rw [hr_n (by omega), hr_n (by omega), hr_n (by omega), hr_n (by omega)]) ⟨hCT.of (by rw [hr_n (by omega), hr_n (by omega), hr_n (by omega), hr_n (by omega)]) (by rw [hr_n (by omega), hr_n (by omega), hr_n (by omega), hr_n (by omega)]), htx⟩ (by rw [hr_n (by omega), hr_n (by omega), hr_n (by omega), hr_n (by omega)]; exact hSK) ⟨hDa.of (by rw [hr_n (by omega), hr_n (by omega), hr_n (by omega), hr_n (by omega)]) (by rw [hr_n (by omega), hr_n (by omega), hr_n (by omega), hr_n (by omega)]) (by rw [hr_n (by omega), hr_n (by omega), hr_n (by omega), hr_n (by omega)]), hMk, hsz⟩ ⟨ob_add hOb (by omega), se_add hSe (by omega) (by omega) (by omega) (Or.inr rfl)⟩))
              | (have k9 : i = 0 := by omega
                 subst k9
                 refine (hQ ⟨by omega, by omega, by omega⟩).2 (by omega) _ (fun x hx => by rw [hr_n (by omega), hr_n (by omega), hr_n (by omega), hr_n (by omega)]) (hI.g (fun x hx => by rw [hr_n (by omega), hr_n (by omega), hr_n (by omega), hr_n (by omega)]) ⟨hCT.of (by rw [hr_n (by omega), hr_n (by omega), hr_n (by omega), hr_n (by omega)]) (by rw [hr_n (by omega), hr_n (by omega), hr_n (by omega), hr_n (by omega)]), htx⟩ (by rw [hr_n (by omega), hr_n (by omega), hr_n (by omega), hr_n (by omega)]; exact hSK) ⟨hDa.of (by rw [hr_n (by omega), hr_n (by omega), hr_n (by omega), hr_n (by omega)]) (by rw [hr_n (by omega), hr_n (by omega), hr_n (by omega), hr_n (by omega)]) (by rw [hr_n (by omega), hr_n (by omega), hr_n (by omega), hr_n (by omega)]), hMk, hsz⟩ ⟨ob_add hOb (by omega), se_add hSe (by omega) (by omega) (by omega) (Or.inl rfl)⟩))
          · refine r_bipush (pc := 44) dX7_seen_44 (by decide) ?_
            refine r_iret (pc := 46) hret dX7_seen_46 rfl rfl rfl ?_
            first
            | exact hB (fun z => by have := z.1; have := z.2.1; have := z.2.2; omega)
            | exact (hQ ⟨by omega, by omega, by omega⟩).1 (by omega)
            | (have k9 : i = 1 := by omega
               subst k9
               refine (hQ ⟨by omega, by omega, by omega⟩).2 (by omega) _ (fun x hx => by rw [hr_n (by omega), hr_n (by omega), hr_n (by omega), hr_n (by omega)]) (hI.g (fun x hx => by rw [hr_n (by omega), hr_n (by omega), hr_n (by omega), hr_n (by omega)]) ⟨hCT.of (by rw [hr_n (by omega), hr_n (by omega), hr_n (by omega), hr_n (by omega)]) (by rw [hr_n (by omega), hr_n (by omega), hr_n (by omega), hr_n (by omega)]), htx⟩ (by rw [hr_n (by omega), hr_n (by omega), hr_n (by omega), hr_n (by omega)]; exact hSK) ⟨hDa.of (by rw [hr_n (by omega), hr_n (by omega), hr_n (by omega), hr_n (by omega)]) (by rw [hr_n (by omega), hr_n (by omega), hr_n (by omega), hr_n (by omega)]) (by rw [hr_n (by omega), hr_n (by omega), hr_n (by omega), hr_n (by omega)]), hMk, hsz⟩ ⟨ob_add hOb (by omega), se_add hSe (by omega) (by omega) (by omega) (Or.inr rfl)⟩))
            | (have k9 : i = 0 := by omega
               subst k9
               refine (hQ ⟨by omega, by omega, by omega⟩).2 (by omega) _ (fun x hx => by rw [hr_n (by omega), hr_n (by omega), hr_n (by omega), hr_n (by omega)]) (hI.g (fun x hx => by rw [hr_n (by omega), hr_n (by omega), hr_n (by omega), hr_n (by omega)]) ⟨hCT.of (by rw [hr_n (by omega), hr_n (by omega), hr_n (by omega), hr_n (by omega)]) (by rw [hr_n (by omega), hr_n (by omega), hr_n (by omega), hr_n (by omega)]), htx⟩ (by rw [hr_n (by omega), hr_n (by omega), hr_n (by omega), hr_n (by omega)]; exact hSK) ⟨hDa.of (by rw [hr_n (by omega), hr_n (by omega), hr_n (by omega), hr_n (by omega)]) (by rw [hr_n (by omega), hr_n (by omega), hr_n (by omega), hr_n (by omega)]) (by rw [hr_n (by omega), hr_n (by omega), hr_n (by omega), hr_n (by omega)]), hMk, hsz⟩ ⟨ob_add hOb (by omega), se_add hSe (by omega) (by omega) (by omega) (Or.inl rfl)⟩))
        · refine r_iconst (pc := 30) dX7_seen_30 ?_
          refine r_iret (pc := 31) hret dX7_seen_31 rfl rfl rfl ?_
          first
          | exact hB (fun z => by have := z.1; have := z.2.1; have := z.2.2; omega)
          | exact (hQ ⟨by omega, by omega, by omega⟩).1 (by omega)
          | (have k9 : i = 1 := by omega
             subst k9
             refine (hQ ⟨by omega, by omega, by omega⟩).2 (by omega) _ (fun x hx => by rw [hr_n (by omega), hr_n (by omega), hr_n (by omega), hr_n (by omega)]) (hI.g (fun x hx => by rw [hr_n (by omega), hr_n (by omega), hr_n (by omega), hr_n (by omega)]) ⟨hCT.of (by rw [hr_n (by omega), hr_n (by omega), hr_n (by omega), hr_n (by omega)]) (by rw [hr_n (by omega), hr_n (by omega), hr_n (by omega), hr_n (by omega)]), htx⟩ (by rw [hr_n (by omega), hr_n (by omega), hr_n (by omega), hr_n (by omega)]; exact hSK) ⟨hDa.of (by rw [hr_n (by omega), hr_n (by omega), hr_n (by omega), hr_n (by omega)]) (by rw [hr_n (by omega), hr_n (by omega), hr_n (by omega), hr_n (by omega)]) (by rw [hr_n (by omega), hr_n (by omega), hr_n (by omega), hr_n (by omega)]), hMk, hsz⟩ ⟨ob_add hOb (by omega), se_add hSe (by omega) (by omega) (by omega) (Or.inr rfl)⟩))
          | (have k9 : i = 0 := by omega
             subst k9
             refine (hQ ⟨by omega, by omega, by omega⟩).2 (by omega) _ (fun x hx => by rw [hr_n (by omega), hr_n (by omega), hr_n (by omega), hr_n (by omega)]) (hI.g (fun x hx => by rw [hr_n (by omega), hr_n (by omega), hr_n (by omega), hr_n (by omega)]) ⟨hCT.of (by rw [hr_n (by omega), hr_n (by omega), hr_n (by omega), hr_n (by omega)]) (by rw [hr_n (by omega), hr_n (by omega), hr_n (by omega), hr_n (by omega)]), htx⟩ (by rw [hr_n (by omega), hr_n (by omega), hr_n (by omega), hr_n (by omega)]; exact hSK) ⟨hDa.of (by rw [hr_n (by omega), hr_n (by omega), hr_n (by omega), hr_n (by omega)]) (by rw [hr_n (by omega), hr_n (by omega), hr_n (by omega), hr_n (by omega)]) (by rw [hr_n (by omega), hr_n (by omega), hr_n (by omega), hr_n (by omega)]), hMk, hsz⟩ ⟨ob_add hOb (by omega), se_add hSe (by omega) (by omega) (by omega) (Or.inl rfl)⟩))

theorem bP_tb {x : Int} {d : Int} (h : Ms x) (hd : 10 ≤ d ∧ d < 22) : bP x d = true ↔ tb x (d - 10).toNat = true := by
  rw [bP_iff, tb_r1 h.b (by omega) (by omega)]
theorem X_or {x d : Int} (h : Ms x) (hd : 10 ≤ d ∧ d < 22) (hb : ¬ bP x d = true) : iX x (iSl 1 (d - 10)) = iO x (iSl 1 (d - 10)) := by
  have hs := Ms_S hd
  refine tb_eq12 (X_12 h hs) (Ms_O h hs) (fun k hk => ?_)
  rw [tb_X h.b hs.b, tb_O h.b hs.b, tb_S (by omega) (by omega)]
  by_cases e : (k : Int) = d - 10
  · have : tb x k = false := by
      cases z : tb x k with
      | false => rfl
      | true => exact absurd ((bP_tb h hd).mpr (by rw [show (d - 10).toNat = k by omega]; exact z)) hb
    rw [this]; simp
  · rw [decide_eq_false e]; simp
theorem X_an {x d : Int} (h : Ms x) (hd : 10 ≤ d ∧ d < 22) (hb : bP x d = true) : iX x (iSl 1 (d - 10)) = iA x (iX (iSl 1 (d - 10)) (-1)) := by
  have hs := Ms_S hd
  refine tb_eq12 (X_12 h hs) (Ms_An h hs) (fun k hk => ?_)
  rw [tb_X h.b hs.b, tb_An h.b hs.b, tb_S (by omega) (by omega)]
  by_cases e : (k : Int) = d - 10
  · have := (bP_tb h hd).mp hb
    rw [show (d - 10).toNat = k by omega] at this
    rw [this, decide_eq_true e]; rfl
  · rw [decide_eq_false e]; simp
theorem dX7_up_0 : decode cX7_up 0 = .ok (.aload_n 0, 1) := by decide +kernel
theorem dX7_up_1 : decode cX7_up 1 = .ok (.getfield 51, 3) := by decide +kernel
theorem dX7_up_4 : decode cX7_up 4 = .ok (.getfield 84, 3) := by decide +kernel
theorem dX7_up_7 : decode cX7_up 7 = .ok (.iload_n 1, 1) := by decide +kernel
theorem dX7_up_8 : decode cX7_up 8 = .ok (.invokevirtual 97, 3) := by decide +kernel
theorem dX7_up_11 : decode cX7_up 11 = .ok (.ifCond .eq 12, 3) := by decide +kernel
theorem dX7_up_14 : decode cX7_up 14 = .ok (.iload_n 2, 1) := by decide +kernel
theorem dX7_up_15 : decode cX7_up 15 = .ok (.ifCond .lt 8, 3) := by decide +kernel
theorem dX7_up_18 : decode cX7_up 18 = .ok (.iload_n 2, 1) := by decide +kernel
theorem dX7_up_19 : decode cX7_up 19 = .ok (.iconst 1, 1) := by decide +kernel
theorem dX7_up_20 : decode cX7_up 20 = .ok (.if_icmp .le 5, 3) := by decide +kernel
theorem dX7_up_23 : decode cX7_up 23 = .ok (.iconst (-1), 1) := by decide +kernel
theorem dX7_up_24 : decode cX7_up 24 = .ok (.ireturn, 1) := by decide +kernel
theorem dX7_up_25 : decode cX7_up 25 = .ok (.aload_n 0, 1) := by decide +kernel
theorem dX7_up_26 : decode cX7_up 26 = .ok (.getfield 37, 3) := by decide +kernel
theorem dX7_up_29 : decode cX7_up 29 = .ok (.iload_n 1, 1) := by decide +kernel
theorem dX7_up_30 : decode cX7_up 30 = .ok (.invokevirtual 120, 3) := by decide +kernel
theorem dX7_up_33 : decode cX7_up 33 = .ok (.iload_n 2, 1) := by decide +kernel
theorem dX7_up_34 : decode cX7_up 34 = .ok (.iconst 1, 1) := by decide +kernel
theorem dX7_up_35 : decode cX7_up 35 = .ok (.if_icmp .ne 7, 3) := by decide +kernel
theorem dX7_up_38 : decode cX7_up 38 = .ok (.iconst 1, 1) := by decide +kernel
theorem dX7_up_39 : decode cX7_up 39 = .ok (.goto 4, 3) := by decide +kernel
theorem dX7_up_42 : decode cX7_up 42 = .ok (.iconst 0, 1) := by decide +kernel
theorem dX7_up_43 : decode cX7_up 43 = .ok (.if_icmp .ne 6, 3) := by decide +kernel
theorem dX7_up_46 : decode cX7_up 46 = .ok (.bipush (-2), 2) := by decide +kernel
theorem dX7_up_48 : decode cX7_up 48 = .ok (.ireturn, 1) := by decide +kernel
theorem dX7_up_49 : decode cX7_up 49 = .ok (.aload_n 0, 1) := by decide +kernel
theorem dX7_up_50 : decode cX7_up 50 = .ok (.getfield 37, 3) := by decide +kernel
theorem dX7_up_53 : decode cX7_up 53 = .ok (.iload_n 1, 1) := by decide +kernel
theorem dX7_up_54 : decode cX7_up 54 = .ok (.iload_n 2, 1) := by decide +kernel
theorem dX7_up_55 : decode cX7_up 55 = .ok (.iconst 1, 1) := by decide +kernel
theorem dX7_up_56 : decode cX7_up 56 = .ok (.if_icmp .ne 7, 3) := by decide +kernel
theorem dX7_up_59 : decode cX7_up 59 = .ok (.iconst 1, 1) := by decide +kernel
theorem dX7_up_60 : decode cX7_up 60 = .ok (.goto 4, 3) := by decide +kernel
theorem dX7_up_63 : decode cX7_up 63 = .ok (.iconst 0, 1) := by decide +kernel
theorem dX7_up_64 : decode cX7_up 64 = .ok (.invokevirtual 217, 3) := by decide +kernel
theorem dX7_up_67 : decode cX7_up 67 = .ok (.aload_n 0, 1) := by decide +kernel
theorem dX7_up_68 : decode cX7_up 68 = .ok (.getfield 37, 3) := by decide +kernel
theorem dX7_up_71 : decode cX7_up 71 = .ok (.getfield 284, 3) := by decide +kernel
theorem dX7_up_74 : decode cX7_up 74 = .ok (.invokestatic 167, 3) := by decide +kernel
theorem dX7_up_77 : decode cX7_up 77 = .ok (.ireturn, 1) := by decide +kernel
set_option maxHeartbeats 4000000 in
set_option maxRecDepth 20000 in
theorem c_X7_up : ConI mX7_up (fun args N lay r h Q => ∃ (c : Nat) (q : Int → Nat) (n : Int) (tx : Int → Int) (ep : Int) (km : Int → Int → Int) (mp F : Int → Int) (ux : Int) (sz ho : Int → Int) (sn : Int) (row : Int → Int) (d i : Int), args = [.ref c, vI d, vI i] ∧ CI lay r h c q n tx ep km mp F ux sz ho sn row ∧ (-2147483648 ≤ d ∧ d < 2147483648) ∧ (-2147483648 ≤ i ∧ i < 2147483648) ∧ (¬ ((10 ≤ d ∧ d ≤ 9 + mp 130) ∧ (0 ≤ i ∧ i ≤ 1)) → Q (-1) N lay r h) ∧ (((10 ≤ d ∧ d ≤ 9 + mp 130) ∧ (0 ≤ i ∧ i ≤ 1)) → (iA (iSr ux (d - 10)) 1 = i → Q (-2) N lay r h) ∧ (iA (iSr ux (d - 10)) 1 ≠ i → ∀ h2, Fr h h2 (fun x => c ≤ x ∧ x < c + 101) → CI lay r h2 c q n tx ep km mp F (iX ux (iSl 1 (d - 10))) sz ho sn row → Q (bts (iX ux (iSl 1 (d - 10)))) N lay r h2))) := by
  refine ConI.of (by decide) (by rintro _ N lay r h Q ⟨c, q, n, tx, ep, km, mp, F, ux, sz, ho, sn, row, d, i, rfl, hI, h_d, h_i, hB, hQ⟩; exact ⟨rfl, Nat.le_of_ble_eq_true rfl⟩) ?_
  rintro E _ N lay r h Q ⟨c, q, n, tx, ep, km, mp, F, ux, sz, ho, sn, row, d, i, rfl, hI, h_d, h_i, hB, hQ⟩ hret
  obtain ⟨hC, hLt, ⟨hCT, htx⟩, hSK, ⟨he8, hep⟩, hkm, ⟨hk0, h130⟩, hF0, ⟨hDa, hMk, hsz⟩, ⟨hOb, hSe⟩⟩ := id hI
  obtain ⟨cl0, cl6, ⟨cr0, cr1, cr2, cr3, cr4, cr5, cr6⟩, cT, cS, cP, cD, cE, cO⟩ := id hC
  obtain ⟨lr7, lr6, lpl, lrg, ldj⟩ := id hLt
  have hP0 := hkm 0 (by omega) (by omega) (by omega)
  rw [hk0] at hP0
  obtain ⟨hT, hR, hN, hW, hL, hPS⟩ := id hP0
  have hA := lpl 0 (by omega) (by omega)
  have q0r := lrg 0 (by omega) (by omega)
  obtain ⟨pl0, pl1, pl2, pl3, pl4, pl5, pl6, pl7, pl8, pl9, pl10, pl11, pl12, pl13, pr0, pr1, pr2, pr3, pr9, pr10, pr11, qr3, qr4, vr1, vr2, vr3, vr4⟩ := id hA
  obtain ⟨⟨n0, n1, n2⟩, up1, up2, uw, u0, uh⟩ := id hN
  obtain ⟨t1, t2, t3, t4, t5, t6, t7⟩ := id hT
  obtain ⟨dl0, dl1, dl2, dr1, dr2⟩ := id cD
  obtain ⟨d0, d1, d2⟩ := id hDa
  show St E mX7_up 0 [some (.ref c), some (vI d), some (vI i)] [] (0, 0) N lay r h
  refine r_aload_0 (pc := 0) dX7_up_0 ?_
  refine gf_X7_51 (pc := 1) rfl (by assumption) dX7_up_1 (by assumption) ?_
  refine gf_X7_84 (pc := 4) rfl (by assumption) dX7_up_4 (by assumption) ?_
  refine r_iload_1 (pc := 7) dX7_up_7 ?_
  refine k_VI1 (pc := 8) c_X6_isDisk lk_X7_97 ⟨Nat.le_of_ble_eq_true rfl, Nat.le_of_ble_eq_true rfl⟩ ⟨rfl, rfl⟩ ⟨Nat.le_of_ble_eq_true rfl, Nat.le_of_ble_eq_true rfl⟩ (k := 6) rfl (by decide) (by assumption) dX7_up_8 (Nat.le_of_ble_eq_true rfl) ?_
  refine ⟨_, _, _, rfl, by assumption, by omega, by omega, ?_⟩
  refine r_ifeq_b (pc := 11) (tgt := 23) dX7_up_11 (by decide) (fun c_11 => ?_) (fun c_11 => ?_)
  · refine r_iconst (pc := 23) dX7_up_23 ?_
    refine r_iret (pc := 24) hret dX7_up_24 rfl rfl rfl ?_
    exact hB (by omega)
  · refine r_iload_2 (pc := 14) dX7_up_14 ?_
    refine r_if_lt (pc := 15) (tgt := 23) dX7_up_15 (by decide) (by omega) (fun c_15 => ?_) (fun c_15 => ?_)
    · refine r_iconst (pc := 23) dX7_up_23 ?_
      refine r_iret (pc := 24) hret dX7_up_24 rfl rfl rfl ?_
      exact hB (by omega)
    · refine r_iload_2 (pc := 18) dX7_up_18 ?_
      refine r_iconst (pc := 19) dX7_up_19 ?_
      refine r_icmp_le (pc := 20) (tgt := 25) dX7_up_20 (by decide) (by omega) (by omega) (fun c_20 => ?_) (fun c_20 => ?_)
      · refine r_aload_0 (pc := 25) dX7_up_25 ?_
        refine gf_X7_37 (pc := 26) rfl (by assumption) dX7_up_26 (by assumption) ?_
        refine r_iload_1 (pc := 29) dX7_up_29 ?_
        refine k_VI1 (pc := 30) c_X0_isUp lk_X7_120 ⟨Nat.le_of_ble_eq_true rfl, Nat.le_of_ble_eq_true rfl⟩ ⟨rfl, rfl⟩ ⟨Nat.le_of_ble_eq_true rfl, Nat.le_of_ble_eq_true rfl⟩ (k := 0) rfl (by decide) (by assumption) dX7_up_30 (Nat.le_of_ble_eq_true rfl) ?_
        refine ⟨_, ux, sz, ho, _, rfl, cD, hDa, hMk, by omega, ?_⟩
        refine r_iload_2 (pc := 33) dX7_up_33 ?_
        refine r_iconst (pc := 34) dX7_up_34 ?_
        refine r_icmp_ne (pc := 35) (tgt := 42) dX7_up_35 (by decide) (by omega) (by omega) (fun c_35 => ?_) (fun c_35 => ?_)
        · refine r_iconst (pc := 42) dX7_up_42 ?_
          refine r_icmp_ne (pc := 43) (tgt := 49) dX7_up_43 (by decide) (by have := bI_r (c := bP ux d = true); omega) (by omega) (fun c_43 => ?_) (fun c_43 => ?_)
          · have nb : bP ux d = true := Classical.byContradiction (fun z => c_43 (by rw [bI_f z]))
            have bi := bP_01 hMk.1 (d := d) (by omega)
            rw [if_pos nb] at bi
            refine r_aload_0 (pc := 49) dX7_up_49 ?_
            refine gf_X7_37 (pc := 50) rfl (by assumption) dX7_up_50 (by assumption) ?_
            refine r_iload_1 (pc := 53) dX7_up_53 ?_
            refine r_iload_2 (pc := 54) dX7_up_54 ?_
            refine r_iconst (pc := 55) dX7_up_55 ?_
            refine r_icmp_ne (pc := 56) (tgt := 63) dX7_up_56 (by decide) (by omega) (by omega) (fun c_56 => ?_) (fun c_56 => ?_)
            · refine r_iconst (pc := 63) dX7_up_63 ?_
              refine k_VV2 (pc := 64) c_X0_setUp lk_X7_217 ⟨Nat.le_of_ble_eq_true rfl, Nat.le_of_ble_eq_true rfl⟩ ⟨rfl, rfl⟩ ⟨Nat.le_of_ble_eq_true rfl, Nat.le_of_ble_eq_true rfl⟩ (k := 0) rfl (by decide) (by assumption) dX7_up_64 (Nat.le_of_ble_eq_true rfl) ?_
              refine ⟨_, _, _, rfl, cD, Or.inl rfl, fun _ => ?_, fun z_64 => absurd z_64 (show ¬ (0 : Int) = 1 by decide)⟩
              refine r_aload_0 (pc := 67) dX7_up_67 ?_
              refine gf_X7_37 (pc := 68) rfl (by assumption) dX7_up_68 (by assumption) ?_
              refine gf_X7_284 (pc := 71) rfl (by assumption) dX7_up_71 (fun i_71 => ?_)
              rw [hr_s, up_s, d0] at i_71 ⊢
              rw [← X_an hMk.1 (by omega) nb] at i_71 ⊢
              have mx := X_12 hMk.1 (Ms_S (d := d) (by omega))
              refine k_SI1 (pc := 74) c_J6_bitCount_0f7a4 lk_X7_167 ⟨Nat.le_of_ble_eq_true rfl, Nat.le_of_ble_eq_true rfl⟩ ⟨rfl, rfl⟩ ⟨Nat.le_of_ble_eq_true rfl, Nat.le_of_ble_eq_true rfl⟩ dX7_up_74 (Nat.le_of_ble_eq_true rfl) ?_
              refine ⟨_, rfl, by omega, ?_⟩
              refine r_iret (pc := 77) hret dX7_up_77 rfl rfl rfl ?_
              refine (hQ (by omega)).2 (by omega) _ (fun x hx => hr_n (by omega)) (hI.da (fun x x0 x1 hx => hr_n (by omega)) ⟨⟨by rw [hr_s, up_s], fun g g0 g1 => by rw [hr_n (by omega)]; exact d1 g g0 g1, fun g g0 g1 => by rw [hr_n (by omega)]; exact d2 g g0 g1⟩, ⟨mx, hMk.2⟩, hsz⟩)
            · omega
          · refine r_bipush (pc := 46) dX7_up_46 (by decide) ?_
            refine r_iret (pc := 48) hret dX7_up_48 rfl rfl rfl ?_
            have bi := bP_01 hMk.1 (d := d) (by omega)
            have b9 : iA (iSr ux (d - 10)) 1 = i := by
              rw [bi]
              by_cases z : bP ux d = true
              · rw [if_pos z]; rw [bI_t z] at c_43; omega
              · rw [if_neg z]; rw [bI_f z] at c_43; omega
            exact (hQ (by omega)).1 b9
        · refine r_iconst (pc := 38) dX7_up_38 ?_
          refine r_goto (pc := 39) (tgt := 43) dX7_up_39 (by decide) ?_
          refine r_icmp_ne (pc := 43) (tgt := 49) dX7_up_43 (by decide) (by have := bI_r (c := bP ux d = true); omega) (by omega) (fun c_43 => ?_) (fun c_43 => ?_)
          · have nb : ¬ bP ux d = true := fun z => c_43 (by rw [bI_t z])
            have bi := bP_01 hMk.1 (d := d) (by omega)
            rw [if_neg nb] at bi
            refine r_aload_0 (pc := 49) dX7_up_49 ?_
            refine gf_X7_37 (pc := 50) rfl (by assumption) dX7_up_50 (by assumption) ?_
            refine r_iload_1 (pc := 53) dX7_up_53 ?_
            refine r_iload_2 (pc := 54) dX7_up_54 ?_
            refine r_iconst (pc := 55) dX7_up_55 ?_
            refine r_icmp_ne (pc := 56) (tgt := 63) dX7_up_56 (by decide) (by omega) (by omega) (fun c_56 => ?_) (fun c_56 => ?_)
            · omega
            · refine r_iconst (pc := 59) dX7_up_59 ?_
              refine r_goto (pc := 60) (tgt := 64) dX7_up_60 (by decide) ?_
              refine k_VV2 (pc := 64) c_X0_setUp lk_X7_217 ⟨Nat.le_of_ble_eq_true rfl, Nat.le_of_ble_eq_true rfl⟩ ⟨rfl, rfl⟩ ⟨Nat.le_of_ble_eq_true rfl, Nat.le_of_ble_eq_true rfl⟩ (k := 0) rfl (by decide) (by assumption) dX7_up_64 (Nat.le_of_ble_eq_true rfl) ?_
              refine ⟨_, _, _, rfl, cD, Or.inr rfl, fun z_64 => absurd z_64 (show ¬ (1 : Int) = 0 by decide), fun _ => ?_⟩
              refine r_aload_0 (pc := 67) dX7_up_67 ?_
              refine gf_X7_37 (pc := 68) rfl (by assumption) dX7_up_68 (by assumption) ?_
              refine gf_X7_284 (pc := 71) rfl (by assumption) dX7_up_71 (fun i_71 => ?_)
              rw [hr_s, up_s, d0] at i_71 ⊢
              rw [← X_or hMk.1 (by omega) nb] at i_71 ⊢
              have mx := X_12 hMk.1 (Ms_S (d := d) (by omega))
              refine k_SI1 (pc := 74) c_J6_bitCount_0f7a4 lk_X7_167 ⟨Nat.le_of_ble_eq_true rfl, Nat.le_of_ble_eq_true rfl⟩ ⟨rfl, rfl⟩ ⟨Nat.le_of_ble_eq_true rfl, Nat.le_of_ble_eq_true rfl⟩ dX7_up_74 (Nat.le_of_ble_eq_true rfl) ?_
              refine ⟨_, rfl, by omega, ?_⟩
              refine r_iret (pc := 77) hret dX7_up_77 rfl rfl rfl ?_
              refine (hQ (by omega)).2 (by omega) _ (fun x hx => hr_n (by omega)) (hI.da (fun x x0 x1 hx => hr_n (by omega)) ⟨⟨by rw [hr_s, up_s], fun g g0 g1 => by rw [hr_n (by omega)]; exact d1 g g0 g1, fun g g0 g1 => by rw [hr_n (by omega)]; exact d2 g g0 g1⟩, ⟨mx, hMk.2⟩, hsz⟩)
          · refine r_bipush (pc := 46) dX7_up_46 (by decide) ?_
            refine r_iret (pc := 48) hret dX7_up_48 rfl rfl rfl ?_
            have bi := bP_01 hMk.1 (d := d) (by omega)
            have b9 : iA (iSr ux (d - 10)) 1 = i := by
              rw [bi]
              by_cases z : bP ux d = true
              · rw [if_pos z]; rw [bI_t z] at c_43; omega
              · rw [if_neg z]; rw [bI_f z] at c_43; omega
            exact (hQ (by omega)).1 b9
      · refine r_iconst (pc := 23) dX7_up_23 ?_
        refine r_iret (pc := 24) hret dX7_up_24 rfl rfl rfl ?_
        exact hB (by omega)

theorem dX7_fail_0 : decode cX7_fail 0 = .ok (.aload_n 0, 1) := by decide +kernel
theorem dX7_fail_1 : decode cX7_fail 1 = .ok (.getfield 51, 3) := by decide +kernel
theorem dX7_fail_4 : decode cX7_fail 4 = .ok (.getfield 84, 3) := by decide +kernel
theorem dX7_fail_7 : decode cX7_fail 7 = .ok (.iload_n 1, 1) := by decide +kernel
theorem dX7_fail_8 : decode cX7_fail 8 = .ok (.invokevirtual 97, 3) := by decide +kernel
theorem dX7_fail_11 : decode cX7_fail 11 = .ok (.ifCond .eq 14, 3) := by decide +kernel
theorem dX7_fail_14 : decode cX7_fail 14 = .ok (.aload_n 0, 1) := by decide +kernel
theorem dX7_fail_15 : decode cX7_fail 15 = .ok (.getfield 37, 3) := by decide +kernel
theorem dX7_fail_18 : decode cX7_fail 18 = .ok (.iload_n 1, 1) := by decide +kernel
theorem dX7_fail_19 : decode cX7_fail 19 = .ok (.invokevirtual 294, 3) := by decide +kernel
theorem dX7_fail_22 : decode cX7_fail 22 = .ok (.goto 4, 3) := by decide +kernel
theorem dX7_fail_25 : decode cX7_fail 25 = .ok (.iconst (-1), 1) := by decide +kernel
theorem dX7_fail_26 : decode cX7_fail 26 = .ok (.ireturn, 1) := by decide +kernel
set_option maxHeartbeats 4000000 in
set_option maxRecDepth 20000 in
theorem c_X7_fail : ConI mX7_fail (fun args N lay r h Q => ∃ (c : Nat) (q : Int → Nat) (n : Int) (tx : Int → Int) (ep : Int) (km : Int → Int → Int) (mp F : Int → Int) (ux : Int) (sz ho : Int → Int) (sn : Int) (row : Int → Int) (d : Int), args = [.ref c, vI d] ∧ CI lay r h c q n tx ep km mp F ux sz ho sn row ∧ (-2147483648 ≤ d ∧ d < 2147483648) ∧ (¬ (10 ≤ d ∧ d ≤ 9 + mp 130) → Q (-1) N lay r h) ∧ ((10 ≤ d ∧ d ≤ 9 + mp 130) → ∀ h2, Fr h h2 (fun x => c ≤ x ∧ x < c + 101) → CI lay r h2 c q n tx ep km mp F (iA ux (iX (iSl 1 (d - 10)) (-1))) sz (flr ho d 16) sn row → Q (sm (fun g => iA (iSr (ho g) (d - 10)) 1) 16) N lay r h2)) := by
  refine ConI.of (by decide) (by rintro _ N lay r h Q ⟨c, q, n, tx, ep, km, mp, F, ux, sz, ho, sn, row, d, rfl, hI, h_d, hB, hQ⟩; exact ⟨rfl, Nat.le_of_ble_eq_true rfl⟩) ?_
  rintro E _ N lay r h Q ⟨c, q, n, tx, ep, km, mp, F, ux, sz, ho, sn, row, d, rfl, hI, h_d, hB, hQ⟩ hret
  obtain ⟨hC, hLt, ⟨hCT, htx⟩, hSK, ⟨he8, hep⟩, hkm, ⟨hk0, h130⟩, hF0, ⟨hDa, hMk, hsz⟩, ⟨hOb, hSe⟩⟩ := id hI
  obtain ⟨cl0, cl6, ⟨cr0, cr1, cr2, cr3, cr4, cr5, cr6⟩, cT, cS, cP, cD, cE, cO⟩ := id hC
  obtain ⟨lr7, lr6, lpl, lrg, ldj⟩ := id hLt
  have hP0 := hkm 0 (by omega) (by omega) (by omega)
  rw [hk0] at hP0
  obtain ⟨hT, hR, hN, hW, hL, hPS⟩ := id hP0
  have hA := lpl 0 (by omega) (by omega)
  have q0r := lrg 0 (by omega) (by omega)
  obtain ⟨pl0, pl1, pl2, pl3, pl4, pl5, pl6, pl7, pl8, pl9, pl10, pl11, pl12, pl13, pr0, pr1, pr2, pr3, pr9, pr10, pr11, qr3, qr4, vr1, vr2, vr3, vr4⟩ := id hA
  obtain ⟨⟨n0, n1, n2⟩, up1, up2, uw, u0, uh⟩ := id hN
  obtain ⟨t1, t2, t3, t4, t5, t6, t7⟩ := id hT
  obtain ⟨dl0, dl1, dl2, dr1, dr2⟩ := id cD
  obtain ⟨d0, d1, d2⟩ := id hDa
  show St E mX7_fail 0 [some (.ref c), some (vI d)] [] (0, 0) N lay r h
  refine r_aload_0 (pc := 0) dX7_fail_0 ?_
  refine gf_X7_51 (pc := 1) rfl (by assumption) dX7_fail_1 (by assumption) ?_
  refine gf_X7_84 (pc := 4) rfl (by assumption) dX7_fail_4 (by assumption) ?_
  refine r_iload_1 (pc := 7) dX7_fail_7 ?_
  refine k_VI1 (pc := 8) c_X6_isDisk lk_X7_97 ⟨Nat.le_of_ble_eq_true rfl, Nat.le_of_ble_eq_true rfl⟩ ⟨rfl, rfl⟩ ⟨Nat.le_of_ble_eq_true rfl, Nat.le_of_ble_eq_true rfl⟩ (k := 6) rfl (by decide) (by assumption) dX7_fail_8 (Nat.le_of_ble_eq_true rfl) ?_
  refine ⟨_, _, _, rfl, by assumption, by omega, by omega, ?_⟩
  refine r_ifeq_b (pc := 11) (tgt := 25) dX7_fail_11 (by decide) (fun c_11 => ?_) (fun c_11 => ?_)
  · refine r_iconst (pc := 25) dX7_fail_25 ?_
    refine r_iret (pc := 26) hret dX7_fail_26 rfl rfl rfl ?_
    first
    | exact hB (by omega)
    | (refine hQ (by omega) _ (fun x hx => by rw [hr_n (by omega), hr_n (by omega)]) (hI.da (fun x x0 x1 hx => by rw [hr_n (by omega), hr_n (by omega)]) ⟨⟨by rw [hr_n (by omega), hr_s, up_s], fun g g0 g1 => by rw [hr_n (by omega), hr_n (by omega)]; exact d1 g g0 g1, fun g g0 g1 => by rw [hr_s]; exact a_19 g g0 g1⟩, flr_M hMk (by omega), hsz⟩))
  · refine r_aload_0 (pc := 14) dX7_fail_14 ?_
    refine gf_X7_37 (pc := 15) rfl (by assumption) dX7_fail_15 (by assumption) ?_
    refine r_iload_1 (pc := 18) dX7_fail_18 ?_
    refine k_VI1 (pc := 19) c_X0_letFail lk_X7_294 ⟨Nat.le_of_ble_eq_true rfl, Nat.le_of_ble_eq_true rfl⟩ ⟨rfl, rfl⟩ ⟨Nat.le_of_ble_eq_true rfl, Nat.le_of_ble_eq_true rfl⟩ (k := 0) rfl (by decide) (by assumption) dX7_fail_19 (Nat.le_of_ble_eq_true rfl) ?_
    refine ⟨_, ux, sz, ho, _, rfl, cD, hDa, hMk, by omega, fun f_19 a_19 => ?_⟩
    refine r_goto (pc := 22) (tgt := 26) dX7_fail_22 (by decide) ?_
    refine r_iret (pc := 26) hret dX7_fail_26 rfl rfl rfl ?_
    first
    | exact hB (by omega)
    | (refine hQ (by omega) _ (fun x hx => by rw [hr_n (by omega), hr_n (by omega)]) (hI.da (fun x x0 x1 hx => by rw [hr_n (by omega), hr_n (by omega)]) ⟨⟨by rw [hr_n (by omega), hr_s, up_s], fun g g0 g1 => by rw [hr_n (by omega), hr_n (by omega)]; exact d1 g g0 g1, fun g g0 g1 => by rw [hr_s]; exact a_19 g g0 g1⟩, flr_M hMk (by omega), hsz⟩))

theorem dX7_tick_0 : decode cX7_tick 0 = .ok (.iload_n 1, 1) := by decide +kernel
theorem dX7_tick_1 : decode cX7_tick 1 = .ok (.iconst 1, 1) := by decide +kernel
theorem dX7_tick_2 : decode cX7_tick 2 = .ok (.if_icmp .lt 9, 3) := by decide +kernel
theorem dX7_tick_5 : decode cX7_tick 5 = .ok (.iload_n 1, 1) := by decide +kernel
theorem dX7_tick_6 : decode cX7_tick 6 = .ok (.bipush 8, 2) := by decide +kernel
theorem dX7_tick_8 : decode cX7_tick 8 = .ok (.if_icmp .le 7, 3) := by decide +kernel
theorem dX7_tick_11 : decode cX7_tick 11 = .ok (.iconst (-1), 1) := by decide +kernel
theorem dX7_tick_12 : decode cX7_tick 12 = .ok (.goto 15, 3) := by decide +kernel
theorem dX7_tick_15 : decode cX7_tick 15 = .ok (.aload_n 0, 1) := by decide +kernel
theorem dX7_tick_16 : decode cX7_tick 16 = .ok (.getfield 37, 3) := by decide +kernel
theorem dX7_tick_19 : decode cX7_tick 19 = .ok (.aload_n 0, 1) := by decide +kernel
theorem dX7_tick_20 : decode cX7_tick 20 = .ok (.getfield 51, 3) := by decide +kernel
theorem dX7_tick_23 : decode cX7_tick 23 = .ok (.iload_n 1, 1) := by decide +kernel
theorem dX7_tick_24 : decode cX7_tick 24 = .ok (.invokevirtual 290, 3) := by decide +kernel
theorem dX7_tick_27 : decode cX7_tick 27 = .ok (.ireturn, 1) := by decide +kernel
set_option maxHeartbeats 4000000 in
set_option maxRecDepth 20000 in
theorem c_X7_tick : ConI mX7_tick (fun args N lay r h Q => ∃ (c : Nat) (q : Int → Nat) (n : Int) (tx : Int → Int) (ep : Int) (km : Int → Int → Int) (mp F : Int → Int) (ux : Int) (sz ho : Int → Int) (sn : Int) (row : Int → Int) (m : Int), args = [.ref c, vI m] ∧ CI lay r h c q n tx ep km mp F ux sz ho sn row ∧ (-2147483648 ≤ m ∧ m < 2147483648) ∧ (¬ (1 ≤ m ∧ m ≤ 8) → Q (-1) N lay r h) ∧ ((1 ≤ m ∧ m ≤ 8) → ∀ h2, Fr h h2 (fun x => c ≤ x ∧ x < c + 101) → CI lay r h2 c q n tx ep km mp F ux sz (tix F ux sz ho m.toNat).1 sn row → Q ((tix F ux sz ho m.toNat).2) N lay r h2)) := by
  refine ConI.of (by decide) (by rintro _ N lay r h Q ⟨c, q, n, tx, ep, km, mp, F, ux, sz, ho, sn, row, m, rfl, hI, h_m, hB, hQ⟩; exact ⟨rfl, Nat.le_of_ble_eq_true rfl⟩) ?_
  rintro E _ N lay r h Q ⟨c, q, n, tx, ep, km, mp, F, ux, sz, ho, sn, row, m, rfl, hI, h_m, hB, hQ⟩ hret
  obtain ⟨hC, hLt, ⟨hCT, htx⟩, hSK, ⟨he8, hep⟩, hkm, ⟨hk0, h130⟩, hF0, ⟨hDa, hMk, hsz⟩, ⟨hOb, hSe⟩⟩ := id hI
  obtain ⟨cl0, cl6, ⟨cr0, cr1, cr2, cr3, cr4, cr5, cr6⟩, cT, cS, cP, cD, cE, cO⟩ := id hC
  obtain ⟨lr7, lr6, lpl, lrg, ldj⟩ := id hLt
  have hP0 := hkm 0 (by omega) (by omega) (by omega)
  rw [hk0] at hP0
  obtain ⟨hT, hR, hN, hW, hL, hPS⟩ := id hP0
  have hA := lpl 0 (by omega) (by omega)
  have q0r := lrg 0 (by omega) (by omega)
  obtain ⟨pl0, pl1, pl2, pl3, pl4, pl5, pl6, pl7, pl8, pl9, pl10, pl11, pl12, pl13, pr0, pr1, pr2, pr3, pr9, pr10, pr11, qr3, qr4, vr1, vr2, vr3, vr4⟩ := id hA
  obtain ⟨⟨n0, n1, n2⟩, up1, up2, uw, u0, uh⟩ := id hN
  obtain ⟨t1, t2, t3, t4, t5, t6, t7⟩ := id hT
  have hFI : FdI F := fun j j0 j1 => by rw [← hF0 j j0 j1]; exact FdI_plr hT hR j j0 j1
  have hp1 : ∀ j, 0 ≤ j → j < 64 → h (q 0 + 11) j = F j := fun j j0 j1 => (hPS.1 j j0 j1).trans (hF0 j j0 j1)
  have hp2 : ∀ g, 0 ≤ g → g < 16 → h (q 0 + 13) g = pb F g := fun g g0 g1 => (hPS.2.2.1 g g0 g1).trans (pb_c ⟨g0, g1⟩ hF0)
  obtain ⟨dl0, dl1, dl2, dr1, dr2⟩ := id cD
  obtain ⟨d0, d1, d2⟩ := id hDa
  show St E mX7_tick 0 [some (.ref c), some (vI m)] [] (0, 0) N lay r h
  refine r_iload_1 (pc := 0) dX7_tick_0 ?_
  refine r_iconst (pc := 1) dX7_tick_1 ?_
  refine r_icmp_lt (pc := 2) (tgt := 11) dX7_tick_2 (by decide) (by omega) (by omega) (fun c_2 => ?_) (fun c_2 => ?_)
  · refine r_iconst (pc := 11) dX7_tick_11 ?_
    refine r_goto (pc := 12) (tgt := 27) dX7_tick_12 (by decide) ?_
    refine r_iret (pc := 27) hret dX7_tick_27 rfl rfl rfl ?_
    first
    | exact hB (by omega)
    | (refine hQ (by omega) _ (fun x hx => hr_n (by omega)) (hI.da (fun x x0 x1 hx => hr_n (by omega)) ⟨⟨by rw [hr_n (by omega)]; exact d0, fun g g0 g1 => by rw [hr_n (by omega)]; exact d1 g g0 g1, fun g g0 g1 => by rw [hr_s]; exact a_24 g g0 g1⟩, tix_M hFI hMk _, hsz⟩))
  · refine r_iload_1 (pc := 5) dX7_tick_5 ?_
    refine r_bipush (pc := 6) dX7_tick_6 (by decide) ?_
    refine r_icmp_le (pc := 8) (tgt := 15) dX7_tick_8 (by decide) (by omega) (by omega) (fun c_8 => ?_) (fun c_8 => ?_)
    · refine r_aload_0 (pc := 15) dX7_tick_15 ?_
      refine gf_X7_37 (pc := 16) rfl (by assumption) dX7_tick_16 (by assumption) ?_
      refine r_aload_0 (pc := 19) dX7_tick_19 ?_
      refine gf_X7_51 (pc := 20) rfl (by assumption) dX7_tick_20 (by assumption) ?_
      refine r_iload_1 (pc := 23) dX7_tick_23 ?_
      refine k_VI2 (pc := 24) c_X0_makeTick lk_X7_290 ⟨Nat.le_of_ble_eq_true rfl, Nat.le_of_ble_eq_true rfl⟩ ⟨rfl, rfl⟩ ⟨Nat.le_of_ble_eq_true rfl, Nat.le_of_ble_eq_true rfl⟩ (k := 0) rfl (by decide) (by assumption) dX7_tick_24 (Nat.le_of_ble_eq_true rfl) ?_
      refine ⟨_, ux, sz, ho, _, _, F, _, rfl, cD, hDa, hMk, pl0, pl11, pl13, pr9, pr11, hFI, hp1, hp2, by omega, hsz, by omega, fun f_24 a_24 => ?_⟩
      refine r_iret (pc := 27) hret dX7_tick_27 rfl rfl rfl ?_
      first
      | exact hB (by omega)
      | (refine hQ (by omega) _ (fun x hx => hr_n (by omega)) (hI.da (fun x x0 x1 hx => hr_n (by omega)) ⟨⟨by rw [hr_n (by omega)]; exact d0, fun g g0 g1 => by rw [hr_n (by omega)]; exact d1 g g0 g1, fun g g0 g1 => by rw [hr_s]; exact a_24 g g0 g1⟩, tix_M hFI hMk _, hsz⟩))
    · refine r_iconst (pc := 11) dX7_tick_11 ?_
      refine r_goto (pc := 12) (tgt := 27) dX7_tick_12 (by decide) ?_
      refine r_iret (pc := 27) hret dX7_tick_27 rfl rfl rfl ?_
      first
      | exact hB (by omega)
      | (refine hQ (by omega) _ (fun x hx => hr_n (by omega)) (hI.da (fun x x0 x1 hx => hr_n (by omega)) ⟨⟨by rw [hr_n (by omega)]; exact d0, fun g g0 g1 => by rw [hr_n (by omega)]; exact d1 g g0 g1, fun g g0 g1 => by rw [hr_s]; exact a_24 g g0 g1⟩, tix_M hFI hMk _, hsz⟩))

theorem dX7_put_0 : decode cX7_put 0 = .ok (.iload_n 1, 1) := by decide +kernel
theorem dX7_put_1 : decode cX7_put 1 = .ok (.invokestatic 228, 3) := by decide +kernel
theorem dX7_put_4 : decode cX7_put 4 = .ok (.ifCond .eq 14, 3) := by decide +kernel
theorem dX7_put_7 : decode cX7_put 7 = .ok (.iload_n 2, 1) := by decide +kernel
theorem dX7_put_8 : decode cX7_put 8 = .ok (.iconst 1, 1) := by decide +kernel
theorem dX7_put_9 : decode cX7_put 9 = .ok (.if_icmp .lt 9, 3) := by decide +kernel
theorem dX7_put_12 : decode cX7_put 12 = .ok (.iload_n 2, 1) := by decide +kernel
theorem dX7_put_13 : decode cX7_put 13 = .ok (.bipush 99, 2) := by decide +kernel
theorem dX7_put_15 : decode cX7_put 15 = .ok (.if_icmp .le 5, 3) := by decide +kernel
theorem dX7_put_18 : decode cX7_put 18 = .ok (.iconst (-1), 1) := by decide +kernel
theorem dX7_put_19 : decode cX7_put 19 = .ok (.ireturn, 1) := by decide +kernel
theorem dX7_put_20 : decode cX7_put 20 = .ok (.iload_n 1, 1) := by decide +kernel
theorem dX7_put_21 : decode cX7_put 21 = .ok (.invokestatic 231, 3) := by decide +kernel
theorem dX7_put_24 : decode cX7_put 24 = .ok (.istore_n 3, 1) := by decide +kernel
theorem dX7_put_25 : decode cX7_put 25 = .ok (.aload_n 0, 1) := by decide +kernel
theorem dX7_put_26 : decode cX7_put 26 = .ok (.getfield 51, 3) := by decide +kernel
theorem dX7_put_29 : decode cX7_put 29 = .ok (.getfield 259, 3) := by decide +kernel
theorem dX7_put_32 : decode cX7_put 32 = .ok (.iload_n 3, 1) := by decide +kernel
theorem dX7_put_33 : decode cX7_put 33 = .ok (.iaload, 1) := by decide +kernel
theorem dX7_put_34 : decode cX7_put 34 = .ok (.aload_n 0, 1) := by decide +kernel
theorem dX7_put_35 : decode cX7_put 35 = .ok (.getfield 37, 3) := by decide +kernel
theorem dX7_put_38 : decode cX7_put 38 = .ok (.getfield 284, 3) := by decide +kernel
theorem dX7_put_41 : decode cX7_put 41 = .ok (.iand, 1) := by decide +kernel
theorem dX7_put_42 : decode cX7_put 42 = .ok (.aload_n 0, 1) := by decide +kernel
theorem dX7_put_43 : decode cX7_put 43 = .ok (.getfield 37, 3) := by decide +kernel
theorem dX7_put_46 : decode cX7_put 46 = .ok (.getfield 154, 3) := by decide +kernel
theorem dX7_put_49 : decode cX7_put 49 = .ok (.iload_n 3, 1) := by decide +kernel
theorem dX7_put_50 : decode cX7_put 50 = .ok (.iaload, 1) := by decide +kernel
theorem dX7_put_51 : decode cX7_put 51 = .ok (.iand, 1) := by decide +kernel
theorem dX7_put_52 : decode cX7_put 52 = .ok (.ifCond .ne 6, 3) := by decide +kernel
theorem dX7_put_55 : decode cX7_put 55 = .ok (.bipush (-2), 2) := by decide +kernel
theorem dX7_put_57 : decode cX7_put 57 = .ok (.ireturn, 1) := by decide +kernel
theorem dX7_put_58 : decode cX7_put 58 = .ok (.aload_n 0, 1) := by decide +kernel
theorem dX7_put_59 : decode cX7_put 59 = .ok (.getfield 37, 3) := by decide +kernel
theorem dX7_put_62 : decode cX7_put 62 = .ok (.getfield 287, 3) := by decide +kernel
theorem dX7_put_65 : decode cX7_put 65 = .ok (.iload_n 3, 1) := by decide +kernel
theorem dX7_put_66 : decode cX7_put 66 = .ok (.iaload, 1) := by decide +kernel
theorem dX7_put_67 : decode cX7_put 67 = .ok (.iload_n 2, 1) := by decide +kernel
theorem dX7_put_68 : decode cX7_put 68 = .ok (.iadd, 1) := by decide +kernel
theorem dX7_put_69 : decode cX7_put 69 = .ok (.sipush 9999, 3) := by decide +kernel
theorem dX7_put_72 : decode cX7_put 72 = .ok (.if_icmp .le 6, 3) := by decide +kernel
theorem dX7_put_75 : decode cX7_put 75 = .ok (.bipush (-3), 2) := by decide +kernel
theorem dX7_put_77 : decode cX7_put 77 = .ok (.ireturn, 1) := by decide +kernel
theorem dX7_put_78 : decode cX7_put 78 = .ok (.aload_n 0, 1) := by decide +kernel
theorem dX7_put_79 : decode cX7_put 79 = .ok (.getfield 37, 3) := by decide +kernel
theorem dX7_put_82 : decode cX7_put 82 = .ok (.getfield 287, 3) := by decide +kernel
theorem dX7_put_85 : decode cX7_put 85 = .ok (.iload_n 3, 1) := by decide +kernel
theorem dX7_put_86 : decode cX7_put 86 = .ok (.dup2, 1) := by decide +kernel
theorem dX7_put_87 : decode cX7_put 87 = .ok (.iaload, 1) := by decide +kernel
theorem dX7_put_88 : decode cX7_put 88 = .ok (.iload_n 2, 1) := by decide +kernel
theorem dX7_put_89 : decode cX7_put 89 = .ok (.iadd, 1) := by decide +kernel
theorem dX7_put_90 : decode cX7_put 90 = .ok (.iastore, 1) := by decide +kernel
theorem dX7_put_91 : decode cX7_put 91 = .ok (.aload_n 0, 1) := by decide +kernel
theorem dX7_put_92 : decode cX7_put 92 = .ok (.getfield 37, 3) := by decide +kernel
theorem dX7_put_95 : decode cX7_put 95 = .ok (.getfield 154, 3) := by decide +kernel
theorem dX7_put_98 : decode cX7_put 98 = .ok (.iload_n 3, 1) := by decide +kernel
theorem dX7_put_99 : decode cX7_put 99 = .ok (.dup2, 1) := by decide +kernel
theorem dX7_put_100 : decode cX7_put 100 = .ok (.iaload, 1) := by decide +kernel
theorem dX7_put_101 : decode cX7_put 101 = .ok (.aload_n 0, 1) := by decide +kernel
theorem dX7_put_102 : decode cX7_put 102 = .ok (.getfield 37, 3) := by decide +kernel
theorem dX7_put_105 : decode cX7_put 105 = .ok (.getfield 284, 3) := by decide +kernel
theorem dX7_put_108 : decode cX7_put 108 = .ok (.iand, 1) := by decide +kernel
theorem dX7_put_109 : decode cX7_put 109 = .ok (.iastore, 1) := by decide +kernel
theorem dX7_put_110 : decode cX7_put 110 = .ok (.aload_n 0, 1) := by decide +kernel
theorem dX7_put_111 : decode cX7_put 111 = .ok (.getfield 37, 3) := by decide +kernel
theorem dX7_put_114 : decode cX7_put 114 = .ok (.getfield 287, 3) := by decide +kernel
theorem dX7_put_117 : decode cX7_put 117 = .ok (.iload_n 3, 1) := by decide +kernel
theorem dX7_put_118 : decode cX7_put 118 = .ok (.iaload, 1) := by decide +kernel
theorem dX7_put_119 : decode cX7_put 119 = .ok (.ireturn, 1) := by decide +kernel
set_option maxHeartbeats 4000000 in
set_option maxRecDepth 20000 in
theorem c_X7_put : ConI mX7_put (fun args N lay r h Q => ∃ (c : Nat) (q : Int → Nat) (n : Int) (tx : Int → Int) (ep : Int) (km : Int → Int → Int) (mp F : Int → Int) (ux : Int) (sz ho : Int → Int) (sn : Int) (row : Int → Int) (k s : Int), args = [.ref c, vI k, vI s] ∧ CI lay r h c q n tx ep km mp F ux sz ho sn row ∧ (-2147483648 ≤ k ∧ k < 2147483648) ∧ (-2147483648 ≤ s ∧ s < 2147483648) ∧ (¬ ((0 ≤ k ∧ k ≤ 9999) ∧ (1 ≤ s ∧ s ≤ 99)) → Q (-1) N lay r h) ∧ (((0 ≤ k ∧ k ≤ 9999) ∧ (1 ≤ s ∧ s ≤ 99)) → (iA (iA (pb F (7919 * k % 65521 % 16)) ux) (ho (7919 * k % 65521 % 16)) = 0 → Q (-2) N lay r h) ∧ (iA (iA (pb F (7919 * k % 65521 % 16)) ux) (ho (7919 * k % 65521 % 16)) ≠ 0 → (9999 < sz (7919 * k % 65521 % 16) + s → Q (-3) N lay r h) ∧ (sz (7919 * k % 65521 % 16) + s ≤ 9999 → ∀ h2, Fr h h2 (fun x => c ≤ x ∧ x < c + 101) → CI lay r h2 c q n tx ep km mp F ux (up sz (7919 * k % 65521 % 16) (sz (7919 * k % 65521 % 16) + s)) (up ho (7919 * k % 65521 % 16) (iA (ho (7919 * k % 65521 % 16)) ux)) sn row → Q (sz (7919 * k % 65521 % 16) + s) N lay r h2)))) := by
  refine ConI.of (by decide) (by rintro _ N lay r h Q ⟨c, q, n, tx, ep, km, mp, F, ux, sz, ho, sn, row, k, s, rfl, hI, h_k, h_s, hB, hQ⟩; exact ⟨rfl, Nat.le_of_ble_eq_true rfl⟩) ?_
  rintro E _ N lay r h Q ⟨c, q, n, tx, ep, km, mp, F, ux, sz, ho, sn, row, k, s, rfl, hI, h_k, h_s, hB, hQ⟩ hret
  obtain ⟨hC, hLt, ⟨hCT, htx⟩, hSK, ⟨he8, hep⟩, hkm, ⟨hk0, h130⟩, hF0, ⟨hDa, hMk, hsz⟩, ⟨hOb, hSe⟩⟩ := id hI
  obtain ⟨cl0, cl6, ⟨cr0, cr1, cr2, cr3, cr4, cr5, cr6⟩, cT, cS, cP, cD, cE, cO⟩ := id hC
  obtain ⟨lr7, lr6, lpl, lrg, ldj⟩ := id hLt
  have hP0 := hkm 0 (by omega) (by omega) (by omega)
  rw [hk0] at hP0
  obtain ⟨hT, hR, hN, hW, hL, hPS⟩ := id hP0
  have hA := lpl 0 (by omega) (by omega)
  have q0r := lrg 0 (by omega) (by omega)
  obtain ⟨pl0, pl1, pl2, pl3, pl4, pl5, pl6, pl7, pl8, pl9, pl10, pl11, pl12, pl13, pr0, pr1, pr2, pr3, pr9, pr10, pr11, qr3, qr4, vr1, vr2, vr3, vr4⟩ := id hA
  obtain ⟨⟨n0, n1, n2⟩, up1, up2, uw, u0, uh⟩ := id hN
  obtain ⟨t1, t2, t3, t4, t5, t6, t7⟩ := id hT
  have hFI : FdI F := fun j j0 j1 => by rw [← hF0 j j0 j1]; exact FdI_plr hT hR j j0 j1
  have hp1 : ∀ j, 0 ≤ j → j < 64 → h (q 0 + 11) j = F j := fun j j0 j1 => (hPS.1 j j0 j1).trans (hF0 j j0 j1)
  have hp2 : ∀ g, 0 ≤ g → g < 16 → h (q 0 + 13) g = pb F g := fun g g0 g1 => (hPS.2.2.1 g g0 g1).trans (pb_c ⟨g0, g1⟩ hF0)
  obtain ⟨dl0, dl1, dl2, dr1, dr2⟩ := id cD
  obtain ⟨d0, d1, d2⟩ := id hDa
  show St E mX7_put 0 [some (.ref c), some (vI k), some (vI s), none] [] (0, 0) N lay r h
  refine r_iload_1 (pc := 0) dX7_put_0 ?_
  refine k_SI1 (pc := 1) c_X7_isKey lk_X7_228 ⟨Nat.le_of_ble_eq_true rfl, Nat.le_of_ble_eq_true rfl⟩ ⟨rfl, rfl⟩ ⟨Nat.le_of_ble_eq_true rfl, Nat.le_of_ble_eq_true rfl⟩ dX7_put_1 (Nat.le_of_ble_eq_true rfl) ?_
  refine ⟨_, rfl, by omega, ?_⟩
  refine r_ifeq_b (pc := 4) (tgt := 18) dX7_put_4 (by decide) (fun c_4 => ?_) (fun c_4 => ?_)
  · refine r_iconst (pc := 18) dX7_put_18 ?_
    refine r_iret (pc := 19) hret dX7_put_19 rfl rfl rfl ?_
    first
    | exact hB (by omega)
    | exact (hQ (by omega)).1 c_52
    | exact ((hQ (by omega)).2 c_52).1 (by omega)
    | (refine ((hQ (by omega)).2 c_52).2 (by omega) _ (fun x hx => by rw [hr_n (by omega), hr_n (by omega)]) (hI.da (fun x x0 x1 hx => by rw [hr_n (by omega), hr_n (by omega)]) ⟨⟨by rw [hr_n (by omega), hr_n (by omega)]; exact d0, fun q q0 q1 => ?_, fun q q0 q1 => ?_⟩, ⟨hMk.1, fun q q0 q1 => ?_⟩, fun q q0 q1 => ?_⟩)
       · rw [hr_n (by omega), hr_s]
         by_cases e : q = g
         · rw [e, up_s, up_s]
         · rw [up_n e, up_n e]; exact d1 q q0 q1
       · rw [hr_s]
         by_cases e : q = g
         · rw [e, up_s, up_s]
         · rw [up_n e, up_n e]; exact d2 q q0 q1
       · by_cases e : q = g
         · rw [e, up_s]; exact Ms_A (hMk.2 g hg.1 hg.2) hMk.1
         · rw [up_n e]; exact hMk.2 q q0 q1
       · by_cases e : q = g
         · rw [e, up_s]; omega
         · rw [up_n e]; exact hsz q q0 q1)
  · refine r_iload_2 (pc := 7) dX7_put_7 ?_
    refine r_iconst (pc := 8) dX7_put_8 ?_
    refine r_icmp_lt (pc := 9) (tgt := 18) dX7_put_9 (by decide) (by omega) (by omega) (fun c_9 => ?_) (fun c_9 => ?_)
    · refine r_iconst (pc := 18) dX7_put_18 ?_
      refine r_iret (pc := 19) hret dX7_put_19 rfl rfl rfl ?_
      first
      | exact hB (by omega)
      | exact (hQ (by omega)).1 c_52
      | exact ((hQ (by omega)).2 c_52).1 (by omega)
      | (refine ((hQ (by omega)).2 c_52).2 (by omega) _ (fun x hx => by rw [hr_n (by omega), hr_n (by omega)]) (hI.da (fun x x0 x1 hx => by rw [hr_n (by omega), hr_n (by omega)]) ⟨⟨by rw [hr_n (by omega), hr_n (by omega)]; exact d0, fun q q0 q1 => ?_, fun q q0 q1 => ?_⟩, ⟨hMk.1, fun q q0 q1 => ?_⟩, fun q q0 q1 => ?_⟩)
         · rw [hr_n (by omega), hr_s]
           by_cases e : q = g
           · rw [e, up_s, up_s]
           · rw [up_n e, up_n e]; exact d1 q q0 q1
         · rw [hr_s]
           by_cases e : q = g
           · rw [e, up_s, up_s]
           · rw [up_n e, up_n e]; exact d2 q q0 q1
         · by_cases e : q = g
           · rw [e, up_s]; exact Ms_A (hMk.2 g hg.1 hg.2) hMk.1
           · rw [up_n e]; exact hMk.2 q q0 q1
         · by_cases e : q = g
           · rw [e, up_s]; omega
           · rw [up_n e]; exact hsz q q0 q1)
    · refine r_iload_2 (pc := 12) dX7_put_12 ?_
      refine r_bipush (pc := 13) dX7_put_13 (by decide) ?_
      refine r_icmp_le (pc := 15) (tgt := 20) dX7_put_15 (by decide) (by omega) (by omega) (fun c_15 => ?_) (fun c_15 => ?_)
      · refine r_iload_1 (pc := 20) dX7_put_20 ?_
        refine k_SI1 (pc := 21) c_X7_groupOf lk_X7_231 ⟨Nat.le_of_ble_eq_true rfl, Nat.le_of_ble_eq_true rfl⟩ ⟨rfl, rfl⟩ ⟨Nat.le_of_ble_eq_true rfl, Nat.le_of_ble_eq_true rfl⟩ dX7_put_21 (Nat.le_of_ble_eq_true rfl) ?_
        refine ⟨_, rfl, by omega, ?_⟩
        have hg : 0 ≤ 7919 * k % 65521 % 16 ∧ 7919 * k % 65521 % 16 < 16 := by omega
        revert hQ
        generalize 7919 * k % 65521 % 16 = g at hg ⊢
        intro hQ
        have hs9 := hsz g hg.1 hg.2
        have eg1 := d1 g hg.1 hg.2
        have eg2 := d2 g hg.1 hg.2
        refine r_istore_3 (pc := 24) dX7_put_24 rfl ?_
        refine r_aload_0 (pc := 25) dX7_put_25 ?_
        refine gf_X7_51 (pc := 26) rfl (by assumption) dX7_put_26 (by assumption) ?_
        refine gf_X7_259 (pc := 29) rfl (by assumption) dX7_put_29 (by assumption) ?_
        refine r_iload_3 (pc := 32) dX7_put_32 ?_
        refine r_ialdE (pc := 33) (by assumption) (by first | assumption | exact rfl) dX7_put_33 (by omega) (by omega) (fun i_33 => ?_)
        rw [hp2 g hg.1 hg.2] at i_33 ⊢
        refine r_aload_0 (pc := 34) dX7_put_34 ?_
        refine gf_X7_37 (pc := 35) rfl (by assumption) dX7_put_35 (by assumption) ?_
        refine gf_X7_284 (pc := 38) rfl (by assumption) dX7_put_38 (fun i_38 => ?_)
        rw [d0] at i_38 ⊢
        refine r_iand (pc := 41) dX7_put_41 (fun i_41 => ?_)
        refine r_aload_0 (pc := 42) dX7_put_42 ?_
        refine gf_X7_37 (pc := 43) rfl (by assumption) dX7_put_43 (by assumption) ?_
        refine gf_X7_154 (pc := 46) rfl (by assumption) dX7_put_46 (by assumption) ?_
        refine r_iload_3 (pc := 49) dX7_put_49 ?_
        refine r_ialdE (pc := 50) (by assumption) (by first | assumption | exact rfl) dX7_put_50 (by omega) (by omega) (fun i_50 => ?_)
        rw [eg2] at i_50 ⊢
        refine r_iand (pc := 51) dX7_put_51 (fun i_51 => ?_)
        refine r_if_ne (pc := 52) (tgt := 58) dX7_put_52 (by decide) (by omega) (fun c_52 => ?_) (fun c_52 => ?_)
        · refine r_aload_0 (pc := 58) dX7_put_58 ?_
          refine gf_X7_37 (pc := 59) rfl (by assumption) dX7_put_59 (by assumption) ?_
          refine gf_X7_287 (pc := 62) rfl (by assumption) dX7_put_62 (by assumption) ?_
          refine r_iload_3 (pc := 65) dX7_put_65 ?_
          refine r_ialdE (pc := 66) (by assumption) (by first | assumption | exact rfl) dX7_put_66 (by omega) (by omega) (fun i_66 => ?_)
          rw [eg1] at i_66 ⊢
          refine r_iload_2 (pc := 67) dX7_put_67 ?_
          refine r_iadd (pc := 68) dX7_put_68 ?_
          refine r_sipush (pc := 69) dX7_put_69 (by decide) ?_
          refine r_icmp_le (pc := 72) (tgt := 78) dX7_put_72 (by decide) (by omega) (by omega) (fun c_72 => ?_) (fun c_72 => ?_)
          · refine r_aload_0 (pc := 78) dX7_put_78 ?_
            refine gf_X7_37 (pc := 79) rfl (by assumption) dX7_put_79 (by assumption) ?_
            refine gf_X7_287 (pc := 82) rfl (by assumption) dX7_put_82 (by assumption) ?_
            refine r_iload_3 (pc := 85) dX7_put_85 ?_
            refine r_dup2 (pc := 86) dX7_put_86 ?_
            refine r_ialdE (pc := 87) (by assumption) (by first | assumption | exact rfl) dX7_put_87 (by omega) (by omega) (fun i_87 => ?_)
            rw [eg1] at i_87 ⊢
            refine r_iload_2 (pc := 88) dX7_put_88 ?_
            refine r_iadd (pc := 89) dX7_put_89 ?_
            refine r_iastE (pc := 90) (by assumption) (by first | assumption | exact rfl) dX7_put_90 (by omega) (by omega) (by omega) ?_
            refine r_aload_0 (pc := 91) dX7_put_91 ?_
            refine gf_X7_37 (pc := 92) rfl (by assumption) dX7_put_92 (by assumption) ?_
            refine gf_X7_154 (pc := 95) rfl (by assumption) dX7_put_95 (by assumption) ?_
            refine r_iload_3 (pc := 98) dX7_put_98 ?_
            refine r_dup2 (pc := 99) dX7_put_99 ?_
            refine r_ialdE (pc := 100) (by assumption) (hr_n (by omega)) dX7_put_100 (by omega) (by omega) (fun i_100 => ?_)
            rw [eg2] at i_100 ⊢
            refine r_aload_0 (pc := 101) dX7_put_101 ?_
            refine gf_X7_37 (pc := 102) rfl (by assumption) dX7_put_102 (by assumption) ?_
            refine gf_X7_284 (pc := 105) rfl (by assumption) dX7_put_105 (fun i_105 => ?_)
            rw [hr_n (by omega), d0] at i_105 ⊢
            refine r_iand (pc := 108) dX7_put_108 (fun i_108 => ?_)
            refine r_iastE (pc := 109) (by assumption) (hr_n (by omega)) dX7_put_109 (by omega) (by omega) (by omega) ?_
            refine r_aload_0 (pc := 110) dX7_put_110 ?_
            refine gf_X7_37 (pc := 111) rfl (by assumption) dX7_put_111 (by assumption) ?_
            refine gf_X7_287 (pc := 114) rfl (by assumption) dX7_put_114 (by assumption) ?_
            refine r_iload_3 (pc := 117) dX7_put_117 ?_
            refine r_ialdE (pc := 118) (by assumption) (show _ = up (h (c + 21 + 1)) g (sz g + s) by rw [hr_n (by omega), hr_s]) dX7_put_118 (by omega) (by omega) (fun i_118 => ?_)
            rw [up_s]
            refine r_iret (pc := 119) hret dX7_put_119 rfl rfl rfl ?_
            first
            | exact hB (by omega)
            | exact (hQ (by omega)).1 c_52
            | exact ((hQ (by omega)).2 c_52).1 (by omega)
            | (refine ((hQ (by omega)).2 c_52).2 (by omega) _ (fun x hx => by rw [hr_n (by omega), hr_n (by omega)]) (hI.da (fun x x0 x1 hx => by rw [hr_n (by omega), hr_n (by omega)]) ⟨⟨by rw [hr_n (by omega), hr_n (by omega)]; exact d0, fun q q0 q1 => ?_, fun q q0 q1 => ?_⟩, ⟨hMk.1, fun q q0 q1 => ?_⟩, fun q q0 q1 => ?_⟩)
               · rw [hr_n (by omega), hr_s]
                 by_cases e : q = g
                 · rw [e, up_s, up_s]
                 · rw [up_n e, up_n e]; exact d1 q q0 q1
               · rw [hr_s]
                 by_cases e : q = g
                 · rw [e, up_s, up_s]
                 · rw [up_n e, up_n e]; exact d2 q q0 q1
               · by_cases e : q = g
                 · rw [e, up_s]; exact Ms_A (hMk.2 g hg.1 hg.2) hMk.1
                 · rw [up_n e]; exact hMk.2 q q0 q1
               · by_cases e : q = g
                 · rw [e, up_s]; omega
                 · rw [up_n e]; exact hsz q q0 q1)
          · refine r_bipush (pc := 75) dX7_put_75 (by decide) ?_
            refine r_iret (pc := 77) hret dX7_put_77 rfl rfl rfl ?_
            first
            | exact hB (by omega)
            | exact (hQ (by omega)).1 c_52
            | exact ((hQ (by omega)).2 c_52).1 (by omega)
            | (refine ((hQ (by omega)).2 c_52).2 (by omega) _ (fun x hx => by rw [hr_n (by omega), hr_n (by omega)]) (hI.da (fun x x0 x1 hx => by rw [hr_n (by omega), hr_n (by omega)]) ⟨⟨by rw [hr_n (by omega), hr_n (by omega)]; exact d0, fun q q0 q1 => ?_, fun q q0 q1 => ?_⟩, ⟨hMk.1, fun q q0 q1 => ?_⟩, fun q q0 q1 => ?_⟩)
               · rw [hr_n (by omega), hr_s]
                 by_cases e : q = g
                 · rw [e, up_s, up_s]
                 · rw [up_n e, up_n e]; exact d1 q q0 q1
               · rw [hr_s]
                 by_cases e : q = g
                 · rw [e, up_s, up_s]
                 · rw [up_n e, up_n e]; exact d2 q q0 q1
               · by_cases e : q = g
                 · rw [e, up_s]; exact Ms_A (hMk.2 g hg.1 hg.2) hMk.1
                 · rw [up_n e]; exact hMk.2 q q0 q1
               · by_cases e : q = g
                 · rw [e, up_s]; omega
                 · rw [up_n e]; exact hsz q q0 q1)
        · refine r_bipush (pc := 55) dX7_put_55 (by decide) ?_
          refine r_iret (pc := 57) hret dX7_put_57 rfl rfl rfl ?_
          first
          | exact hB (by omega)
          | exact (hQ (by omega)).1 c_52
          | exact ((hQ (by omega)).2 c_52).1 (by omega)
          | (refine ((hQ (by omega)).2 c_52).2 (by omega) _ (fun x hx => by rw [hr_n (by omega), hr_n (by omega)]) (hI.da (fun x x0 x1 hx => by rw [hr_n (by omega), hr_n (by omega)]) ⟨⟨by rw [hr_n (by omega), hr_n (by omega)]; exact d0, fun q q0 q1 => ?_, fun q q0 q1 => ?_⟩, ⟨hMk.1, fun q q0 q1 => ?_⟩, fun q q0 q1 => ?_⟩)
             · rw [hr_n (by omega), hr_s]
               by_cases e : q = g
               · rw [e, up_s, up_s]
               · rw [up_n e, up_n e]; exact d1 q q0 q1
             · rw [hr_s]
               by_cases e : q = g
               · rw [e, up_s, up_s]
               · rw [up_n e, up_n e]; exact d2 q q0 q1
             · by_cases e : q = g
               · rw [e, up_s]; exact Ms_A (hMk.2 g hg.1 hg.2) hMk.1
               · rw [up_n e]; exact hMk.2 q q0 q1
             · by_cases e : q = g
               · rw [e, up_s]; omega
               · rw [up_n e]; exact hsz q q0 q1)
      · refine r_iconst (pc := 18) dX7_put_18 ?_
        refine r_iret (pc := 19) hret dX7_put_19 rfl rfl rfl ?_
        first
        | exact hB (by omega)
        | exact (hQ (by omega)).1 c_52
        | exact ((hQ (by omega)).2 c_52).1 (by omega)
        | (refine ((hQ (by omega)).2 c_52).2 (by omega) _ (fun x hx => by rw [hr_n (by omega), hr_n (by omega)]) (hI.da (fun x x0 x1 hx => by rw [hr_n (by omega), hr_n (by omega)]) ⟨⟨by rw [hr_n (by omega), hr_n (by omega)]; exact d0, fun q q0 q1 => ?_, fun q q0 q1 => ?_⟩, ⟨hMk.1, fun q q0 q1 => ?_⟩, fun q q0 q1 => ?_⟩)
           · rw [hr_n (by omega), hr_s]
             by_cases e : q = g
             · rw [e, up_s, up_s]
             · rw [up_n e, up_n e]; exact d1 q q0 q1
           · rw [hr_s]
             by_cases e : q = g
             · rw [e, up_s, up_s]
             · rw [up_n e, up_n e]; exact d2 q q0 q1
           · by_cases e : q = g
             · rw [e, up_s]; exact Ms_A (hMk.2 g hg.1 hg.2) hMk.1
             · rw [up_n e]; exact hMk.2 q q0 q1
           · by_cases e : q = g
             · rw [e, up_s]; omega
             · rw [up_n e]; exact hsz q q0 q1)

