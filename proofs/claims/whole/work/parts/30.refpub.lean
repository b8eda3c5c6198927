/-! THE REFERENCE: public methods that change no map -/
theorem dX8_group_0 : decode cX8_group 0 = .ok (.aload_n 0, 1) := by decide +kernel
theorem dX8_group_1 : decode cX8_group 1 = .ok (.iload_n 1, 1) := by decide +kernel
theorem dX8_group_2 : decode cX8_group 2 = .ok (.iconst 0, 1) := by decide +kernel
theorem dX8_group_3 : decode cX8_group 3 = .ok (.sipush 9999, 3) := by decide +kernel
theorem dX8_group_6 : decode cX8_group 6 = .ok (.invokevirtual 137, 3) := by decide +kernel
theorem dX8_group_9 : decode cX8_group 9 = .ok (.ifCond .eq 17, 3) := by decide +kernel
theorem dX8_group_12 : decode cX8_group 12 = .ok (.sipush 7919, 3) := by decide +kernel
theorem dX8_group_15 : decode cX8_group 15 = .ok (.iload_n 1, 1) := by decide +kernel
theorem dX8_group_16 : decode cX8_group 16 = .ok (.imul, 1) := by decide +kernel
theorem dX8_group_17 : decode cX8_group 17 = .ok (.ldc 182, 2) := by decide +kernel
theorem dX8_group_19 : decode cX8_group 19 = .ok (.irem, 1) := by decide +kernel
theorem dX8_group_20 : decode cX8_group 20 = .ok (.bipush 16, 2) := by decide +kernel
theorem dX8_group_22 : decode cX8_group 22 = .ok (.irem, 1) := by decide +kernel
theorem dX8_group_23 : decode cX8_group 23 = .ok (.goto 4, 3) := by decide +kernel
theorem dX8_group_26 : decode cX8_group 26 = .ok (.iconst (-1), 1) := by decide +kernel
theorem dX8_group_27 : decode cX8_group 27 = .ok (.ireturn, 1) := by decide +kernel
set_option maxHeartbeats 4000000 in
set_option maxRecDepth 20000 in
theorem c_X8_group : ConI mX8_group (fun args N lay r h Q => ∃ (b : Nat) (mp : Int → Int) (k : Int), args = [.ref b, vI k] ∧ MdAt lay r b ∧ h (b + 2) = mp ∧ TrM mp ∧ RlM mp ∧ (-2147483648 ≤ k ∧ k < 2147483648) ∧ (¬ (0 ≤ k ∧ k ≤ 9999) → Q (-1) N lay r h) ∧ ((0 ≤ k ∧ k ≤ 9999) → Q (7919 * k % 65521 % 16) N lay r h)) := by
  refine ConI.of (by decide) (by rintro _ N lay r h Q ⟨b, mp, k, rfl, hM, hmp, hT, hR, hk, hB, hQ⟩; exact ⟨rfl, Nat.le_of_ble_eq_true rfl⟩) ?_
  rintro E _ N lay r h Q ⟨b, mp, k, rfl, hM, hmp, hT, hR, hk, hB, hQ⟩ hret
  obtain ⟨ml0, ml1, ml2, ml3, ml4, ml5, ml6, ml7, ml8, ml9, ml10, ml11, ml12, ml13, ml14, ml15, ml16, ml17, ml18, ml19, ml20, mr1, mr2, mr3, mr4, mr5, mr6, mr7, mr8, mr9, mr10, mr11, mr12, mr13, mr14, mr15, mr16, mr17, mr18, mr19, mr20⟩ := id hM
  obtain ⟨t1, t2, t3, t4, t5, t6, t7⟩ := id hT
  obtain ⟨r1, r2, r3, r4, r5, r6, r7⟩ := id hR
  show St E mX8_group 0 [some (.ref b), some (vI k)] [] (0, 0) N lay r h
  refine r_aload_0 (pc := 0) dX8_group_0 ?_
  refine r_iload_1 (pc := 1) dX8_group_1 ?_
  refine r_iconst (pc := 2) dX8_group_2 ?_
  refine r_sipush (pc := 3) dX8_group_3 (by decide) ?_
  refine k_VI3 (pc := 6) c_X8_isIn lk_X8_137 ⟨Nat.le_of_ble_eq_true rfl, Nat.le_of_ble_eq_true rfl⟩ ⟨rfl, rfl⟩ ⟨Nat.le_of_ble_eq_true rfl, Nat.le_of_ble_eq_true rfl⟩ (k := 8) rfl (by decide) (by assumption) dX8_group_6 (Nat.le_of_ble_eq_true rfl) ?_
  refine ⟨_, _, _, _, rfl, by omega, by omega, by omega, ?_⟩
  refine r_ifeq_b (pc := 9) (tgt := 26) dX8_group_9 (by decide) (fun c_9 => ?_) (fun c_9 => ?_)
  · refine r_iconst (pc := 26) dX8_group_26 ?_
    refine r_iret (pc := 27) hret dX8_group_27 rfl rfl rfl ?_
    first | exact hB (by omega) | exact hQ (by omega)
  · refine r_sipush (pc := 12) dX8_group_12 (by decide) ?_
    refine r_iload_1 (pc := 15) dX8_group_15 ?_
    refine r_imul (pc := 16) dX8_group_16 ?_
    refine r_ldc (pc := 17) (v := 65521) (z := 65521) dX8_group_17 (w_cI 1150 (by decide +kernel)) (by decide) ?_
    refine r_irem (pc := 19) dX8_group_19 (by omega) (by omega) ?_
    refine r_bipush (pc := 20) dX8_group_20 (by decide) ?_
    refine r_irem (pc := 22) dX8_group_22 (by omega) (by omega) ?_
    refine r_goto (pc := 23) (tgt := 27) dX8_group_23 (by decide) ?_
    refine r_iret (pc := 27) hret dX8_group_27 rfl rfl rfl ?_
    first | exact hB (by omega) | exact hQ (by omega)

theorem dX8_draw_0 : decode cX8_draw 0 = .ok (.iload_n 1, 1) := by decide +kernel
theorem dX8_draw_1 : decode cX8_draw 1 = .ok (.invokestatic 183, 3) := by decide +kernel
theorem dX8_draw_4 : decode cX8_draw 4 = .ok (.ifCond .eq 31, 3) := by decide +kernel
theorem dX8_draw_7 : decode cX8_draw 7 = .ok (.aload_n 0, 1) := by decide +kernel
theorem dX8_draw_8 : decode cX8_draw 8 = .ok (.iload_n 2, 1) := by decide +kernel
theorem dX8_draw_9 : decode cX8_draw 9 = .ok (.invokevirtual 154, 3) := by decide +kernel
theorem dX8_draw_12 : decode cX8_draw 12 = .ok (.ifCond .eq 23, 3) := by decide +kernel
theorem dX8_draw_15 : decode cX8_draw 15 = .ok (.aload_n 0, 1) := by decide +kernel
theorem dX8_draw_16 : decode cX8_draw 16 = .ok (.iload_n 3, 1) := by decide +kernel
theorem dX8_draw_17 : decode cX8_draw 17 = .ok (.iconst 0, 1) := by decide +kernel
theorem dX8_draw_18 : decode cX8_draw 18 = .ok (.bipush 99, 2) := by decide +kernel
theorem dX8_draw_20 : decode cX8_draw 20 = .ok (.invokevirtual 137, 3) := by decide +kernel
theorem dX8_draw_23 : decode cX8_draw 23 = .ok (.ifCond .eq 12, 3) := by decide +kernel
theorem dX8_draw_26 : decode cX8_draw 26 = .ok (.iload_n 1, 1) := by decide +kernel
theorem dX8_draw_27 : decode cX8_draw 27 = .ok (.iload_n 2, 1) := by decide +kernel
theorem dX8_draw_28 : decode cX8_draw 28 = .ok (.iload_n 3, 1) := by decide +kernel
theorem dX8_draw_29 : decode cX8_draw 29 = .ok (.invokestatic 70, 3) := by decide +kernel
theorem dX8_draw_32 : decode cX8_draw 32 = .ok (.goto 4, 3) := by decide +kernel
theorem dX8_draw_35 : decode cX8_draw 35 = .ok (.iconst (-1), 1) := by decide +kernel
theorem dX8_draw_36 : decode cX8_draw 36 = .ok (.ireturn, 1) := by decide +kernel
set_option maxHeartbeats 4000000 in
set_option maxRecDepth 20000 in
theorem c_X8_draw : ConI mX8_draw (fun args N lay r h Q => ∃ (b : Nat) (mp : Int → Int) (g n t : Int), args = [.ref b, vI g, vI n, vI t] ∧ MdAt lay r b ∧ h (b + 2) = mp ∧ TrM mp ∧ RlM mp ∧ (-2147483648 ≤ g ∧ g < 2147483648) ∧ (-2147483648 ≤ n ∧ n < 2147483648) ∧ (-2147483648 ≤ t ∧ t < 2147483648) ∧ (¬ ((0 ≤ g ∧ g < 16) ∧ isNd mp n ∧ (0 ≤ t ∧ t ≤ 99)) → Q (-1) N lay r h) ∧ (((0 ≤ g ∧ g < 16) ∧ isNd mp n ∧ (0 ≤ t ∧ t ≤ 99)) → Q (dr g n t) N lay r h)) := by
  refine ConI.of (by decide) (by rintro _ N lay r h Q ⟨b, mp, g, n, t, rfl, hM, hmp, hT, hR, hg, hn, ht, hB, hQ⟩; exact ⟨rfl, Nat.le_of_ble_eq_true rfl⟩) ?_
  rintro E _ N lay r h Q ⟨b, mp, g, n, t, rfl, hM, hmp, hT, hR, hg, hn, ht, hB, hQ⟩ hret
  obtain ⟨ml0, ml1, ml2, ml3, ml4, ml5, ml6, ml7, ml8, ml9, ml10, ml11, ml12, ml13, ml14, ml15, ml16, ml17, ml18, ml19, ml20, mr1, mr2, mr3, mr4, mr5, mr6, mr7, mr8, mr9, mr10, mr11, mr12, mr13, mr14, mr15, mr16, mr17, mr18, mr19, mr20⟩ := id hM
  obtain ⟨t1, t2, t3, t4, t5, t6, t7⟩ := id hT
  obtain ⟨r1, r2, r3, r4, r5, r6, r7⟩ := id hR
  show St E mX8_draw 0 [some (.ref b), some (vI g), some (vI n), some (vI t)] [] (0, 0) N lay r h
  refine r_iload_1 (pc := 0) dX8_draw_0 ?_
  refine k_SI1 (pc := 1) c_X8_isGroup lk_X8_183 ⟨Nat.le_of_ble_eq_true rfl, Nat.le_of_ble_eq_true rfl⟩ ⟨rfl, rfl⟩ ⟨Nat.le_of_ble_eq_true rfl, Nat.le_of_ble_eq_true rfl⟩ dX8_draw_1 (Nat.le_of_ble_eq_true rfl) ?_
  refine ⟨_, rfl, by omega, ?_⟩
  refine r_ifeq_b (pc := 4) (tgt := 35) dX8_draw_4 (by decide) (fun c_4 => ?_) (fun c_4 => ?_)
  · refine r_iconst (pc := 35) dX8_draw_35 ?_
    refine r_iret (pc := 36) hret dX8_draw_36 rfl rfl rfl ?_
    first | exact hB (fun z => c_4 z.1) | exact hB (fun z => c_12 z.2.1) | exact hB (fun z => c_23 z.2.2) | exact hQ ⟨c_4, c_12, c_23⟩
  · refine r_aload_0 (pc := 7) dX8_draw_7 ?_
    refine r_iload_2 (pc := 8) dX8_draw_8 ?_
    refine k_VI1 (pc := 9) c_X8_isNode lk_X8_154 ⟨Nat.le_of_ble_eq_true rfl, Nat.le_of_ble_eq_true rfl⟩ ⟨rfl, rfl⟩ ⟨Nat.le_of_ble_eq_true rfl, Nat.le_of_ble_eq_true rfl⟩ (k := 8) rfl (by decide) (by assumption) dX8_draw_9 (Nat.le_of_ble_eq_true rfl) ?_
    refine ⟨_, _, _, rfl, by assumption, by first | assumption | exact rfl, by omega, by assumption, ?_⟩
    refine r_ifeq_b (pc := 12) (tgt := 35) dX8_draw_12 (by decide) (fun c_12 => ?_) (fun c_12 => ?_)
    · refine r_iconst (pc := 35) dX8_draw_35 ?_
      refine r_iret (pc := 36) hret dX8_draw_36 rfl rfl rfl ?_
      first | exact hB (fun z => c_4 z.1) | exact hB (fun z => c_12 z.2.1) | exact hB (fun z => c_23 z.2.2) | exact hQ ⟨c_4, c_12, c_23⟩
    · refine r_aload_0 (pc := 15) dX8_draw_15 ?_
      refine r_iload_3 (pc := 16) dX8_draw_16 ?_
      refine r_iconst (pc := 17) dX8_draw_17 ?_
      refine r_bipush (pc := 18) dX8_draw_18 (by decide) ?_
      refine k_VI3 (pc := 20) c_X8_isIn lk_X8_137 ⟨Nat.le_of_ble_eq_true rfl, Nat.le_of_ble_eq_true rfl⟩ ⟨rfl, rfl⟩ ⟨Nat.le_of_ble_eq_true rfl, Nat.le_of_ble_eq_true rfl⟩ (k := 8) rfl (by decide) (by assumption) dX8_draw_20 (Nat.le_of_ble_eq_true rfl) ?_
      refine ⟨_, _, _, _, rfl, by omega, by omega, by omega, ?_⟩
      refine r_ifeq_b (pc := 23) (tgt := 35) dX8_draw_23 (by decide) (fun c_23 => ?_) (fun c_23 => ?_)
      · refine r_iconst (pc := 35) dX8_draw_35 ?_
        refine r_iret (pc := 36) hret dX8_draw_36 rfl rfl rfl ?_
        first | exact hB (fun z => c_4 z.1) | exact hB (fun z => c_12 z.2.1) | exact hB (fun z => c_23 z.2.2) | exact hQ ⟨c_4, c_12, c_23⟩
      · refine r_iload_1 (pc := 26) dX8_draw_26 ?_
        refine r_iload_2 (pc := 27) dX8_draw_27 ?_
        refine r_iload_3 (pc := 28) dX8_draw_28 ?_
        refine k_SI3 (pc := 29) c_X8_drawn lk_X8_70 ⟨Nat.le_of_ble_eq_true rfl, Nat.le_of_ble_eq_true rfl⟩ ⟨rfl, rfl⟩ ⟨Nat.le_of_ble_eq_true rfl, Nat.le_of_ble_eq_true rfl⟩ dX8_draw_29 (Nat.le_of_ble_eq_true rfl) ?_
        refine ⟨_, _, _, rfl, by omega, by omega, by omega, ?_⟩
        refine r_goto (pc := 32) (tgt := 36) dX8_draw_32 (by decide) ?_
        refine r_iret (pc := 36) hret dX8_draw_36 rfl rfl rfl ?_
        first | exact hB (fun z => c_4 z.1) | exact hB (fun z => c_12 z.2.1) | exact hB (fun z => c_23 z.2.2) | exact hQ ⟨c_4, c_12, c_23⟩

theorem dX8_want_0 : decode cX8_want 0 = .ok (.aload_n 0, 1) := by decide +kernel
theorem dX8_want_1 : decode cX8_want 1 = .ok (.iload_n 1, 1) := by decide +kernel
theorem dX8_want_2 : decode cX8_want 2 = .ok (.iconst 1, 1) := by decide +kernel
theorem dX8_want_3 : decode cX8_want 3 = .ok (.ldc 182, 2) := by decide +kernel
theorem dX8_want_5 : decode cX8_want 5 = .ok (.invokevirtual 137, 3) := by decide +kernel
theorem dX8_want_8 : decode cX8_want 8 = .ok (.ifCond .eq 10, 3) := by decide +kernel
theorem dX8_want_11 : decode cX8_want 11 = .ok (.iload_n 1, 1) := by decide +kernel
theorem dX8_want_12 : decode cX8_want 12 = .ok (.invokestatic 74, 3) := by decide +kernel
theorem dX8_want_15 : decode cX8_want 15 = .ok (.goto 4, 3) := by decide +kernel
theorem dX8_want_18 : decode cX8_want 18 = .ok (.iconst (-1), 1) := by decide +kernel
theorem dX8_want_19 : decode cX8_want 19 = .ok (.ireturn, 1) := by decide +kernel
set_option maxHeartbeats 4000000 in
set_option maxRecDepth 20000 in
theorem c_X8_want : ConI mX8_want (fun args N lay r h Q => ∃ (b : Nat) (mp : Int → Int) (u : Int), args = [.ref b, vI u] ∧ MdAt lay r b ∧ h (b + 2) = mp ∧ TrM mp ∧ RlM mp ∧ (-2147483648 ≤ u ∧ u < 2147483648) ∧ (¬ (1 ≤ u ∧ u ≤ 65521) → Q (-1) N lay r h) ∧ ((1 ≤ u ∧ u ≤ 65521) → Q (wn u) N lay r h)) := by
  refine ConI.of (by decide) (by rintro _ N lay r h Q ⟨b, mp, u, rfl, hM, hmp, hT, hR, hu, hB, hQ⟩; exact ⟨rfl, Nat.le_of_ble_eq_true rfl⟩) ?_
  rintro E _ N lay r h Q ⟨b, mp, u, rfl, hM, hmp, hT, hR, hu, hB, hQ⟩ hret
  obtain ⟨ml0, ml1, ml2, ml3, ml4, ml5, ml6, ml7, ml8, ml9, ml10, ml11, ml12, ml13, ml14, ml15, ml16, ml17, ml18, ml19, ml20, mr1, mr2, mr3, mr4, mr5, mr6, mr7, mr8, mr9, mr10, mr11, mr12, mr13, mr14, mr15, mr16, mr17, mr18, mr19, mr20⟩ := id hM
  obtain ⟨t1, t2, t3, t4, t5, t6, t7⟩ := id hT
  obtain ⟨r1, r2, r3, r4, r5, r6, r7⟩ := id hR
  show St E mX8_want 0 [some (.ref b), some (vI u)] [] (0, 0) N lay r h
  refine r_aload_0 (pc := 0) dX8_want_0 ?_
  refine r_iload_1 (pc := 1) dX8_want_1 ?_
  refine r_iconst (pc := 2) dX8_want_2 ?_
  refine r_ldc (pc := 3) (v := 65521) (z := 65521) dX8_want_3 (w_cI 1150 (by decide +kernel)) (by decide) ?_
  refine k_VI3 (pc := 5) c_X8_isIn lk_X8_137 ⟨Nat.le_of_ble_eq_true rfl, Nat.le_of_ble_eq_true rfl⟩ ⟨rfl, rfl⟩ ⟨Nat.le_of_ble_eq_true rfl, Nat.le_of_ble_eq_true rfl⟩ (k := 8) rfl (by decide) (by assumption) dX8_want_5 (Nat.le_of_ble_eq_true rfl) ?_
  refine ⟨_, _, _, _, rfl, by omega, by omega, by omega, ?_⟩
  refine r_ifeq_b (pc := 8) (tgt := 18) dX8_want_8 (by decide) (fun c_8 => ?_) (fun c_8 => ?_)
  · refine r_iconst (pc := 18) dX8_want_18 ?_
    refine r_iret (pc := 19) hret dX8_want_19 rfl rfl rfl ?_
    first | exact hB (by omega) | exact hQ (by omega)
  · refine r_iload_1 (pc := 11) dX8_want_11 ?_
    refine k_SI1 (pc := 12) c_X8_wanted lk_X8_74 ⟨Nat.le_of_ble_eq_true rfl, Nat.le_of_ble_eq_true rfl⟩ ⟨rfl, rfl⟩ ⟨Nat.le_of_ble_eq_true rfl, Nat.le_of_ble_eq_true rfl⟩ dX8_want_12 (Nat.le_of_ble_eq_true rfl) ?_
    refine ⟨_, rfl, by omega, ?_⟩
    refine r_goto (pc := 15) (tgt := 19) dX8_want_15 (by decide) ?_
    refine r_iret (pc := 19) hret dX8_want_19 rfl rfl rfl ?_
    first | exact hB (by omega) | exact hQ (by omega)

theorem dX8_place_0 : decode cX8_place 0 = .ok (.iload_n 1, 1) := by decide +kernel
theorem dX8_place_1 : decode cX8_place 1 = .ok (.invokestatic 183, 3) := by decide +kernel
theorem dX8_place_4 : decode cX8_place 4 = .ok (.ifCond .eq 26, 3) := by decide +kernel
theorem dX8_place_7 : decode cX8_place 7 = .ok (.aload_n 0, 1) := by decide +kernel
theorem dX8_place_8 : decode cX8_place 8 = .ok (.iload_n 2, 1) := by decide +kernel
theorem dX8_place_9 : decode cX8_place 9 = .ok (.iconst 0, 1) := by decide +kernel
theorem dX8_place_10 : decode cX8_place 10 = .ok (.iconst 3, 1) := by decide +kernel
theorem dX8_place_11 : decode cX8_place 11 = .ok (.invokevirtual 137, 3) := by decide +kernel
theorem dX8_place_14 : decode cX8_place 14 = .ok (.ifCond .eq 16, 3) := by decide +kernel
theorem dX8_place_17 : decode cX8_place 17 = .ok (.aload_n 0, 1) := by decide +kernel
theorem dX8_place_18 : decode cX8_place 18 = .ok (.getfield 43, 3) := by decide +kernel
theorem dX8_place_21 : decode cX8_place 21 = .ok (.iconst 4, 1) := by decide +kernel
theorem dX8_place_22 : decode cX8_place 22 = .ok (.iload_n 1, 1) := by decide +kernel
theorem dX8_place_23 : decode cX8_place 23 = .ok (.imul, 1) := by decide +kernel
theorem dX8_place_24 : decode cX8_place 24 = .ok (.iload_n 2, 1) := by decide +kernel
theorem dX8_place_25 : decode cX8_place 25 = .ok (.iadd, 1) := by decide +kernel
theorem dX8_place_26 : decode cX8_place 26 = .ok (.iaload, 1) := by decide +kernel
theorem dX8_place_27 : decode cX8_place 27 = .ok (.goto 4, 3) := by decide +kernel
theorem dX8_place_30 : decode cX8_place 30 = .ok (.iconst (-1), 1) := by decide +kernel
theorem dX8_place_31 : decode cX8_place 31 = .ok (.ireturn, 1) := by decide +kernel
set_option maxHeartbeats 4000000 in
set_option maxRecDepth 20000 in
theorem c_X8_place : ConI mX8_place (fun args N lay r h Q => ∃ (b : Nat) (mp : Int → Int) (g c : Int), args = [.ref b, vI g, vI c] ∧ MdAt lay r b ∧ h (b + 2) = mp ∧ TrM mp ∧ RlM mp ∧ (-2147483648 ≤ g ∧ g < 2147483648) ∧ (-2147483648 ≤ c ∧ c < 2147483648) ∧ (¬ ((0 ≤ g ∧ g < 16) ∧ (0 ≤ c ∧ c ≤ 3)) → Q (-1) N lay r h) ∧ (((0 ≤ g ∧ g < 16) ∧ (0 ≤ c ∧ c ≤ 3)) → Q (h (b + 12) (4 * g + c)) N lay r h)) := by
  refine ConI.of (by decide) (by rintro _ N lay r h Q ⟨b, mp, g, c, rfl, hM, hmp, hT, hR, hg, hc, hB, hQ⟩; exact ⟨rfl, Nat.le_of_ble_eq_true rfl⟩) ?_
  rintro E _ N lay r h Q ⟨b, mp, g, c, rfl, hM, hmp, hT, hR, hg, hc, hB, hQ⟩ hret
  obtain ⟨ml0, ml1, ml2, ml3, ml4, ml5, ml6, ml7, ml8, ml9, ml10, ml11, ml12, ml13, ml14, ml15, ml16, ml17, ml18, ml19, ml20, mr1, mr2, mr3, mr4, mr5, mr6, mr7, mr8, mr9, mr10, mr11, mr12, mr13, mr14, mr15, mr16, mr17, mr18, mr19, mr20⟩ := id hM
  obtain ⟨t1, t2, t3, t4, t5, t6, t7⟩ := id hT
  obtain ⟨r1, r2, r3, r4, r5, r6, r7⟩ := id hR
  show St E mX8_place 0 [some (.ref b), some (vI g), some (vI c)] [] (0, 0) N lay r h
  refine r_iload_1 (pc := 0) dX8_place_0 ?_
  refine k_SI1 (pc := 1) c_X8_isGroup lk_X8_183 ⟨Nat.le_of_ble_eq_true rfl, Nat.le_of_ble_eq_true rfl⟩ ⟨rfl, rfl⟩ ⟨Nat.le_of_ble_eq_true rfl, Nat.le_of_ble_eq_true rfl⟩ dX8_place_1 (Nat.le_of_ble_eq_true rfl) ?_
  refine ⟨_, rfl, by omega, ?_⟩
  refine r_ifeq_b (pc := 4) (tgt := 30) dX8_place_4 (by decide) (fun c_4 => ?_) (fun c_4 => ?_)
  · refine r_iconst (pc := 30) dX8_place_30 ?_
    refine r_iret (pc := 31) hret dX8_place_31 rfl rfl rfl ?_
    first | exact hB (by omega) | exact hQ (by omega)
  · refine r_aload_0 (pc := 7) dX8_place_7 ?_
    refine r_iload_2 (pc := 8) dX8_place_8 ?_
    refine r_iconst (pc := 9) dX8_place_9 ?_
    refine r_iconst (pc := 10) dX8_place_10 ?_
    refine k_VI3 (pc := 11) c_X8_isIn lk_X8_137 ⟨Nat.le_of_ble_eq_true rfl, Nat.le_of_ble_eq_true rfl⟩ ⟨rfl, rfl⟩ ⟨Nat.le_of_ble_eq_true rfl, Nat.le_of_ble_eq_true rfl⟩ (k := 8) rfl (by decide) (by assumption) dX8_place_11 (Nat.le_of_ble_eq_true rfl) ?_
    refine ⟨_, _, _, _, rfl, by omega, by omega, by omega, ?_⟩
    refine r_ifeq_b (pc := 14) (tgt := 30) dX8_place_14 (by decide) (fun c_14 => ?_) (fun c_14 => ?_)
    · refine r_iconst (pc := 30) dX8_place_30 ?_
      refine r_iret (pc := 31) hret dX8_place_31 rfl rfl rfl ?_
      first | exact hB (by omega) | exact hQ (by omega)
    · refine r_aload_0 (pc := 17) dX8_place_17 ?_
      refine gf_X8_43 (pc := 18) rfl (by assumption) dX8_place_18 (by assumption) ?_
      refine r_iconst (pc := 21) dX8_place_21 ?_
      refine r_iload_1 (pc := 22) dX8_place_22 ?_
      refine r_imul (pc := 23) dX8_place_23 ?_
      refine r_iload_2 (pc := 24) dX8_place_24 ?_
      refine r_iadd (pc := 25) dX8_place_25 ?_
      refine r_ialdE (pc := 26) (by assumption) (by first | assumption | exact rfl) dX8_place_26 (by omega) (by omega) (fun i_26 => ?_)
      refine r_goto (pc := 27) (tgt := 31) dX8_place_27 (by decide) ?_
      refine r_iret (pc := 31) hret dX8_place_31 rfl rfl rfl ?_
      first | exact hB (by omega) | exact hQ (by omega)

theorem dX8_spread_0 : decode cX8_spread 0 = .ok (.aload_n 0, 1) := by decide +kernel
theorem dX8_spread_1 : decode cX8_spread 1 = .ok (.aload_n 0, 1) := by decide +kernel
theorem dX8_spread_2 : decode cX8_spread 2 = .ok (.getfield 43, 3) := by decide +kernel
theorem dX8_spread_5 : decode cX8_spread 5 = .ok (.invokevirtual 219, 3) := by decide +kernel
theorem dX8_spread_8 : decode cX8_spread 8 = .ok (.ireturn, 1) := by decide +kernel
set_option maxHeartbeats 4000000 in
set_option maxRecDepth 20000 in
theorem c_X8_spread : ConI mX8_spread (fun args N lay r h Q => ∃ (b : Nat) (mp : Int → Int) , args = [.ref b] ∧ MdAt lay r b ∧ h (b + 2) = mp ∧ TrM mp ∧ RlM mp ∧ (Q (spr mp (h (b + 12))) N lay r h)) := by
  refine ConI.of (by decide) (by rintro _ N lay r h Q ⟨b, mp, rfl, hM, hmp, hT, hR, hQ⟩; exact ⟨rfl, Nat.le_of_ble_eq_true rfl⟩) ?_
  rintro E _ N lay r h Q ⟨b, mp, rfl, hM, hmp, hT, hR, hQ⟩ hret
  obtain ⟨ml0, ml1, ml2, ml3, ml4, ml5, ml6, ml7, ml8, ml9, ml10, ml11, ml12, ml13, ml14, ml15, ml16, ml17, ml18, ml19, ml20, mr1, mr2, mr3, mr4, mr5, mr6, mr7, mr8, mr9, mr10, mr11, mr12, mr13, mr14, mr15, mr16, mr17, mr18, mr19, mr20⟩ := id hM
  obtain ⟨t1, t2, t3, t4, t5, t6, t7⟩ := id hT
  obtain ⟨r1, r2, r3, r4, r5, r6, r7⟩ := id hR
  show St E mX8_spread 0 [some (.ref b)] [] (0, 0) N lay r h
  refine r_aload_0 (pc := 0) dX8_spread_0 ?_
  refine r_aload_0 (pc := 1) dX8_spread_1 ?_
  refine gf_X8_43 (pc := 2) rfl (by assumption) dX8_spread_2 (by assumption) ?_
  refine k_VI1 (pc := 5) c_X8_spreadOf lk_X8_219 ⟨Nat.le_of_ble_eq_true rfl, Nat.le_of_ble_eq_true rfl⟩ ⟨rfl, rfl⟩ ⟨Nat.le_of_ble_eq_true rfl, Nat.le_of_ble_eq_true rfl⟩ (k := 8) rfl (by decide) (by assumption) dX8_spread_5 (Nat.le_of_ble_eq_true rfl) ?_
  refine ⟨_, _, _, rfl, by assumption, by first | assumption | exact rfl, by omega, by assumption, ?_⟩
  refine r_iret (pc := 8) hret dX8_spread_8 rfl rfl rfl ?_
  exact hQ

theorem dX8_forget_0 : decode cX8_forget 0 = .ok (.aload_n 0, 1) := by decide +kernel
theorem dX8_forget_1 : decode cX8_forget 1 = .ok (.getfield 131, 3) := by decide +kernel
theorem dX8_forget_4 : decode cX8_forget 4 = .ok (.istore_n 1, 1) := by decide +kernel
theorem dX8_forget_5 : decode cX8_forget 5 = .ok (.aload_n 0, 1) := by decide +kernel
theorem dX8_forget_6 : decode cX8_forget 6 = .ok (.iconst 0, 1) := by decide +kernel
theorem dX8_forget_7 : decode cX8_forget 7 = .ok (.putfield 131, 3) := by decide +kernel
theorem dX8_forget_10 : decode cX8_forget 10 = .ok (.iload_n 1, 1) := by decide +kernel
theorem dX8_forget_11 : decode cX8_forget 11 = .ok (.ireturn, 1) := by decide +kernel
set_option maxHeartbeats 4000000 in
set_option maxRecDepth 20000 in
theorem c_X8_forget : ConI mX8_forget (fun args N lay r h Q => ∃ (b : Nat) (mp : Int → Int) , args = [.ref b] ∧ MdAt lay r b ∧ h (b + 2) = mp ∧ TrM mp ∧ RlM mp ∧ (Q (h b 19) N lay r (hr h b (up (h b) 19 0)))) := by
  refine ConI.of (by decide) (by rintro _ N lay r h Q ⟨b, mp, rfl, hM, hmp, hT, hR, hQ⟩; exact ⟨rfl, Nat.le_of_ble_eq_true rfl⟩) ?_
  rintro E _ N lay r h Q ⟨b, mp, rfl, hM, hmp, hT, hR, hQ⟩ hret
  obtain ⟨ml0, ml1, ml2, ml3, ml4, ml5, ml6, ml7, ml8, ml9, ml10, ml11, ml12, ml13, ml14, ml15, ml16, ml17, ml18, ml19, ml20, mr1, mr2, mr3, mr4, mr5, mr6, mr7, mr8, mr9, mr10, mr11, mr12, mr13, mr14, mr15, mr16, mr17, mr18, mr19, mr20⟩ := id hM
  obtain ⟨t1, t2, t3, t4, t5, t6, t7⟩ := id hT
  obtain ⟨r1, r2, r3, r4, r5, r6, r7⟩ := id hR
  show St E mX8_forget 0 [some (.ref b), none] [] (0, 0) N lay r h
  refine r_aload_0 (pc := 0) dX8_forget_0 ?_
  refine gf_X8_131 (pc := 1) rfl (by assumption) dX8_forget_1 (fun i_1 => ?_)
  refine r_istore_1 (pc := 4) dX8_forget_4 rfl ?_
  refine r_aload_0 (pc := 5) dX8_forget_5 ?_
  refine r_iconst (pc := 6) dX8_forget_6 ?_
  refine pf_X8_131 (pc := 7) rfl (by assumption) dX8_forget_7 (by omega) ?_
  refine r_iload_1 (pc := 10) dX8_forget_10 ?_
  refine r_iret (pc := 11) hret dX8_forget_11 rfl rfl rfl ?_
  exact hQ

theorem dX8_wipe_0 : decode cX8_wipe 0 = .ok (.aload_n 0, 1) := by decide +kernel
theorem dX8_wipe_1 : decode cX8_wipe 1 = .ok (.getfield 85, 3) := by decide +kernel
theorem dX8_wipe_4 : decode cX8_wipe 4 = .ok (.istore_n 1, 1) := by decide +kernel
theorem dX8_wipe_5 : decode cX8_wipe 5 = .ok (.aload_n 0, 1) := by decide +kernel
theorem dX8_wipe_6 : decode cX8_wipe 6 = .ok (.iconst 0, 1) := by decide +kernel
theorem dX8_wipe_7 : decode cX8_wipe 7 = .ok (.putfield 85, 3) := by decide +kernel
theorem dX8_wipe_10 : decode cX8_wipe 10 = .ok (.iload_n 1, 1) := by decide +kernel
theorem dX8_wipe_11 : decode cX8_wipe 11 = .ok (.ireturn, 1) := by decide +kernel
set_option maxHeartbeats 4000000 in
set_option maxRecDepth 20000 in
theorem c_X8_wipe : ConI mX8_wipe (fun args N lay r h Q => ∃ (b : Nat) (mp : Int → Int) , args = [.ref b] ∧ MdAt lay r b ∧ h (b + 2) = mp ∧ TrM mp ∧ RlM mp ∧ (Q (h b 0) N lay r (hr h b (up (h b) 0 0)))) := by
  refine ConI.of (by decide) (by rintro _ N lay r h Q ⟨b, mp, rfl, hM, hmp, hT, hR, hQ⟩; exact ⟨rfl, Nat.le_of_ble_eq_true rfl⟩) ?_
  rintro E _ N lay r h Q ⟨b, mp, rfl, hM, hmp, hT, hR, hQ⟩ hret
  obtain ⟨ml0, ml1, ml2, ml3, ml4, ml5, ml6, ml7, ml8, ml9, ml10, ml11, ml12, ml13, ml14, ml15, ml16, ml17, ml18, ml19, ml20, mr1, mr2, mr3, mr4, mr5, mr6, mr7, mr8, mr9, mr10, mr11, mr12, mr13, mr14, mr15, mr16, mr17, mr18, mr19, mr20⟩ := id hM
  obtain ⟨t1, t2, t3, t4, t5, t6, t7⟩ := id hT
  obtain ⟨r1, r2, r3, r4, r5, r6, r7⟩ := id hR
  show St E mX8_wipe 0 [some (.ref b), none] [] (0, 0) N lay r h
  refine r_aload_0 (pc := 0) dX8_wipe_0 ?_
  refine gf_X8_85 (pc := 1) rfl (by assumption) dX8_wipe_1 (fun i_1 => ?_)
  refine r_istore_1 (pc := 4) dX8_wipe_4 rfl ?_
  refine r_aload_0 (pc := 5) dX8_wipe_5 ?_
  refine r_iconst (pc := 6) dX8_wipe_6 ?_
  refine pf_X8_85 (pc := 7) rfl (by assumption) dX8_wipe_7 (by omega) ?_
  refine r_iload_1 (pc := 10) dX8_wipe_10 ?_
  refine r_iret (pc := 11) hret dX8_wipe_11 rfl rfl rfl ?_
  exact hQ

theorem dX8_tick_0 : decode cX8_tick 0 = .ok (.aload_n 0, 1) := by decide +kernel
theorem dX8_tick_1 : decode cX8_tick 1 = .ok (.iload_n 1, 1) := by decide +kernel
theorem dX8_tick_2 : decode cX8_tick 2 = .ok (.iconst 1, 1) := by decide +kernel
theorem dX8_tick_3 : decode cX8_tick 3 = .ok (.bipush 8, 2) := by decide +kernel
theorem dX8_tick_5 : decode cX8_tick 5 = .ok (.invokevirtual 137, 3) := by decide +kernel
theorem dX8_tick_8 : decode cX8_tick 8 = .ok (.ifCond .eq 11, 3) := by decide +kernel
theorem dX8_tick_11 : decode cX8_tick 11 = .ok (.aload_n 0, 1) := by decide +kernel
theorem dX8_tick_12 : decode cX8_tick 12 = .ok (.iload_n 1, 1) := by decide +kernel
theorem dX8_tick_13 : decode cX8_tick 13 = .ok (.invokevirtual 251, 3) := by decide +kernel
theorem dX8_tick_16 : decode cX8_tick 16 = .ok (.goto 4, 3) := by decide +kernel
theorem dX8_tick_19 : decode cX8_tick 19 = .ok (.iconst (-1), 1) := by decide +kernel
theorem dX8_tick_20 : decode cX8_tick 20 = .ok (.ireturn, 1) := by decide +kernel
set_option maxHeartbeats 4000000 in
set_option maxRecDepth 20000 in
theorem c_X8_tick : ConI mX8_tick (fun args N lay r h Q => ∃ (b : Nat) (mp : Int → Int) (m : Int), args = [.ref b, vI m] ∧ MdAt lay r b ∧ h (b + 2) = mp ∧ TrM mp ∧ RlM mp ∧ (-2147483648 ≤ m ∧ m < 2147483648) ∧ (¬ (1 ≤ m ∧ m ≤ 8) → Q (-1) N lay r h) ∧ ((1 ≤ m ∧ m ≤ 8) → Q (tix (h (b + 12)) (h b 17) (h (b + 15)) (h (b + 14)) m.toNat).2 N lay r (hr h (b + 14) (tix (h (b + 12)) (h b 17) (h (b + 15)) (h (b + 14)) m.toNat).1))) := by
  refine ConI.of (by decide) (by rintro _ N lay r h Q ⟨b, mp, m, rfl, hM, hmp, hT, hR, hm, hB, hQ⟩; exact ⟨rfl, Nat.le_of_ble_eq_true rfl⟩) ?_
  rintro E _ N lay r h Q ⟨b, mp, m, rfl, hM, hmp, hT, hR, hm, hB, hQ⟩ hret
  obtain ⟨ml0, ml1, ml2, ml3, ml4, ml5, ml6, ml7, ml8, ml9, ml10, ml11, ml12, ml13, ml14, ml15, ml16, ml17, ml18, ml19, ml20, mr1, mr2, mr3, mr4, mr5, mr6, mr7, mr8, mr9, mr10, mr11, mr12, mr13, mr14, mr15, mr16, mr17, mr18, mr19, mr20⟩ := id hM
  obtain ⟨t1, t2, t3, t4, t5, t6, t7⟩ := id hT
  obtain ⟨r1, r2, r3, r4, r5, r6, r7⟩ := id hR
  show St E mX8_tick 0 [some (.ref b), some (vI m)] [] (0, 0) N lay r h
  refine r_aload_0 (pc := 0) dX8_tick_0 ?_
  refine r_iload_1 (pc := 1) dX8_tick_1 ?_
  refine r_iconst (pc := 2) dX8_tick_2 ?_
  refine r_bipush (pc := 3) dX8_tick_3 (by decide) ?_
  refine k_VI3 (pc := 5) c_X8_isIn lk_X8_137 ⟨Nat.le_of_ble_eq_true rfl, Nat.le_of_ble_eq_true rfl⟩ ⟨rfl, rfl⟩ ⟨Nat.le_of_ble_eq_true rfl, Nat.le_of_ble_eq_true rfl⟩ (k := 8) rfl (by decide) (by assumption) dX8_tick_5 (Nat.le_of_ble_eq_true rfl) ?_
  refine ⟨_, _, _, _, rfl, by omega, by omega, by omega, ?_⟩
  refine r_ifeq_b (pc := 8) (tgt := 19) dX8_tick_8 (by decide) (fun c_8 => ?_) (fun c_8 => ?_)
  · refine r_iconst (pc := 19) dX8_tick_19 ?_
    refine r_iret (pc := 20) hret dX8_tick_20 rfl rfl rfl ?_
    first | exact hB (by omega) | exact hQ (by omega)
  · refine r_aload_0 (pc := 11) dX8_tick_11 ?_
    refine r_iload_1 (pc := 12) dX8_tick_12 ?_
    refine k_VI1 (pc := 13) c_X8_ticks lk_X8_251 ⟨Nat.le_of_ble_eq_true rfl, Nat.le_of_ble_eq_true rfl⟩ ⟨rfl, rfl⟩ ⟨Nat.le_of_ble_eq_true rfl, Nat.le_of_ble_eq_true rfl⟩ (k := 8) rfl (by decide) (by assumption) dX8_tick_13 (Nat.le_of_ble_eq_true rfl) ?_
    refine ⟨_, _, rfl, by assumption, by omega, ?_⟩
    refine r_goto (pc := 16) (tgt := 20) dX8_tick_16 (by decide) ?_
    refine r_iret (pc := 20) hret dX8_tick_20 rfl rfl rfl ?_
    first | exact hB (by omega) | exact hQ (by omega)

theorem dX8_fail_0 : decode cX8_fail 0 = .ok (.aload_n 0, 1) := by decide +kernel
theorem dX8_fail_1 : decode cX8_fail 1 = .ok (.iload_n 1, 1) := by decide +kernel
theorem dX8_fail_2 : decode cX8_fail 2 = .ok (.invokevirtual 147, 3) := by decide +kernel
theorem dX8_fail_5 : decode cX8_fail 5 = .ok (.ifCond .eq 11, 3) := by decide +kernel
theorem dX8_fail_8 : decode cX8_fail 8 = .ok (.aload_n 0, 1) := by decide +kernel
theorem dX8_fail_9 : decode cX8_fail 9 = .ok (.iload_n 1, 1) := by decide +kernel
theorem dX8_fail_10 : decode cX8_fail 10 = .ok (.invokevirtual 254, 3) := by decide +kernel
theorem dX8_fail_13 : decode cX8_fail 13 = .ok (.goto 4, 3) := by decide +kernel
theorem dX8_fail_16 : decode cX8_fail 16 = .ok (.iconst (-1), 1) := by decide +kernel
theorem dX8_fail_17 : decode cX8_fail 17 = .ok (.ireturn, 1) := by decide +kernel
set_option maxHeartbeats 4000000 in
set_option maxRecDepth 20000 in
theorem c_X8_fail : ConI mX8_fail (fun args N lay r h Q => ∃ (b : Nat) (mp : Int → Int) (d : Int), args = [.ref b, vI d] ∧ MdAt lay r b ∧ h (b + 2) = mp ∧ TrM mp ∧ RlM mp ∧ (-2147483648 ≤ d ∧ d < 2147483648) ∧ (¬ (10 ≤ d ∧ d ≤ 9 + mp 130) → Q (-1) N lay r h) ∧ ((10 ≤ d ∧ d ≤ 9 + mp 130) → Q (sm (fun g => iA (iSr (h (b + 14) g) (d - 10)) 1) 16) N lay r (hr (hr h (b + 14) (flr (h (b + 14)) d 16)) b (up (h b) 17 (iA (h b 17) (iX (iSl 1 (d - 10)) (-1))))))) := by
  refine ConI.of (by decide) (by rintro _ N lay r h Q ⟨b, mp, d, rfl, hM, hmp, hT, hR, hd, hB, hQ⟩; exact ⟨rfl, Nat.le_of_ble_eq_true rfl⟩) ?_
  rintro E _ N lay r h Q ⟨b, mp, d, rfl, hM, hmp, hT, hR, hd, hB, hQ⟩ hret
  obtain ⟨ml0, ml1, ml2, ml3, ml4, ml5, ml6, ml7, ml8, ml9, ml10, ml11, ml12, ml13, ml14, ml15, ml16, ml17, ml18, ml19, ml20, mr1, mr2, mr3, mr4, mr5, mr6, mr7, mr8, mr9, mr10, mr11, mr12, mr13, mr14, mr15, mr16, mr17, mr18, mr19, mr20⟩ := id hM
  obtain ⟨t1, t2, t3, t4, t5, t6, t7⟩ := id hT
  obtain ⟨r1, r2, r3, r4, r5, r6, r7⟩ := id hR
  show St E mX8_fail 0 [some (.ref b), some (vI d)] [] (0, 0) N lay r h
  refine r_aload_0 (pc := 0) dX8_fail_0 ?_
  refine r_iload_1 (pc := 1) dX8_fail_1 ?_
  refine k_VI1 (pc := 2) c_X8_isDisk lk_X8_147 ⟨Nat.le_of_ble_eq_true rfl, Nat.le_of_ble_eq_true rfl⟩ ⟨rfl, rfl⟩ ⟨Nat.le_of_ble_eq_true rfl, Nat.le_of_ble_eq_true rfl⟩ (k := 8) rfl (by decide) (by assumption) dX8_fail_2 (Nat.le_of_ble_eq_true rfl) ?_
  refine ⟨_, _, _, rfl, by assumption, by first | assumption | exact rfl, by omega, by omega, ?_⟩
  refine r_ifeq_b (pc := 5) (tgt := 16) dX8_fail_5 (by decide) (fun c_5 => ?_) (fun c_5 => ?_)
  · refine r_iconst (pc := 16) dX8_fail_16 ?_
    refine r_iret (pc := 17) hret dX8_fail_17 rfl rfl rfl ?_
    first | exact hB (by omega) | exact hQ (by omega)
  · refine r_aload_0 (pc := 8) dX8_fail_8 ?_
    refine r_iload_1 (pc := 9) dX8_fail_9 ?_
    refine k_VI1 (pc := 10) c_X8_fails lk_X8_254 ⟨Nat.le_of_ble_eq_true rfl, Nat.le_of_ble_eq_true rfl⟩ ⟨rfl, rfl⟩ ⟨Nat.le_of_ble_eq_true rfl, Nat.le_of_ble_eq_true rfl⟩ (k := 8) rfl (by decide) (by assumption) dX8_fail_10 (Nat.le_of_ble_eq_true rfl) ?_
    refine ⟨_, _, rfl, by assumption, by omega, ?_⟩
    refine r_goto (pc := 13) (tgt := 17) dX8_fail_13 (by decide) ?_
    refine r_iret (pc := 17) hret dX8_fail_17 rfl rfl rfl ?_
    first | exact hB (by omega) | exact hQ (by omega)

theorem dX8_write_0 : decode cX8_write 0 = .ok (.iload_n 1, 1) := by decide +kernel
theorem dX8_write_1 : decode cX8_write 1 = .ok (.bipush 32, 2) := by decide +kernel
theorem dX8_write_3 : decode cX8_write 3 = .ok (.if_icmp .lt 9, 3) := by decide +kernel
theorem dX8_write_6 : decode cX8_write 6 = .ok (.iload_n 1, 1) := by decide +kernel
theorem dX8_write_7 : decode cX8_write 7 = .ok (.bipush 126, 2) := by decide +kernel
theorem dX8_write_9 : decode cX8_write 9 = .ok (.if_icmp .le 5, 3) := by decide +kernel
theorem dX8_write_12 : decode cX8_write 12 = .ok (.iconst (-1), 1) := by decide +kernel
theorem dX8_write_13 : decode cX8_write 13 = .ok (.ireturn, 1) := by decide +kernel
theorem dX8_write_14 : decode cX8_write 14 = .ok (.aload_n 0, 1) := by decide +kernel
theorem dX8_write_15 : decode cX8_write 15 = .ok (.getfield 85, 3) := by decide +kernel
theorem dX8_write_18 : decode cX8_write 18 = .ok (.sipush 200, 3) := by decide +kernel
theorem dX8_write_21 : decode cX8_write 21 = .ok (.if_icmp .ne 6, 3) := by decide +kernel
theorem dX8_write_24 : decode cX8_write 24 = .ok (.bipush (-3), 2) := by decide +kernel
theorem dX8_write_26 : decode cX8_write 26 = .ok (.ireturn, 1) := by decide +kernel
theorem dX8_write_27 : decode cX8_write 27 = .ok (.aload_n 0, 1) := by decide +kernel
theorem dX8_write_28 : decode cX8_write 28 = .ok (.getfield 7, 3) := by decide +kernel
theorem dX8_write_31 : decode cX8_write 31 = .ok (.aload_n 0, 1) := by decide +kernel
theorem dX8_write_32 : decode cX8_write 32 = .ok (.getfield 85, 3) := by decide +kernel
theorem dX8_write_35 : decode cX8_write 35 = .ok (.iload_n 1, 1) := by decide +kernel
theorem dX8_write_36 : decode cX8_write 36 = .ok (.iastore, 1) := by decide +kernel
theorem dX8_write_37 : decode cX8_write 37 = .ok (.aload_n 0, 1) := by decide +kernel
theorem dX8_write_38 : decode cX8_write 38 = .ok (.dup, 1) := by decide +kernel
theorem dX8_write_39 : decode cX8_write 39 = .ok (.getfield 85, 3) := by decide +kernel
theorem dX8_write_42 : decode cX8_write 42 = .ok (.iconst 1, 1) := by decide +kernel
theorem dX8_write_43 : decode cX8_write 43 = .ok (.iadd, 1) := by decide +kernel
theorem dX8_write_44 : decode cX8_write 44 = .ok (.putfield 85, 3) := by decide +kernel
theorem dX8_write_47 : decode cX8_write 47 = .ok (.aload_n 0, 1) := by decide +kernel
theorem dX8_write_48 : decode cX8_write 48 = .ok (.getfield 85, 3) := by decide +kernel
theorem dX8_write_51 : decode cX8_write 51 = .ok (.ireturn, 1) := by decide +kernel
set_option maxHeartbeats 4000000 in
set_option maxRecDepth 20000 in
theorem c_X8_write : ConI mX8_write (fun args N lay r h Q => ∃ (b : Nat) (mp : Int → Int) (c : Int), args = [.ref b, vI c] ∧ MdAt lay r b ∧ h (b + 2) = mp ∧ TrM mp ∧ RlM mp ∧ (-2147483648 ≤ c ∧ c < 2147483648) ∧ (0 ≤ h b 0 ∧ h b 0 ≤ 200) ∧ (¬ (32 ≤ c ∧ c ≤ 126) → Q (-1) N lay r h) ∧ ((32 ≤ c ∧ c ≤ 126) → (h b 0 = 200 → Q (-3) N lay r h) ∧ (h b 0 ≠ 200 → Q (h b 0 + 1) N lay r (hr (hr h (b + 1) (up (h (b + 1)) (h b 0) c)) b (up (h b) 0 (h b 0 + 1)))))) := by
  refine ConI.of (by decide) (by rintro _ N lay r h Q ⟨b, mp, c, rfl, hM, hmp, hT, hR, hc, hlen, hB, hQ⟩; exact ⟨rfl, Nat.le_of_ble_eq_true rfl⟩) ?_
  rintro E _ N lay r h Q ⟨b, mp, c, rfl, hM, hmp, hT, hR, hc, hlen, hB, hQ⟩ hret
  obtain ⟨ml0, ml1, ml2, ml3, ml4, ml5, ml6, ml7, ml8, ml9, ml10, ml11, ml12, ml13, ml14, ml15, ml16, ml17, ml18, ml19, ml20, mr1, mr2, mr3, mr4, mr5, mr6, mr7, mr8, mr9, mr10, mr11, mr12, mr13, mr14, mr15, mr16, mr17, mr18, mr19, mr20⟩ := id hM
  obtain ⟨t1, t2, t3, t4, t5, t6, t7⟩ := id hT
  obtain ⟨r1, r2, r3, r4, r5, r6, r7⟩ := id hR
  show St E mX8_write 0 [some (.ref b), some (vI c)] [] (0, 0) N lay r h
  refine r_iload_1 (pc := 0) dX8_write_0 ?_
  refine r_bipush (pc := 1) dX8_write_1 (by decide) ?_
  refine r_icmp_lt (pc := 3) (tgt := 12) dX8_write_3 (by decide) (by omega) (by omega) (fun c_3 => ?_) (fun c_3 => ?_)
  · refine r_iconst (pc := 12) dX8_write_12 ?_
    refine r_iret (pc := 13) hret dX8_write_13 rfl rfl rfl ?_
    first | exact hB (by omega) | exact (hQ (by omega)).1 c_21
  · refine r_iload_1 (pc := 6) dX8_write_6 ?_
    refine r_bipush (pc := 7) dX8_write_7 (by decide) ?_
    refine r_icmp_le (pc := 9) (tgt := 14) dX8_write_9 (by decide) (by omega) (by omega) (fun c_9 => ?_) (fun c_9 => ?_)
    · refine r_aload_0 (pc := 14) dX8_write_14 ?_
      refine gf_X8_85 (pc := 15) rfl (by assumption) dX8_write_15 (fun i_15 => ?_)
      refine r_sipush (pc := 18) dX8_write_18 (by decide) ?_
      refine r_icmp_ne (pc := 21) (tgt := 27) dX8_write_21 (by decide) (by omega) (by omega) (fun c_21 => ?_) (fun c_21 => ?_)
      · refine r_aload_0 (pc := 27) dX8_write_27 ?_
        refine gf_X8_7 (pc := 28) rfl (by assumption) dX8_write_28 (by assumption) ?_
        refine r_aload_0 (pc := 31) dX8_write_31 ?_
        refine gf_X8_85 (pc := 32) rfl (by assumption) dX8_write_32 (fun i_32 => ?_)
        refine r_iload_1 (pc := 35) dX8_write_35 ?_
        refine r_iastE (pc := 36) (by assumption) (by first | assumption | exact rfl) dX8_write_36 (by omega) (by omega) (by omega) ?_
        refine r_aload_0 (pc := 37) dX8_write_37 ?_
        first | refine r_dupI (pc := 38) dX8_write_38 ?_ | refine r_dupA (pc := 38) dX8_write_38 ?_
        refine gf_X8_85 (pc := 39) rfl (by assumption) dX8_write_39 (fun i_39 => ?_)
        refine r_iconst (pc := 42) dX8_write_42 ?_
        refine r_iadd (pc := 43) dX8_write_43 ?_
        rw [show hr h (b + 1) (up (h (b + 1)) (h b 0) c) b = h b from hr_n (by omega)]
        refine pf_X8_85 (pc := 44) rfl (by assumption) dX8_write_44 (by omega) ?_
        refine r_aload_0 (pc := 47) dX8_write_47 ?_
        refine gf_X8_85 (pc := 48) rfl (by assumption) dX8_write_48 (fun i_48 => ?_)
        refine r_iret (pc := 51) hret dX8_write_51 rfl rfl rfl ?_
        rw [hr_n (show b ≠ b + 1 by omega), hr_s, up_s]
        exact (hQ (by omega)).2 c_21
      · refine r_bipush (pc := 24) dX8_write_24 (by decide) ?_
        refine r_iret (pc := 26) hret dX8_write_26 rfl rfl rfl ?_
        first | exact hB (by omega) | exact (hQ (by omega)).1 c_21
    · refine r_iconst (pc := 12) dX8_write_12 ?_
      refine r_iret (pc := 13) hret dX8_write_13 rfl rfl rfl ?_
      first | exact hB (by omega) | exact (hQ (by omega)).1 c_21

theorem dX8_seen_0 : decode cX8_seen 0 = .ok (.iload_n 1, 1) := by decide +kernel
theorem dX8_seen_1 : decode cX8_seen 1 = .ok (.invokestatic 183, 3) := by decide +kernel
theorem dX8_seen_4 : decode cX8_seen 4 = .ok (.ifCond .eq 21, 3) := by decide +kernel
theorem dX8_seen_7 : decode cX8_seen 7 = .ok (.aload_n 0, 1) := by decide +kernel
theorem dX8_seen_8 : decode cX8_seen 8 = .ok (.iload_n 2, 1) := by decide +kernel
theorem dX8_seen_9 : decode cX8_seen 9 = .ok (.invokevirtual 147, 3) := by decide +kernel
theorem dX8_seen_12 : decode cX8_seen 12 = .ok (.ifCond .eq 13, 3) := by decide +kernel
theorem dX8_seen_15 : decode cX8_seen 15 = .ok (.aload_n 0, 1) := by decide +kernel
theorem dX8_seen_16 : decode cX8_seen 16 = .ok (.iload_n 3, 1) := by decide +kernel
theorem dX8_seen_17 : decode cX8_seen 17 = .ok (.iconst 0, 1) := by decide +kernel
theorem dX8_seen_18 : decode cX8_seen 18 = .ok (.iconst 1, 1) := by decide +kernel
theorem dX8_seen_19 : decode cX8_seen 19 = .ok (.invokevirtual 137, 3) := by decide +kernel
theorem dX8_seen_22 : decode cX8_seen 22 = .ok (.ifCond .ne 5, 3) := by decide +kernel
theorem dX8_seen_25 : decode cX8_seen 25 = .ok (.iconst (-1), 1) := by decide +kernel
theorem dX8_seen_26 : decode cX8_seen 26 = .ok (.ireturn, 1) := by decide +kernel
theorem dX8_seen_27 : decode cX8_seen 27 = .ok (.aload_n 0, 1) := by decide +kernel
theorem dX8_seen_28 : decode cX8_seen 28 = .ok (.getfield 131, 3) := by decide +kernel
theorem dX8_seen_31 : decode cX8_seen 31 = .ok (.bipush 6, 2) := by decide +kernel
theorem dX8_seen_33 : decode cX8_seen 33 = .ok (.if_icmp .ne 6, 3) := by decide +kernel
theorem dX8_seen_36 : decode cX8_seen 36 = .ok (.bipush (-3), 2) := by decide +kernel
theorem dX8_seen_38 : decode cX8_seen 38 = .ok (.ireturn, 1) := by decide +kernel
theorem dX8_seen_39 : decode cX8_seen 39 = .ok (.aload_n 0, 1) := by decide +kernel
theorem dX8_seen_40 : decode cX8_seen 40 = .ok (.getfield 58, 3) := by decide +kernel
theorem dX8_seen_43 : decode cX8_seen 43 = .ok (.iconst 3, 1) := by decide +kernel
theorem dX8_seen_44 : decode cX8_seen 44 = .ok (.aload_n 0, 1) := by decide +kernel
theorem dX8_seen_45 : decode cX8_seen 45 = .ok (.getfield 131, 3) := by decide +kernel
theorem dX8_seen_48 : decode cX8_seen 48 = .ok (.imul, 1) := by decide +kernel
theorem dX8_seen_49 : decode cX8_seen 49 = .ok (.iload_n 1, 1) := by decide +kernel
theorem dX8_seen_50 : decode cX8_seen 50 = .ok (.iastore, 1) := by decide +kernel
theorem dX8_seen_51 : decode cX8_seen 51 = .ok (.aload_n 0, 1) := by decide +kernel
theorem dX8_seen_52 : decode cX8_seen 52 = .ok (.getfield 58, 3) := by decide +kernel
theorem dX8_seen_55 : decode cX8_seen 55 = .ok (.iconst 3, 1) := by decide +kernel
theorem dX8_seen_56 : decode cX8_seen 56 = .ok (.aload_n 0, 1) := by decide +kernel
theorem dX8_seen_57 : decode cX8_seen 57 = .ok (.getfield 131, 3) := by decide +kernel
theorem dX8_seen_60 : decode cX8_seen 60 = .ok (.imul, 1) := by decide +kernel
theorem dX8_seen_61 : decode cX8_seen 61 = .ok (.iconst 1, 1) := by decide +kernel
theorem dX8_seen_62 : decode cX8_seen 62 = .ok (.iadd, 1) := by decide +kernel
theorem dX8_seen_63 : decode cX8_seen 63 = .ok (.iload_n 2, 1) := by decide +kernel
theorem dX8_seen_64 : decode cX8_seen 64 = .ok (.iastore, 1) := by decide +kernel
theorem dX8_seen_65 : decode cX8_seen 65 = .ok (.aload_n 0, 1) := by decide +kernel
theorem dX8_seen_66 : decode cX8_seen 66 = .ok (.getfield 58, 3) := by decide +kernel
theorem dX8_seen_69 : decode cX8_seen 69 = .ok (.iconst 3, 1) := by decide +kernel
theorem dX8_seen_70 : decode cX8_seen 70 = .ok (.aload_n 0, 1) := by decide +kernel
theorem dX8_seen_71 : decode cX8_seen 71 = .ok (.getfield 131, 3) := by decide +kernel
theorem dX8_seen_74 : decode cX8_seen 74 = .ok (.imul, 1) := by decide +kernel
theorem dX8_seen_75 : decode cX8_seen 75 = .ok (.iconst 2, 1) := by decide +kernel
theorem dX8_seen_76 : decode cX8_seen 76 = .ok (.iadd, 1) := by decide +kernel
theorem dX8_seen_77 : decode cX8_seen 77 = .ok (.iload_n 3, 1) := by decide +kernel
theorem dX8_seen_78 : decode cX8_seen 78 = .ok (.iastore, 1) := by decide +kernel
theorem dX8_seen_79 : decode cX8_seen 79 = .ok (.aload_n 0, 1) := by decide +kernel
theorem dX8_seen_80 : decode cX8_seen 80 = .ok (.dup, 1) := by decide +kernel
theorem dX8_seen_81 : decode cX8_seen 81 = .ok (.getfield 131, 3) := by decide +kernel
theorem dX8_seen_84 : decode cX8_seen 84 = .ok (.iconst 1, 1) := by decide +kernel
theorem dX8_seen_85 : decode cX8_seen 85 = .ok (.iadd, 1) := by decide +kernel
theorem dX8_seen_86 : decode cX8_seen 86 = .ok (.putfield 131, 3) := by decide +kernel
theorem dX8_seen_89 : decode cX8_seen 89 = .ok (.aload_n 0, 1) := by decide +kernel
theorem dX8_seen_90 : decode cX8_seen 90 = .ok (.getfield 131, 3) := by decide +kernel
theorem dX8_seen_93 : decode cX8_seen 93 = .ok (.ireturn, 1) := by decide +kernel
set_option maxHeartbeats 4000000 in
set_option maxRecDepth 20000 in
theorem c_X8_seen : ConI mX8_seen (fun args N lay r h Q => ∃ (b : Nat) (mp : Int → Int) (g d i : Int), args = [.ref b, vI g, vI d, vI i] ∧ MdAt lay r b ∧ h (b + 2) = mp ∧ TrM mp ∧ RlM mp ∧ (-2147483648 ≤ g ∧ g < 2147483648) ∧ (-2147483648 ≤ d ∧ d < 2147483648) ∧ (-2147483648 ≤ i ∧ i < 2147483648) ∧ (0 ≤ h b 19 ∧ h b 19 ≤ 6) ∧ (¬ ((0 ≤ g ∧ g < 16) ∧ (10 ≤ d ∧ d ≤ 9 + mp 130) ∧ (0 ≤ i ∧ i ≤ 1)) → Q (-1) N lay r h) ∧ (((0 ≤ g ∧ g < 16) ∧ (10 ≤ d ∧ d ≤ 9 + mp 130) ∧ (0 ≤ i ∧ i ≤ 1)) → (h b 19 = 6 → Q (-3) N lay r h) ∧ (h b 19 ≠ 6 → Q (h b 19 + 1) N lay r (hr (hr h (b + 17) (up (up (up (h (b + 17)) (3 * h b 19) g) (3 * h b 19 + 1) d) (3 * h b 19 + 2) i)) b (up (h b) 19 (h b 19 + 1)))))) := by
  refine ConI.of (by decide) (by rintro _ N lay r h Q ⟨b, mp, g, d, i, rfl, hM, hmp, hT, hR, hg, hd, hi, hsn, hB, hQ⟩; exact ⟨rfl, Nat.le_of_ble_eq_true rfl⟩) ?_
  rintro E _ N lay r h Q ⟨b, mp, g, d, i, rfl, hM, hmp, hT, hR, hg, hd, hi, hsn, hB, hQ⟩ hret
  obtain ⟨ml0, ml1, ml2, ml3, ml4, ml5, ml6, ml7, ml8, ml9, ml10, ml11, ml12, ml13, ml14, ml15, ml16, ml17, ml18, ml19, ml20, mr1, mr2, mr3, mr4, mr5, mr6, mr7, mr8, mr9, mr10, mr11, mr12, mr13, mr14, mr15, mr16, mr17, mr18, mr19, mr20⟩ := id hM
  obtain ⟨t1, t2, t3, t4, t5, t6, t7⟩ := id hT
  obtain ⟨r1, r2, r3, r4, r5, r6, r7⟩ := id hR
  show St E mX8_seen 0 [some (.ref b), some (vI g), some (vI d), some (vI i)] [] (0, 0) N lay r h
  refine r_iload_1 (pc := 0) dX8_seen_0 ?_
  refine k_SI1 (pc := 1) c_X8_isGroup lk_X8_183 ⟨Nat.le_of_ble_eq_true rfl, Nat.le_of_ble_eq_true rfl⟩ ⟨rfl, rfl⟩ ⟨Nat.le_of_ble_eq_true rfl, Nat.le_of_ble_eq_true rfl⟩ dX8_seen_1 (Nat.le_of_ble_eq_true rfl) ?_
  refine ⟨_, rfl, by omega, ?_⟩
  refine r_ifeq_b (pc := 4) (tgt := 25) dX8_seen_4 (by decide) (fun c_4 => ?_) (fun c_4 => ?_)
  · refine r_iconst (pc := 25) dX8_seen_25 ?_
    refine r_iret (pc := 26) hret dX8_seen_26 rfl rfl rfl ?_
    first | exact hB (by omega) | exact (hQ (by omega)).1 c_33
  · refine r_aload_0 (pc := 7) dX8_seen_7 ?_
    refine r_iload_2 (pc := 8) dX8_seen_8 ?_
    refine k_VI1 (pc := 9) c_X8_isDisk lk_X8_147 ⟨Nat.le_of_ble_eq_true rfl, Nat.le_of_ble_eq_true rfl⟩ ⟨rfl, rfl⟩ ⟨Nat.le_of_ble_eq_true rfl, Nat.le_of_ble_eq_true rfl⟩ (k := 8) rfl (by decide) (by assumption) dX8_seen_9 (Nat.le_of_ble_eq_true rfl) ?_
    refine ⟨_, _, _, rfl, by assumption, by first | assumption | exact rfl, by omega, by omega, ?_⟩
    refine r_ifeq_b (pc := 12) (tgt := 25) dX8_seen_12 (by decide) (fun c_12 => ?_) (fun c_12 => ?_)
    · refine r_iconst (pc := 25) dX8_seen_25 ?_
      refine r_iret (pc := 26) hret dX8_seen_26 rfl rfl rfl ?_
      first | exact hB (by omega) | exact (hQ (by omega)).1 c_33
    · refine r_aload_0 (pc := 15) dX8_seen_15 ?_
      refine r_iload_3 (pc := 16) dX8_seen_16 ?_
      refine r_iconst (pc := 17) dX8_seen_17 ?_
      refine r_iconst (pc := 18) dX8_seen_18 ?_
      refine k_VI3 (pc := 19) c_X8_isIn lk_X8_137 ⟨Nat.le_of_ble_eq_true rfl, Nat.le_of_ble_eq_true rfl⟩ ⟨rfl, rfl⟩ ⟨Nat.le_of_ble_eq_true rfl, Nat.le_of_ble_eq_true rfl⟩ (k := 8) rfl (by decide) (by assumption) dX8_seen_19 (Nat.le_of_ble_eq_true rfl) ?_
      refine ⟨_, _, _, _, rfl, by omega, by omega, by omega, ?_⟩
      refine r_ifne_b (pc := 22) (tgt := 27) dX8_seen_22 (by decide) (fun c_22 => ?_) (fun c_22 => ?_)
      · refine r_aload_0 (pc := 27) dX8_seen_27 ?_
        refine gf_X8_131 (pc := 28) rfl (by assumption) dX8_seen_28 (fun i_28 => ?_)
        refine r_bipush (pc := 31) dX8_seen_31 (by decide) ?_
        refine r_icmp_ne (pc := 33) (tgt := 39) dX8_seen_33 (by decide) (by omega) (by omega) (fun c_33 => ?_) (fun c_33 => ?_)
        · refine r_aload_0 (pc := 39) dX8_seen_39 ?_
          refine gf_X8_58 (pc := 40) rfl (by assumption) dX8_seen_40 (by assumption) ?_
          refine r_iconst (pc := 43) dX8_seen_43 ?_
          refine r_aload_0 (pc := 44) dX8_seen_44 ?_
          refine gf_X8_131 (pc := 45) rfl (by assumption) dX8_seen_45 (fun i_45 => ?_)
          refine r_imul (pc := 48) dX8_seen_48 ?_
          refine r_iload_1 (pc := 49) dX8_seen_49 ?_
          refine r_iastE (pc := 50) (by assumption) (by first | assumption | exact rfl) dX8_seen_50 (by omega) (by omega) (by omega) ?_
          refine r_aload_0 (pc := 51) dX8_seen_51 ?_
          refine gf_X8_58 (pc := 52) rfl (by assumption) dX8_seen_52 (by assumption) ?_
          refine r_iconst (pc := 55) dX8_seen_55 ?_
          refine r_aload_0 (pc := 56) dX8_seen_56 ?_
          have eb1 : hr h (b + 17) (up (h (b + 17)) (3 * h b 19) g) b = h b := hr_n (by omega)
          refine gf_X8_131 (pc := 57) rfl (by assumption) dX8_seen_57 (fun i_57 => ?_)
          rw [eb1]
          refine r_imul (pc := 60) dX8_seen_60 ?_
          refine r_iconst (pc := 61) dX8_seen_61 ?_
          refine r_iadd (pc := 62) dX8_seen_62 ?_
          refine r_iload_2 (pc := 63) dX8_seen_63 ?_
          refine r_iastE (pc := 64) (by assumption) hr_s dX8_seen_64 (by omega) (by omega) (by omega) ?_
          rw [hr_hr]
          refine r_aload_0 (pc := 65) dX8_seen_65 ?_
          refine gf_X8_58 (pc := 66) rfl (by assumption) dX8_seen_66 (by assumption) ?_
          refine r_iconst (pc := 69) dX8_seen_69 ?_
          refine r_aload_0 (pc := 70) dX8_seen_70 ?_
          have eb2 : hr h (b + 17) (up (up (h (b + 17)) (3 * h b 19) g) (3 * h b 19 + 1) d) b = h b := hr_n (by omega)
          refine gf_X8_131 (pc := 71) rfl (by assumption) dX8_seen_71 (fun i_71 => ?_)
          rw [eb2]
          refine r_imul (pc := 74) dX8_seen_74 ?_
          refine r_iconst (pc := 75) dX8_seen_75 ?_
          refine r_iadd (pc := 76) dX8_seen_76 ?_
          refine r_iload_3 (pc := 77) dX8_seen_77 ?_
          refine r_iastE (pc := 78) (by assumption) hr_s dX8_seen_78 (by omega) (by omega) (by omega) ?_
          rw [hr_hr]
          refine r_aload_0 (pc := 79) dX8_seen_79 ?_
          first | refine r_dupI (pc := 80) dX8_seen_80 ?_ | refine r_dupA (pc := 80) dX8_seen_80 ?_
          have eb3 : hr h (b + 17) (up (up (up (h (b + 17)) (3 * h b 19) g) (3 * h b 19 + 1) d) (3 * h b 19 + 2) i) b = h b := hr_n (by omega)
          refine gf_X8_131 (pc := 81) rfl (by assumption) dX8_seen_81 (fun i_81 => ?_)
          refine r_iconst (pc := 84) dX8_seen_84 ?_
          refine r_iadd (pc := 85) dX8_seen_85 ?_
          rw [eb3]
          refine pf_X8_131 (pc := 86) rfl (by assumption) dX8_seen_86 (by omega) ?_
          refine r_aload_0 (pc := 89) dX8_seen_89 ?_
          refine gf_X8_131 (pc := 90) rfl (by assumption) dX8_seen_90 (fun i_90 => ?_)
          refine r_iret (pc := 93) hret dX8_seen_93 rfl rfl rfl ?_
          rw [eb3, hr_s, up_s]
          exact (hQ (by omega)).2 c_33
        · refine r_bipush (pc := 36) dX8_seen_36 (by decide) ?_
          refine r_iret (pc := 38) hret dX8_seen_38 rfl rfl rfl ?_
          first | exact hB (by omega) | exact (hQ (by omega)).1 c_33
      · refine r_iconst (pc := 25) dX8_seen_25 ?_
        refine r_iret (pc := 26) hret dX8_seen_26 rfl rfl rfl ?_
        first | exact hB (by omega) | exact (hQ (by omega)).1 c_33

theorem dX8_up_0 : decode cX8_up 0 = .ok (.aload_n 0, 1) := by decide +kernel
theorem dX8_up_1 : decode cX8_up 1 = .ok (.iload_n 1, 1) := by decide +kernel
theorem dX8_up_2 : decode cX8_up 2 = .ok (.invokevirtual 147, 3) := by decide +kernel
theorem dX8_up_5 : decode cX8_up 5 = .ok (.ifCond .eq 13, 3) := by decide +kernel
theorem dX8_up_8 : decode cX8_up 8 = .ok (.aload_n 0, 1) := by decide +kernel
theorem dX8_up_9 : decode cX8_up 9 = .ok (.iload_n 2, 1) := by decide +kernel
theorem dX8_up_10 : decode cX8_up 10 = .ok (.iconst 0, 1) := by decide +kernel
theorem dX8_up_11 : decode cX8_up 11 = .ok (.iconst 1, 1) := by decide +kernel
theorem dX8_up_12 : decode cX8_up 12 = .ok (.invokevirtual 137, 3) := by decide +kernel
theorem dX8_up_15 : decode cX8_up 15 = .ok (.ifCond .ne 5, 3) := by decide +kernel
theorem dX8_up_18 : decode cX8_up 18 = .ok (.iconst (-1), 1) := by decide +kernel
theorem dX8_up_19 : decode cX8_up 19 = .ok (.ireturn, 1) := by decide +kernel
theorem dX8_up_20 : decode cX8_up 20 = .ok (.aload_n 0, 1) := by decide +kernel
theorem dX8_up_21 : decode cX8_up 21 = .ok (.getfield 125, 3) := by decide +kernel
theorem dX8_up_24 : decode cX8_up 24 = .ok (.iload_n 1, 1) := by decide +kernel
theorem dX8_up_25 : decode cX8_up 25 = .ok (.bipush 10, 2) := by decide +kernel
theorem dX8_up_27 : decode cX8_up 27 = .ok (.isub, 1) := by decide +kernel
theorem dX8_up_28 : decode cX8_up 28 = .ok (.ishr, 1) := by decide +kernel
theorem dX8_up_29 : decode cX8_up 29 = .ok (.iconst 1, 1) := by decide +kernel
theorem dX8_up_30 : decode cX8_up 30 = .ok (.iand, 1) := by decide +kernel
theorem dX8_up_31 : decode cX8_up 31 = .ok (.iload_n 2, 1) := by decide +kernel
theorem dX8_up_32 : decode cX8_up 32 = .ok (.if_icmp .ne 6, 3) := by decide +kernel
theorem dX8_up_35 : decode cX8_up 35 = .ok (.bipush (-2), 2) := by decide +kernel
theorem dX8_up_37 : decode cX8_up 37 = .ok (.ireturn, 1) := by decide +kernel
theorem dX8_up_38 : decode cX8_up 38 = .ok (.aload_n 0, 1) := by decide +kernel
theorem dX8_up_39 : decode cX8_up 39 = .ok (.aload_n 0, 1) := by decide +kernel
theorem dX8_up_40 : decode cX8_up 40 = .ok (.getfield 125, 3) := by decide +kernel
theorem dX8_up_43 : decode cX8_up 43 = .ok (.iconst 1, 1) := by decide +kernel
theorem dX8_up_44 : decode cX8_up 44 = .ok (.iload_n 1, 1) := by decide +kernel
theorem dX8_up_45 : decode cX8_up 45 = .ok (.bipush 10, 2) := by decide +kernel
theorem dX8_up_47 : decode cX8_up 47 = .ok (.isub, 1) := by decide +kernel
theorem dX8_up_48 : decode cX8_up 48 = .ok (.ishl, 1) := by decide +kernel
theorem dX8_up_49 : decode cX8_up 49 = .ok (.ixor, 1) := by decide +kernel
theorem dX8_up_50 : decode cX8_up 50 = .ok (.putfield 125, 3) := by decide +kernel
theorem dX8_up_53 : decode cX8_up 53 = .ok (.aload_n 0, 1) := by decide +kernel
theorem dX8_up_54 : decode cX8_up 54 = .ok (.getfield 125, 3) := by decide +kernel
theorem dX8_up_57 : decode cX8_up 57 = .ok (.invokestatic 242, 3) := by decide +kernel
theorem dX8_up_60 : decode cX8_up 60 = .ok (.ireturn, 1) := by decide +kernel
set_option maxHeartbeats 4000000 in
set_option maxRecDepth 20000 in
theorem c_X8_up : ConI mX8_up (fun args N lay r h Q => ∃ (b : Nat) (mp : Int → Int) (d i : Int), args = [.ref b, vI d, vI i] ∧ MdAt lay r b ∧ h (b + 2) = mp ∧ TrM mp ∧ RlM mp ∧ (-2147483648 ≤ d ∧ d < 2147483648) ∧ (-2147483648 ≤ i ∧ i < 2147483648) ∧ (¬ ((10 ≤ d ∧ d ≤ 9 + mp 130) ∧ (0 ≤ i ∧ i ≤ 1)) → Q (-1) N lay r h) ∧ (((10 ≤ d ∧ d ≤ 9 + mp 130) ∧ (0 ≤ i ∧ i ≤ 1)) → (iA (iSr (h b 17) (d - 10)) 1 = i → Q (-2) N lay r h) ∧ (iA (iSr (h b 17) (d - 10)) 1 ≠ i → Q (bts (iX (h b 17) (iSl 1 (d - 10)))) N lay r (hr h b (up (h b) 17 (iX (h b 17) (iSl 1 (d - 10)))))))) := by
  refine ConI.of (by decide) (by rintro _ N lay r h Q ⟨b, mp, d, i, rfl, hM, hmp, hT, hR, hd, hi, hB, hQ⟩; exact ⟨rfl, Nat.le_of_ble_eq_true rfl⟩) ?_
  rintro E _ N lay r h Q ⟨b, mp, d, i, rfl, hM, hmp, hT, hR, hd, hi, hB, hQ⟩ hret
  obtain ⟨ml0, ml1, ml2, ml3, ml4, ml5, ml6, ml7, ml8, ml9, ml10, ml11, ml12, ml13, ml14, ml15, ml16, ml17, ml18, ml19, ml20, mr1, mr2, mr3, mr4, mr5, mr6, mr7, mr8, mr9, mr10, mr11, mr12, mr13, mr14, mr15, mr16, mr17, mr18, mr19, mr20⟩ := id hM
  obtain ⟨t1, t2, t3, t4, t5, t6, t7⟩ := id hT
  obtain ⟨r1, r2, r3, r4, r5, r6, r7⟩ := id hR
  show St E mX8_up 0 [some (.ref b), some (vI d), some (vI i)] [] (0, 0) N lay r h
  refine r_aload_0 (pc := 0) dX8_up_0 ?_
  refine r_iload_1 (pc := 1) dX8_up_1 ?_
  refine k_VI1 (pc := 2) c_X8_isDisk lk_X8_147 ⟨Nat.le_of_ble_eq_true rfl, Nat.le_of_ble_eq_true rfl⟩ ⟨rfl, rfl⟩ ⟨Nat.le_of_ble_eq_true rfl, Nat.le_of_ble_eq_true rfl⟩ (k := 8) rfl (by decide) (by assumption) dX8_up_2 (Nat.le_of_ble_eq_true rfl) ?_
  refine ⟨_, _, _, rfl, by assumption, by first | assumption | exact rfl, by omega, by omega, ?_⟩
  refine r_ifeq_b (pc := 5) (tgt := 18) dX8_up_5 (by decide) (fun c_5 => ?_) (fun c_5 => ?_)
  · refine r_iconst (pc := 18) dX8_up_18 ?_
    refine r_iret (pc := 19) hret dX8_up_19 rfl rfl rfl ?_
    first | exact hB (by omega) | exact (hQ (by omega)).1 c_32 | exact (hQ (by omega)).2 c_32
  · refine r_aload_0 (pc := 8) dX8_up_8 ?_
    refine r_iload_2 (pc := 9) dX8_up_9 ?_
    refine r_iconst (pc := 10) dX8_up_10 ?_
    refine r_iconst (pc := 11) dX8_up_11 ?_
    refine k_VI3 (pc := 12) c_X8_isIn lk_X8_137 ⟨Nat.le_of_ble_eq_true rfl, Nat.le_of_ble_eq_true rfl⟩ ⟨rfl, rfl⟩ ⟨Nat.le_of_ble_eq_true rfl, Nat.le_of_ble_eq_true rfl⟩ (k := 8) rfl (by decide) (by assumption) dX8_up_12 (Nat.le_of_ble_eq_true rfl) ?_
    refine ⟨_, _, _, _, rfl, by omega, by omega, by omega, ?_⟩
    refine r_ifne_b (pc := 15) (tgt := 20) dX8_up_15 (by decide) (fun c_15 => ?_) (fun c_15 => ?_)
    · refine r_aload_0 (pc := 20) dX8_up_20 ?_
      refine gf_X8_125 (pc := 21) rfl (by assumption) dX8_up_21 (fun i_21 => ?_)
      refine r_iload_1 (pc := 24) dX8_up_24 ?_
      refine r_bipush (pc := 25) dX8_up_25 (by decide) ?_
      refine r_isub (pc := 27) dX8_up_27 ?_
      refine r_ishr (pc := 28) dX8_up_28 (fun i_28 => ?_)
      refine r_iconst (pc := 29) dX8_up_29 ?_
      refine r_iand (pc := 30) dX8_up_30 (fun i_30 => ?_)
      refine r_iload_2 (pc := 31) dX8_up_31 ?_
      refine r_icmp_ne (pc := 32) (tgt := 38) dX8_up_32 (by decide) (by omega) (by omega) (fun c_32 => ?_) (fun c_32 => ?_)
      · refine r_aload_0 (pc := 38) dX8_up_38 ?_
        refine r_aload_0 (pc := 39) dX8_up_39 ?_
        refine gf_X8_125 (pc := 40) rfl (by assumption) dX8_up_40 (fun i_40 => ?_)
        refine r_iconst (pc := 43) dX8_up_43 ?_
        refine r_iload_1 (pc := 44) dX8_up_44 ?_
        refine r_bipush (pc := 45) dX8_up_45 (by decide) ?_
        refine r_isub (pc := 47) dX8_up_47 ?_
        refine r_ishl (pc := 48) dX8_up_48 (fun i_48 => ?_)
        refine r_ixor (pc := 49) dX8_up_49 (fun i_49 => ?_)
        refine pf_X8_125 (pc := 50) rfl (by assumption) dX8_up_50 (by omega) ?_
        refine r_aload_0 (pc := 53) dX8_up_53 ?_
        refine gf_X8_125 (pc := 54) rfl (by assumption) dX8_up_54 (fun i_54 => ?_)
        rw [hr_s, up_s]
        refine k_SI1 (pc := 57) c_X8_bitsIn lk_X8_242 ⟨Nat.le_of_ble_eq_true rfl, Nat.le_of_ble_eq_true rfl⟩ ⟨rfl, rfl⟩ ⟨Nat.le_of_ble_eq_true rfl, Nat.le_of_ble_eq_true rfl⟩ dX8_up_57 (Nat.le_of_ble_eq_true rfl) ?_
        refine ⟨_, rfl, ?_⟩
        refine r_iret (pc := 60) hret dX8_up_60 rfl rfl rfl ?_
        first | exact hB (by omega) | exact (hQ (by omega)).1 c_32 | exact (hQ (by omega)).2 c_32
      · refine r_bipush (pc := 35) dX8_up_35 (by decide) ?_
        refine r_iret (pc := 37) hret dX8_up_37 rfl rfl rfl ?_
        first | exact hB (by omega) | exact (hQ (by omega)).1 c_32 | exact (hQ (by omega)).2 c_32
    · refine r_iconst (pc := 18) dX8_up_18 ?_
      refine r_iret (pc := 19) hret dX8_up_19 rfl rfl rfl ?_
      first | exact hB (by omega) | exact (hQ (by omega)).1 c_32 | exact (hQ (by omega)).2 c_32

theorem dX8_put_0 : decode cX8_put 0 = .ok (.aload_n 0, 1) := by decide +kernel
theorem dX8_put_1 : decode cX8_put 1 = .ok (.iload_n 1, 1) := by decide +kernel
theorem dX8_put_2 : decode cX8_put 2 = .ok (.iconst 0, 1) := by decide +kernel
theorem dX8_put_3 : decode cX8_put 3 = .ok (.sipush 9999, 3) := by decide +kernel
theorem dX8_put_6 : decode cX8_put 6 = .ok (.invokevirtual 137, 3) := by decide +kernel
theorem dX8_put_9 : decode cX8_put 9 = .ok (.ifCond .eq 14, 3) := by decide +kernel
theorem dX8_put_12 : decode cX8_put 12 = .ok (.aload_n 0, 1) := by decide +kernel
theorem dX8_put_13 : decode cX8_put 13 = .ok (.iload_n 2, 1) := by decide +kernel
theorem dX8_put_14 : decode cX8_put 14 = .ok (.iconst 1, 1) := by decide +kernel
theorem dX8_put_15 : decode cX8_put 15 = .ok (.bipush 99, 2) := by decide +kernel
theorem dX8_put_17 : decode cX8_put 17 = .ok (.invokevirtual 137, 3) := by decide +kernel
theorem dX8_put_20 : decode cX8_put 20 = .ok (.ifCond .ne 5, 3) := by decide +kernel
theorem dX8_put_23 : decode cX8_put 23 = .ok (.iconst (-1), 1) := by decide +kernel
theorem dX8_put_24 : decode cX8_put 24 = .ok (.ireturn, 1) := by decide +kernel
theorem dX8_put_25 : decode cX8_put 25 = .ok (.sipush 7919, 3) := by decide +kernel
theorem dX8_put_28 : decode cX8_put 28 = .ok (.iload_n 1, 1) := by decide +kernel
theorem dX8_put_29 : decode cX8_put 29 = .ok (.imul, 1) := by decide +kernel
theorem dX8_put_30 : decode cX8_put 30 = .ok (.ldc 182, 2) := by decide +kernel
theorem dX8_put_32 : decode cX8_put 32 = .ok (.irem, 1) := by decide +kernel
theorem dX8_put_33 : decode cX8_put 33 = .ok (.bipush 16, 2) := by decide +kernel
theorem dX8_put_35 : decode cX8_put 35 = .ok (.irem, 1) := by decide +kernel
theorem dX8_put_36 : decode cX8_put 36 = .ok (.istore_n 3, 1) := by decide +kernel
theorem dX8_put_37 : decode cX8_put 37 = .ok (.aload_n 0, 1) := by decide +kernel
theorem dX8_put_38 : decode cX8_put 38 = .ok (.iload_n 3, 1) := by decide +kernel
theorem dX8_put_39 : decode cX8_put 39 = .ok (.invokevirtual 128, 3) := by decide +kernel
theorem dX8_put_42 : decode cX8_put 42 = .ok (.aload_n 0, 1) := by decide +kernel
theorem dX8_put_43 : decode cX8_put 43 = .ok (.getfield 125, 3) := by decide +kernel
theorem dX8_put_46 : decode cX8_put 46 = .ok (.iand, 1) := by decide +kernel
theorem dX8_put_47 : decode cX8_put 47 = .ok (.aload_n 0, 1) := by decide +kernel
theorem dX8_put_48 : decode cX8_put 48 = .ok (.getfield 49, 3) := by decide +kernel
theorem dX8_put_51 : decode cX8_put 51 = .ok (.iload_n 3, 1) := by decide +kernel
theorem dX8_put_52 : decode cX8_put 52 = .ok (.iaload, 1) := by decide +kernel
theorem dX8_put_53 : decode cX8_put 53 = .ok (.iand, 1) := by decide +kernel
theorem dX8_put_54 : decode cX8_put 54 = .ok (.ifCond .ne 6, 3) := by decide +kernel
theorem dX8_put_57 : decode cX8_put 57 = .ok (.bipush (-2), 2) := by decide +kernel
theorem dX8_put_59 : decode cX8_put 59 = .ok (.ireturn, 1) := by decide +kernel
theorem dX8_put_60 : decode cX8_put 60 = .ok (.aload_n 0, 1) := by decide +kernel
theorem dX8_put_61 : decode cX8_put 61 = .ok (.getfield 52, 3) := by decide +kernel
theorem dX8_put_64 : decode cX8_put 64 = .ok (.iload_n 3, 1) := by decide +kernel
theorem dX8_put_65 : decode cX8_put 65 = .ok (.iaload, 1) := by decide +kernel
theorem dX8_put_66 : decode cX8_put 66 = .ok (.iload_n 2, 1) := by decide +kernel
theorem dX8_put_67 : decode cX8_put 67 = .ok (.iadd, 1) := by decide +kernel
theorem dX8_put_68 : decode cX8_put 68 = .ok (.sipush 9999, 3) := by decide +kernel
theorem dX8_put_71 : decode cX8_put 71 = .ok (.if_icmp .le 6, 3) := by decide +kernel
theorem dX8_put_74 : decode cX8_put 74 = .ok (.bipush (-3), 2) := by decide +kernel
theorem dX8_put_76 : decode cX8_put 76 = .ok (.ireturn, 1) := by decide +kernel
theorem dX8_put_77 : decode cX8_put 77 = .ok (.aload_n 0, 1) := by decide +kernel
theorem dX8_put_78 : decode cX8_put 78 = .ok (.getfield 52, 3) := by decide +kernel
theorem dX8_put_81 : decode cX8_put 81 = .ok (.iload_n 3, 1) := by decide +kernel
theorem dX8_put_82 : decode cX8_put 82 = .ok (.dup2, 1) := by decide +kernel
theorem dX8_put_83 : decode cX8_put 83 = .ok (.iaload, 1) := by decide +kernel
theorem dX8_put_84 : decode cX8_put 84 = .ok (.iload_n 2, 1) := by decide +kernel
theorem dX8_put_85 : decode cX8_put 85 = .ok (.iadd, 1) := by decide +kernel
theorem dX8_put_86 : decode cX8_put 86 = .ok (.iastore, 1) := by decide +kernel
theorem dX8_put_87 : decode cX8_put 87 = .ok (.aload_n 0, 1) := by decide +kernel
theorem dX8_put_88 : decode cX8_put 88 = .ok (.getfield 49, 3) := by decide +kernel
theorem dX8_put_91 : decode cX8_put 91 = .ok (.iload_n 3, 1) := by decide +kernel
theorem dX8_put_92 : decode cX8_put 92 = .ok (.dup2, 1) := by decide +kernel
theorem dX8_put_93 : decode cX8_put 93 = .ok (.iaload, 1) := by decide +kernel
theorem dX8_put_94 : decode cX8_put 94 = .ok (.aload_n 0, 1) := by decide +kernel
theorem dX8_put_95 : decode cX8_put 95 = .ok (.getfield 125, 3) := by decide +kernel
theorem dX8_put_98 : decode cX8_put 98 = .ok (.iand, 1) := by decide +kernel
theorem dX8_put_99 : decode cX8_put 99 = .ok (.iastore, 1) := by decide +kernel
theorem dX8_put_100 : decode cX8_put 100 = .ok (.aload_n 0, 1) := by decide +kernel
theorem dX8_put_101 : decode cX8_put 101 = .ok (.getfield 52, 3) := by decide +kernel
theorem dX8_put_104 : decode cX8_put 104 = .ok (.iload_n 3, 1) := by decide +kernel
theorem dX8_put_105 : decode cX8_put 105 = .ok (.iaload, 1) := by decide +kernel
theorem dX8_put_106 : decode cX8_put 106 = .ok (.ireturn, 1) := by decide +kernel
set_option maxHeartbeats 4000000 in
set_option maxRecDepth 20000 in
theorem c_X8_put : ConI mX8_put (fun args N lay r h Q => ∃ (b : Nat) (mp : Int → Int) (k s : Int), args = [.ref b, vI k, vI s] ∧ MdAt lay r b ∧ h (b + 2) = mp ∧ TrM mp ∧ RlM mp ∧ (-2147483648 ≤ k ∧ k < 2147483648) ∧ (-2147483648 ≤ s ∧ s < 2147483648) ∧ (∀ g, 0 ≤ g → g < 16 → 0 ≤ h (b + 15) g ∧ h (b + 15) g ≤ 9999) ∧ (¬ ((0 ≤ k ∧ k ≤ 9999) ∧ (1 ≤ s ∧ s ≤ 99)) → Q (-1) N lay r h) ∧ (((0 ≤ k ∧ k ≤ 9999) ∧ (1 ≤ s ∧ s ≤ 99)) → (iA (iA (pb (h (b + 12)) (7919 * k % 65521 % 16)) (h b 17)) (h (b + 14) (7919 * k % 65521 % 16)) = 0 → Q (-2) N lay r h) ∧ (iA (iA (pb (h (b + 12)) (7919 * k % 65521 % 16)) (h b 17)) (h (b + 14) (7919 * k % 65521 % 16)) ≠ 0 → (9999 < h (b + 15) (7919 * k % 65521 % 16) + s → Q (-3) N lay r h) ∧ (h (b + 15) (7919 * k % 65521 % 16) + s ≤ 9999 → Q (h (b + 15) (7919 * k % 65521 % 16) + s) N lay r (hr (hr h (b + 15) (up (h (b + 15)) (7919 * k % 65521 % 16) (h (b + 15) (7919 * k % 65521 % 16) + s))) (b + 14) (up (h (b + 14)) (7919 * k % 65521 % 16) (iA (h (b + 14) (7919 * k % 65521 % 16)) (h b 17)))))))) := by
  refine ConI.of (by decide) (by rintro _ N lay r h Q ⟨b, mp, k, s, rfl, hM, hmp, hT, hR, hk, hs, hsz, hB, hQ⟩; exact ⟨rfl, Nat.le_of_ble_eq_true rfl⟩) ?_
  rintro E _ N lay r h Q ⟨b, mp, k, s, rfl, hM, hmp, hT, hR, hk, hs, hsz, hB, hQ⟩ hret
  obtain ⟨ml0, ml1, ml2, ml3, ml4, ml5, ml6, ml7, ml8, ml9, ml10, ml11, ml12, ml13, ml14, ml15, ml16, ml17, ml18, ml19, ml20, mr1, mr2, mr3, mr4, mr5, mr6, mr7, mr8, mr9, mr10, mr11, mr12, mr13, mr14, mr15, mr16, mr17, mr18, mr19, mr20⟩ := id hM
  obtain ⟨t1, t2, t3, t4, t5, t6, t7⟩ := id hT
  obtain ⟨r1, r2, r3, r4, r5, r6, r7⟩ := id hR
  show St E mX8_put 0 [some (.ref b), some (vI k), some (vI s), none] [] (0, 0) N lay r h
  refine r_aload_0 (pc := 0) dX8_put_0 ?_
  refine r_iload_1 (pc := 1) dX8_put_1 ?_
  refine r_iconst (pc := 2) dX8_put_2 ?_
  refine r_sipush (pc := 3) dX8_put_3 (by decide) ?_
  refine k_VI3 (pc := 6) c_X8_isIn lk_X8_137 ⟨Nat.le_of_ble_eq_true rfl, Nat.le_of_ble_eq_true rfl⟩ ⟨rfl, rfl⟩ ⟨Nat.le_of_ble_eq_true rfl, Nat.le_of_ble_eq_true rfl⟩ (k := 8) rfl (by decide) (by assumption) dX8_put_6 (Nat.le_of_ble_eq_true rfl) ?_
  refine ⟨_, _, _, _, rfl, by omega, by omega, by omega, ?_⟩
  refine r_ifeq_b (pc := 9) (tgt := 23) dX8_put_9 (by decide) (fun c_9 => ?_) (fun c_9 => ?_)
  · refine r_iconst (pc := 23) dX8_put_23 ?_
    refine r_iret (pc := 24) hret dX8_put_24 rfl rfl rfl ?_
    first | exact hB (by omega) | exact (hQ (by omega)).1 c_54 | exact ((hQ (by omega)).2 c_54).1 (by omega) | exact ((hQ (by omega)).2 c_54).2 (by omega)
  · refine r_aload_0 (pc := 12) dX8_put_12 ?_
    refine r_iload_2 (pc := 13) dX8_put_13 ?_
    refine r_iconst (pc := 14) dX8_put_14 ?_
    refine r_bipush (pc := 15) dX8_put_15 (by decide) ?_
    refine k_VI3 (pc := 17) c_X8_isIn lk_X8_137 ⟨Nat.le_of_ble_eq_true rfl, Nat.le_of_ble_eq_true rfl⟩ ⟨rfl, rfl⟩ ⟨Nat.le_of_ble_eq_true rfl, Nat.le_of_ble_eq_true rfl⟩ (k := 8) rfl (by decide) (by assumption) dX8_put_17 (Nat.le_of_ble_eq_true rfl) ?_
    refine ⟨_, _, _, _, rfl, by omega, by omega, by omega, ?_⟩
    refine r_ifne_b (pc := 20) (tgt := 25) dX8_put_20 (by decide) (fun c_20 => ?_) (fun c_20 => ?_)
    · refine r_sipush (pc := 25) dX8_put_25 (by decide) ?_
      refine r_iload_1 (pc := 28) dX8_put_28 ?_
      refine r_imul (pc := 29) dX8_put_29 ?_
      refine r_ldc (pc := 30) (v := 65521) (z := 65521) dX8_put_30 (w_cI 1150 (by decide +kernel)) (by decide) ?_
      refine r_irem (pc := 32) dX8_put_32 (by omega) (by omega) ?_
      refine r_bipush (pc := 33) dX8_put_33 (by decide) ?_
      refine r_irem (pc := 35) dX8_put_35 (by omega) (by omega) ?_
      refine r_istore_3 (pc := 36) dX8_put_36 rfl ?_
      have hg : 0 ≤ 7919 * k % 65521 % 16 ∧ 7919 * k % 65521 % 16 < 16 := by omega
      revert hQ
      generalize 7919 * k % 65521 % 16 = g at hg ⊢
      intro hQ
      have hs9 := hsz g hg.1 hg.2
      refine r_aload_0 (pc := 37) dX8_put_37 ?_
      refine r_iload_3 (pc := 38) dX8_put_38 ?_
      refine k_VI1 (pc := 39) c_X8_placeBits lk_X8_128 ⟨Nat.le_of_ble_eq_true rfl, Nat.le_of_ble_eq_true rfl⟩ ⟨rfl, rfl⟩ ⟨Nat.le_of_ble_eq_true rfl, Nat.le_of_ble_eq_true rfl⟩ (k := 8) rfl (by decide) (by assumption) dX8_put_39 (Nat.le_of_ble_eq_true rfl) ?_
      refine ⟨_, _, rfl, by assumption, by omega, fun i_39 => ?_⟩
      refine r_aload_0 (pc := 42) dX8_put_42 ?_
      refine gf_X8_125 (pc := 43) rfl (by assumption) dX8_put_43 (fun i_43 => ?_)
      refine r_iand (pc := 46) dX8_put_46 (fun i_46 => ?_)
      refine r_aload_0 (pc := 47) dX8_put_47 ?_
      refine gf_X8_49 (pc := 48) rfl (by assumption) dX8_put_48 (by assumption) ?_
      refine r_iload_3 (pc := 51) dX8_put_51 ?_
      refine r_ialdE (pc := 52) (by assumption) (by first | assumption | exact rfl) dX8_put_52 (by omega) (by omega) (fun i_52 => ?_)
      refine r_iand (pc := 53) dX8_put_53 (fun i_53 => ?_)
      refine r_if_ne (pc := 54) (tgt := 60) dX8_put_54 (by decide) (by omega) (fun c_54 => ?_) (fun c_54 => ?_)
      · refine r_aload_0 (pc := 60) dX8_put_60 ?_
        refine gf_X8_52 (pc := 61) rfl (by assumption) dX8_put_61 (by assumption) ?_
        refine r_iload_3 (pc := 64) dX8_put_64 ?_
        refine r_ialdE (pc := 65) (by assumption) (by first | assumption | exact rfl) dX8_put_65 (by omega) (by omega) (fun i_65 => ?_)
        refine r_iload_2 (pc := 66) dX8_put_66 ?_
        refine r_iadd (pc := 67) dX8_put_67 ?_
        refine r_sipush (pc := 68) dX8_put_68 (by decide) ?_
        refine r_icmp_le (pc := 71) (tgt := 77) dX8_put_71 (by decide) (by omega) (by omega) (fun c_71 => ?_) (fun c_71 => ?_)
        · refine r_aload_0 (pc := 77) dX8_put_77 ?_
          refine gf_X8_52 (pc := 78) rfl (by assumption) dX8_put_78 (by assumption) ?_
          refine r_iload_3 (pc := 81) dX8_put_81 ?_
          refine r_dup2 (pc := 82) dX8_put_82 ?_
          refine r_ialdE (pc := 83) (by assumption) (by first | assumption | exact rfl) dX8_put_83 (by omega) (by omega) (fun i_83 => ?_)
          refine r_iload_2 (pc := 84) dX8_put_84 ?_
          refine r_iadd (pc := 85) dX8_put_85 ?_
          refine r_iastE (pc := 86) (by assumption) (by first | assumption | exact rfl) dX8_put_86 (by omega) (by omega) (by omega) ?_
          refine r_aload_0 (pc := 87) dX8_put_87 ?_
          refine gf_X8_49 (pc := 88) rfl (by assumption) dX8_put_88 (by assumption) ?_
          refine r_iload_3 (pc := 91) dX8_put_91 ?_
          refine r_dup2 (pc := 92) dX8_put_92 ?_
          have ek1 : hr h (b + 15) (up (h (b + 15)) g (h (b + 15) g + s)) (b + 14) = h (b + 14) := hr_n (by omega)
          have ek2 : hr h (b + 15) (up (h (b + 15)) g (h (b + 15) g + s)) b = h b := hr_n (by omega)
          refine r_ialdE (pc := 93) (by assumption) (by first | assumption | exact rfl) dX8_put_93 (by omega) (by omega) (fun i_93 => ?_)
          refine r_aload_0 (pc := 94) dX8_put_94 ?_
          refine gf_X8_125 (pc := 95) rfl (by assumption) dX8_put_95 (fun i_95 => ?_)
          rw [ek2]
          refine r_iand (pc := 98) dX8_put_98 (fun i_98 => ?_)
          refine r_iastE (pc := 99) (by assumption) (by first | assumption | exact rfl) dX8_put_99 (by omega) (by omega) (by omega) ?_
          refine r_aload_0 (pc := 100) dX8_put_100 ?_
          refine gf_X8_52 (pc := 101) rfl (by assumption) dX8_put_101 (by assumption) ?_
          refine r_iload_3 (pc := 104) dX8_put_104 ?_
          refine r_ialdE (pc := 105) (by assumption) (show _ = up (h (b + 15)) g (h (b + 15) g + s) by rw [hr_n (by omega), hr_s]) dX8_put_105 (by omega) (by omega) (fun i_105 => ?_)
          rw [up_s]
          refine r_iret (pc := 106) hret dX8_put_106 rfl rfl rfl ?_
          first | exact hB (by omega) | exact (hQ (by omega)).1 c_54 | exact ((hQ (by omega)).2 c_54).1 (by omega) | exact ((hQ (by omega)).2 c_54).2 (by omega)
        · refine r_bipush (pc := 74) dX8_put_74 (by decide) ?_
          refine r_iret (pc := 76) hret dX8_put_76 rfl rfl rfl ?_
          first | exact hB (by omega) | exact (hQ (by omega)).1 c_54 | exact ((hQ (by omega)).2 c_54).1 (by omega) | exact ((hQ (by omega)).2 c_54).2 (by omega)
      · refine r_bipush (pc := 57) dX8_put_57 (by decide) ?_
        refine r_iret (pc := 59) hret dX8_put_59 rfl rfl rfl ?_
        first | exact hB (by omega) | exact (hQ (by omega)).1 c_54 | exact ((hQ (by omega)).2 c_54).1 (by omega) | exact ((hQ (by omega)).2 c_54).2 (by omega)
    · refine r_iconst (pc := 23) dX8_put_23 ?_
      refine r_iret (pc := 24) hret dX8_put_24 rfl rfl rfl ?_
      first | exact hB (by omega) | exact (hQ (by omega)).1 c_54 | exact ((hQ (by omega)).2 c_54).1 (by omega) | exact ((hQ (by omega)).2 c_54).2 (by omega)

