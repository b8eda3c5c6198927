/-! THE REFERENCE: lift, back, refill -/
def lfR (mp : Int → Int) (i j : Int) : Int → Int := fun q => if 110 + 3 * i ≤ q ∧ q < 110 + j then mp (q + 3) else up mp 135 (mp 135 - 1) q
theorem lfR_0 {mp : Int → Int} {i : Int} : lfR mp i (3 * i) = up mp 135 (mp 135 - 1) := funext (fun q => if_neg (by omega))
theorem lfR_s {mp : Int → Int} {i j : Int} (h : 3 * i ≤ j) : up (lfR mp i j) (110 + j) (mp (113 + j)) = lfR mp i (j + 1) := by
  funext q
  by_cases e : q = 110 + j
  · rw [e, up_s]
    unfold lfR
    rw [if_pos (by omega), show 110 + j + 3 = 113 + j by omega]
  · rw [up_n e]
    unfold lfR
    by_cases e2 : 110 + 3 * i ≤ q ∧ q < 110 + j
    · rw [if_pos e2, if_pos (by omega)]
    · rw [if_neg e2, if_neg (by omega)]
theorem lfR_e {mp : Int → Int} {i j q : Int} (h : ¬ (110 + 3 * i ≤ q ∧ q < 110 + j)) (h5 : q ≠ 135) : lfR mp i j q = mp q := by
  unfold lfR
  rw [if_neg h, up_n h5]
theorem lfR_5 {mp : Int → Int} {i j : Int} (h : j ≤ 25) : lfR mp i j 135 = mp 135 - 1 := by
  unfold lfR
  rw [if_neg (by omega), up_s]
theorem RlM_lf {mp : Int → Int} {i : Int} (h : RlM mp) (hT : TrM mp) (hi : 0 ≤ i ∧ i ≤ mp 135 - 1) : RlM (lfR mp i (3 * (mp 135 - 1))) := by
  obtain ⟨r1, r2, r3, r4, r5, r6, r7⟩ := h
  have t3 := hT.2.2.1
  have e5 : lfR mp i (3 * (mp 135 - 1)) 135 = mp 135 - 1 := lfR_5 (by omega)
  have e0 : lfR mp i (3 * (mp 135 - 1)) 130 = mp 130 := lfR_e (by omega) (by omega)
  refine ⟨by rw [lfR_e (by omega) (by omega)]; exact r1, by rw [lfR_e (by omega) (by omega)]; exact r2, by rw [lfR_e (by omega) (by omega)]; exact r3, by rw [lfR_e (by omega) (by omega)]; exact r4, by rw [e5]; omega, fun n n0 n1 => ?_, fun n n0 n1 => ?_⟩
  · rw [e0] at n1
    rw [lfR_e (by omega) (by omega), lfR_e (by omega) (by omega), lfR_e (by omega) (by omega)]; exact r6 n n0 n1
  · rw [e5] at n1
    rw [e0]
    by_cases en : n < i
    · rw [lfR_e (by omega) (by omega), lfR_e (by omega) (by omega), lfR_e (by omega) (by omega)]; exact r7 n n0 (by omega)
    · have q0 : lfR mp i (3 * (mp 135 - 1)) (110 + 3 * n) = mp (110 + 3 * (n + 1)) := by unfold lfR; rw [if_pos (by omega), show 110 + 3 * n + 3 = 110 + 3 * (n + 1) by omega]
      have q1 : lfR mp i (3 * (mp 135 - 1)) (111 + 3 * n) = mp (111 + 3 * (n + 1)) := by unfold lfR; rw [if_pos (by omega), show 111 + 3 * n + 3 = 111 + 3 * (n + 1) by omega]
      have q2 : lfR mp i (3 * (mp 135 - 1)) (112 + 3 * n) = mp (112 + 3 * (n + 1)) := by unfold lfR; rw [if_pos (by omega), show 112 + 3 * n + 3 = 112 + 3 * (n + 1) by omega]
      rw [q0, q1, q2]; exact r7 (n + 1) (by omega) (by omega)
theorem dX8_lift_0 : decode cX8_lift 0 = .ok (.aload_n 0, 1) := by decide +kernel
theorem dX8_lift_1 : decode cX8_lift 1 = .ok (.iload_n 1, 1) := by decide +kernel
theorem dX8_lift_2 : decode cX8_lift 2 = .ok (.iconst 0, 1) := by decide +kernel
theorem dX8_lift_3 : decode cX8_lift 3 = .ok (.aload_n 0, 1) := by decide +kernel
theorem dX8_lift_4 : decode cX8_lift 4 = .ok (.getfield 13, 3) := by decide +kernel
theorem dX8_lift_7 : decode cX8_lift 7 = .ok (.sipush 135, 3) := by decide +kernel
theorem dX8_lift_10 : decode cX8_lift 10 = .ok (.iaload, 1) := by decide +kernel
theorem dX8_lift_11 : decode cX8_lift 11 = .ok (.iconst 1, 1) := by decide +kernel
theorem dX8_lift_12 : decode cX8_lift 12 = .ok (.isub, 1) := by decide +kernel
theorem dX8_lift_13 : decode cX8_lift 13 = .ok (.invokevirtual 137, 3) := by decide +kernel
theorem dX8_lift_16 : decode cX8_lift 16 = .ok (.ifCond .ne 5, 3) := by decide +kernel
theorem dX8_lift_19 : decode cX8_lift 19 = .ok (.iconst (-1), 1) := by decide +kernel
theorem dX8_lift_20 : decode cX8_lift 20 = .ok (.ireturn, 1) := by decide +kernel
theorem dX8_lift_21 : decode cX8_lift 21 = .ok (.aload_n 0, 1) := by decide +kernel
theorem dX8_lift_22 : decode cX8_lift 22 = .ok (.getfield 13, 3) := by decide +kernel
theorem dX8_lift_25 : decode cX8_lift 25 = .ok (.sipush 135, 3) := by decide +kernel
theorem dX8_lift_28 : decode cX8_lift 28 = .ok (.dup2, 1) := by decide +kernel
theorem dX8_lift_29 : decode cX8_lift 29 = .ok (.iaload, 1) := by decide +kernel
theorem dX8_lift_30 : decode cX8_lift 30 = .ok (.iconst 1, 1) := by decide +kernel
theorem dX8_lift_31 : decode cX8_lift 31 = .ok (.isub, 1) := by decide +kernel
theorem dX8_lift_32 : decode cX8_lift 32 = .ok (.iastore, 1) := by decide +kernel
theorem dX8_lift_33 : decode cX8_lift 33 = .ok (.iconst 3, 1) := by decide +kernel
theorem dX8_lift_34 : decode cX8_lift 34 = .ok (.iload_n 1, 1) := by decide +kernel
theorem dX8_lift_35 : decode cX8_lift 35 = .ok (.imul, 1) := by decide +kernel
theorem dX8_lift_36 : decode cX8_lift 36 = .ok (.istore_n 2, 1) := by decide +kernel
theorem dX8_lift_37 : decode cX8_lift 37 = .ok (.iload_n 2, 1) := by decide +kernel
theorem dX8_lift_38 : decode cX8_lift 38 = .ok (.iconst 3, 1) := by decide +kernel
theorem dX8_lift_39 : decode cX8_lift 39 = .ok (.aload_n 0, 1) := by decide +kernel
theorem dX8_lift_40 : decode cX8_lift 40 = .ok (.getfield 13, 3) := by decide +kernel
theorem dX8_lift_43 : decode cX8_lift 43 = .ok (.sipush 135, 3) := by decide +kernel
theorem dX8_lift_46 : decode cX8_lift 46 = .ok (.iaload, 1) := by decide +kernel
theorem dX8_lift_47 : decode cX8_lift 47 = .ok (.imul, 1) := by decide +kernel
theorem dX8_lift_48 : decode cX8_lift 48 = .ok (.if_icmp .ge 27, 3) := by decide +kernel
theorem dX8_lift_51 : decode cX8_lift 51 = .ok (.aload_n 0, 1) := by decide +kernel
theorem dX8_lift_52 : decode cX8_lift 52 = .ok (.getfield 13, 3) := by decide +kernel
theorem dX8_lift_55 : decode cX8_lift 55 = .ok (.bipush 110, 2) := by decide +kernel
theorem dX8_lift_57 : decode cX8_lift 57 = .ok (.iload_n 2, 1) := by decide +kernel
theorem dX8_lift_58 : decode cX8_lift 58 = .ok (.iadd, 1) := by decide +kernel
theorem dX8_lift_59 : decode cX8_lift 59 = .ok (.aload_n 0, 1) := by decide +kernel
theorem dX8_lift_60 : decode cX8_lift 60 = .ok (.getfield 13, 3) := by decide +kernel
theorem dX8_lift_63 : decode cX8_lift 63 = .ok (.bipush 113, 2) := by decide +kernel
theorem dX8_lift_65 : decode cX8_lift 65 = .ok (.iload_n 2, 1) := by decide +kernel
theorem dX8_lift_66 : decode cX8_lift 66 = .ok (.iadd, 1) := by decide +kernel
theorem dX8_lift_67 : decode cX8_lift 67 = .ok (.iaload, 1) := by decide +kernel
theorem dX8_lift_68 : decode cX8_lift 68 = .ok (.iastore, 1) := by decide +kernel
theorem dX8_lift_69 : decode cX8_lift 69 = .ok (.iinc 2 1, 3) := by decide +kernel
theorem dX8_lift_72 : decode cX8_lift 72 = .ok (.goto (-35), 3) := by decide +kernel
theorem dX8_lift_75 : decode cX8_lift 75 = .ok (.aload_n 0, 1) := by decide +kernel
theorem dX8_lift_76 : decode cX8_lift 76 = .ok (.invokevirtual 223, 3) := by decide +kernel
theorem dX8_lift_79 : decode cX8_lift 79 = .ok (.aload_n 0, 1) := by decide +kernel
theorem dX8_lift_80 : decode cX8_lift 80 = .ok (.getfield 13, 3) := by decide +kernel
theorem dX8_lift_83 : decode cX8_lift 83 = .ok (.sipush 135, 3) := by decide +kernel
theorem dX8_lift_86 : decode cX8_lift 86 = .ok (.iaload, 1) := by decide +kernel
theorem dX8_lift_87 : decode cX8_lift 87 = .ok (.ireturn, 1) := by decide +kernel
set_option maxHeartbeats 4000000 in
set_option maxRecDepth 20000 in
theorem c_X8_lift : ConI mX8_lift (fun args N lay r h Q => ∃ (b : Nat) (mp : Int → Int) (i : Int), args = [.ref b, vI i] ∧ MdAt lay r b ∧ h (b + 2) = mp ∧ TrM mp ∧ RlM mp ∧ (-2147483648 ≤ i ∧ i < 2147483648) ∧ WaT (h (b + 7)) ∧ (1 ≤ h b 5 ∧ h b 5 < 2147483647) ∧ (¬ (0 ≤ i ∧ i ≤ mp 135 - 1) → Q (-1) N lay r h) ∧ ((0 ≤ i ∧ i ≤ mp 135 - 1) → ∀ h2, Ch b h (h b) h2 (lfR mp i (3 * (mp 135 - 1))) → Q (mp 135 - 1) N lay r h2)) := by
  refine ConI.of (by decide) (by rintro _ N lay r h Q ⟨b, mp, i, rfl, hM, hmp, hT, hR, hi, hwa, hep, hB, hQ⟩; exact ⟨rfl, Nat.le_of_ble_eq_true rfl⟩) ?_
  rintro E _ N lay r h Q ⟨b, mp, i, rfl, hM, hmp, hT, hR, hi, hwa, hep, hB, hQ⟩ hret
  obtain ⟨ml0, ml1, ml2, ml3, ml4, ml5, ml6, ml7, ml8, ml9, ml10, ml11, ml12, ml13, ml14, ml15, ml16, ml17, ml18, ml19, ml20, mr1, mr2, mr3, mr4, mr5, mr6, mr7, mr8, mr9, mr10, mr11, mr12, mr13, mr14, mr15, mr16, mr17, mr18, mr19, mr20⟩ := id hM
  obtain ⟨t1, t2, t3, t4, t5, t6, t7⟩ := id hT
  obtain ⟨r1, r2, r3, r4, r5, r6, r7⟩ := id hR
  show St E mX8_lift 0 [some (.ref b), some (vI i), none] [] (0, 0) N lay r h
  have lp : ∀ (hc0 : 0 ≤ i ∧ i ≤ mp 135 - 1) (n_ : Nat) (j : Int), (3 * mp 135 - j).toNat = n_ → (3 * i ≤ j ∧ j ≤ 3 * (mp 135 - 1)) → St E mX8_lift 37 [some (.ref b), some (vI i), some (vI j)] [] (0, 0) N lay r (hr h (b + 2) (lfR mp i j)) := by
    intro hc0 n_
    induction n_ using Nat.strongRecOn with
    | ind n_ ih =>
      intro j hn_ hj
      have em : (hr h (b + 2) (lfR mp i j)) (b + 2) = lfR mp i j := hr_s
      have e5 : lfR mp i j 135 = mp 135 - 1 := lfR_5 (by omega)
      refine r_iload_2 (pc := 37) dX8_lift_37 ?_
      refine r_iconst (pc := 38) dX8_lift_38 ?_
      refine r_aload_0 (pc := 39) dX8_lift_39 ?_
      refine gf_X8_13 (pc := 40) rfl (by assumption) dX8_lift_40 (by assumption) ?_
      refine r_sipush (pc := 43) dX8_lift_43 (by decide) ?_
      refine r_ialdE (pc := 46) (by assumption) (by first | assumption | exact rfl) dX8_lift_46 (by omega) (by omega) (fun i_46 => ?_)
      refine r_imul (pc := 47) dX8_lift_47 ?_
      refine r_icmp_ge (pc := 48) (tgt := 75) dX8_lift_48 (by decide) (by omega) (by omega) (fun c_48 => ?_) (fun c_48 => ?_)
      · refine r_aload_0 (pc := 75) dX8_lift_75 ?_
        have hj9 : j = 3 * (mp 135 - 1) := by omega
        subst hj9
        have em2 : (hr h (b + 2) (lfR mp i (3 * (mp 135 - 1)))) (b + 2) = (lfR mp i (3 * (mp 135 - 1))) := hr_s
        have hT2 : TrM (lfR mp i (3 * (mp 135 - 1))) := TrM_c hT (fun j hj => lfR_e (by omega) (by omega))
        have hR2 : RlM (lfR mp i (3 * (mp 135 - 1))) := RlM_lf hR hT (by omega)
        have eb2 : (hr h (b + 2) (lfR mp i (3 * (mp 135 - 1)))) b = (h b) := hr_n (by omega)
        have g2 : Fr h (hr h (b + 2) (lfR mp i (3 * (mp 135 - 1)))) (fun x => x = b ∨ x = b + 2) := fun x hx => hr_n (by omega)
        have hwa2 : WaT ((hr h (b + 2) (lfR mp i (3 * (mp 135 - 1)))) (b + 7)) := by rw [g2 _ (by omega)]; exact hwa
        have hep2 : 1 ≤ (hr h (b + 2) (lfR mp i (3 * (mp 135 - 1)))) b 5 ∧ (hr h (b + 2) (lfR mp i (3 * (mp 135 - 1)))) b 5 < 2147483647 := by rw [eb2]; exact hep
        refine k_VV0 (pc := 76) c_X8_changed lk_X8_223 ⟨Nat.le_of_ble_eq_true rfl, Nat.le_of_ble_eq_true rfl⟩ ⟨rfl, rfl⟩ ⟨Nat.le_of_ble_eq_true rfl, Nat.le_of_ble_eq_true rfl⟩ (k := 8) rfl (by decide) (by assumption) dX8_lift_76 (Nat.le_of_ble_eq_true rfl) ?_
        refine ⟨_, _, rfl, hM, em2, hT2, hR2, hwa2, hep2, fun h_76 f_76 o_76 k_76 q_76 a_76 => ?_⟩
        have ch := Ch_of g2 eb2 em2 f_76 o_76 k_76 q_76 a_76
        refine r_aload_0 (pc := 79) dX8_lift_79 ?_
        refine gf_X8_13 (pc := 80) rfl (by assumption) dX8_lift_80 (by assumption) ?_
        refine r_sipush (pc := 83) dX8_lift_83 (by decide) ?_
        refine r_ialdE (pc := 86) (by assumption) ch.2.1 dX8_lift_86 (by omega) (by omega) (fun i_86 => ?_)
        rw [lfR_5 (by omega)]
        refine r_iret (pc := 87) hret dX8_lift_87 rfl rfl rfl ?_
        exact hQ hc0 h_76 ch
      · refine r_aload_0 (pc := 51) dX8_lift_51 ?_
        refine gf_X8_13 (pc := 52) rfl (by assumption) dX8_lift_52 (by assumption) ?_
        refine r_bipush (pc := 55) dX8_lift_55 (by decide) ?_
        refine r_iload_2 (pc := 57) dX8_lift_57 ?_
        refine r_iadd (pc := 58) dX8_lift_58 ?_
        refine r_aload_0 (pc := 59) dX8_lift_59 ?_
        refine gf_X8_13 (pc := 60) rfl (by assumption) dX8_lift_60 (by assumption) ?_
        refine r_bipush (pc := 63) dX8_lift_63 (by decide) ?_
        refine r_iload_2 (pc := 65) dX8_lift_65 ?_
        refine r_iadd (pc := 66) dX8_lift_66 ?_
        refine r_ialdE (pc := 67) (by assumption) em dX8_lift_67 (by omega) (by omega) (fun i_67 => ?_)
        rw [show lfR mp i j (113 + j) = mp (113 + j) from lfR_e (by omega) (by omega)] at i_67 ⊢
        refine r_iastE (pc := 68) (by assumption) (by first | assumption | exact rfl) dX8_lift_68 (by omega) (by omega) (by omega) ?_
        refine r_iinc_2 (pc := 69) dX8_lift_69 rfl ?_
        refine r_goto (pc := 72) (tgt := 37) dX8_lift_72 (by decide) ?_
        rw [hr_hr, lfR_s (by omega)]
        exact ih _ (by omega) (j + 1) rfl (by omega)
  refine r_aload_0 (pc := 0) dX8_lift_0 ?_
  refine r_iload_1 (pc := 1) dX8_lift_1 ?_
  refine r_iconst (pc := 2) dX8_lift_2 ?_
  refine r_aload_0 (pc := 3) dX8_lift_3 ?_
  refine gf_X8_13 (pc := 4) rfl (by assumption) dX8_lift_4 (by assumption) ?_
  refine r_sipush (pc := 7) dX8_lift_7 (by decide) ?_
  refine r_ialdE (pc := 10) (by assumption) (by first | assumption | exact rfl) dX8_lift_10 (by omega) (by omega) (fun i_10 => ?_)
  refine r_iconst (pc := 11) dX8_lift_11 ?_
  refine r_isub (pc := 12) dX8_lift_12 ?_
  refine k_VI3 (pc := 13) c_X8_isIn lk_X8_137 ⟨Nat.le_of_ble_eq_true rfl, Nat.le_of_ble_eq_true rfl⟩ ⟨rfl, rfl⟩ ⟨Nat.le_of_ble_eq_true rfl, Nat.le_of_ble_eq_true rfl⟩ (k := 8) rfl (by decide) (by assumption) dX8_lift_13 (Nat.le_of_ble_eq_true rfl) ?_
  refine ⟨_, _, _, _, rfl, by omega, by omega, by omega, ?_⟩
  refine r_ifne_b (pc := 16) (tgt := 21) dX8_lift_16 (by decide) (fun c_16 => ?_) (fun c_16 => ?_)
  · refine r_aload_0 (pc := 21) dX8_lift_21 ?_
    refine gf_X8_13 (pc := 22) rfl (by assumption) dX8_lift_22 (by assumption) ?_
    refine r_sipush (pc := 25) dX8_lift_25 (by decide) ?_
    refine r_dup2 (pc := 28) dX8_lift_28 ?_
    refine r_ialdE (pc := 29) (by assumption) (by first | assumption | exact rfl) dX8_lift_29 (by omega) (by omega) (fun i_29 => ?_)
    refine r_iconst (pc := 30) dX8_lift_30 ?_
    refine r_isub (pc := 31) dX8_lift_31 ?_
    refine r_iastE (pc := 32) (by assumption) (by first | assumption | exact rfl) dX8_lift_32 (by omega) (by omega) (by omega) ?_
    refine r_iconst (pc := 33) dX8_lift_33 ?_
    refine r_iload_1 (pc := 34) dX8_lift_34 ?_
    refine r_imul (pc := 35) dX8_lift_35 ?_
    refine r_istore_2 (pc := 36) dX8_lift_36 rfl ?_
    have hz := lp c_16 _ (3 * i) rfl (by omega)
    rw [lfR_0] at hz
    exact hz
  · refine r_iconst (pc := 19) dX8_lift_19 ?_
    refine r_iret (pc := 20) hret dX8_lift_20 rfl rfl rfl ?_
    exact hB c_16

theorem dX8_back_0 : decode cX8_back 0 = .ok (.aload_n 0, 1) := by decide +kernel
theorem dX8_back_1 : decode cX8_back 1 = .ok (.iload_n 1, 1) := by decide +kernel
theorem dX8_back_2 : decode cX8_back 2 = .ok (.invokevirtual 229, 3) := by decide +kernel
theorem dX8_back_5 : decode cX8_back 5 = .ok (.ifCond .ne 5, 3) := by decide +kernel
theorem dX8_back_8 : decode cX8_back 8 = .ok (.iconst (-1), 1) := by decide +kernel
theorem dX8_back_9 : decode cX8_back 9 = .ok (.ireturn, 1) := by decide +kernel
theorem dX8_back_10 : decode cX8_back 10 = .ok (.sipush 136, 3) := by decide +kernel
theorem dX8_back_13 : decode cX8_back 13 = .ok (.iload_n 1, 1) := by decide +kernel
theorem dX8_back_14 : decode cX8_back 14 = .ok (.iconst 5, 1) := by decide +kernel
theorem dX8_back_15 : decode cX8_back 15 = .ok (.irem, 1) := by decide +kernel
theorem dX8_back_16 : decode cX8_back 16 = .ok (.imul, 1) := by decide +kernel
theorem dX8_back_17 : decode cX8_back 17 = .ok (.istore_n 2, 1) := by decide +kernel
theorem dX8_back_18 : decode cX8_back 18 = .ok (.iload_n 1, 1) := by decide +kernel
theorem dX8_back_19 : decode cX8_back 19 = .ok (.aload_n 0, 1) := by decide +kernel
theorem dX8_back_20 : decode cX8_back 20 = .ok (.getfield 116, 3) := by decide +kernel
theorem dX8_back_23 : decode cX8_back 23 = .ok (.if_icmp .eq 45, 3) := by decide +kernel
theorem dX8_back_26 : decode cX8_back 26 = .ok (.aload_n 0, 1) := by decide +kernel
theorem dX8_back_27 : decode cX8_back 27 = .ok (.getfield 16, 3) := by decide +kernel
theorem dX8_back_30 : decode cX8_back 30 = .ok (.iload_n 2, 1) := by decide +kernel
theorem dX8_back_31 : decode cX8_back 31 = .ok (.sipush 129, 3) := by decide +kernel
theorem dX8_back_34 : decode cX8_back 34 = .ok (.iadd, 1) := by decide +kernel
theorem dX8_back_35 : decode cX8_back 35 = .ok (.iaload, 1) := by decide +kernel
theorem dX8_back_36 : decode cX8_back 36 = .ok (.aload_n 0, 1) := by decide +kernel
theorem dX8_back_37 : decode cX8_back 37 = .ok (.getfield 13, 3) := by decide +kernel
theorem dX8_back_40 : decode cX8_back 40 = .ok (.sipush 129, 3) := by decide +kernel
theorem dX8_back_43 : decode cX8_back 43 = .ok (.iaload, 1) := by decide +kernel
theorem dX8_back_44 : decode cX8_back 44 = .ok (.if_icmp .lt 24, 3) := by decide +kernel
theorem dX8_back_47 : decode cX8_back 47 = .ok (.aload_n 0, 1) := by decide +kernel
theorem dX8_back_48 : decode cX8_back 48 = .ok (.getfield 16, 3) := by decide +kernel
theorem dX8_back_51 : decode cX8_back 51 = .ok (.iload_n 2, 1) := by decide +kernel
theorem dX8_back_52 : decode cX8_back 52 = .ok (.sipush 130, 3) := by decide +kernel
theorem dX8_back_55 : decode cX8_back 55 = .ok (.iadd, 1) := by decide +kernel
theorem dX8_back_56 : decode cX8_back 56 = .ok (.iaload, 1) := by decide +kernel
theorem dX8_back_57 : decode cX8_back 57 = .ok (.aload_n 0, 1) := by decide +kernel
theorem dX8_back_58 : decode cX8_back 58 = .ok (.getfield 13, 3) := by decide +kernel
theorem dX8_back_61 : decode cX8_back 61 = .ok (.sipush 130, 3) := by decide +kernel
theorem dX8_back_64 : decode cX8_back 64 = .ok (.iaload, 1) := by decide +kernel
theorem dX8_back_65 : decode cX8_back 65 = .ok (.if_icmp .ge 6, 3) := by decide +kernel
theorem dX8_back_68 : decode cX8_back 68 = .ok (.bipush (-2), 2) := by decide +kernel
theorem dX8_back_70 : decode cX8_back 70 = .ok (.ireturn, 1) := by decide +kernel
theorem dX8_back_71 : decode cX8_back 71 = .ok (.iconst 0, 1) := by decide +kernel
theorem dX8_back_72 : decode cX8_back 72 = .ok (.istore_n 3, 1) := by decide +kernel
theorem dX8_back_73 : decode cX8_back 73 = .ok (.iload_n 3, 1) := by decide +kernel
theorem dX8_back_74 : decode cX8_back 74 = .ok (.sipush 136, 3) := by decide +kernel
theorem dX8_back_77 : decode cX8_back 77 = .ok (.if_icmp .ge 23, 3) := by decide +kernel
theorem dX8_back_80 : decode cX8_back 80 = .ok (.aload_n 0, 1) := by decide +kernel
theorem dX8_back_81 : decode cX8_back 81 = .ok (.getfield 13, 3) := by decide +kernel
theorem dX8_back_84 : decode cX8_back 84 = .ok (.iload_n 3, 1) := by decide +kernel
theorem dX8_back_85 : decode cX8_back 85 = .ok (.aload_n 0, 1) := by decide +kernel
theorem dX8_back_86 : decode cX8_back 86 = .ok (.getfield 16, 3) := by decide +kernel
theorem dX8_back_89 : decode cX8_back 89 = .ok (.iload_n 2, 1) := by decide +kernel
theorem dX8_back_90 : decode cX8_back 90 = .ok (.iload_n 3, 1) := by decide +kernel
theorem dX8_back_91 : decode cX8_back 91 = .ok (.iadd, 1) := by decide +kernel
theorem dX8_back_92 : decode cX8_back 92 = .ok (.iaload, 1) := by decide +kernel
theorem dX8_back_93 : decode cX8_back 93 = .ok (.iastore, 1) := by decide +kernel
theorem dX8_back_94 : decode cX8_back 94 = .ok (.iinc 3 1, 3) := by decide +kernel
theorem dX8_back_97 : decode cX8_back 97 = .ok (.goto (-24), 3) := by decide +kernel
theorem dX8_back_100 : decode cX8_back 100 = .ok (.aload_n 0, 1) := by decide +kernel
theorem dX8_back_101 : decode cX8_back 101 = .ok (.invokevirtual 223, 3) := by decide +kernel
theorem dX8_back_104 : decode cX8_back 104 = .ok (.aload_n 0, 1) := by decide +kernel
theorem dX8_back_105 : decode cX8_back 105 = .ok (.getfield 116, 3) := by decide +kernel
theorem dX8_back_108 : decode cX8_back 108 = .ok (.ireturn, 1) := by decide +kernel
set_option maxHeartbeats 4000000 in
set_option maxRecDepth 20000 in
theorem c_X8_back : ConI mX8_back (fun args N lay r h Q => ∃ (b : Nat) (mp : Int → Int) (e : Int), args = [.ref b, vI e] ∧ MdAt lay r b ∧ h (b + 2) = mp ∧ TrM mp ∧ RlM mp ∧ (-2147483648 ≤ e ∧ e < 2147483648) ∧ WaT (h (b + 7)) ∧ (1 ≤ h b 5 ∧ h b 5 < 2147483647) ∧ (∀ e, 1 ≤ e → e < 2147483648 → h (b + 4) (e % 5) = e → TrM (cpR (fun k => h (b + 3) (136 * (e % 5) + k)) mp 136) ∧ RlM (cpR (fun k => h (b + 3) (136 * (e % 5) + k)) mp 136)) ∧ (¬ (1 ≤ e ∧ h (b + 4) (e % 5) = e) → Q (-1) N lay r h) ∧ ((1 ≤ e ∧ h (b + 4) (e % 5) = e) → ((e = h b 5 ∨ h (b + 3) (136 * (e % 5) + 129) < mp 129 ∨ h (b + 3) (136 * (e % 5) + 130) < mp 130) → Q (-2) N lay r h) ∧ (¬ (e = h b 5 ∨ h (b + 3) (136 * (e % 5) + 129) < mp 129 ∨ h (b + 3) (136 * (e % 5) + 130) < mp 130) → ∀ h2, Ch b h (h b) h2 (cpR (fun k => h (b + 3) (136 * (e % 5) + k)) mp 136) → Q (h b 5 + 1) N lay r h2))) := by
  refine ConI.of (by decide) (by rintro _ N lay r h Q ⟨b, mp, e, rfl, hM, hmp, hT, hR, he, hwa, hep, hkp, hB, hQ⟩; exact ⟨rfl, Nat.le_of_ble_eq_true rfl⟩) ?_
  rintro E _ N lay r h Q ⟨b, mp, e, rfl, hM, hmp, hT, hR, he, hwa, hep, hkp, hB, hQ⟩ hret
  obtain ⟨ml0, ml1, ml2, ml3, ml4, ml5, ml6, ml7, ml8, ml9, ml10, ml11, ml12, ml13, ml14, ml15, ml16, ml17, ml18, ml19, ml20, mr1, mr2, mr3, mr4, mr5, mr6, mr7, mr8, mr9, mr10, mr11, mr12, mr13, mr14, mr15, mr16, mr17, mr18, mr19, mr20⟩ := id hM
  obtain ⟨t1, t2, t3, t4, t5, t6, t7⟩ := id hT
  obtain ⟨r1, r2, r3, r4, r5, r6, r7⟩ := id hR
  show St E mX8_back 0 [some (.ref b), some (vI e), none, none] [] (0, 0) N lay r h
  have lp : ∀ (hk0 : 1 ≤ e ∧ h (b + 4) (e % 5) = e) (K : ∀ h2, Ch b h (h b) h2 (cpR (fun k => h (b + 3) (136 * (e % 5) + k)) mp 136) → Q (h b 5 + 1) N lay r h2) (n_ : Nat) (i : Int), (136 - i).toNat = n_ → (0 ≤ i ∧ i ≤ 136) → St E mX8_back 73 [some (.ref b), some (vI e), some (vI (136 * (e % 5))), some (vI i)] [] (0, 0) N lay r (hr h (b + 2) (cpR (fun k => h (b + 3) (136 * (e % 5) + k)) mp i)) := by
    intro hk0 K n_
    induction n_ using Nat.strongRecOn with
    | ind n_ ih =>
      intro i hn_ hi
      have em : (hr h (b + 2) (cpR (fun k => h (b + 3) (136 * (e % 5) + k)) mp i)) (b + 2) = cpR (fun k => h (b + 3) (136 * (e % 5) + k)) mp i := hr_s
      have ek : (hr h (b + 2) (cpR (fun k => h (b + 3) (136 * (e % 5) + k)) mp i)) (b + 3) = h (b + 3) := hr_n (by omega)
      have p5 : 0 ≤ e % 5 ∧ e % 5 < 5 := by omega
      obtain ⟨hT3, hR3⟩ := hkp e hk0.1 (by omega) hk0.2
      refine r_iload_3 (pc := 73) dX8_back_73 ?_
      refine r_sipush (pc := 74) dX8_back_74 (by decide) ?_
      refine r_icmp_ge (pc := 77) (tgt := 100) dX8_back_77 (by decide) (by omega) (by omega) (fun c_77 => ?_) (fun c_77 => ?_)
      · refine r_aload_0 (pc := 100) dX8_back_100 ?_
        have hi9 : i = 136 := by omega
        subst hi9
        have em2 : (hr h (b + 2) (cpR (fun k => h (b + 3) (136 * (e % 5) + k)) mp 136)) (b + 2) = (cpR (fun k => h (b + 3) (136 * (e % 5) + k)) mp 136) := hr_s
        have hT2 : TrM (cpR (fun k => h (b + 3) (136 * (e % 5) + k)) mp 136) := hT3
        have hR2 : RlM (cpR (fun k => h (b + 3) (136 * (e % 5) + k)) mp 136) := hR3
        have eb2 : (hr h (b + 2) (cpR (fun k => h (b + 3) (136 * (e % 5) + k)) mp 136)) b = (h b) := hr_n (by omega)
        have g2 : Fr h (hr h (b + 2) (cpR (fun k => h (b + 3) (136 * (e % 5) + k)) mp 136)) (fun x => x = b ∨ x = b + 2) := fun x hx => hr_n (by omega)
        have hwa2 : WaT ((hr h (b + 2) (cpR (fun k => h (b + 3) (136 * (e % 5) + k)) mp 136)) (b + 7)) := by rw [g2 _ (by omega)]; exact hwa
        have hep2 : 1 ≤ (hr h (b + 2) (cpR (fun k => h (b + 3) (136 * (e % 5) + k)) mp 136)) b 5 ∧ (hr h (b + 2) (cpR (fun k => h (b + 3) (136 * (e % 5) + k)) mp 136)) b 5 < 2147483647 := by rw [eb2]; exact hep
        refine k_VV0 (pc := 101) c_X8_changed lk_X8_223 ⟨Nat.le_of_ble_eq_true rfl, Nat.le_of_ble_eq_true rfl⟩ ⟨rfl, rfl⟩ ⟨Nat.le_of_ble_eq_true rfl, Nat.le_of_ble_eq_true rfl⟩ (k := 8) rfl (by decide) (by assumption) dX8_back_101 (Nat.le_of_ble_eq_true rfl) ?_
        refine ⟨_, _, rfl, hM, em2, hT2, hR2, hwa2, hep2, fun h_101 f_101 o_101 k_101 q_101 a_101 => ?_⟩
        have ch := Ch_of g2 eb2 em2 f_101 o_101 k_101 q_101 a_101
        refine r_aload_0 (pc := 104) dX8_back_104 ?_
        refine gf_X8_116 (pc := 105) rfl (by assumption) dX8_back_105 (fun i_105 => ?_)
        rw [ch.2.2.1, up_s]
        refine r_iret (pc := 108) hret dX8_back_108 rfl rfl rfl ?_
        exact K h_101 ch
      · refine r_aload_0 (pc := 80) dX8_back_80 ?_
        refine gf_X8_13 (pc := 81) rfl (by assumption) dX8_back_81 (by assumption) ?_
        refine r_iload_3 (pc := 84) dX8_back_84 ?_
        refine r_aload_0 (pc := 85) dX8_back_85 ?_
        refine gf_X8_16 (pc := 86) rfl (by assumption) dX8_back_86 (by assumption) ?_
        refine r_iload_2 (pc := 89) dX8_back_89 ?_
        refine r_iload_3 (pc := 90) dX8_back_90 ?_
        refine r_iadd (pc := 91) dX8_back_91 ?_
        refine r_ialdE (pc := 92) (by assumption) (by first | assumption | exact rfl) dX8_back_92 (by omega) (by omega) (fun i_92 => ?_)
        refine r_iastE (pc := 93) (by assumption) (by first | assumption | exact rfl) dX8_back_93 (by omega) (by omega) (by omega) ?_
        refine r_iinc_3 (pc := 94) dX8_back_94 rfl ?_
        refine r_goto (pc := 97) (tgt := 73) dX8_back_97 (by decide) ?_
        rw [hr_hr, show up (cpR (fun k => h (b + 3) (136 * (e % 5) + k)) mp i) i (h (b + 3) (136 * (e % 5) + i)) = cpR (fun k => h (b + 3) (136 * (e % 5) + k)) mp (i + 1) from cpR_s (f := (fun k => h (b + 3) (136 * (e % 5) + k))) (by omega)]
        exact ih _ (by omega) (i + 1) rfl (by omega)
  refine r_aload_0 (pc := 0) dX8_back_0 ?_
  refine r_iload_1 (pc := 1) dX8_back_1 ?_
  refine k_VI1 (pc := 2) c_X8_isKept lk_X8_229 ⟨Nat.le_of_ble_eq_true rfl, Nat.le_of_ble_eq_true rfl⟩ ⟨rfl, rfl⟩ ⟨Nat.le_of_ble_eq_true rfl, Nat.le_of_ble_eq_true rfl⟩ (k := 8) rfl (by decide) (by assumption) dX8_back_2 (Nat.le_of_ble_eq_true rfl) ?_
  refine ⟨_, _, rfl, by assumption, by omega, ?_⟩
  refine r_ifne_b (pc := 5) (tgt := 10) dX8_back_5 (by decide) (fun c_5 => ?_) (fun c_5 => ?_)
  · refine r_sipush (pc := 10) dX8_back_10 (by decide) ?_
    refine r_iload_1 (pc := 13) dX8_back_13 ?_
    refine r_iconst (pc := 14) dX8_back_14 ?_
    refine r_irem (pc := 15) dX8_back_15 (by omega) (by omega) ?_
    refine r_imul (pc := 16) dX8_back_16 ?_
    have p5 : 0 ≤ e % 5 ∧ e % 5 < 5 := by omega
    refine r_istore_2 (pc := 17) dX8_back_17 rfl ?_
    refine r_iload_1 (pc := 18) dX8_back_18 ?_
    refine r_aload_0 (pc := 19) dX8_back_19 ?_
    refine gf_X8_116 (pc := 20) rfl (by assumption) dX8_back_20 (fun i_20 => ?_)
    refine r_icmp_eq (pc := 23) (tgt := 68) dX8_back_23 (by decide) (by omega) (by omega) (fun c_23 => ?_) (fun c_23 => ?_)
    · refine r_bipush (pc := 68) dX8_back_68 (by decide) ?_
      refine r_iret (pc := 70) hret dX8_back_70 rfl rfl rfl ?_
      first | exact hB c_5 | exact (hQ c_5).1 (Or.inl c_23) | exact (hQ c_5).1 (Or.inr (Or.inl (by omega))) | exact (hQ c_5).1 (Or.inr (Or.inr (by omega)))
    · refine r_aload_0 (pc := 26) dX8_back_26 ?_
      refine gf_X8_16 (pc := 27) rfl (by assumption) dX8_back_27 (by assumption) ?_
      refine r_iload_2 (pc := 30) dX8_back_30 ?_
      refine r_sipush (pc := 31) dX8_back_31 (by decide) ?_
      refine r_iadd (pc := 34) dX8_back_34 ?_
      refine r_ialdE (pc := 35) (by assumption) (by first | assumption | exact rfl) dX8_back_35 (by omega) (by omega) (fun i_35 => ?_)
      refine r_aload_0 (pc := 36) dX8_back_36 ?_
      refine gf_X8_13 (pc := 37) rfl (by assumption) dX8_back_37 (by assumption) ?_
      refine r_sipush (pc := 40) dX8_back_40 (by decide) ?_
      refine r_ialdE (pc := 43) (by assumption) (by first | assumption | exact rfl) dX8_back_43 (by omega) (by omega) (fun i_43 => ?_)
      refine r_icmp_lt (pc := 44) (tgt := 68) dX8_back_44 (by decide) (by omega) (by omega) (fun c_44 => ?_) (fun c_44 => ?_)
      · refine r_bipush (pc := 68) dX8_back_68 (by decide) ?_
        refine r_iret (pc := 70) hret dX8_back_70 rfl rfl rfl ?_
        first | exact hB c_5 | exact (hQ c_5).1 (Or.inl c_23) | exact (hQ c_5).1 (Or.inr (Or.inl (by omega))) | exact (hQ c_5).1 (Or.inr (Or.inr (by omega)))
      · refine r_aload_0 (pc := 47) dX8_back_47 ?_
        refine gf_X8_16 (pc := 48) rfl (by assumption) dX8_back_48 (by assumption) ?_
        refine r_iload_2 (pc := 51) dX8_back_51 ?_
        refine r_sipush (pc := 52) dX8_back_52 (by decide) ?_
        refine r_iadd (pc := 55) dX8_back_55 ?_
        refine r_ialdE (pc := 56) (by assumption) (by first | assumption | exact rfl) dX8_back_56 (by omega) (by omega) (fun i_56 => ?_)
        refine r_aload_0 (pc := 57) dX8_back_57 ?_
        refine gf_X8_13 (pc := 58) rfl (by assumption) dX8_back_58 (by assumption) ?_
        refine r_sipush (pc := 61) dX8_back_61 (by decide) ?_
        refine r_ialdE (pc := 64) (by assumption) (by first | assumption | exact rfl) dX8_back_64 (by omega) (by omega) (fun i_64 => ?_)
        refine r_icmp_ge (pc := 65) (tgt := 71) dX8_back_65 (by decide) (by omega) (by omega) (fun c_65 => ?_) (fun c_65 => ?_)
        · refine r_iconst (pc := 71) dX8_back_71 ?_
          refine r_istore_3 (pc := 72) dX8_back_72 rfl ?_
          have hz := lp c_5 ((hQ c_5).2 (fun z => by rcases z with z | z | z; exact c_23 z; omega; omega)) _ 0 rfl (by omega)
          rw [cpR_0, show hr h (b + 2) mp = h by rw [← hmp]; exact hr_id] at hz
          exact hz
        · refine r_bipush (pc := 68) dX8_back_68 (by decide) ?_
          refine r_iret (pc := 70) hret dX8_back_70 rfl rfl rfl ?_
          first | exact hB c_5 | exact (hQ c_5).1 (Or.inl c_23) | exact (hQ c_5).1 (Or.inr (Or.inl (by omega))) | exact (hQ c_5).1 (Or.inr (Or.inr (by omega)))
  · refine r_iconst (pc := 8) dX8_back_8 ?_
    refine r_iret (pc := 9) hret dX8_back_9 rfl rfl rfl ?_
    first | exact hB c_5 | exact (hQ c_5).1 (Or.inl c_23) | exact (hQ c_5).1 (Or.inr (Or.inl (by omega))) | exact (hQ c_5).1 (Or.inr (Or.inr (by omega)))

def ldF (ho sz : Int → Int) (d : Int) : Int := sm (fun g => if iA (iSr (ho g) (d - 10)) 1 = 1 then sz g else 0) 16
theorem ldF_r {ho sz : Int → Int} (h : ∀ g, 0 ≤ g → g < 16 → 0 ≤ sz g ∧ sz g ≤ 9999) (d : Int) : 0 ≤ ldF ho sz d ∧ ldF ho sz d ≤ 159984 := by
  have := sm_r (f := fun g => if iA (iSr (ho g) (d - 10)) 1 = 1 then sz g else 0) (c := 9999) (n := 16) (fun k hk => by
    have := h k (by omega) (by omega)
    split <;> omega)
  unfold ldF
  omega
def rfR (mp ld : Int → Int) (k : Int) : Int → Int := fun q => if 98 ≤ q ∧ q < 98 + k then bI (mp (q - 44) ≤ ld (q - 88)) else mp q
def rfF (mp ld : Int → Int) : Int → Int := fun k => bI (bI (mp (44 + (10 + k)) ≤ ld (10 + k)) ≠ mp (88 + (10 + k)))
theorem rfR_0 {mp ld : Int → Int} : rfR mp ld 0 = mp := funext (fun q => if_neg (by omega))
theorem rfR_s {mp ld : Int → Int} {k : Int} (h : 0 ≤ k) : up (rfR mp ld k) (88 + (10 + k)) (bI (mp (44 + (10 + k)) ≤ ld (10 + k))) = rfR mp ld (k + 1) := by
  funext q
  by_cases e : q = 88 + (10 + k)
  · rw [e, up_s]
    unfold rfR
    rw [if_pos (by omega), show 88 + (10 + k) - 44 = 44 + (10 + k) by omega, show 88 + (10 + k) - 88 = 10 + k by omega]
  · rw [up_n e]
    unfold rfR
    by_cases e2 : 98 ≤ q ∧ q < 98 + k
    · rw [if_pos e2, if_pos (by omega)]
    · rw [if_neg e2, if_neg (by omega)]
theorem rfR_e {mp ld : Int → Int} {k q : Int} (h : ¬ (98 ≤ q ∧ q < 98 + k)) : rfR mp ld k q = mp q := if_neg h
theorem RlM_rf {mp ld : Int → Int} (h : RlM mp) (hT : TrM mp) : RlM (rfR mp ld (mp 130)) := by
  obtain ⟨r1, r2, r3, r4, r5, r6, r7⟩ := h
  have t3 := hT.2.2.1
  refine ⟨by rw [rfR_e (by omega)]; exact r1, by rw [rfR_e (by omega)]; exact r2, by rw [rfR_e (by omega)]; exact r3, by rw [rfR_e (by omega)]; exact r4, by rw [rfR_e (by omega)]; exact r5, fun n n0 n1 => ?_, fun n n0 n1 => ?_⟩
  · rw [rfR_e (by omega)] at n1
    have q6 := r6 n n0 n1
    rw [rfR_e (by omega), rfR_e (by omega)]
    refine ⟨q6.1, q6.2.1, ?_⟩
    have e : rfR mp ld (mp 130) (88 + n) = bI (mp (88 + n - 44) ≤ ld (88 + n - 88)) := if_pos (by omega)
    rw [e]
    exact bI_r
  · rw [rfR_e (by omega)] at n1
    rw [rfR_e (by omega), rfR_e (by omega), rfR_e (by omega), rfR_e (by omega)]; exact r7 n n0 n1
theorem sm_nn {f : Int → Int} (h : ∀ k : Nat, 0 ≤ f k) : ∀ n : Nat, 0 ≤ sm f n
  | 0 => by simp [sm]
  | n + 1 => by
    have h1 := sm_nn h n
    have h2 := h n
    simp only [sm]
    omega
theorem sm_0 {f : Int → Int} (h : ∀ k : Nat, 0 ≤ f k) : ∀ {n : Nat}, sm f n = 0 → ∀ k : Nat, k < n → f k = 0
  | 0, _, k, hk => by omega
  | n + 1, e, k, hk => by
    have h2 : 0 ≤ sm f n := sm_nn h n
    have h3 := h n
    simp only [sm] at e
    by_cases ek : k = n
    · rw [ek]; omega
    · exact sm_0 h (n := n) (by omega) k (by omega)
theorem rfR_id {mp ld : Int → Int} {k : Nat} (h : sm (rfF mp ld) k = 0) : rfR mp ld k = mp := by
  have h0 := sm_0 (f := rfF mp ld) (fun j => bI_r.1) h
  funext q
  unfold rfR
  split
  · rename_i e
    have h1 := h0 (q - 98).toNat (by omega)
    unfold rfF at h1
    rw [show 44 + (10 + ((q - 98).toNat : Int)) = q - 44 by omega, show 10 + ((q - 98).toNat : Int) = q - 88 by omega, show 88 + (q - 88) = q by omega] at h1
    by_cases e2 : bI (mp (q - 44) ≤ ld (q - 88)) = mp q
    · exact e2
    · rw [bI_t e2] at h1; omega
  · rfl
theorem dX8_refill_0 : decode cX8_refill 0 = .ok (.iconst 0, 1) := by decide +kernel
theorem dX8_refill_1 : decode cX8_refill 1 = .ok (.istore_n 1, 1) := by decide +kernel
theorem dX8_refill_2 : decode cX8_refill 2 = .ok (.bipush 10, 2) := by decide +kernel
theorem dX8_refill_4 : decode cX8_refill 4 = .ok (.istore_n 2, 1) := by decide +kernel
theorem dX8_refill_5 : decode cX8_refill 5 = .ok (.iload_n 2, 1) := by decide +kernel
theorem dX8_refill_6 : decode cX8_refill 6 = .ok (.bipush 10, 2) := by decide +kernel
theorem dX8_refill_8 : decode cX8_refill 8 = .ok (.aload_n 0, 1) := by decide +kernel
theorem dX8_refill_9 : decode cX8_refill 9 = .ok (.getfield 13, 3) := by decide +kernel
theorem dX8_refill_12 : decode cX8_refill 12 = .ok (.sipush 130, 3) := by decide +kernel
theorem dX8_refill_15 : decode cX8_refill 15 = .ok (.iaload, 1) := by decide +kernel
theorem dX8_refill_16 : decode cX8_refill 16 = .ok (.iadd, 1) := by decide +kernel
theorem dX8_refill_17 : decode cX8_refill 17 = .ok (.if_icmp .ge 63, 3) := by decide +kernel
theorem dX8_refill_20 : decode cX8_refill 20 = .ok (.aload_n 0, 1) := by decide +kernel
theorem dX8_refill_21 : decode cX8_refill 21 = .ok (.iload_n 2, 1) := by decide +kernel
theorem dX8_refill_22 : decode cX8_refill 22 = .ok (.invokevirtual 226, 3) := by decide +kernel
theorem dX8_refill_25 : decode cX8_refill 25 = .ok (.aload_n 0, 1) := by decide +kernel
theorem dX8_refill_26 : decode cX8_refill 26 = .ok (.getfield 13, 3) := by decide +kernel
theorem dX8_refill_29 : decode cX8_refill 29 = .ok (.bipush 44, 2) := by decide +kernel
theorem dX8_refill_31 : decode cX8_refill 31 = .ok (.iload_n 2, 1) := by decide +kernel
theorem dX8_refill_32 : decode cX8_refill 32 = .ok (.iadd, 1) := by decide +kernel
theorem dX8_refill_33 : decode cX8_refill 33 = .ok (.iaload, 1) := by decide +kernel
theorem dX8_refill_34 : decode cX8_refill 34 = .ok (.if_icmp .lt 7, 3) := by decide +kernel
theorem dX8_refill_37 : decode cX8_refill 37 = .ok (.iconst 1, 1) := by decide +kernel
theorem dX8_refill_38 : decode cX8_refill 38 = .ok (.goto 4, 3) := by decide +kernel
theorem dX8_refill_41 : decode cX8_refill 41 = .ok (.iconst 0, 1) := by decide +kernel
theorem dX8_refill_42 : decode cX8_refill 42 = .ok (.istore_n 3, 1) := by decide +kernel
theorem dX8_refill_43 : decode cX8_refill 43 = .ok (.iload_n 1, 1) := by decide +kernel
theorem dX8_refill_44 : decode cX8_refill 44 = .ok (.iload_n 3, 1) := by decide +kernel
theorem dX8_refill_45 : decode cX8_refill 45 = .ok (.aload_n 0, 1) := by decide +kernel
theorem dX8_refill_46 : decode cX8_refill 46 = .ok (.getfield 13, 3) := by decide +kernel
theorem dX8_refill_49 : decode cX8_refill 49 = .ok (.bipush 88, 2) := by decide +kernel
theorem dX8_refill_51 : decode cX8_refill 51 = .ok (.iload_n 2, 1) := by decide +kernel
theorem dX8_refill_52 : decode cX8_refill 52 = .ok (.iadd, 1) := by decide +kernel
theorem dX8_refill_53 : decode cX8_refill 53 = .ok (.iaload, 1) := by decide +kernel
theorem dX8_refill_54 : decode cX8_refill 54 = .ok (.if_icmp .ne 7, 3) := by decide +kernel
theorem dX8_refill_57 : decode cX8_refill 57 = .ok (.iconst 0, 1) := by decide +kernel
theorem dX8_refill_58 : decode cX8_refill 58 = .ok (.goto 4, 3) := by decide +kernel
theorem dX8_refill_61 : decode cX8_refill 61 = .ok (.iconst 1, 1) := by decide +kernel
theorem dX8_refill_62 : decode cX8_refill 62 = .ok (.iadd, 1) := by decide +kernel
theorem dX8_refill_63 : decode cX8_refill 63 = .ok (.istore_n 1, 1) := by decide +kernel
theorem dX8_refill_64 : decode cX8_refill 64 = .ok (.aload_n 0, 1) := by decide +kernel
theorem dX8_refill_65 : decode cX8_refill 65 = .ok (.getfield 13, 3) := by decide +kernel
theorem dX8_refill_68 : decode cX8_refill 68 = .ok (.bipush 88, 2) := by decide +kernel
theorem dX8_refill_70 : decode cX8_refill 70 = .ok (.iload_n 2, 1) := by decide +kernel
theorem dX8_refill_71 : decode cX8_refill 71 = .ok (.iadd, 1) := by decide +kernel
theorem dX8_refill_72 : decode cX8_refill 72 = .ok (.iload_n 3, 1) := by decide +kernel
theorem dX8_refill_73 : decode cX8_refill 73 = .ok (.iastore, 1) := by decide +kernel
theorem dX8_refill_74 : decode cX8_refill 74 = .ok (.iinc 2 1, 3) := by decide +kernel
theorem dX8_refill_77 : decode cX8_refill 77 = .ok (.goto (-72), 3) := by decide +kernel
theorem dX8_refill_80 : decode cX8_refill 80 = .ok (.iload_n 1, 1) := by decide +kernel
theorem dX8_refill_81 : decode cX8_refill 81 = .ok (.ifCond .ne 6, 3) := by decide +kernel
theorem dX8_refill_84 : decode cX8_refill 84 = .ok (.bipush (-2), 2) := by decide +kernel
theorem dX8_refill_86 : decode cX8_refill 86 = .ok (.ireturn, 1) := by decide +kernel
theorem dX8_refill_87 : decode cX8_refill 87 = .ok (.aload_n 0, 1) := by decide +kernel
theorem dX8_refill_88 : decode cX8_refill 88 = .ok (.invokevirtual 223, 3) := by decide +kernel
theorem dX8_refill_91 : decode cX8_refill 91 = .ok (.iload_n 1, 1) := by decide +kernel
theorem dX8_refill_92 : decode cX8_refill 92 = .ok (.ireturn, 1) := by decide +kernel
set_option maxHeartbeats 4000000 in
set_option maxRecDepth 20000 in
theorem c_X8_refill : ConI mX8_refill (fun args N lay r h Q => ∃ (b : Nat) (mp : Int → Int) , args = [.ref b] ∧ MdAt lay r b ∧ h (b + 2) = mp ∧ TrM mp ∧ RlM mp ∧ WaT (h (b + 7)) ∧ (1 ≤ h b 5 ∧ h b 5 < 2147483647) ∧ (∀ g, 0 ≤ g → g < 16 → 0 ≤ h (b + 15) g ∧ h (b + 15) g ≤ 9999) ∧ ((sm (rfF mp (ldF (h (b + 14)) (h (b + 15)))) (mp 130).toNat = 0 → Q (-2) N lay r h) ∧ (sm (rfF mp (ldF (h (b + 14)) (h (b + 15)))) (mp 130).toNat ≠ 0 → ∀ h2, Ch b h (h b) h2 (rfR mp (ldF (h (b + 14)) (h (b + 15))) (mp 130)) → Q (sm (rfF mp (ldF (h (b + 14)) (h (b + 15)))) (mp 130).toNat) N lay r h2))) := by
  refine ConI.of (by decide) (by rintro _ N lay r h Q ⟨b, mp, rfl, hM, hmp, hT, hR, hwa, hep, hsz, hQ⟩; exact ⟨rfl, Nat.le_of_ble_eq_true rfl⟩) ?_
  rintro E _ N lay r h Q ⟨b, mp, rfl, hM, hmp, hT, hR, hwa, hep, hsz, hQ⟩ hret
  obtain ⟨ml0, ml1, ml2, ml3, ml4, ml5, ml6, ml7, ml8, ml9, ml10, ml11, ml12, ml13, ml14, ml15, ml16, ml17, ml18, ml19, ml20, mr1, mr2, mr3, mr4, mr5, mr6, mr7, mr8, mr9, mr10, mr11, mr12, mr13, mr14, mr15, mr16, mr17, mr18, mr19, mr20⟩ := id hM
  obtain ⟨t1, t2, t3, t4, t5, t6, t7⟩ := id hT
  obtain ⟨r1, r2, r3, r4, r5, r6, r7⟩ := id hR
  show St E mX8_refill 0 [some (.ref b), none, none, none] [] (0, 0) N lay r h
  have lp : ∀ (n_ : Nat) (d : Int) (s : Int) (x3 : Option Value), (22 - d).toNat = n_ → (10 ≤ d ∧ d ≤ 10 + mp 130) → (s = sm (rfF mp (ldF (h (b + 14)) (h (b + 15)))) (d - 10).toNat) → St E mX8_refill 5 [some (.ref b), some (vI s), some (vI d), x3] [] (0, 0) N lay r (hr h (b + 2) (rfR mp (ldF (h (b + 14)) (h (b + 15))) (d - 10))) := by
    intro  n_
    induction n_ using Nat.strongRecOn with
    | ind n_ ih =>
      intro d s x3 hn_ hd hs
      obtain ⟨k, rfl⟩ : ∃ k : Nat, d = 10 + k := ⟨(d - 10).toNat, by omega⟩
      rw [show (10 + (k : Int) - 10).toNat = k by omega] at hs
      rw [show 10 + (k : Int) - 10 = k by omega]
      have em : (hr h (b + 2) (rfR mp (ldF (h (b + 14)) (h (b + 15))) k)) (b + 2) = rfR mp (ldF (h (b + 14)) (h (b + 15))) k := hr_s
      have e0 : rfR mp (ldF (h (b + 14)) (h (b + 15))) k 130 = mp 130 := rfR_e (by omega)
      have e44 : rfR mp (ldF (h (b + 14)) (h (b + 15))) k (44 + (10 + k)) = mp (44 + (10 + k)) := rfR_e (by omega)
      have e88 : rfR mp (ldF (h (b + 14)) (h (b + 15))) k (88 + (10 + k)) = mp (88 + (10 + k)) := rfR_e (by omega)
      have lr := ldF_r (ho := h (b + 14)) hsz (10 + (k : Int))
      have e1 : sm (rfF mp (ldF (h (b + 14)) (h (b + 15)))) (k + 1) = sm (rfF mp (ldF (h (b + 14)) (h (b + 15)))) k + (rfF mp (ldF (h (b + 14)) (h (b + 15)))) k := rfl
      have e2 : (rfF mp (ldF (h (b + 14)) (h (b + 15)))) k = bI (bI (mp (44 + (10 + k)) ≤ (ldF (h (b + 14)) (h (b + 15))) (10 + k)) ≠ mp (88 + (10 + k))) := rfl
      have sr : 0 ≤ s ∧ s ≤ 12 := by
        have := sm_r (f := (rfF mp (ldF (h (b + 14)) (h (b + 15))))) (c := 1) (n := k) (fun j hj => by unfold rfF; exact bI_r)
        omega
      refine r_iload_2 (pc := 5) dX8_refill_5 ?_
      refine r_bipush (pc := 6) dX8_refill_6 (by decide) ?_
      refine r_aload_0 (pc := 8) dX8_refill_8 ?_
      refine gf_X8_13 (pc := 9) rfl (by assumption) dX8_refill_9 (by assumption) ?_
      refine r_sipush (pc := 12) dX8_refill_12 (by decide) ?_
      refine r_ialdE (pc := 15) (by assumption) (by first | assumption | exact rfl) dX8_refill_15 (by omega) (by omega) (fun i_15 => ?_)
      refine r_iadd (pc := 16) dX8_refill_16 ?_
      refine r_icmp_ge (pc := 17) (tgt := 80) dX8_refill_17 (by decide) (by omega) (by omega) (fun c_17 => ?_) (fun c_17 => ?_)
      · refine r_iload_1 (pc := 80) dX8_refill_80 ?_
        refine r_if_ne (pc := 81) (tgt := 87) dX8_refill_81 (by decide) (by omega) (fun c_81 => ?_) (fun c_81 => ?_)
        · refine r_aload_0 (pc := 87) dX8_refill_87 ?_
          have hk9 : (k : Int) = mp 130 := by omega
          rw [hk9]
          have em2 : (hr h (b + 2) (rfR mp (ldF (h (b + 14)) (h (b + 15))) (mp 130))) (b + 2) = (rfR mp (ldF (h (b + 14)) (h (b + 15))) (mp 130)) := hr_s
          have hT2 : TrM (rfR mp (ldF (h (b + 14)) (h (b + 15))) (mp 130)) := TrM_c hT (fun j hj => rfR_e (by omega))
          have hR2 : RlM (rfR mp (ldF (h (b + 14)) (h (b + 15))) (mp 130)) := RlM_rf hR hT
          have eb2 : (hr h (b + 2) (rfR mp (ldF (h (b + 14)) (h (b + 15))) (mp 130))) b = (h b) := hr_n (by omega)
          have g2 : Fr h (hr h (b + 2) (rfR mp (ldF (h (b + 14)) (h (b + 15))) (mp 130))) (fun x => x = b ∨ x = b + 2) := fun x hx => hr_n (by omega)
          have hwa2 : WaT ((hr h (b + 2) (rfR mp (ldF (h (b + 14)) (h (b + 15))) (mp 130))) (b + 7)) := by rw [g2 _ (by omega)]; exact hwa
          have hep2 : 1 ≤ (hr h (b + 2) (rfR mp (ldF (h (b + 14)) (h (b + 15))) (mp 130))) b 5 ∧ (hr h (b + 2) (rfR mp (ldF (h (b + 14)) (h (b + 15))) (mp 130))) b 5 < 2147483647 := by rw [eb2]; exact hep
          refine k_VV0 (pc := 88) c_X8_changed lk_X8_223 ⟨Nat.le_of_ble_eq_true rfl, Nat.le_of_ble_eq_true rfl⟩ ⟨rfl, rfl⟩ ⟨Nat.le_of_ble_eq_true rfl, Nat.le_of_ble_eq_true rfl⟩ (k := 8) rfl (by decide) (by assumption) dX8_refill_88 (Nat.le_of_ble_eq_true rfl) ?_
          refine ⟨_, _, rfl, hM, em2, hT2, hR2, hwa2, hep2, fun h_88 f_88 o_88 k_88 q_88 a_88 => ?_⟩
          have ch := Ch_of g2 eb2 em2 f_88 o_88 k_88 q_88 a_88
          refine r_iload_1 (pc := 91) dX8_refill_91 ?_
          refine r_iret (pc := 92) hret dX8_refill_92 rfl rfl rfl ?_
          have hk9 : (k : Int) = mp 130 := by omega
          have hk8 : (mp 130).toNat = k := by omega
          rw [hk8] at hQ
          first
          | (have z := hQ.1 (by omega)
             rw [rfR_id (k := k) (by omega), show hr h (b + 2) mp = h by rw [← hmp]; exact hr_id]
             exact z)
          | (rw [hs]
             exact hQ.2 (by omega) h_88 ch)
        · refine r_bipush (pc := 84) dX8_refill_84 (by decide) ?_
          refine r_iret (pc := 86) hret dX8_refill_86 rfl rfl rfl ?_
          have hk9 : (k : Int) = mp 130 := by omega
          have hk8 : (mp 130).toNat = k := by omega
          rw [hk8] at hQ
          first
          | (have z := hQ.1 (by omega)
             rw [rfR_id (k := k) (by omega), show hr h (b + 2) mp = h by rw [← hmp]; exact hr_id]
             exact z)
          | (rw [hs]
             exact hQ.2 (by omega) h_88 ch)
      · refine r_aload_0 (pc := 20) dX8_refill_20 ?_
        refine r_iload_2 (pc := 21) dX8_refill_21 ?_
        refine k_VI1 (pc := 22) c_X8_loadOf lk_X8_226 ⟨Nat.le_of_ble_eq_true rfl, Nat.le_of_ble_eq_true rfl⟩ ⟨rfl, rfl⟩ ⟨Nat.le_of_ble_eq_true rfl, Nat.le_of_ble_eq_true rfl⟩ (k := 8) rfl (by decide) (by assumption) dX8_refill_22 (Nat.le_of_ble_eq_true rfl) ?_
        refine ⟨_, _, rfl, by assumption, by omega, ?_⟩
        rw [show sm (fun g => if iA (iSr ((hr h (b + 2) (rfR mp (ldF (h (b + 14)) (h (b + 15))) k)) (b + 14) g) (10 + (k : Int) - 10)) 1 = 1 then (hr h (b + 2) (rfR mp (ldF (h (b + 14)) (h (b + 15))) k)) (b + 15) g else 0) 16 = (ldF (h (b + 14)) (h (b + 15))) (10 + (k : Int)) by rw [hr_n (show b + 14 ≠ b + 2 by omega), hr_n (show b + 15 ≠ b + 2 by omega)]; rfl]
        refine r_aload_0 (pc := 25) dX8_refill_25 ?_
        refine gf_X8_13 (pc := 26) rfl (by assumption) dX8_refill_26 (by assumption) ?_
        refine r_bipush (pc := 29) dX8_refill_29 (by decide) ?_
        refine r_iload_2 (pc := 31) dX8_refill_31 ?_
        refine r_iadd (pc := 32) dX8_refill_32 ?_
        refine r_ialdE (pc := 33) (by assumption) (by first | assumption | exact rfl) dX8_refill_33 (by omega) (by omega) (fun i_33 => ?_)
        rw [e44]
        refine r_icmp_lt (pc := 34) (tgt := 41) dX8_refill_34 (by decide) (by omega) (by omega) (fun c_34 => ?_) (fun c_34 => ?_)
        · refine r_iconst (pc := 41) dX8_refill_41 ?_
          refine r_istore_3 (pc := 42) dX8_refill_42 rfl ?_
          refine r_iload_1 (pc := 43) dX8_refill_43 ?_
          refine r_iload_3 (pc := 44) dX8_refill_44 ?_
          refine r_aload_0 (pc := 45) dX8_refill_45 ?_
          refine gf_X8_13 (pc := 46) rfl (by assumption) dX8_refill_46 (by assumption) ?_
          refine r_bipush (pc := 49) dX8_refill_49 (by decide) ?_
          refine r_iload_2 (pc := 51) dX8_refill_51 ?_
          refine r_iadd (pc := 52) dX8_refill_52 ?_
          refine r_ialdE (pc := 53) (by assumption) (by first | assumption | exact rfl) dX8_refill_53 (by omega) (by omega) (fun i_53 => ?_)
          rw [e88]
          refine r_icmp_ne (pc := 54) (tgt := 61) dX8_refill_54 (by decide) (by omega) (by omega) (fun c_54 => ?_) (fun c_54 => ?_)
          · refine r_iconst (pc := 61) dX8_refill_61 ?_
            refine r_iadd (pc := 62) dX8_refill_62 ?_
            refine r_istore_1 (pc := 63) dX8_refill_63 rfl ?_
            refine r_aload_0 (pc := 64) dX8_refill_64 ?_
            refine gf_X8_13 (pc := 65) rfl (by assumption) dX8_refill_65 (by assumption) ?_
            refine r_bipush (pc := 68) dX8_refill_68 (by decide) ?_
            refine r_iload_2 (pc := 70) dX8_refill_70 ?_
            refine r_iadd (pc := 71) dX8_refill_71 ?_
            refine r_iload_3 (pc := 72) dX8_refill_72 ?_
            refine r_iastE (pc := 73) (by assumption) (by first | assumption | exact rfl) dX8_refill_73 (by omega) (by omega) (by omega) ?_
            refine r_iinc_2 (pc := 74) dX8_refill_74 rfl ?_
            refine r_goto (pc := 77) (tgt := 5) dX8_refill_77 (by decide) ?_
            first
            | (have b1 : bI (mp (44 + (10 + (k : Int))) ≤ (ldF (h (b + 14)) (h (b + 15))) (10 + (k : Int))) = 0 := bI_f (by omega)
               have e5 : up (rfR mp (ldF (h (b + 14)) (h (b + 15))) k) (88 + (10 + (k : Int))) 0 = rfR mp (ldF (h (b + 14)) (h (b + 15))) (10 + (k : Int) + 1 - 10) := by
                 rw [show 10 + (k : Int) + 1 - 10 = (k : Int) + 1 by omega, ← rfR_s (show 0 ≤ (k : Int) by omega), b1]
               rw [hr_hr, e5]
               refine ih _ (by omega) (10 + (k : Int) + 1) _ _ rfl (by omega) ?_
               rw [show (10 + (k : Int) + 1 - 10).toNat = k + 1 by omega, e1, hs, e2, b1]
               first
               | (have e9 : (0 : Int) = mp (88 + (10 + (k : Int))) := c_54
                  have e8 : ¬ ((0 : Int) ≠ mp (88 + (10 + (k : Int)))) := fun z => z e9
                  rw [bI_f e8])
               | rw [bI_t c_54])
            | (have b1 : bI (mp (44 + (10 + (k : Int))) ≤ (ldF (h (b + 14)) (h (b + 15))) (10 + (k : Int))) = 1 := bI_t (by omega)
               have e5 : up (rfR mp (ldF (h (b + 14)) (h (b + 15))) k) (88 + (10 + (k : Int))) 1 = rfR mp (ldF (h (b + 14)) (h (b + 15))) (10 + (k : Int) + 1 - 10) := by
                 rw [show 10 + (k : Int) + 1 - 10 = (k : Int) + 1 by omega, ← rfR_s (show 0 ≤ (k : Int) by omega), b1]
               rw [hr_hr, e5]
               refine ih _ (by omega) (10 + (k : Int) + 1) _ _ rfl (by omega) ?_
               rw [show (10 + (k : Int) + 1 - 10).toNat = k + 1 by omega, e1, hs, e2, b1]
               first
               | (have e9 : (1 : Int) = mp (88 + (10 + (k : Int))) := c_54
                  have e8 : ¬ ((1 : Int) ≠ mp (88 + (10 + (k : Int)))) := fun z => z e9
                  rw [bI_f e8])
               | rw [bI_t c_54])
          · refine r_iconst (pc := 57) dX8_refill_57 ?_
            refine r_goto (pc := 58) (tgt := 62) dX8_refill_58 (by decide) ?_
            refine r_iadd (pc := 62) dX8_refill_62 ?_
            refine r_istore_1 (pc := 63) dX8_refill_63 rfl ?_
            refine r_aload_0 (pc := 64) dX8_refill_64 ?_
            refine gf_X8_13 (pc := 65) rfl (by assumption) dX8_refill_65 (by assumption) ?_
            refine r_bipush (pc := 68) dX8_refill_68 (by decide) ?_
            refine r_iload_2 (pc := 70) dX8_refill_70 ?_
            refine r_iadd (pc := 71) dX8_refill_71 ?_
            refine r_iload_3 (pc := 72) dX8_refill_72 ?_
            refine r_iastE (pc := 73) (by assumption) (by first | assumption | exact rfl) dX8_refill_73 (by omega) (by omega) (by omega) ?_
            refine r_iinc_2 (pc := 74) dX8_refill_74 rfl ?_
            refine r_goto (pc := 77) (tgt := 5) dX8_refill_77 (by decide) ?_
            first
            | (have b1 : bI (mp (44 + (10 + (k : Int))) ≤ (ldF (h (b + 14)) (h (b + 15))) (10 + (k : Int))) = 0 := bI_f (by omega)
               have e5 : up (rfR mp (ldF (h (b + 14)) (h (b + 15))) k) (88 + (10 + (k : Int))) 0 = rfR mp (ldF (h (b + 14)) (h (b + 15))) (10 + (k : Int) + 1 - 10) := by
                 rw [show 10 + (k : Int) + 1 - 10 = (k : Int) + 1 by omega, ← rfR_s (show 0 ≤ (k : Int) by omega), b1]
               rw [hr_hr, e5]
               refine ih _ (by omega) (10 + (k : Int) + 1) _ _ rfl (by omega) ?_
               rw [show (10 + (k : Int) + 1 - 10).toNat = k + 1 by omega, e1, hs, e2, b1]
               first
               | (have e9 : (0 : Int) = mp (88 + (10 + (k : Int))) := c_54
                  have e8 : ¬ ((0 : Int) ≠ mp (88 + (10 + (k : Int)))) := fun z => z e9
                  rw [bI_f e8])
               | rw [bI_t c_54])
            | (have b1 : bI (mp (44 + (10 + (k : Int))) ≤ (ldF (h (b + 14)) (h (b + 15))) (10 + (k : Int))) = 1 := bI_t (by omega)
               have e5 : up (rfR mp (ldF (h (b + 14)) (h (b + 15))) k) (88 + (10 + (k : Int))) 1 = rfR mp (ldF (h (b + 14)) (h (b + 15))) (10 + (k : Int) + 1 - 10) := by
                 rw [show 10 + (k : Int) + 1 - 10 = (k : Int) + 1 by omega, ← rfR_s (show 0 ≤ (k : Int) by omega), b1]
               rw [hr_hr, e5]
               refine ih _ (by omega) (10 + (k : Int) + 1) _ _ rfl (by omega) ?_
               rw [show (10 + (k : Int) + 1 - 10).toNat = k + 1 by omega, e1, hs, e2, b1]
               first
               | (have e9 : (1 : Int) = mp (88 + (10 + (k : Int))) := c_54
                  have e8 : ¬ ((1 : Int) ≠ mp (88 + (10 + (k : Int)))) := fun z => z e9
                  rw [bI_f e8])
               | rw [bI_t c_54])
        · refine r_iconst (pc := 37) dX8_refill_37 ?_
          refine r_goto (pc := 38) (tgt := 42) dX8_refill_38 (by decide) ?_
          refine r_istore_3 (pc := 42) dX8_refill_42 rfl ?_
          refine r_iload_1 (pc := 43) dX8_refill_43 ?_
          refine r_iload_3 (pc := 44) dX8_refill_44 ?_
          refine r_aload_0 (pc := 45) dX8_refill_45 ?_
          refine gf_X8_13 (pc := 46) rfl (by assumption) dX8_refill_46 (by assumption) ?_
          refine r_bipush (pc := 49) dX8_refill_49 (by decide) ?_
          refine r_iload_2 (pc := 51) dX8_refill_51 ?_
          refine r_iadd (pc := 52) dX8_refill_52 ?_
          refine r_ialdE (pc := 53) (by assumption) (by first | assumption | exact rfl) dX8_refill_53 (by omega) (by omega) (fun i_53 => ?_)
          rw [e88]
          refine r_icmp_ne (pc := 54) (tgt := 61) dX8_refill_54 (by decide) (by omega) (by omega) (fun c_54 => ?_) (fun c_54 => ?_)
          · refine r_iconst (pc := 61) dX8_refill_61 ?_
            refine r_iadd (pc := 62) dX8_refill_62 ?_
            refine r_istore_1 (pc := 63) dX8_refill_63 rfl ?_
            refine r_aload_0 (pc := 64) dX8_refill_64 ?_
            refine gf_X8_13 (pc := 65) rfl (by assumption) dX8_refill_65 (by assumption) ?_
            refine r_bipush (pc := 68) dX8_refill_68 (by decide) ?_
            refine r_iload_2 (pc := 70) dX8_refill_70 ?_
            refine r_iadd (pc := 71) dX8_refill_71 ?_
            refine r_iload_3 (pc := 72) dX8_refill_72 ?_
            refine r_iastE (pc := 73) (by assumption) (by first | assumption | exact rfl) dX8_refill_73 (by omega) (by omega) (by omega) ?_
            refine r_iinc_2 (pc := 74) dX8_refill_74 rfl ?_
            refine r_goto (pc := 77) (tgt := 5) dX8_refill_77 (by decide) ?_
            first
            | (have b1 : bI (mp (44 + (10 + (k : Int))) ≤ (ldF (h (b + 14)) (h (b + 15))) (10 + (k : Int))) = 0 := bI_f (by omega)
               have e5 : up (rfR mp (ldF (h (b + 14)) (h (b + 15))) k) (88 + (10 + (k : Int))) 0 = rfR mp (ldF (h (b + 14)) (h (b + 15))) (10 + (k : Int) + 1 - 10) := by
                 rw [show 10 + (k : Int) + 1 - 10 = (k : Int) + 1 by omega, ← rfR_s (show 0 ≤ (k : Int) by omega), b1]
               rw [hr_hr, e5]
               refine ih _ (by omega) (10 + (k : Int) + 1) _ _ rfl (by omega) ?_
               rw [show (10 + (k : Int) + 1 - 10).toNat = k + 1 by omega, e1, hs, e2, b1]
               first
               | (have e9 : (0 : Int) = mp (88 + (10 + (k : Int))) := c_54
                  have e8 : ¬ ((0 : Int) ≠ mp (88 + (10 + (k : Int)))) := fun z => z e9
                  rw [bI_f e8])
               | rw [bI_t c_54])
            | (have b1 : bI (mp (44 + (10 + (k : Int))) ≤ (ldF (h (b + 14)) (h (b + 15))) (10 + (k : Int))) = 1 := bI_t (by omega)
               have e5 : up (rfR mp (ldF (h (b + 14)) (h (b + 15))) k) (88 + (10 + (k : Int))) 1 = rfR mp (ldF (h (b + 14)) (h (b + 15))) (10 + (k : Int) + 1 - 10) := by
                 rw [show 10 + (k : Int) + 1 - 10 = (k : Int) + 1 by omega, ← rfR_s (show 0 ≤ (k : Int) by omega), b1]
               rw [hr_hr, e5]
               refine ih _ (by omega) (10 + (k : Int) + 1) _ _ rfl (by omega) ?_
               rw [show (10 + (k : Int) + 1 - 10).toNat = k + 1 by omega, e1, hs, e2, b1]
               first
               | (have e9 : (1 : Int) = mp (88 + (10 + (k : Int))) := c_54
                  have e8 : ¬ ((1 : Int) ≠ mp (88 + (10 + (k : Int)))) := fun z => z e9
                  rw [bI_f e8])
               | rw [bI_t c_54])
          · refine r_iconst (pc := 57) dX8_refill_57 ?_
            refine r_goto (pc := 58) (tgt := 62) dX8_refill_58 (by decide) ?_
            refine r_iadd (pc := 62) dX8_refill_62 ?_
            refine r_istore_1 (pc := 63) dX8_refill_63 rfl ?_
            refine r_aload_0 (pc := 64) dX8_refill_64 ?_
            refine gf_X8_13 (pc := 65) rfl (by assumption) dX8_refill_65 (by assumption) ?_
            refine r_bipush (pc := 68) dX8_refill_68 (by decide) ?_
            refine r_iload_2 (pc := 70) dX8_refill_70 ?_
            refine r_iadd (pc := 71) dX8_refill_71 ?_
            refine r_iload_3 (pc := 72) dX8_refill_72 ?_
            refine r_iastE (pc := 73) (by assumption) (by first | assumption | exact rfl) dX8_refill_73 (by omega) (by omega) (by omega) ?_
            refine r_iinc_2 (pc := 74) dX8_refill_74 rfl ?_
            refine r_goto (pc := 77) (tgt := 5) dX8_refill_77 (by decide) ?_
            first
            | (have b1 : bI (mp (44 + (10 + (k : Int))) ≤ (ldF (h (b + 14)) (h (b + 15))) (10 + (k : Int))) = 0 := bI_f (by omega)
               have e5 : up (rfR mp (ldF (h (b + 14)) (h (b + 15))) k) (88 + (10 + (k : Int))) 0 = rfR mp (ldF (h (b + 14)) (h (b + 15))) (10 + (k : Int) + 1 - 10) := by
                 rw [show 10 + (k : Int) + 1 - 10 = (k : Int) + 1 by omega, ← rfR_s (show 0 ≤ (k : Int) by omega), b1]
               rw [hr_hr, e5]
               refine ih _ (by omega) (10 + (k : Int) + 1) _ _ rfl (by omega) ?_
               rw [show (10 + (k : Int) + 1 - 10).toNat = k + 1 by omega, e1, hs, e2, b1]
               first
               | (have e9 : (0 : Int) = mp (88 + (10 + (k : Int))) := c_54
                  have e8 : ¬ ((0 : Int) ≠ mp (88 + (10 + (k : Int)))) := fun z => z e9
                  rw [bI_f e8])
               | rw [bI_t c_54])
            | (have b1 : bI (mp (44 + (10 + (k : Int))) ≤ (ldF (h (b + 14)) (h (b + 15))) (10 + (k : Int))) = 1 := bI_t (by omega)
               have e5 : up (rfR mp (ldF (h (b + 14)) (h (b + 15))) k) (88 + (10 + (k : Int))) 1 = rfR mp (ldF (h (b + 14)) (h (b + 15))) (10 + (k : Int) + 1 - 10) := by
                 rw [show 10 + (k : Int) + 1 - 10 = (k : Int) + 1 by omega, ← rfR_s (show 0 ≤ (k : Int) by omega), b1]
               rw [hr_hr, e5]
               refine ih _ (by omega) (10 + (k : Int) + 1) _ _ rfl (by omega) ?_
               rw [show (10 + (k : Int) + 1 - 10).toNat = k + 1 by omega, e1, hs, e2, b1]
               first
               | (have e9 : (1 : Int) = mp (88 + (10 + (k : Int))) := c_54
                  have e8 : ¬ ((1 : Int) ≠ mp (88 + (10 + (k : Int)))) := fun z => z e9
                  rw [bI_f e8])
               | rw [bI_t c_54])
  refine r_iconst (pc := 0) dX8_refill_0 ?_
  refine r_istore_1 (pc := 1) dX8_refill_1 rfl ?_
  refine r_bipush (pc := 2) dX8_refill_2 (by decide) ?_
  refine r_istore_2 (pc := 4) dX8_refill_4 rfl ?_
  have hz := lp _ 10 0 none rfl (by omega) rfl
  rw [show (10 : Int) - 10 = 0 from rfl, rfR_0, show hr h (b + 2) mp = h by rw [← hmp]; exact hr_id] at hz
  exact hz

