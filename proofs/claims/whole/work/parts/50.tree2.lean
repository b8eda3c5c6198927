/-! THE TREE: where it lies, what it says of a map; small methods -/
/-- a tree at t: above at t + 1, weight at t + 2 -/
def TreeAt (lay : LyT) (r : RfT) (t : Nat) : Prop := lay t = (7, 0) ∧ lay (t + 1) = (10, 22) ∧ lay (t + 2) = (10, 22) ∧ r t 3 = some (t + 1) ∧ r t 4 = some (t + 2)
/-- the tree's numbers are the map's -/
def TreeNo (h : HpT) (t : Nat) (mp : Int → Int) : Prop := h t 0 = mp 128 ∧ h t 1 = mp 129 ∧ h t 2 = mp 130
theorem dX6_clear_0 : decode cX6_clear 0 = .ok (.aload_n 0, 1) := by decide +kernel
theorem dX6_clear_1 : decode cX6_clear 1 = .ok (.iconst 0, 1) := by decide +kernel
theorem dX6_clear_2 : decode cX6_clear 2 = .ok (.putfield 18, 3) := by decide +kernel
theorem dX6_clear_5 : decode cX6_clear 5 = .ok (.aload_n 0, 1) := by decide +kernel
theorem dX6_clear_6 : decode cX6_clear 6 = .ok (.iconst 0, 1) := by decide +kernel
theorem dX6_clear_7 : decode cX6_clear 7 = .ok (.putfield 22, 3) := by decide +kernel
theorem dX6_clear_10 : decode cX6_clear 10 = .ok (.aload_n 0, 1) := by decide +kernel
theorem dX6_clear_11 : decode cX6_clear 11 = .ok (.iconst 0, 1) := by decide +kernel
theorem dX6_clear_12 : decode cX6_clear 12 = .ok (.putfield 25, 3) := by decide +kernel
theorem dX6_clear_15 : decode cX6_clear 15 = .ok (.aload_n 0, 1) := by decide +kernel
theorem dX6_clear_16 : decode cX6_clear 16 = .ok (.getfield 9, 3) := by decide +kernel
theorem dX6_clear_19 : decode cX6_clear 19 = .ok (.iconst 0, 1) := by decide +kernel
theorem dX6_clear_20 : decode cX6_clear 20 = .ok (.bipush (-4), 2) := by decide +kernel
theorem dX6_clear_22 : decode cX6_clear 22 = .ok (.iastore, 1) := by decide +kernel
theorem dX6_clear_23 : decode cX6_clear 23 = .ok (.return_, 1) := by decide +kernel
set_option maxHeartbeats 4000000 in
set_option maxRecDepth 20000 in
theorem c_X6_clear : ConV mX6_clear (fun args N lay r h Q => ∃ (t : Nat), args = [.ref t] ∧ TreeAt lay r t ∧ Q N lay r (hr (hr h t (up (up (up (h t) 0 0) 1 0) 2 0)) (t + 1) (up (h (t + 1)) 0 (-4)))) := by
  refine ConV.of (by decide) (by rintro _ N lay r h Q ⟨t, rfl, hA, hQ⟩; exact ⟨rfl, Nat.le_of_ble_eq_true rfl⟩) ?_
  rintro E _ N lay r h Q ⟨t, rfl, hA, hQ⟩ hret
  obtain ⟨tl0, tl1, tl2, tr3, tr4⟩ := id hA
  show St E mX6_clear 0 [some (.ref t)] [] (0, 0) N lay r h
  refine r_aload_0 (pc := 0) dX6_clear_0 ?_
  refine r_iconst (pc := 1) dX6_clear_1 ?_
  refine pf_X6_18 (pc := 2) rfl (by assumption) dX6_clear_2 (by omega) ?_
  refine r_aload_0 (pc := 5) dX6_clear_5 ?_
  refine r_iconst (pc := 6) dX6_clear_6 ?_
  refine pf_X6_22 (pc := 7) rfl (by assumption) dX6_clear_7 (by omega) ?_
  rw [hr_hr, hr_s]
  refine r_aload_0 (pc := 10) dX6_clear_10 ?_
  refine r_iconst (pc := 11) dX6_clear_11 ?_
  refine pf_X6_25 (pc := 12) rfl (by assumption) dX6_clear_12 (by omega) ?_
  rw [hr_hr, hr_s]
  refine r_aload_0 (pc := 15) dX6_clear_15 ?_
  refine gf_X6_9 (pc := 16) rfl (by assumption) dX6_clear_16 (by assumption) ?_
  refine r_iconst (pc := 19) dX6_clear_19 ?_
  refine r_bipush (pc := 20) dX6_clear_20 (by decide) ?_
  refine r_iastE (pc := 22) (by assumption) (hr_n (by omega)) dX6_clear_22 (by omega) (by omega) (by omega) ?_
  refine r_ret (pc := 23) hret dX6_clear_23 rfl rfl rfl ?_
  exact hQ

theorem dX6_isNode_0 : decode cX6_isNode 0 = .ok (.iload_n 1, 1) := by decide +kernel
theorem dX6_isNode_1 : decode cX6_isNode 1 = .ok (.ifCond .eq 27, 3) := by decide +kernel
theorem dX6_isNode_4 : decode cX6_isNode 4 = .ok (.aload_n 0, 1) := by decide +kernel
theorem dX6_isNode_5 : decode cX6_isNode 5 = .ok (.iload_n 1, 1) := by decide +kernel
theorem dX6_isNode_6 : decode cX6_isNode 6 = .ok (.invokevirtual 34, 3) := by decide +kernel
theorem dX6_isNode_9 : decode cX6_isNode 9 = .ok (.ifCond .ne 19, 3) := by decide +kernel
theorem dX6_isNode_12 : decode cX6_isNode 12 = .ok (.aload_n 0, 1) := by decide +kernel
theorem dX6_isNode_13 : decode cX6_isNode 13 = .ok (.iload_n 1, 1) := by decide +kernel
theorem dX6_isNode_14 : decode cX6_isNode 14 = .ok (.invokevirtual 38, 3) := by decide +kernel
theorem dX6_isNode_17 : decode cX6_isNode 17 = .ok (.ifCond .ne 11, 3) := by decide +kernel
theorem dX6_isNode_20 : decode cX6_isNode 20 = .ok (.aload_n 0, 1) := by decide +kernel
theorem dX6_isNode_21 : decode cX6_isNode 21 = .ok (.iload_n 1, 1) := by decide +kernel
theorem dX6_isNode_22 : decode cX6_isNode 22 = .ok (.invokevirtual 41, 3) := by decide +kernel
theorem dX6_isNode_25 : decode cX6_isNode 25 = .ok (.ifCond .eq 7, 3) := by decide +kernel
theorem dX6_isNode_28 : decode cX6_isNode 28 = .ok (.iconst 1, 1) := by decide +kernel
theorem dX6_isNode_29 : decode cX6_isNode 29 = .ok (.goto 4, 3) := by decide +kernel
theorem dX6_isNode_32 : decode cX6_isNode 32 = .ok (.iconst 0, 1) := by decide +kernel
theorem dX6_isNode_33 : decode cX6_isNode 33 = .ok (.ireturn, 1) := by decide +kernel
set_option maxHeartbeats 4000000 in
set_option maxRecDepth 20000 in
theorem c_X6_isNode : ConI mX6_isNode (fun args N lay r h Q => ∃ (t : Nat) (mp : Int → Int) (k : Int), args = [.ref t, vI k] ∧ TreeAt lay r t ∧ TreeNo h t mp ∧ TrM mp ∧ (-2147483648 ≤ k ∧ k < 2147483648) ∧ Q (bI (isNd mp k)) N lay r h) := by
  refine ConI.of (by decide) (by rintro _ N lay r h Q ⟨t, mp, k, rfl, hA, hN, hT, hk, hQ⟩; exact ⟨rfl, Nat.le_of_ble_eq_true rfl⟩) ?_
  rintro E _ N lay r h Q ⟨t, mp, k, rfl, hA, hN, hT, hk, hQ⟩ hret
  obtain ⟨tl0, tl1, tl2, tr3, tr4⟩ := id hA
  obtain ⟨n0, n1, n2⟩ := id hN
  obtain ⟨t1, t2, t3, t4, t5, t6, t7⟩ := id hT
  show St E mX6_isNode 0 [some (.ref t), some (vI k)] [] (0, 0) N lay r h
  refine r_iload_1 (pc := 0) dX6_isNode_0 ?_
  refine r_if_eq (pc := 1) (tgt := 28) dX6_isNode_1 (by decide) (by omega) (fun c_1 => ?_) (fun c_1 => ?_)
  · refine r_iconst (pc := 28) dX6_isNode_28 ?_
    refine r_goto (pc := 29) (tgt := 33) dX6_isNode_29 (by decide) ?_
    refine r_zret (pc := 33) hret dX6_isNode_33 rfl rfl rfl (by first | exact Or.inl rfl | exact Or.inr rfl | exact bI_01 | omega) ?_
    first
    | (rw [bI_t (show isNd mp k by omega)] at hQ; exact hQ)
    | (rw [bI_f (show ¬ isNd mp k by omega)] at hQ; exact hQ)
  · refine r_aload_0 (pc := 4) dX6_isNode_4 ?_
    refine r_iload_1 (pc := 5) dX6_isNode_5 ?_
    refine k_VI1 (pc := 6) c_X6_isHall lk_X6_34 ⟨Nat.le_of_ble_eq_true rfl, Nat.le_of_ble_eq_true rfl⟩ ⟨rfl, rfl⟩ ⟨Nat.le_of_ble_eq_true rfl, Nat.le_of_ble_eq_true rfl⟩ (k := 6) rfl (by decide) (by assumption) dX6_isNode_6 (Nat.le_of_ble_eq_true rfl) ?_
    refine ⟨_, _, _, rfl, by assumption, by omega, by omega, ?_⟩
    refine r_ifne_b (pc := 9) (tgt := 28) dX6_isNode_9 (by decide) (fun c_9 => ?_) (fun c_9 => ?_)
    · refine r_iconst (pc := 28) dX6_isNode_28 ?_
      refine r_goto (pc := 29) (tgt := 33) dX6_isNode_29 (by decide) ?_
      refine r_zret (pc := 33) hret dX6_isNode_33 rfl rfl rfl (by first | exact Or.inl rfl | exact Or.inr rfl | exact bI_01 | omega) ?_
      first
      | (rw [bI_t (show isNd mp k by omega)] at hQ; exact hQ)
      | (rw [bI_f (show ¬ isNd mp k by omega)] at hQ; exact hQ)
    · refine r_aload_0 (pc := 12) dX6_isNode_12 ?_
      refine r_iload_1 (pc := 13) dX6_isNode_13 ?_
      refine k_VI1 (pc := 14) c_X6_isRack lk_X6_38 ⟨Nat.le_of_ble_eq_true rfl, Nat.le_of_ble_eq_true rfl⟩ ⟨rfl, rfl⟩ ⟨Nat.le_of_ble_eq_true rfl, Nat.le_of_ble_eq_true rfl⟩ (k := 6) rfl (by decide) (by assumption) dX6_isNode_14 (Nat.le_of_ble_eq_true rfl) ?_
      refine ⟨_, _, _, rfl, by assumption, by omega, by omega, ?_⟩
      refine r_ifne_b (pc := 17) (tgt := 28) dX6_isNode_17 (by decide) (fun c_17 => ?_) (fun c_17 => ?_)
      · refine r_iconst (pc := 28) dX6_isNode_28 ?_
        refine r_goto (pc := 29) (tgt := 33) dX6_isNode_29 (by decide) ?_
        refine r_zret (pc := 33) hret dX6_isNode_33 rfl rfl rfl (by first | exact Or.inl rfl | exact Or.inr rfl | exact bI_01 | omega) ?_
        first
        | (rw [bI_t (show isNd mp k by omega)] at hQ; exact hQ)
        | (rw [bI_f (show ¬ isNd mp k by omega)] at hQ; exact hQ)
      · refine r_aload_0 (pc := 20) dX6_isNode_20 ?_
        refine r_iload_1 (pc := 21) dX6_isNode_21 ?_
        refine k_VI1 (pc := 22) c_X6_isDisk lk_X6_41 ⟨Nat.le_of_ble_eq_true rfl, Nat.le_of_ble_eq_true rfl⟩ ⟨rfl, rfl⟩ ⟨Nat.le_of_ble_eq_true rfl, Nat.le_of_ble_eq_true rfl⟩ (k := 6) rfl (by decide) (by assumption) dX6_isNode_22 (Nat.le_of_ble_eq_true rfl) ?_
        refine ⟨_, _, _, rfl, by assumption, by omega, by omega, ?_⟩
        refine r_ifeq_b (pc := 25) (tgt := 32) dX6_isNode_25 (by decide) (fun c_25 => ?_) (fun c_25 => ?_)
        · refine r_iconst (pc := 32) dX6_isNode_32 ?_
          refine r_zret (pc := 33) hret dX6_isNode_33 rfl rfl rfl (by first | exact Or.inl rfl | exact Or.inr rfl | exact bI_01 | omega) ?_
          first
          | (rw [bI_t (show isNd mp k by omega)] at hQ; exact hQ)
          | (rw [bI_f (show ¬ isNd mp k by omega)] at hQ; exact hQ)
        · refine r_iconst (pc := 28) dX6_isNode_28 ?_
          refine r_goto (pc := 29) (tgt := 33) dX6_isNode_29 (by decide) ?_
          refine r_zret (pc := 33) hret dX6_isNode_33 rfl rfl rfl (by first | exact Or.inl rfl | exact Or.inr rfl | exact bI_01 | omega) ?_
          first
          | (rw [bI_t (show isNd mp k by omega)] at hQ; exact hQ)
          | (rw [bI_f (show ¬ isNd mp k by omega)] at hQ; exact hQ)

theorem dX6_hallOf_0 : decode cX6_hallOf 0 = .ok (.aload_n 0, 1) := by decide +kernel
theorem dX6_hallOf_1 : decode cX6_hallOf 1 = .ok (.getfield 9, 3) := by decide +kernel
theorem dX6_hallOf_4 : decode cX6_hallOf 4 = .ok (.aload_n 0, 1) := by decide +kernel
theorem dX6_hallOf_5 : decode cX6_hallOf 5 = .ok (.getfield 9, 3) := by decide +kernel
theorem dX6_hallOf_8 : decode cX6_hallOf 8 = .ok (.iload_n 1, 1) := by decide +kernel
theorem dX6_hallOf_9 : decode cX6_hallOf 9 = .ok (.iaload, 1) := by decide +kernel
theorem dX6_hallOf_10 : decode cX6_hallOf 10 = .ok (.iaload, 1) := by decide +kernel
theorem dX6_hallOf_11 : decode cX6_hallOf 11 = .ok (.ireturn, 1) := by decide +kernel
set_option maxHeartbeats 4000000 in
set_option maxRecDepth 20000 in
theorem c_X6_hallOf : ConI mX6_hallOf (fun args N lay r h Q => ∃ (t : Nat) (n : Int), args = [.ref t, vI n] ∧ TreeAt lay r t ∧ (0 ≤ n ∧ n < 22) ∧ (0 ≤ h (t + 1) n ∧ h (t + 1) n < 22) ∧ (-2147483648 ≤ h (t + 1) (h (t + 1) n) ∧ h (t + 1) (h (t + 1) n) < 2147483648 → Q (h (t + 1) (h (t + 1) n)) N lay r h)) := by
  refine ConI.of (by decide) (by rintro _ N lay r h Q ⟨t, n, rfl, hA, hn, hn2, hQ⟩; exact ⟨rfl, Nat.le_of_ble_eq_true rfl⟩) ?_
  rintro E _ N lay r h Q ⟨t, n, rfl, hA, hn, hn2, hQ⟩ hret
  obtain ⟨tl0, tl1, tl2, tr3, tr4⟩ := id hA
  show St E mX6_hallOf 0 [some (.ref t), some (vI n)] [] (0, 0) N lay r h
  refine r_aload_0 (pc := 0) dX6_hallOf_0 ?_
  refine gf_X6_9 (pc := 1) rfl (by assumption) dX6_hallOf_1 (by assumption) ?_
  refine r_aload_0 (pc := 4) dX6_hallOf_4 ?_
  refine gf_X6_9 (pc := 5) rfl (by assumption) dX6_hallOf_5 (by assumption) ?_
  refine r_iload_1 (pc := 8) dX6_hallOf_8 ?_
  refine r_ialdE (pc := 9) (by assumption) (by first | assumption | exact rfl) dX6_hallOf_9 (by omega) (by omega) (fun i_9 => ?_)
  refine r_ialdE (pc := 10) (by assumption) (by first | assumption | exact rfl) dX6_hallOf_10 (by omega) (by omega) (fun i_10 => ?_)
  refine r_iret (pc := 11) hret dX6_hallOf_11 rfl rfl rfl ?_
  exact hQ i_10

theorem dX6_addHall_0 : decode cX6_addHall 0 = .ok (.aload_n 0, 1) := by decide +kernel
theorem dX6_addHall_1 : decode cX6_addHall 1 = .ok (.getfield 18, 3) := by decide +kernel
theorem dX6_addHall_4 : decode cX6_addHall 4 = .ok (.iconst 3, 1) := by decide +kernel
theorem dX6_addHall_5 : decode cX6_addHall 5 = .ok (.if_icmp .lt 5, 3) := by decide +kernel
theorem dX6_addHall_8 : decode cX6_addHall 8 = .ok (.iconst 0, 1) := by decide +kernel
theorem dX6_addHall_9 : decode cX6_addHall 9 = .ok (.ireturn, 1) := by decide +kernel
theorem dX6_addHall_10 : decode cX6_addHall 10 = .ok (.aload_n 0, 1) := by decide +kernel
theorem dX6_addHall_11 : decode cX6_addHall 11 = .ok (.getfield 9, 3) := by decide +kernel
theorem dX6_addHall_14 : decode cX6_addHall 14 = .ok (.iconst 1, 1) := by decide +kernel
theorem dX6_addHall_15 : decode cX6_addHall 15 = .ok (.aload_n 0, 1) := by decide +kernel
theorem dX6_addHall_16 : decode cX6_addHall 16 = .ok (.getfield 18, 3) := by decide +kernel
theorem dX6_addHall_19 : decode cX6_addHall 19 = .ok (.iadd, 1) := by decide +kernel
theorem dX6_addHall_20 : decode cX6_addHall 20 = .ok (.iconst 0, 1) := by decide +kernel
theorem dX6_addHall_21 : decode cX6_addHall 21 = .ok (.iastore, 1) := by decide +kernel
theorem dX6_addHall_22 : decode cX6_addHall 22 = .ok (.aload_n 0, 1) := by decide +kernel
theorem dX6_addHall_23 : decode cX6_addHall 23 = .ok (.dup, 1) := by decide +kernel
theorem dX6_addHall_24 : decode cX6_addHall 24 = .ok (.getfield 18, 3) := by decide +kernel
theorem dX6_addHall_27 : decode cX6_addHall 27 = .ok (.iconst 1, 1) := by decide +kernel
theorem dX6_addHall_28 : decode cX6_addHall 28 = .ok (.iadd, 1) := by decide +kernel
theorem dX6_addHall_29 : decode cX6_addHall 29 = .ok (.putfield 18, 3) := by decide +kernel
theorem dX6_addHall_32 : decode cX6_addHall 32 = .ok (.iconst 1, 1) := by decide +kernel
theorem dX6_addHall_33 : decode cX6_addHall 33 = .ok (.ireturn, 1) := by decide +kernel
set_option maxHeartbeats 4000000 in
set_option maxRecDepth 20000 in
theorem c_X6_addHall : ConI mX6_addHall (fun args N lay r h Q => ∃ (t : Nat), args = [.ref t] ∧ TreeAt lay r t ∧ (0 ≤ h t 0 ∧ h t 0 ≤ 3) ∧ (0 ≤ h t 1 ∧ h t 1 ≤ 6) ∧ (0 ≤ h t 2 ∧ h t 2 ≤ 12) ∧ (h t 0 = 3 → Q 0 N lay r h) ∧ (h t 0 < 3 → Q 1 N lay r (hr (hr h (t + 1) (up (h (t + 1)) (1 + h t 0) 0)) t (up (h t) 0 (h t 0 + 1))))) := by
  refine ConI.of (by decide) (by rintro _ N lay r h Q ⟨t, rfl, hA, q0, q1, q2, hB, hQ⟩; exact ⟨rfl, Nat.le_of_ble_eq_true rfl⟩) ?_
  rintro E _ N lay r h Q ⟨t, rfl, hA, q0, q1, q2, hB, hQ⟩ hret
  obtain ⟨tl0, tl1, tl2, tr3, tr4⟩ := id hA
  show St E mX6_addHall 0 [some (.ref t)] [] (0, 0) N lay r h
  refine r_aload_0 (pc := 0) dX6_addHall_0 ?_
  refine gf_X6_18 (pc := 1) rfl (by assumption) dX6_addHall_1 (fun i_1 => ?_)
  refine r_iconst (pc := 4) dX6_addHall_4 ?_
  refine r_icmp_lt (pc := 5) (tgt := 10) dX6_addHall_5 (by decide) (by omega) (by omega) (fun c_5 => ?_) (fun c_5 => ?_)
  · refine r_aload_0 (pc := 10) dX6_addHall_10 ?_
    refine gf_X6_9 (pc := 11) rfl (by assumption) dX6_addHall_11 (by assumption) ?_
    refine r_iconst (pc := 14) dX6_addHall_14 ?_
    refine r_aload_0 (pc := 15) dX6_addHall_15 ?_
    refine gf_X6_18 (pc := 16) rfl (by assumption) dX6_addHall_16 (fun i_16 => ?_)
    refine r_iadd (pc := 19) dX6_addHall_19 ?_
    refine r_iconst (pc := 20) dX6_addHall_20 ?_
    refine r_iastE (pc := 21) (by assumption) (by first | assumption | exact rfl) dX6_addHall_21 (by omega) (by omega) (by omega) ?_
    refine r_aload_0 (pc := 22) dX6_addHall_22 ?_
    first | refine r_dupI (pc := 23) dX6_addHall_23 ?_ | refine r_dupA (pc := 23) dX6_addHall_23 ?_
    refine gf_X6_18 (pc := 24) rfl (by assumption) dX6_addHall_24 (fun i_24 => ?_)
    rw [hr_n (show t ≠ t + 1 by omega)]
    refine r_iconst (pc := 27) dX6_addHall_27 ?_
    refine r_iadd (pc := 28) dX6_addHall_28 ?_
    refine pf_X6_18 (pc := 29) rfl (by assumption) dX6_addHall_29 (by omega) ?_
    rw [hr_n (show t ≠ t + 1 by omega)]
    refine r_iconst (pc := 32) dX6_addHall_32 ?_
    refine r_zret (pc := 33) hret dX6_addHall_33 rfl rfl rfl (by first | exact Or.inl rfl | exact Or.inr rfl | exact bI_01 | omega) ?_
    first | exact hB (by omega) | exact hQ (by omega)
  · refine r_iconst (pc := 8) dX6_addHall_8 ?_
    refine r_zret (pc := 9) hret dX6_addHall_9 rfl rfl rfl (by first | exact Or.inl rfl | exact Or.inr rfl | exact bI_01 | omega) ?_
    first | exact hB (by omega) | exact hQ (by omega)

theorem dX6_addRack_0 : decode cX6_addRack 0 = .ok (.aload_n 0, 1) := by decide +kernel
theorem dX6_addRack_1 : decode cX6_addRack 1 = .ok (.getfield 22, 3) := by decide +kernel
theorem dX6_addRack_4 : decode cX6_addRack 4 = .ok (.bipush 6, 2) := by decide +kernel
theorem dX6_addRack_6 : decode cX6_addRack 6 = .ok (.if_icmp .ge 11, 3) := by decide +kernel
theorem dX6_addRack_9 : decode cX6_addRack 9 = .ok (.aload_n 0, 1) := by decide +kernel
theorem dX6_addRack_10 : decode cX6_addRack 10 = .ok (.iload_n 1, 1) := by decide +kernel
theorem dX6_addRack_11 : decode cX6_addRack 11 = .ok (.invokevirtual 34, 3) := by decide +kernel
theorem dX6_addRack_14 : decode cX6_addRack 14 = .ok (.ifCond .ne 5, 3) := by decide +kernel
theorem dX6_addRack_17 : decode cX6_addRack 17 = .ok (.iconst 0, 1) := by decide +kernel
theorem dX6_addRack_18 : decode cX6_addRack 18 = .ok (.ireturn, 1) := by decide +kernel
theorem dX6_addRack_19 : decode cX6_addRack 19 = .ok (.aload_n 0, 1) := by decide +kernel
theorem dX6_addRack_20 : decode cX6_addRack 20 = .ok (.getfield 9, 3) := by decide +kernel
theorem dX6_addRack_23 : decode cX6_addRack 23 = .ok (.iconst 4, 1) := by decide +kernel
theorem dX6_addRack_24 : decode cX6_addRack 24 = .ok (.aload_n 0, 1) := by decide +kernel
theorem dX6_addRack_25 : decode cX6_addRack 25 = .ok (.getfield 22, 3) := by decide +kernel
theorem dX6_addRack_28 : decode cX6_addRack 28 = .ok (.iadd, 1) := by decide +kernel
theorem dX6_addRack_29 : decode cX6_addRack 29 = .ok (.iload_n 1, 1) := by decide +kernel
theorem dX6_addRack_30 : decode cX6_addRack 30 = .ok (.iastore, 1) := by decide +kernel
theorem dX6_addRack_31 : decode cX6_addRack 31 = .ok (.aload_n 0, 1) := by decide +kernel
theorem dX6_addRack_32 : decode cX6_addRack 32 = .ok (.dup, 1) := by decide +kernel
theorem dX6_addRack_33 : decode cX6_addRack 33 = .ok (.getfield 22, 3) := by decide +kernel
theorem dX6_addRack_36 : decode cX6_addRack 36 = .ok (.iconst 1, 1) := by decide +kernel
theorem dX6_addRack_37 : decode cX6_addRack 37 = .ok (.iadd, 1) := by decide +kernel
theorem dX6_addRack_38 : decode cX6_addRack 38 = .ok (.putfield 22, 3) := by decide +kernel
theorem dX6_addRack_41 : decode cX6_addRack 41 = .ok (.iconst 1, 1) := by decide +kernel
theorem dX6_addRack_42 : decode cX6_addRack 42 = .ok (.ireturn, 1) := by decide +kernel
set_option maxHeartbeats 4000000 in
set_option maxRecDepth 20000 in
theorem c_X6_addRack : ConI mX6_addRack (fun args N lay r h Q => ∃ (t : Nat) (n : Int), args = [.ref t, vI n] ∧ TreeAt lay r t ∧ (0 ≤ h t 0 ∧ h t 0 ≤ 3) ∧ (0 ≤ h t 1 ∧ h t 1 ≤ 6) ∧ (0 ≤ h t 2 ∧ h t 2 ≤ 12) ∧ (-2147483648 ≤ n ∧ n < 2147483648) ∧ (¬ (h t 1 < 6 ∧ 1 ≤ n ∧ n < 1 + h t 0) → Q 0 N lay r h) ∧ ((h t 1 < 6 ∧ 1 ≤ n ∧ n < 1 + h t 0) → Q 1 N lay r (hr (hr h (t + 1) (up (h (t + 1)) (4 + h t 1) n)) t (up (h t) 1 (h t 1 + 1))))) := by
  refine ConI.of (by decide) (by rintro _ N lay r h Q ⟨t, n, rfl, hA, q0, q1, q2, hn, hB, hQ⟩; exact ⟨rfl, Nat.le_of_ble_eq_true rfl⟩) ?_
  rintro E _ N lay r h Q ⟨t, n, rfl, hA, q0, q1, q2, hn, hB, hQ⟩ hret
  obtain ⟨tl0, tl1, tl2, tr3, tr4⟩ := id hA
  show St E mX6_addRack 0 [some (.ref t), some (vI n)] [] (0, 0) N lay r h
  refine r_aload_0 (pc := 0) dX6_addRack_0 ?_
  refine gf_X6_22 (pc := 1) rfl (by assumption) dX6_addRack_1 (fun i_1 => ?_)
  refine r_bipush (pc := 4) dX6_addRack_4 (by decide) ?_
  refine r_icmp_ge (pc := 6) (tgt := 17) dX6_addRack_6 (by decide) (by omega) (by omega) (fun c_6 => ?_) (fun c_6 => ?_)
  · refine r_iconst (pc := 17) dX6_addRack_17 ?_
    refine r_zret (pc := 18) hret dX6_addRack_18 rfl rfl rfl (by first | exact Or.inl rfl | exact Or.inr rfl | exact bI_01 | omega) ?_
    first | exact hB (by omega) | exact hQ (by omega)
  · refine r_aload_0 (pc := 9) dX6_addRack_9 ?_
    refine r_iload_1 (pc := 10) dX6_addRack_10 ?_
    refine k_VI1 (pc := 11) c_X6_isHall lk_X6_34 ⟨Nat.le_of_ble_eq_true rfl, Nat.le_of_ble_eq_true rfl⟩ ⟨rfl, rfl⟩ ⟨Nat.le_of_ble_eq_true rfl, Nat.le_of_ble_eq_true rfl⟩ (k := 6) rfl (by decide) (by assumption) dX6_addRack_11 (Nat.le_of_ble_eq_true rfl) ?_
    refine ⟨_, _, _, rfl, by assumption, by omega, by omega, ?_⟩
    refine r_ifne_b (pc := 14) (tgt := 19) dX6_addRack_14 (by decide) (fun c_14 => ?_) (fun c_14 => ?_)
    · refine r_aload_0 (pc := 19) dX6_addRack_19 ?_
      refine gf_X6_9 (pc := 20) rfl (by assumption) dX6_addRack_20 (by assumption) ?_
      refine r_iconst (pc := 23) dX6_addRack_23 ?_
      refine r_aload_0 (pc := 24) dX6_addRack_24 ?_
      refine gf_X6_22 (pc := 25) rfl (by assumption) dX6_addRack_25 (fun i_25 => ?_)
      refine r_iadd (pc := 28) dX6_addRack_28 ?_
      refine r_iload_1 (pc := 29) dX6_addRack_29 ?_
      refine r_iastE (pc := 30) (by assumption) (by first | assumption | exact rfl) dX6_addRack_30 (by omega) (by omega) (by omega) ?_
      refine r_aload_0 (pc := 31) dX6_addRack_31 ?_
      first | refine r_dupI (pc := 32) dX6_addRack_32 ?_ | refine r_dupA (pc := 32) dX6_addRack_32 ?_
      refine gf_X6_22 (pc := 33) rfl (by assumption) dX6_addRack_33 (fun i_33 => ?_)
      rw [hr_n (show t ≠ t + 1 by omega)]
      refine r_iconst (pc := 36) dX6_addRack_36 ?_
      refine r_iadd (pc := 37) dX6_addRack_37 ?_
      refine pf_X6_22 (pc := 38) rfl (by assumption) dX6_addRack_38 (by omega) ?_
      rw [hr_n (show t ≠ t + 1 by omega)]
      refine r_iconst (pc := 41) dX6_addRack_41 ?_
      refine r_zret (pc := 42) hret dX6_addRack_42 rfl rfl rfl (by first | exact Or.inl rfl | exact Or.inr rfl | exact bI_01 | omega) ?_
      first | exact hB (by omega) | exact hQ (by omega)
    · refine r_iconst (pc := 17) dX6_addRack_17 ?_
      refine r_zret (pc := 18) hret dX6_addRack_18 rfl rfl rfl (by first | exact Or.inl rfl | exact Or.inr rfl | exact bI_01 | omega) ?_
      first | exact hB (by omega) | exact hQ (by omega)

theorem dX6_addDisk_0 : decode cX6_addDisk 0 = .ok (.aload_n 0, 1) := by decide +kernel
theorem dX6_addDisk_1 : decode cX6_addDisk 1 = .ok (.getfield 25, 3) := by decide +kernel
theorem dX6_addDisk_4 : decode cX6_addDisk 4 = .ok (.bipush 12, 2) := by decide +kernel
theorem dX6_addDisk_6 : decode cX6_addDisk 6 = .ok (.if_icmp .ge 11, 3) := by decide +kernel
theorem dX6_addDisk_9 : decode cX6_addDisk 9 = .ok (.aload_n 0, 1) := by decide +kernel
theorem dX6_addDisk_10 : decode cX6_addDisk 10 = .ok (.iload_n 1, 1) := by decide +kernel
theorem dX6_addDisk_11 : decode cX6_addDisk 11 = .ok (.invokevirtual 38, 3) := by decide +kernel
theorem dX6_addDisk_14 : decode cX6_addDisk 14 = .ok (.ifCond .ne 5, 3) := by decide +kernel
theorem dX6_addDisk_17 : decode cX6_addDisk 17 = .ok (.iconst 0, 1) := by decide +kernel
theorem dX6_addDisk_18 : decode cX6_addDisk 18 = .ok (.ireturn, 1) := by decide +kernel
theorem dX6_addDisk_19 : decode cX6_addDisk 19 = .ok (.aload_n 0, 1) := by decide +kernel
theorem dX6_addDisk_20 : decode cX6_addDisk 20 = .ok (.getfield 9, 3) := by decide +kernel
theorem dX6_addDisk_23 : decode cX6_addDisk 23 = .ok (.bipush 10, 2) := by decide +kernel
theorem dX6_addDisk_25 : decode cX6_addDisk 25 = .ok (.aload_n 0, 1) := by decide +kernel
theorem dX6_addDisk_26 : decode cX6_addDisk 26 = .ok (.getfield 25, 3) := by decide +kernel
theorem dX6_addDisk_29 : decode cX6_addDisk 29 = .ok (.iadd, 1) := by decide +kernel
theorem dX6_addDisk_30 : decode cX6_addDisk 30 = .ok (.iload_n 1, 1) := by decide +kernel
theorem dX6_addDisk_31 : decode cX6_addDisk 31 = .ok (.iastore, 1) := by decide +kernel
theorem dX6_addDisk_32 : decode cX6_addDisk 32 = .ok (.aload_n 0, 1) := by decide +kernel
theorem dX6_addDisk_33 : decode cX6_addDisk 33 = .ok (.getfield 15, 3) := by decide +kernel
theorem dX6_addDisk_36 : decode cX6_addDisk 36 = .ok (.bipush 10, 2) := by decide +kernel
theorem dX6_addDisk_38 : decode cX6_addDisk 38 = .ok (.aload_n 0, 1) := by decide +kernel
theorem dX6_addDisk_39 : decode cX6_addDisk 39 = .ok (.getfield 25, 3) := by decide +kernel
theorem dX6_addDisk_42 : decode cX6_addDisk 42 = .ok (.iadd, 1) := by decide +kernel
theorem dX6_addDisk_43 : decode cX6_addDisk 43 = .ok (.iload_n 2, 1) := by decide +kernel
theorem dX6_addDisk_44 : decode cX6_addDisk 44 = .ok (.iastore, 1) := by decide +kernel
theorem dX6_addDisk_45 : decode cX6_addDisk 45 = .ok (.aload_n 0, 1) := by decide +kernel
theorem dX6_addDisk_46 : decode cX6_addDisk 46 = .ok (.dup, 1) := by decide +kernel
theorem dX6_addDisk_47 : decode cX6_addDisk 47 = .ok (.getfield 25, 3) := by decide +kernel
theorem dX6_addDisk_50 : decode cX6_addDisk 50 = .ok (.iconst 1, 1) := by decide +kernel
theorem dX6_addDisk_51 : decode cX6_addDisk 51 = .ok (.iadd, 1) := by decide +kernel
theorem dX6_addDisk_52 : decode cX6_addDisk 52 = .ok (.putfield 25, 3) := by decide +kernel
theorem dX6_addDisk_55 : decode cX6_addDisk 55 = .ok (.iconst 1, 1) := by decide +kernel
theorem dX6_addDisk_56 : decode cX6_addDisk 56 = .ok (.ireturn, 1) := by decide +kernel
set_option maxHeartbeats 4000000 in
set_option maxRecDepth 20000 in
theorem c_X6_addDisk : ConI mX6_addDisk (fun args N lay r h Q => ∃ (t : Nat) (n w : Int), args = [.ref t, vI n, vI w] ∧ TreeAt lay r t ∧ (0 ≤ h t 0 ∧ h t 0 ≤ 3) ∧ (0 ≤ h t 1 ∧ h t 1 ≤ 6) ∧ (0 ≤ h t 2 ∧ h t 2 ≤ 12) ∧ (-2147483648 ≤ n ∧ n < 2147483648) ∧ (-2147483648 ≤ w ∧ w < 2147483648) ∧ (¬ (h t 2 < 12 ∧ 4 ≤ n ∧ n < 4 + h t 1) → Q 0 N lay r h) ∧ ((h t 2 < 12 ∧ 4 ≤ n ∧ n < 4 + h t 1) → Q 1 N lay r (hr (hr (hr h (t + 1) (up (h (t + 1)) (10 + h t 2) n)) (t + 2) (up (h (t + 2)) (10 + h t 2) w)) t (up (h t) 2 (h t 2 + 1))))) := by
  refine ConI.of (by decide) (by rintro _ N lay r h Q ⟨t, n, w, rfl, hA, q0, q1, q2, hn, hw, hB, hQ⟩; exact ⟨rfl, Nat.le_of_ble_eq_true rfl⟩) ?_
  rintro E _ N lay r h Q ⟨t, n, w, rfl, hA, q0, q1, q2, hn, hw, hB, hQ⟩ hret
  obtain ⟨tl0, tl1, tl2, tr3, tr4⟩ := id hA
  show St E mX6_addDisk 0 [some (.ref t), some (vI n), some (vI w)] [] (0, 0) N lay r h
  refine r_aload_0 (pc := 0) dX6_addDisk_0 ?_
  refine gf_X6_25 (pc := 1) rfl (by assumption) dX6_addDisk_1 (fun i_1 => ?_)
  refine r_bipush (pc := 4) dX6_addDisk_4 (by decide) ?_
  refine r_icmp_ge (pc := 6) (tgt := 17) dX6_addDisk_6 (by decide) (by omega) (by omega) (fun c_6 => ?_) (fun c_6 => ?_)
  · refine r_iconst (pc := 17) dX6_addDisk_17 ?_
    refine r_zret (pc := 18) hret dX6_addDisk_18 rfl rfl rfl (by first | exact Or.inl rfl | exact Or.inr rfl | exact bI_01 | omega) ?_
    first | exact hB (by omega) | exact hQ (by omega)
  · refine r_aload_0 (pc := 9) dX6_addDisk_9 ?_
    refine r_iload_1 (pc := 10) dX6_addDisk_10 ?_
    refine k_VI1 (pc := 11) c_X6_isRack lk_X6_38 ⟨Nat.le_of_ble_eq_true rfl, Nat.le_of_ble_eq_true rfl⟩ ⟨rfl, rfl⟩ ⟨Nat.le_of_ble_eq_true rfl, Nat.le_of_ble_eq_true rfl⟩ (k := 6) rfl (by decide) (by assumption) dX6_addDisk_11 (Nat.le_of_ble_eq_true rfl) ?_
    refine ⟨_, _, _, rfl, by assumption, by omega, by omega, ?_⟩
    refine r_ifne_b (pc := 14) (tgt := 19) dX6_addDisk_14 (by decide) (fun c_14 => ?_) (fun c_14 => ?_)
    · refine r_aload_0 (pc := 19) dX6_addDisk_19 ?_
      refine gf_X6_9 (pc := 20) rfl (by assumption) dX6_addDisk_20 (by assumption) ?_
      refine r_bipush (pc := 23) dX6_addDisk_23 (by decide) ?_
      refine r_aload_0 (pc := 25) dX6_addDisk_25 ?_
      refine gf_X6_25 (pc := 26) rfl (by assumption) dX6_addDisk_26 (fun i_26 => ?_)
      refine r_iadd (pc := 29) dX6_addDisk_29 ?_
      refine r_iload_1 (pc := 30) dX6_addDisk_30 ?_
      refine r_iastE (pc := 31) (by assumption) (by first | assumption | exact rfl) dX6_addDisk_31 (by omega) (by omega) (by omega) ?_
      refine r_aload_0 (pc := 32) dX6_addDisk_32 ?_
      refine gf_X6_15 (pc := 33) rfl (by assumption) dX6_addDisk_33 (by assumption) ?_
      refine r_bipush (pc := 36) dX6_addDisk_36 (by decide) ?_
      refine r_aload_0 (pc := 38) dX6_addDisk_38 ?_
      refine gf_X6_25 (pc := 39) rfl (by assumption) dX6_addDisk_39 (fun i_39 => ?_)
      rw [hr_n (show t ≠ t + 1 by omega)]
      refine r_iadd (pc := 42) dX6_addDisk_42 ?_
      refine r_iload_2 (pc := 43) dX6_addDisk_43 ?_
      refine r_iastE (pc := 44) (by assumption) (hr_n (by omega)) dX6_addDisk_44 (by omega) (by omega) (by omega) ?_
      refine r_aload_0 (pc := 45) dX6_addDisk_45 ?_
      first | refine r_dupI (pc := 46) dX6_addDisk_46 ?_ | refine r_dupA (pc := 46) dX6_addDisk_46 ?_
      refine gf_X6_25 (pc := 47) rfl (by assumption) dX6_addDisk_47 (fun i_47 => ?_)
      rw [hr_n (show t ≠ t + 2 by omega), hr_n (show t ≠ t + 1 by omega)]
      refine r_iconst (pc := 50) dX6_addDisk_50 ?_
      refine r_iadd (pc := 51) dX6_addDisk_51 ?_
      refine pf_X6_25 (pc := 52) rfl (by assumption) dX6_addDisk_52 (by omega) ?_
      rw [hr_n (show t ≠ t + 2 by omega), hr_n (show t ≠ t + 1 by omega)]
      refine r_iconst (pc := 55) dX6_addDisk_55 ?_
      refine r_zret (pc := 56) hret dX6_addDisk_56 rfl rfl rfl (by first | exact Or.inl rfl | exact Or.inr rfl | exact bI_01 | omega) ?_
      first | exact hB (by omega) | exact hQ (by omega)
    · refine r_iconst (pc := 17) dX6_addDisk_17 ?_
      refine r_zret (pc := 18) hret dX6_addDisk_18 rfl rfl rfl (by first | exact Or.inl rfl | exact Or.inr rfl | exact bI_01 | omega) ?_
      first | exact hB (by omega) | exact hQ (by omega)

