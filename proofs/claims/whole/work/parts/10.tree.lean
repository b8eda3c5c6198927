/-! THE TREE: leaves -/
theorem dX6_endOfDisks_0 : decode cX6_endOfDisks 0 = .ok (.bipush 10, 2) := by decide +kernel
theorem dX6_endOfDisks_2 : decode cX6_endOfDisks 2 = .ok (.aload_n 0, 1) := by decide +kernel
theorem dX6_endOfDisks_3 : decode cX6_endOfDisks 3 = .ok (.getfield 25, 3) := by decide +kernel
theorem dX6_endOfDisks_6 : decode cX6_endOfDisks 6 = .ok (.iadd, 1) := by decide +kernel
theorem dX6_endOfDisks_7 : decode cX6_endOfDisks 7 = .ok (.ireturn, 1) := by decide +kernel
set_option maxHeartbeats 4000000 in
set_option maxRecDepth 20000 in
theorem c_X6_endOfDisks : ConI mX6_endOfDisks (fun args N lay r h Q => ∃ t n, args = [.ref t] ∧ lay t = (7, n) ∧ (-2147483648 ≤ h t 2 ∧ h t 2 < 2147483648 → Q (10 + h t 2) N lay r h)) := by
  refine ConI.of (by decide) (by rintro _ N lay r h Q ⟨t, n, rfl, ht, hQ⟩; exact ⟨rfl, Nat.le_of_ble_eq_true rfl⟩) ?_
  rintro E _ N lay r h Q ⟨t, n, rfl, ht, hQ⟩ hret
  show St E mX6_endOfDisks 0 [some (.ref t)] [] (0, 0) N lay r h
  refine r_bipush (pc := 0) dX6_endOfDisks_0 (by decide) ?_
  refine r_aload_0 (pc := 2) dX6_endOfDisks_2 ?_
  refine gf_X6_25 (pc := 3) rfl (by assumption) dX6_endOfDisks_3 (fun i_3 => ?_)
  refine r_iadd (pc := 6) dX6_endOfDisks_6 ?_
  refine r_iret (pc := 7) hret dX6_endOfDisks_7 rfl rfl rfl ?_
  exact hQ i_3

theorem dX6_isHall_0 : decode cX6_isHall 0 = .ok (.iload_n 1, 1) := by decide +kernel
theorem dX6_isHall_1 : decode cX6_isHall 1 = .ok (.iconst 1, 1) := by decide +kernel
theorem dX6_isHall_2 : decode cX6_isHall 2 = .ok (.if_icmp .lt 17, 3) := by decide +kernel
theorem dX6_isHall_5 : decode cX6_isHall 5 = .ok (.iload_n 1, 1) := by decide +kernel
theorem dX6_isHall_6 : decode cX6_isHall 6 = .ok (.iconst 1, 1) := by decide +kernel
theorem dX6_isHall_7 : decode cX6_isHall 7 = .ok (.aload_n 0, 1) := by decide +kernel
theorem dX6_isHall_8 : decode cX6_isHall 8 = .ok (.getfield 18, 3) := by decide +kernel
theorem dX6_isHall_11 : decode cX6_isHall 11 = .ok (.iadd, 1) := by decide +kernel
theorem dX6_isHall_12 : decode cX6_isHall 12 = .ok (.if_icmp .ge 7, 3) := by decide +kernel
theorem dX6_isHall_15 : decode cX6_isHall 15 = .ok (.iconst 1, 1) := by decide +kernel
theorem dX6_isHall_16 : decode cX6_isHall 16 = .ok (.goto 4, 3) := by decide +kernel
theorem dX6_isHall_19 : decode cX6_isHall 19 = .ok (.iconst 0, 1) := by decide +kernel
theorem dX6_isHall_20 : decode cX6_isHall 20 = .ok (.ireturn, 1) := by decide +kernel
set_option maxHeartbeats 4000000 in
set_option maxRecDepth 20000 in
theorem c_X6_isHall : ConI mX6_isHall (fun args N lay r h Q => ∃ t n k, args = [.ref t, vI k] ∧ lay t = (7, n) ∧ (-2147483648 ≤ k ∧ k < 2147483648) ∧ (0 ≤ h t 0 ∧ h t 0 ≤ 12) ∧ Q (bI (1 ≤ k ∧ k < 1 + h t 0)) N lay r h) := by
  refine ConI.of (by decide) (by rintro _ N lay r h Q ⟨t, n, k, rfl, ht, hk, hn, hQ⟩; exact ⟨rfl, Nat.le_of_ble_eq_true rfl⟩) ?_
  rintro E _ N lay r h Q ⟨t, n, k, rfl, ht, hk, hn, hQ⟩ hret
  show St E mX6_isHall 0 [some (.ref t), some (vI k)] [] (0, 0) N lay r h
  refine r_iload_1 (pc := 0) dX6_isHall_0 ?_
  refine r_iconst (pc := 1) dX6_isHall_1 ?_
  refine r_icmp_lt (pc := 2) (tgt := 19) dX6_isHall_2 (by decide) (by omega) (by omega) (fun c_2 => ?_) (fun c_2 => ?_)
  · refine r_iconst (pc := 19) dX6_isHall_19 ?_
    refine r_zret (pc := 20) hret dX6_isHall_20 rfl rfl rfl (by first | exact Or.inl rfl | exact Or.inr rfl | omega) ?_
    first | (rw [bI_t (by omega)] at hQ; exact hQ) | (rw [bI_f (by omega)] at hQ; exact hQ)
  · refine r_iload_1 (pc := 5) dX6_isHall_5 ?_
    refine r_iconst (pc := 6) dX6_isHall_6 ?_
    refine r_aload_0 (pc := 7) dX6_isHall_7 ?_
    refine gf_X6_18 (pc := 8) rfl (by assumption) dX6_isHall_8 (fun i_8 => ?_)
    refine r_iadd (pc := 11) dX6_isHall_11 ?_
    refine r_icmp_ge (pc := 12) (tgt := 19) dX6_isHall_12 (by decide) (by omega) (by omega) (fun c_12 => ?_) (fun c_12 => ?_)
    · refine r_iconst (pc := 19) dX6_isHall_19 ?_
      refine r_zret (pc := 20) hret dX6_isHall_20 rfl rfl rfl (by first | exact Or.inl rfl | exact Or.inr rfl | omega) ?_
      first | (rw [bI_t (by omega)] at hQ; exact hQ) | (rw [bI_f (by omega)] at hQ; exact hQ)
    · refine r_iconst (pc := 15) dX6_isHall_15 ?_
      refine r_goto (pc := 16) (tgt := 20) dX6_isHall_16 (by decide) ?_
      refine r_zret (pc := 20) hret dX6_isHall_20 rfl rfl rfl (by first | exact Or.inl rfl | exact Or.inr rfl | omega) ?_
      first | (rw [bI_t (by omega)] at hQ; exact hQ) | (rw [bI_f (by omega)] at hQ; exact hQ)

theorem dX6_isRack_0 : decode cX6_isRack 0 = .ok (.iload_n 1, 1) := by decide +kernel
theorem dX6_isRack_1 : decode cX6_isRack 1 = .ok (.iconst 4, 1) := by decide +kernel
theorem dX6_isRack_2 : decode cX6_isRack 2 = .ok (.if_icmp .lt 17, 3) := by decide +kernel
theorem dX6_isRack_5 : decode cX6_isRack 5 = .ok (.iload_n 1, 1) := by decide +kernel
theorem dX6_isRack_6 : decode cX6_isRack 6 = .ok (.iconst 4, 1) := by decide +kernel
theorem dX6_isRack_7 : decode cX6_isRack 7 = .ok (.aload_n 0, 1) := by decide +kernel
theorem dX6_isRack_8 : decode cX6_isRack 8 = .ok (.getfield 22, 3) := by decide +kernel
theorem dX6_isRack_11 : decode cX6_isRack 11 = .ok (.iadd, 1) := by decide +kernel
theorem dX6_isRack_12 : decode cX6_isRack 12 = .ok (.if_icmp .ge 7, 3) := by decide +kernel
theorem dX6_isRack_15 : decode cX6_isRack 15 = .ok (.iconst 1, 1) := by decide +kernel
theorem dX6_isRack_16 : decode cX6_isRack 16 = .ok (.goto 4, 3) := by decide +kernel
theorem dX6_isRack_19 : decode cX6_isRack 19 = .ok (.iconst 0, 1) := by decide +kernel
theorem dX6_isRack_20 : decode cX6_isRack 20 = .ok (.ireturn, 1) := by decide +kernel
set_option maxHeartbeats 4000000 in
set_option maxRecDepth 20000 in
theorem c_X6_isRack : ConI mX6_isRack (fun args N lay r h Q => ∃ t n k, args = [.ref t, vI k] ∧ lay t = (7, n) ∧ (-2147483648 ≤ k ∧ k < 2147483648) ∧ (0 ≤ h t 1 ∧ h t 1 ≤ 12) ∧ Q (bI (4 ≤ k ∧ k < 4 + h t 1)) N lay r h) := by
  refine ConI.of (by decide) (by rintro _ N lay r h Q ⟨t, n, k, rfl, ht, hk, hn, hQ⟩; exact ⟨rfl, Nat.le_of_ble_eq_true rfl⟩) ?_
  rintro E _ N lay r h Q ⟨t, n, k, rfl, ht, hk, hn, hQ⟩ hret
  show St E mX6_isRack 0 [some (.ref t), some (vI k)] [] (0, 0) N lay r h
  refine r_iload_1 (pc := 0) dX6_isRack_0 ?_
  refine r_iconst (pc := 1) dX6_isRack_1 ?_
  refine r_icmp_lt (pc := 2) (tgt := 19) dX6_isRack_2 (by decide) (by omega) (by omega) (fun c_2 => ?_) (fun c_2 => ?_)
  · refine r_iconst (pc := 19) dX6_isRack_19 ?_
    refine r_zret (pc := 20) hret dX6_isRack_20 rfl rfl rfl (by first | exact Or.inl rfl | exact Or.inr rfl | omega) ?_
    first | (rw [bI_t (by omega)] at hQ; exact hQ) | (rw [bI_f (by omega)] at hQ; exact hQ)
  · refine r_iload_1 (pc := 5) dX6_isRack_5 ?_
    refine r_iconst (pc := 6) dX6_isRack_6 ?_
    refine r_aload_0 (pc := 7) dX6_isRack_7 ?_
    refine gf_X6_22 (pc := 8) rfl (by assumption) dX6_isRack_8 (fun i_8 => ?_)
    refine r_iadd (pc := 11) dX6_isRack_11 ?_
    refine r_icmp_ge (pc := 12) (tgt := 19) dX6_isRack_12 (by decide) (by omega) (by omega) (fun c_12 => ?_) (fun c_12 => ?_)
    · refine r_iconst (pc := 19) dX6_isRack_19 ?_
      refine r_zret (pc := 20) hret dX6_isRack_20 rfl rfl rfl (by first | exact Or.inl rfl | exact Or.inr rfl | omega) ?_
      first | (rw [bI_t (by omega)] at hQ; exact hQ) | (rw [bI_f (by omega)] at hQ; exact hQ)
    · refine r_iconst (pc := 15) dX6_isRack_15 ?_
      refine r_goto (pc := 16) (tgt := 20) dX6_isRack_16 (by decide) ?_
      refine r_zret (pc := 20) hret dX6_isRack_20 rfl rfl rfl (by first | exact Or.inl rfl | exact Or.inr rfl | omega) ?_
      first | (rw [bI_t (by omega)] at hQ; exact hQ) | (rw [bI_f (by omega)] at hQ; exact hQ)

theorem dX6_isDisk_0 : decode cX6_isDisk 0 = .ok (.iload_n 1, 1) := by decide +kernel
theorem dX6_isDisk_1 : decode cX6_isDisk 1 = .ok (.bipush 10, 2) := by decide +kernel
theorem dX6_isDisk_3 : decode cX6_isDisk 3 = .ok (.if_icmp .lt 18, 3) := by decide +kernel
theorem dX6_isDisk_6 : decode cX6_isDisk 6 = .ok (.iload_n 1, 1) := by decide +kernel
theorem dX6_isDisk_7 : decode cX6_isDisk 7 = .ok (.bipush 10, 2) := by decide +kernel
theorem dX6_isDisk_9 : decode cX6_isDisk 9 = .ok (.aload_n 0, 1) := by decide +kernel
theorem dX6_isDisk_10 : decode cX6_isDisk 10 = .ok (.getfield 25, 3) := by decide +kernel
theorem dX6_isDisk_13 : decode cX6_isDisk 13 = .ok (.iadd, 1) := by decide +kernel
theorem dX6_isDisk_14 : decode cX6_isDisk 14 = .ok (.if_icmp .ge 7, 3) := by decide +kernel
theorem dX6_isDisk_17 : decode cX6_isDisk 17 = .ok (.iconst 1, 1) := by decide +kernel
theorem dX6_isDisk_18 : decode cX6_isDisk 18 = .ok (.goto 4, 3) := by decide +kernel
theorem dX6_isDisk_21 : decode cX6_isDisk 21 = .ok (.iconst 0, 1) := by decide +kernel
theorem dX6_isDisk_22 : decode cX6_isDisk 22 = .ok (.ireturn, 1) := by decide +kernel
set_option maxHeartbeats 4000000 in
set_option maxRecDepth 20000 in
theorem c_X6_isDisk : ConI mX6_isDisk (fun args N lay r h Q => ∃ t n k, args = [.ref t, vI k] ∧ lay t = (7, n) ∧ (-2147483648 ≤ k ∧ k < 2147483648) ∧ (0 ≤ h t 2 ∧ h t 2 ≤ 12) ∧ Q (bI (10 ≤ k ∧ k < 10 + h t 2)) N lay r h) := by
  refine ConI.of (by decide) (by rintro _ N lay r h Q ⟨t, n, k, rfl, ht, hk, hn, hQ⟩; exact ⟨rfl, Nat.le_of_ble_eq_true rfl⟩) ?_
  rintro E _ N lay r h Q ⟨t, n, k, rfl, ht, hk, hn, hQ⟩ hret
  show St E mX6_isDisk 0 [some (.ref t), some (vI k)] [] (0, 0) N lay r h
  refine r_iload_1 (pc := 0) dX6_isDisk_0 ?_
  refine r_bipush (pc := 1) dX6_isDisk_1 (by decide) ?_
  refine r_icmp_lt (pc := 3) (tgt := 21) dX6_isDisk_3 (by decide) (by omega) (by omega) (fun c_3 => ?_) (fun c_3 => ?_)
  · refine r_iconst (pc := 21) dX6_isDisk_21 ?_
    refine r_zret (pc := 22) hret dX6_isDisk_22 rfl rfl rfl (by first | exact Or.inl rfl | exact Or.inr rfl | omega) ?_
    first | (rw [bI_t (by omega)] at hQ; exact hQ) | (rw [bI_f (by omega)] at hQ; exact hQ)
  · refine r_iload_1 (pc := 6) dX6_isDisk_6 ?_
    refine r_bipush (pc := 7) dX6_isDisk_7 (by decide) ?_
    refine r_aload_0 (pc := 9) dX6_isDisk_9 ?_
    refine gf_X6_25 (pc := 10) rfl (by assumption) dX6_isDisk_10 (fun i_10 => ?_)
    refine r_iadd (pc := 13) dX6_isDisk_13 ?_
    refine r_icmp_ge (pc := 14) (tgt := 21) dX6_isDisk_14 (by decide) (by omega) (by omega) (fun c_14 => ?_) (fun c_14 => ?_)
    · refine r_iconst (pc := 21) dX6_isDisk_21 ?_
      refine r_zret (pc := 22) hret dX6_isDisk_22 rfl rfl rfl (by first | exact Or.inl rfl | exact Or.inr rfl | omega) ?_
      first | (rw [bI_t (by omega)] at hQ; exact hQ) | (rw [bI_f (by omega)] at hQ; exact hQ)
    · refine r_iconst (pc := 17) dX6_isDisk_17 ?_
      refine r_goto (pc := 18) (tgt := 22) dX6_isDisk_18 (by decide) ?_
      refine r_zret (pc := 22) hret dX6_isDisk_22 rfl rfl rfl (by first | exact Or.inl rfl | exact Or.inr rfl | omega) ?_
      first | (rw [bI_t (by omega)] at hQ; exact hQ) | (rw [bI_f (by omega)] at hQ; exact hQ)

