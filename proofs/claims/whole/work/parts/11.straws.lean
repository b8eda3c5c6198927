/-! STRAWS: draws and wants, of both sides; small functions -/
def dr (g n t : Int) : Int := 1 + ((7919 * g + 613 * n + 4093 * t + 1) * (7919 * g + 613 * n + 4093 * t + 1) * (7919 * g + 613 * n + 4093 * t + 1)) % 65521
theorem dr_r (g n t : Int) : 1 ≤ dr g n t ∧ dr g n t ≤ 65521 := by
  unfold dr
  omega
theorem y3_r {y : Int} (h0 : 0 ≤ y) (h1 : y ≤ 1000000) : 0 ≤ y * y * y ∧ y * y * y < 9223372036854775808 := by
  have h2 : 0 ≤ y * y := Int.mul_nonneg h0 h0
  have h3 : y * y ≤ 1000000 * 1000000 := Int.mul_le_mul h1 h1 h0 (by omega)
  have h4 : y * y * y ≤ 1000000 * 1000000 * 1000000 := Int.mul_le_mul h3 h1 h0 (by omega)
  have h5 : 0 ≤ y * y * y := Int.mul_nonneg h2 h0
  omega
theorem dX4_drawOf_0 : decode cX4_drawOf 0 = .ok (.ldc2_w 15, 3) := by decide +kernel
theorem dX4_drawOf_3 : decode cX4_drawOf 3 = .ok (.iload_n 0, 1) := by decide +kernel
theorem dX4_drawOf_4 : decode cX4_drawOf 4 = .ok (.i2l, 1) := by decide +kernel
theorem dX4_drawOf_5 : decode cX4_drawOf 5 = .ok (.lmul, 1) := by decide +kernel
theorem dX4_drawOf_6 : decode cX4_drawOf 6 = .ok (.ldc2_w 17, 3) := by decide +kernel
theorem dX4_drawOf_9 : decode cX4_drawOf 9 = .ok (.iload_n 1, 1) := by decide +kernel
theorem dX4_drawOf_10 : decode cX4_drawOf 10 = .ok (.i2l, 1) := by decide +kernel
theorem dX4_drawOf_11 : decode cX4_drawOf 11 = .ok (.lmul, 1) := by decide +kernel
theorem dX4_drawOf_12 : decode cX4_drawOf 12 = .ok (.ladd, 1) := by decide +kernel
theorem dX4_drawOf_13 : decode cX4_drawOf 13 = .ok (.ldc2_w 19, 3) := by decide +kernel
theorem dX4_drawOf_16 : decode cX4_drawOf 16 = .ok (.iload_n 2, 1) := by decide +kernel
theorem dX4_drawOf_17 : decode cX4_drawOf 17 = .ok (.i2l, 1) := by decide +kernel
theorem dX4_drawOf_18 : decode cX4_drawOf 18 = .ok (.lmul, 1) := by decide +kernel
theorem dX4_drawOf_19 : decode cX4_drawOf 19 = .ok (.ladd, 1) := by decide +kernel
theorem dX4_drawOf_20 : decode cX4_drawOf 20 = .ok (.lconst 1, 1) := by decide +kernel
theorem dX4_drawOf_21 : decode cX4_drawOf 21 = .ok (.ladd, 1) := by decide +kernel
theorem dX4_drawOf_22 : decode cX4_drawOf 22 = .ok (.lstore_n 3, 1) := by decide +kernel
theorem dX4_drawOf_23 : decode cX4_drawOf 23 = .ok (.iconst 1, 1) := by decide +kernel
theorem dX4_drawOf_24 : decode cX4_drawOf 24 = .ok (.lload_n 3, 1) := by decide +kernel
theorem dX4_drawOf_25 : decode cX4_drawOf 25 = .ok (.lload_n 3, 1) := by decide +kernel
theorem dX4_drawOf_26 : decode cX4_drawOf 26 = .ok (.lmul, 1) := by decide +kernel
theorem dX4_drawOf_27 : decode cX4_drawOf 27 = .ok (.lload_n 3, 1) := by decide +kernel
theorem dX4_drawOf_28 : decode cX4_drawOf 28 = .ok (.lmul, 1) := by decide +kernel
theorem dX4_drawOf_29 : decode cX4_drawOf 29 = .ok (.ldc2_w 21, 3) := by decide +kernel
theorem dX4_drawOf_32 : decode cX4_drawOf 32 = .ok (.lrem, 1) := by decide +kernel
theorem dX4_drawOf_33 : decode cX4_drawOf 33 = .ok (.l2i, 1) := by decide +kernel
theorem dX4_drawOf_34 : decode cX4_drawOf 34 = .ok (.iadd, 1) := by decide +kernel
theorem dX4_drawOf_35 : decode cX4_drawOf 35 = .ok (.ireturn, 1) := by decide +kernel
set_option maxHeartbeats 4000000 in
set_option maxRecDepth 20000 in
theorem c_X4_drawOf : ConI mX4_drawOf (fun args N lay r h Q => ∃ g n t, args = [vI g, vI n, vI t] ∧ (0 ≤ g ∧ g < 16) ∧ (0 ≤ n ∧ n < 22) ∧ (0 ≤ t ∧ t < 100) ∧ Q (dr g n t) N lay r h) := by
  refine ConI.of (by decide) (by rintro _ N lay r h Q ⟨g, n, t, rfl, hg, hn, ht, hQ⟩; exact ⟨rfl, Nat.le_of_ble_eq_true rfl⟩) ?_
  rintro E _ N lay r h Q ⟨g, n, t, rfl, hg, hn, ht, hQ⟩ hret
  show St E mX4_drawOf 0 [some (vI g), some (vI n), some (vI t), none, none] [] (0, 0) N lay r h
  refine r_ldc2 (pc := 0) (v := 7919) (z := 7919) dX4_drawOf_0 (w_cL 455 (by decide +kernel)) (by decide) ?_
  refine r_iload_0 (pc := 3) dX4_drawOf_3 ?_
  refine r_i2l (pc := 4) dX4_drawOf_4 (by omega) ?_
  refine r_lmul (pc := 5) dX4_drawOf_5 ?_
  refine r_ldc2 (pc := 6) (v := 613) (z := 613) dX4_drawOf_6 (w_cL 456 (by decide +kernel)) (by decide) ?_
  refine r_iload_1 (pc := 9) dX4_drawOf_9 ?_
  refine r_i2l (pc := 10) dX4_drawOf_10 (by omega) ?_
  refine r_lmul (pc := 11) dX4_drawOf_11 ?_
  refine r_ladd (pc := 12) dX4_drawOf_12 ?_
  refine r_ldc2 (pc := 13) (v := 4093) (z := 4093) dX4_drawOf_13 (w_cL 457 (by decide +kernel)) (by decide) ?_
  refine r_iload_2 (pc := 16) dX4_drawOf_16 ?_
  refine r_i2l (pc := 17) dX4_drawOf_17 (by omega) ?_
  refine r_lmul (pc := 18) dX4_drawOf_18 ?_
  refine r_ladd (pc := 19) dX4_drawOf_19 ?_
  refine r_lconst (pc := 20) (z := 1) dX4_drawOf_20 (by decide) ?_
  refine r_ladd (pc := 21) dX4_drawOf_21 ?_
  refine r_lstore_3 (pc := 22) dX4_drawOf_22 rfl ?_
  refine r_iconst (pc := 23) dX4_drawOf_23 ?_
  refine r_lload_3 (pc := 24) dX4_drawOf_24 ?_
  refine r_lload_3 (pc := 25) dX4_drawOf_25 ?_
  refine r_lmul (pc := 26) dX4_drawOf_26 ?_
  refine r_lload_3 (pc := 27) dX4_drawOf_27 ?_
  refine r_lmul (pc := 28) dX4_drawOf_28 ?_
  refine r_ldc2 (pc := 29) (v := 65521) (z := 65521) dX4_drawOf_29 (w_cL 458 (by decide +kernel)) (by decide) ?_
  refine r_lrem (pc := 32) dX4_drawOf_32 (y3_r (by omega) (by omega)) (by omega) ?_
  refine r_l2i (pc := 33) dX4_drawOf_33 ?_
  refine r_iadd (pc := 34) dX4_drawOf_34 ?_
  refine r_iret (pc := 35) hret dX4_drawOf_35 rfl rfl rfl ?_
  first | exact hQ | (rw [Int.add_comm]; exact hQ)

theorem dX8_drawn_0 : decode cX8_drawn 0 = .ok (.ldc2_w 167, 3) := by decide +kernel
theorem dX8_drawn_3 : decode cX8_drawn 3 = .ok (.iload_n 0, 1) := by decide +kernel
theorem dX8_drawn_4 : decode cX8_drawn 4 = .ok (.i2l, 1) := by decide +kernel
theorem dX8_drawn_5 : decode cX8_drawn 5 = .ok (.lmul, 1) := by decide +kernel
theorem dX8_drawn_6 : decode cX8_drawn 6 = .ok (.ldc2_w 169, 3) := by decide +kernel
theorem dX8_drawn_9 : decode cX8_drawn 9 = .ok (.iload_n 1, 1) := by decide +kernel
theorem dX8_drawn_10 : decode cX8_drawn 10 = .ok (.i2l, 1) := by decide +kernel
theorem dX8_drawn_11 : decode cX8_drawn 11 = .ok (.lmul, 1) := by decide +kernel
theorem dX8_drawn_12 : decode cX8_drawn 12 = .ok (.ladd, 1) := by decide +kernel
theorem dX8_drawn_13 : decode cX8_drawn 13 = .ok (.ldc2_w 171, 3) := by decide +kernel
theorem dX8_drawn_16 : decode cX8_drawn 16 = .ok (.iload_n 2, 1) := by decide +kernel
theorem dX8_drawn_17 : decode cX8_drawn 17 = .ok (.i2l, 1) := by decide +kernel
theorem dX8_drawn_18 : decode cX8_drawn 18 = .ok (.lmul, 1) := by decide +kernel
theorem dX8_drawn_19 : decode cX8_drawn 19 = .ok (.ladd, 1) := by decide +kernel
theorem dX8_drawn_20 : decode cX8_drawn 20 = .ok (.lconst 1, 1) := by decide +kernel
theorem dX8_drawn_21 : decode cX8_drawn 21 = .ok (.ladd, 1) := by decide +kernel
theorem dX8_drawn_22 : decode cX8_drawn 22 = .ok (.lstore_n 3, 1) := by decide +kernel
theorem dX8_drawn_23 : decode cX8_drawn 23 = .ok (.lload_n 3, 1) := by decide +kernel
theorem dX8_drawn_24 : decode cX8_drawn 24 = .ok (.lload_n 3, 1) := by decide +kernel
theorem dX8_drawn_25 : decode cX8_drawn 25 = .ok (.lmul, 1) := by decide +kernel
theorem dX8_drawn_26 : decode cX8_drawn 26 = .ok (.lload_n 3, 1) := by decide +kernel
theorem dX8_drawn_27 : decode cX8_drawn 27 = .ok (.lmul, 1) := by decide +kernel
theorem dX8_drawn_28 : decode cX8_drawn 28 = .ok (.ldc2_w 173, 3) := by decide +kernel
theorem dX8_drawn_31 : decode cX8_drawn 31 = .ok (.lrem, 1) := by decide +kernel
theorem dX8_drawn_32 : decode cX8_drawn 32 = .ok (.l2i, 1) := by decide +kernel
theorem dX8_drawn_33 : decode cX8_drawn 33 = .ok (.iconst 1, 1) := by decide +kernel
theorem dX8_drawn_34 : decode cX8_drawn 34 = .ok (.iadd, 1) := by decide +kernel
theorem dX8_drawn_35 : decode cX8_drawn 35 = .ok (.ireturn, 1) := by decide +kernel
set_option maxHeartbeats 4000000 in
set_option maxRecDepth 20000 in
theorem c_X8_drawn : ConI mX8_drawn (fun args N lay r h Q => ∃ g n t, args = [vI g, vI n, vI t] ∧ (0 ≤ g ∧ g < 16) ∧ (0 ≤ n ∧ n < 22) ∧ (0 ≤ t ∧ t < 100) ∧ Q (dr g n t) N lay r h) := by
  refine ConI.of (by decide) (by rintro _ N lay r h Q ⟨g, n, t, rfl, hg, hn, ht, hQ⟩; exact ⟨rfl, Nat.le_of_ble_eq_true rfl⟩) ?_
  rintro E _ N lay r h Q ⟨g, n, t, rfl, hg, hn, ht, hQ⟩ hret
  show St E mX8_drawn 0 [some (vI g), some (vI n), some (vI t), none, none] [] (0, 0) N lay r h
  refine r_ldc2 (pc := 0) (v := 7919) (z := 7919) dX8_drawn_0 (w_cL 919 (by decide +kernel)) (by decide) ?_
  refine r_iload_0 (pc := 3) dX8_drawn_3 ?_
  refine r_i2l (pc := 4) dX8_drawn_4 (by omega) ?_
  refine r_lmul (pc := 5) dX8_drawn_5 ?_
  refine r_ldc2 (pc := 6) (v := 613) (z := 613) dX8_drawn_6 (w_cL 920 (by decide +kernel)) (by decide) ?_
  refine r_iload_1 (pc := 9) dX8_drawn_9 ?_
  refine r_i2l (pc := 10) dX8_drawn_10 (by omega) ?_
  refine r_lmul (pc := 11) dX8_drawn_11 ?_
  refine r_ladd (pc := 12) dX8_drawn_12 ?_
  refine r_ldc2 (pc := 13) (v := 4093) (z := 4093) dX8_drawn_13 (w_cL 921 (by decide +kernel)) (by decide) ?_
  refine r_iload_2 (pc := 16) dX8_drawn_16 ?_
  refine r_i2l (pc := 17) dX8_drawn_17 (by omega) ?_
  refine r_lmul (pc := 18) dX8_drawn_18 ?_
  refine r_ladd (pc := 19) dX8_drawn_19 ?_
  refine r_lconst (pc := 20) (z := 1) dX8_drawn_20 (by decide) ?_
  refine r_ladd (pc := 21) dX8_drawn_21 ?_
  refine r_lstore_3 (pc := 22) dX8_drawn_22 rfl ?_
  refine r_lload_3 (pc := 23) dX8_drawn_23 ?_
  refine r_lload_3 (pc := 24) dX8_drawn_24 ?_
  refine r_lmul (pc := 25) dX8_drawn_25 ?_
  refine r_lload_3 (pc := 26) dX8_drawn_26 ?_
  refine r_lmul (pc := 27) dX8_drawn_27 ?_
  refine r_ldc2 (pc := 28) (v := 65521) (z := 65521) dX8_drawn_28 (w_cL 922 (by decide +kernel)) (by decide) ?_
  refine r_lrem (pc := 31) dX8_drawn_31 (y3_r (by omega) (by omega)) (by omega) ?_
  refine r_l2i (pc := 32) dX8_drawn_32 ?_
  refine r_iconst (pc := 33) dX8_drawn_33 ?_
  refine r_iadd (pc := 34) dX8_drawn_34 ?_
  refine r_iret (pc := 35) hret dX8_drawn_35 rfl rfl rfl ?_
  first | exact hQ | (rw [Int.add_comm]; exact hQ)

theorem dX7_isGroup_0 : decode cX7_isGroup 0 = .ok (.iload_n 0, 1) := by decide +kernel
theorem dX7_isGroup_1 : decode cX7_isGroup 1 = .ok (.ifCond .lt 13, 3) := by decide +kernel
theorem dX7_isGroup_4 : decode cX7_isGroup 4 = .ok (.iload_n 0, 1) := by decide +kernel
theorem dX7_isGroup_5 : decode cX7_isGroup 5 = .ok (.bipush 16, 2) := by decide +kernel
theorem dX7_isGroup_7 : decode cX7_isGroup 7 = .ok (.if_icmp .ge 7, 3) := by decide +kernel
theorem dX7_isGroup_10 : decode cX7_isGroup 10 = .ok (.iconst 1, 1) := by decide +kernel
theorem dX7_isGroup_11 : decode cX7_isGroup 11 = .ok (.goto 4, 3) := by decide +kernel
theorem dX7_isGroup_14 : decode cX7_isGroup 14 = .ok (.iconst 0, 1) := by decide +kernel
theorem dX7_isGroup_15 : decode cX7_isGroup 15 = .ok (.ireturn, 1) := by decide +kernel
set_option maxHeartbeats 4000000 in
set_option maxRecDepth 20000 in
theorem c_X7_isGroup : ConI mX7_isGroup (fun args N lay r h Q => ∃ k, args = [vI k] ∧ (-2147483648 ≤ k ∧ k < 2147483648) ∧ Q (bI (0 ≤ k ∧ k < 16)) N lay r h) := by
  refine ConI.of (by decide) (by rintro _ N lay r h Q ⟨k, rfl, hk, hQ⟩; exact ⟨rfl, Nat.le_of_ble_eq_true rfl⟩) ?_
  rintro E _ N lay r h Q ⟨k, rfl, hk, hQ⟩ hret
  show St E mX7_isGroup 0 [some (vI k)] [] (0, 0) N lay r h
  refine r_iload_0 (pc := 0) dX7_isGroup_0 ?_
  refine r_if_lt (pc := 1) (tgt := 14) dX7_isGroup_1 (by decide) (by omega) (fun c_1 => ?_) (fun c_1 => ?_)
  · refine r_iconst (pc := 14) dX7_isGroup_14 ?_
    refine r_zret (pc := 15) hret dX7_isGroup_15 rfl rfl rfl (by first | exact Or.inl rfl | exact Or.inr rfl | exact bI_01 | omega) ?_
    first | (rw [bI_t (by omega)] at hQ; exact hQ) | (rw [bI_f (by omega)] at hQ; exact hQ)
  · refine r_iload_0 (pc := 4) dX7_isGroup_4 ?_
    refine r_bipush (pc := 5) dX7_isGroup_5 (by decide) ?_
    refine r_icmp_ge (pc := 7) (tgt := 14) dX7_isGroup_7 (by decide) (by omega) (by omega) (fun c_7 => ?_) (fun c_7 => ?_)
    · refine r_iconst (pc := 14) dX7_isGroup_14 ?_
      refine r_zret (pc := 15) hret dX7_isGroup_15 rfl rfl rfl (by first | exact Or.inl rfl | exact Or.inr rfl | exact bI_01 | omega) ?_
      first | (rw [bI_t (by omega)] at hQ; exact hQ) | (rw [bI_f (by omega)] at hQ; exact hQ)
    · refine r_iconst (pc := 10) dX7_isGroup_10 ?_
      refine r_goto (pc := 11) (tgt := 15) dX7_isGroup_11 (by decide) ?_
      refine r_zret (pc := 15) hret dX7_isGroup_15 rfl rfl rfl (by first | exact Or.inl rfl | exact Or.inr rfl | exact bI_01 | omega) ?_
      first | (rw [bI_t (by omega)] at hQ; exact hQ) | (rw [bI_f (by omega)] at hQ; exact hQ)

theorem dX7_isCopy_0 : decode cX7_isCopy 0 = .ok (.iload_n 0, 1) := by decide +kernel
theorem dX7_isCopy_1 : decode cX7_isCopy 1 = .ok (.ifCond .lt 12, 3) := by decide +kernel
theorem dX7_isCopy_4 : decode cX7_isCopy 4 = .ok (.iload_n 0, 1) := by decide +kernel
theorem dX7_isCopy_5 : decode cX7_isCopy 5 = .ok (.iconst 4, 1) := by decide +kernel
theorem dX7_isCopy_6 : decode cX7_isCopy 6 = .ok (.if_icmp .ge 7, 3) := by decide +kernel
theorem dX7_isCopy_9 : decode cX7_isCopy 9 = .ok (.iconst 1, 1) := by decide +kernel
theorem dX7_isCopy_10 : decode cX7_isCopy 10 = .ok (.goto 4, 3) := by decide +kernel
theorem dX7_isCopy_13 : decode cX7_isCopy 13 = .ok (.iconst 0, 1) := by decide +kernel
theorem dX7_isCopy_14 : decode cX7_isCopy 14 = .ok (.ireturn, 1) := by decide +kernel
set_option maxHeartbeats 4000000 in
set_option maxRecDepth 20000 in
theorem c_X7_isCopy : ConI mX7_isCopy (fun args N lay r h Q => ∃ k, args = [vI k] ∧ (-2147483648 ≤ k ∧ k < 2147483648) ∧ Q (bI (0 ≤ k ∧ k < 4)) N lay r h) := by
  refine ConI.of (by decide) (by rintro _ N lay r h Q ⟨k, rfl, hk, hQ⟩; exact ⟨rfl, Nat.le_of_ble_eq_true rfl⟩) ?_
  rintro E _ N lay r h Q ⟨k, rfl, hk, hQ⟩ hret
  show St E mX7_isCopy 0 [some (vI k)] [] (0, 0) N lay r h
  refine r_iload_0 (pc := 0) dX7_isCopy_0 ?_
  refine r_if_lt (pc := 1) (tgt := 13) dX7_isCopy_1 (by decide) (by omega) (fun c_1 => ?_) (fun c_1 => ?_)
  · refine r_iconst (pc := 13) dX7_isCopy_13 ?_
    refine r_zret (pc := 14) hret dX7_isCopy_14 rfl rfl rfl (by first | exact Or.inl rfl | exact Or.inr rfl | exact bI_01 | omega) ?_
    first | (rw [bI_t (by omega)] at hQ; exact hQ) | (rw [bI_f (by omega)] at hQ; exact hQ)
  · refine r_iload_0 (pc := 4) dX7_isCopy_4 ?_
    refine r_iconst (pc := 5) dX7_isCopy_5 ?_
    refine r_icmp_ge (pc := 6) (tgt := 13) dX7_isCopy_6 (by decide) (by omega) (by omega) (fun c_6 => ?_) (fun c_6 => ?_)
    · refine r_iconst (pc := 13) dX7_isCopy_13 ?_
      refine r_zret (pc := 14) hret dX7_isCopy_14 rfl rfl rfl (by first | exact Or.inl rfl | exact Or.inr rfl | exact bI_01 | omega) ?_
      first | (rw [bI_t (by omega)] at hQ; exact hQ) | (rw [bI_f (by omega)] at hQ; exact hQ)
    · refine r_iconst (pc := 9) dX7_isCopy_9 ?_
      refine r_goto (pc := 10) (tgt := 14) dX7_isCopy_10 (by decide) ?_
      refine r_zret (pc := 14) hret dX7_isCopy_14 rfl rfl rfl (by first | exact Or.inl rfl | exact Or.inr rfl | exact bI_01 | omega) ?_
      first | (rw [bI_t (by omega)] at hQ; exact hQ) | (rw [bI_f (by omega)] at hQ; exact hQ)

theorem dX7_isWeight_0 : decode cX7_isWeight 0 = .ok (.iload_n 0, 1) := by decide +kernel
theorem dX7_isWeight_1 : decode cX7_isWeight 1 = .ok (.ifCond .lt 13, 3) := by decide +kernel
theorem dX7_isWeight_4 : decode cX7_isWeight 4 = .ok (.iload_n 0, 1) := by decide +kernel
theorem dX7_isWeight_5 : decode cX7_isWeight 5 = .ok (.bipush 40, 2) := by decide +kernel
theorem dX7_isWeight_7 : decode cX7_isWeight 7 = .ok (.if_icmp .gt 7, 3) := by decide +kernel
theorem dX7_isWeight_10 : decode cX7_isWeight 10 = .ok (.iconst 1, 1) := by decide +kernel
theorem dX7_isWeight_11 : decode cX7_isWeight 11 = .ok (.goto 4, 3) := by decide +kernel
theorem dX7_isWeight_14 : decode cX7_isWeight 14 = .ok (.iconst 0, 1) := by decide +kernel
theorem dX7_isWeight_15 : decode cX7_isWeight 15 = .ok (.ireturn, 1) := by decide +kernel
set_option maxHeartbeats 4000000 in
set_option maxRecDepth 20000 in
theorem c_X7_isWeight : ConI mX7_isWeight (fun args N lay r h Q => ∃ k, args = [vI k] ∧ (-2147483648 ≤ k ∧ k < 2147483648) ∧ Q (bI (0 ≤ k ∧ k ≤ 40)) N lay r h) := by
  refine ConI.of (by decide) (by rintro _ N lay r h Q ⟨k, rfl, hk, hQ⟩; exact ⟨rfl, Nat.le_of_ble_eq_true rfl⟩) ?_
  rintro E _ N lay r h Q ⟨k, rfl, hk, hQ⟩ hret
  show St E mX7_isWeight 0 [some (vI k)] [] (0, 0) N lay r h
  refine r_iload_0 (pc := 0) dX7_isWeight_0 ?_
  refine r_if_lt (pc := 1) (tgt := 14) dX7_isWeight_1 (by decide) (by omega) (fun c_1 => ?_) (fun c_1 => ?_)
  · refine r_iconst (pc := 14) dX7_isWeight_14 ?_
    refine r_zret (pc := 15) hret dX7_isWeight_15 rfl rfl rfl (by first | exact Or.inl rfl | exact Or.inr rfl | exact bI_01 | omega) ?_
    first | (rw [bI_t (by omega)] at hQ; exact hQ) | (rw [bI_f (by omega)] at hQ; exact hQ)
  · refine r_iload_0 (pc := 4) dX7_isWeight_4 ?_
    refine r_bipush (pc := 5) dX7_isWeight_5 (by decide) ?_
    refine r_icmp_gt (pc := 7) (tgt := 14) dX7_isWeight_7 (by decide) (by omega) (by omega) (fun c_7 => ?_) (fun c_7 => ?_)
    · refine r_iconst (pc := 14) dX7_isWeight_14 ?_
      refine r_zret (pc := 15) hret dX7_isWeight_15 rfl rfl rfl (by first | exact Or.inl rfl | exact Or.inr rfl | exact bI_01 | omega) ?_
      first | (rw [bI_t (by omega)] at hQ; exact hQ) | (rw [bI_f (by omega)] at hQ; exact hQ)
    · refine r_iconst (pc := 10) dX7_isWeight_10 ?_
      refine r_goto (pc := 11) (tgt := 15) dX7_isWeight_11 (by decide) ?_
      refine r_zret (pc := 15) hret dX7_isWeight_15 rfl rfl rfl (by first | exact Or.inl rfl | exact Or.inr rfl | exact bI_01 | omega) ?_
      first | (rw [bI_t (by omega)] at hQ; exact hQ) | (rw [bI_f (by omega)] at hQ; exact hQ)

theorem dX7_isKey_0 : decode cX7_isKey 0 = .ok (.iload_n 0, 1) := by decide +kernel
theorem dX7_isKey_1 : decode cX7_isKey 1 = .ok (.ifCond .lt 14, 3) := by decide +kernel
theorem dX7_isKey_4 : decode cX7_isKey 4 = .ok (.iload_n 0, 1) := by decide +kernel
theorem dX7_isKey_5 : decode cX7_isKey 5 = .ok (.sipush 9999, 3) := by decide +kernel
theorem dX7_isKey_8 : decode cX7_isKey 8 = .ok (.if_icmp .gt 7, 3) := by decide +kernel
theorem dX7_isKey_11 : decode cX7_isKey 11 = .ok (.iconst 1, 1) := by decide +kernel
theorem dX7_isKey_12 : decode cX7_isKey 12 = .ok (.goto 4, 3) := by decide +kernel
theorem dX7_isKey_15 : decode cX7_isKey 15 = .ok (.iconst 0, 1) := by decide +kernel
theorem dX7_isKey_16 : decode cX7_isKey 16 = .ok (.ireturn, 1) := by decide +kernel
set_option maxHeartbeats 4000000 in
set_option maxRecDepth 20000 in
theorem c_X7_isKey : ConI mX7_isKey (fun args N lay r h Q => ∃ k, args = [vI k] ∧ (-2147483648 ≤ k ∧ k < 2147483648) ∧ Q (bI (0 ≤ k ∧ k ≤ 9999)) N lay r h) := by
  refine ConI.of (by decide) (by rintro _ N lay r h Q ⟨k, rfl, hk, hQ⟩; exact ⟨rfl, Nat.le_of_ble_eq_true rfl⟩) ?_
  rintro E _ N lay r h Q ⟨k, rfl, hk, hQ⟩ hret
  show St E mX7_isKey 0 [some (vI k)] [] (0, 0) N lay r h
  refine r_iload_0 (pc := 0) dX7_isKey_0 ?_
  refine r_if_lt (pc := 1) (tgt := 15) dX7_isKey_1 (by decide) (by omega) (fun c_1 => ?_) (fun c_1 => ?_)
  · refine r_iconst (pc := 15) dX7_isKey_15 ?_
    refine r_zret (pc := 16) hret dX7_isKey_16 rfl rfl rfl (by first | exact Or.inl rfl | exact Or.inr rfl | exact bI_01 | omega) ?_
    first | (rw [bI_t (by omega)] at hQ; exact hQ) | (rw [bI_f (by omega)] at hQ; exact hQ)
  · refine r_iload_0 (pc := 4) dX7_isKey_4 ?_
    refine r_sipush (pc := 5) dX7_isKey_5 (by decide) ?_
    refine r_icmp_gt (pc := 8) (tgt := 15) dX7_isKey_8 (by decide) (by omega) (by omega) (fun c_8 => ?_) (fun c_8 => ?_)
    · refine r_iconst (pc := 15) dX7_isKey_15 ?_
      refine r_zret (pc := 16) hret dX7_isKey_16 rfl rfl rfl (by first | exact Or.inl rfl | exact Or.inr rfl | exact bI_01 | omega) ?_
      first | (rw [bI_t (by omega)] at hQ; exact hQ) | (rw [bI_f (by omega)] at hQ; exact hQ)
    · refine r_iconst (pc := 11) dX7_isKey_11 ?_
      refine r_goto (pc := 12) (tgt := 16) dX7_isKey_12 (by decide) ?_
      refine r_zret (pc := 16) hret dX7_isKey_16 rfl rfl rfl (by first | exact Or.inl rfl | exact Or.inr rfl | exact bI_01 | omega) ?_
      first | (rw [bI_t (by omega)] at hQ; exact hQ) | (rw [bI_f (by omega)] at hQ; exact hQ)

theorem dX8_isGroup_0 : decode cX8_isGroup 0 = .ok (.iload_n 0, 1) := by decide +kernel
theorem dX8_isGroup_1 : decode cX8_isGroup 1 = .ok (.ifCond .lt 13, 3) := by decide +kernel
theorem dX8_isGroup_4 : decode cX8_isGroup 4 = .ok (.iload_n 0, 1) := by decide +kernel
theorem dX8_isGroup_5 : decode cX8_isGroup 5 = .ok (.bipush 16, 2) := by decide +kernel
theorem dX8_isGroup_7 : decode cX8_isGroup 7 = .ok (.if_icmp .ge 7, 3) := by decide +kernel
theorem dX8_isGroup_10 : decode cX8_isGroup 10 = .ok (.iconst 1, 1) := by decide +kernel
theorem dX8_isGroup_11 : decode cX8_isGroup 11 = .ok (.goto 4, 3) := by decide +kernel
theorem dX8_isGroup_14 : decode cX8_isGroup 14 = .ok (.iconst 0, 1) := by decide +kernel
theorem dX8_isGroup_15 : decode cX8_isGroup 15 = .ok (.ireturn, 1) := by decide +kernel
set_option maxHeartbeats 4000000 in
set_option maxRecDepth 20000 in
theorem c_X8_isGroup : ConI mX8_isGroup (fun args N lay r h Q => ∃ k, args = [vI k] ∧ (-2147483648 ≤ k ∧ k < 2147483648) ∧ Q (bI (0 ≤ k ∧ k < 16)) N lay r h) := by
  refine ConI.of (by decide) (by rintro _ N lay r h Q ⟨k, rfl, hk, hQ⟩; exact ⟨rfl, Nat.le_of_ble_eq_true rfl⟩) ?_
  rintro E _ N lay r h Q ⟨k, rfl, hk, hQ⟩ hret
  show St E mX8_isGroup 0 [some (vI k)] [] (0, 0) N lay r h
  refine r_iload_0 (pc := 0) dX8_isGroup_0 ?_
  refine r_if_lt (pc := 1) (tgt := 14) dX8_isGroup_1 (by decide) (by omega) (fun c_1 => ?_) (fun c_1 => ?_)
  · refine r_iconst (pc := 14) dX8_isGroup_14 ?_
    refine r_zret (pc := 15) hret dX8_isGroup_15 rfl rfl rfl (by first | exact Or.inl rfl | exact Or.inr rfl | exact bI_01 | omega) ?_
    first | (rw [bI_t (by omega)] at hQ; exact hQ) | (rw [bI_f (by omega)] at hQ; exact hQ)
  · refine r_iload_0 (pc := 4) dX8_isGroup_4 ?_
    refine r_bipush (pc := 5) dX8_isGroup_5 (by decide) ?_
    refine r_icmp_ge (pc := 7) (tgt := 14) dX8_isGroup_7 (by decide) (by omega) (by omega) (fun c_7 => ?_) (fun c_7 => ?_)
    · refine r_iconst (pc := 14) dX8_isGroup_14 ?_
      refine r_zret (pc := 15) hret dX8_isGroup_15 rfl rfl rfl (by first | exact Or.inl rfl | exact Or.inr rfl | exact bI_01 | omega) ?_
      first | (rw [bI_t (by omega)] at hQ; exact hQ) | (rw [bI_f (by omega)] at hQ; exact hQ)
    · refine r_iconst (pc := 10) dX8_isGroup_10 ?_
      refine r_goto (pc := 11) (tgt := 15) dX8_isGroup_11 (by decide) ?_
      refine r_zret (pc := 15) hret dX8_isGroup_15 rfl rfl rfl (by first | exact Or.inl rfl | exact Or.inr rfl | exact bI_01 | omega) ?_
      first | (rw [bI_t (by omega)] at hQ; exact hQ) | (rw [bI_f (by omega)] at hQ; exact hQ)

theorem dX7_groupOf_0 : decode cX7_groupOf 0 = .ok (.sipush 7919, 3) := by decide +kernel
theorem dX7_groupOf_3 : decode cX7_groupOf 3 = .ok (.iload_n 0, 1) := by decide +kernel
theorem dX7_groupOf_4 : decode cX7_groupOf 4 = .ok (.imul, 1) := by decide +kernel
theorem dX7_groupOf_5 : decode cX7_groupOf 5 = .ok (.ldc 238, 2) := by decide +kernel
theorem dX7_groupOf_7 : decode cX7_groupOf 7 = .ok (.irem, 1) := by decide +kernel
theorem dX7_groupOf_8 : decode cX7_groupOf 8 = .ok (.bipush 16, 2) := by decide +kernel
theorem dX7_groupOf_10 : decode cX7_groupOf 10 = .ok (.irem, 1) := by decide +kernel
theorem dX7_groupOf_11 : decode cX7_groupOf 11 = .ok (.ireturn, 1) := by decide +kernel
set_option maxHeartbeats 4000000 in
set_option maxRecDepth 20000 in
theorem c_X7_groupOf : ConI mX7_groupOf (fun args N lay r h Q => ∃ k, args = [vI k] ∧ (0 ≤ k ∧ k ≤ 9999) ∧ Q (7919 * k % 65521 % 16) N lay r h) := by
  refine ConI.of (by decide) (by rintro _ N lay r h Q ⟨k, rfl, hk, hQ⟩; exact ⟨rfl, Nat.le_of_ble_eq_true rfl⟩) ?_
  rintro E _ N lay r h Q ⟨k, rfl, hk, hQ⟩ hret
  show St E mX7_groupOf 0 [some (vI k)] [] (0, 0) N lay r h
  refine r_sipush (pc := 0) dX7_groupOf_0 (by decide) ?_
  refine r_iload_0 (pc := 3) dX7_groupOf_3 ?_
  refine r_imul (pc := 4) dX7_groupOf_4 ?_
  refine r_ldc (pc := 5) (v := 65521) (z := 65521) dX7_groupOf_5 (w_cI 694 (by decide +kernel)) (by decide) ?_
  refine r_irem (pc := 7) dX7_groupOf_7 (by omega) (by omega) ?_
  refine r_bipush (pc := 8) dX7_groupOf_8 (by decide) ?_
  refine r_irem (pc := 10) dX7_groupOf_10 (by omega) (by omega) ?_
  refine r_iret (pc := 11) hret dX7_groupOf_11 rfl rfl rfl ?_
  exact hQ

theorem dX7_bitOf_0 : decode cX7_bitOf 0 = .ok (.iconst 1, 1) := by decide +kernel
theorem dX7_bitOf_1 : decode cX7_bitOf 1 = .ok (.iload_n 0, 1) := by decide +kernel
theorem dX7_bitOf_2 : decode cX7_bitOf 2 = .ok (.bipush 10, 2) := by decide +kernel
theorem dX7_bitOf_4 : decode cX7_bitOf 4 = .ok (.isub, 1) := by decide +kernel
theorem dX7_bitOf_5 : decode cX7_bitOf 5 = .ok (.ishl, 1) := by decide +kernel
theorem dX7_bitOf_6 : decode cX7_bitOf 6 = .ok (.ireturn, 1) := by decide +kernel
set_option maxHeartbeats 4000000 in
set_option maxRecDepth 20000 in
theorem c_X7_bitOf : ConI mX7_bitOf (fun args N lay r h Q => ∃ k, args = [vI k] ∧ (-2147483648 ≤ iSl 1 (k - 10) ∧ iSl 1 (k - 10) < 2147483648 → Q (iSl 1 (k - 10)) N lay r h)) := by
  refine ConI.of (by decide) (by rintro _ N lay r h Q ⟨k, rfl, hQ⟩; exact ⟨rfl, Nat.le_of_ble_eq_true rfl⟩) ?_
  rintro E _ N lay r h Q ⟨k, rfl, hQ⟩ hret
  show St E mX7_bitOf 0 [some (vI k)] [] (0, 0) N lay r h
  refine r_iconst (pc := 0) dX7_bitOf_0 ?_
  refine r_iload_0 (pc := 1) dX7_bitOf_1 ?_
  refine r_bipush (pc := 2) dX7_bitOf_2 (by decide) ?_
  refine r_isub (pc := 4) dX7_bitOf_4 ?_
  refine r_ishl (pc := 5) dX7_bitOf_5 (fun i_5 => ?_)
  refine r_iret (pc := 6) hret dX7_bitOf_6 rfl rfl rfl ?_
  exact hQ (iSl_r _ _)

theorem dX8_isIn_0 : decode cX8_isIn 0 = .ok (.iload_n 1, 1) := by decide +kernel
theorem dX8_isIn_1 : decode cX8_isIn 1 = .ok (.iload_n 2, 1) := by decide +kernel
theorem dX8_isIn_2 : decode cX8_isIn 2 = .ok (.if_icmp .lt 12, 3) := by decide +kernel
theorem dX8_isIn_5 : decode cX8_isIn 5 = .ok (.iload_n 1, 1) := by decide +kernel
theorem dX8_isIn_6 : decode cX8_isIn 6 = .ok (.iload_n 3, 1) := by decide +kernel
theorem dX8_isIn_7 : decode cX8_isIn 7 = .ok (.if_icmp .gt 7, 3) := by decide +kernel
theorem dX8_isIn_10 : decode cX8_isIn 10 = .ok (.iconst 1, 1) := by decide +kernel
theorem dX8_isIn_11 : decode cX8_isIn 11 = .ok (.goto 4, 3) := by decide +kernel
theorem dX8_isIn_14 : decode cX8_isIn 14 = .ok (.iconst 0, 1) := by decide +kernel
theorem dX8_isIn_15 : decode cX8_isIn 15 = .ok (.ireturn, 1) := by decide +kernel
set_option maxHeartbeats 4000000 in
set_option maxRecDepth 20000 in
theorem c_X8_isIn : ConI mX8_isIn (fun args N lay r h Q => ∃ b v lo hi, args = [.ref b, vI v, vI lo, vI hi] ∧ (-2147483648 ≤ v ∧ v < 2147483648) ∧ (-2147483648 ≤ lo ∧ lo < 2147483648) ∧ (-2147483648 ≤ hi ∧ hi < 2147483648) ∧ Q (bI (lo ≤ v ∧ v ≤ hi)) N lay r h) := by
  refine ConI.of (by decide) (by rintro _ N lay r h Q ⟨b, v, lo, hi, rfl, h1, h2, h3, hQ⟩; exact ⟨rfl, Nat.le_of_ble_eq_true rfl⟩) ?_
  rintro E _ N lay r h Q ⟨b, v, lo, hi, rfl, h1, h2, h3, hQ⟩ hret
  show St E mX8_isIn 0 [some (.ref b), some (vI v), some (vI lo), some (vI hi)] [] (0, 0) N lay r h
  refine r_iload_1 (pc := 0) dX8_isIn_0 ?_
  refine r_iload_2 (pc := 1) dX8_isIn_1 ?_
  refine r_icmp_lt (pc := 2) (tgt := 14) dX8_isIn_2 (by decide) (by omega) (by omega) (fun c_2 => ?_) (fun c_2 => ?_)
  · refine r_iconst (pc := 14) dX8_isIn_14 ?_
    refine r_zret (pc := 15) hret dX8_isIn_15 rfl rfl rfl (by first | exact Or.inl rfl | exact Or.inr rfl | exact bI_01 | omega) ?_
    first | (rw [bI_t (by omega)] at hQ; exact hQ) | (rw [bI_f (by omega)] at hQ; exact hQ)
  · refine r_iload_1 (pc := 5) dX8_isIn_5 ?_
    refine r_iload_3 (pc := 6) dX8_isIn_6 ?_
    refine r_icmp_gt (pc := 7) (tgt := 14) dX8_isIn_7 (by decide) (by omega) (by omega) (fun c_7 => ?_) (fun c_7 => ?_)
    · refine r_iconst (pc := 14) dX8_isIn_14 ?_
      refine r_zret (pc := 15) hret dX8_isIn_15 rfl rfl rfl (by first | exact Or.inl rfl | exact Or.inr rfl | exact bI_01 | omega) ?_
      first | (rw [bI_t (by omega)] at hQ; exact hQ) | (rw [bI_f (by omega)] at hQ; exact hQ)
    · refine r_iconst (pc := 10) dX8_isIn_10 ?_
      refine r_goto (pc := 11) (tgt := 15) dX8_isIn_11 (by decide) ?_
      refine r_zret (pc := 15) hret dX8_isIn_15 rfl rfl rfl (by first | exact Or.inl rfl | exact Or.inr rfl | exact bI_01 | omega) ?_
      first | (rw [bI_t (by omega)] at hQ; exact hQ) | (rw [bI_f (by omega)] at hQ; exact hQ)

