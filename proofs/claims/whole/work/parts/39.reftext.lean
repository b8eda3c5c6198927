/-! THE REFERENCE: the text -/
def ltr (n : Int) (tx : Int → Int) (i : Int) : Int := if n ≤ i then 0 else tx i
abbrev fig (n : Int) (tx : Int → Int) (i : Int) : Prop := 48 ≤ ltr n tx i ∧ ltr n tx i ≤ 57
def nmV (n : Int) (tx : Int → Int) (i : Int) : Int := if fig n tx (i + 1) then 10 * (ltr n tx i - 48) + ltr n tx (i + 1) - 48 else ltr n tx i - 48
def nmE (n : Int) (tx : Int → Int) (i : Int) : Int := if fig n tx (i + 1) then i + 2 else i + 1
def nm (n : Int) (tx : Int → Int) (i lo hi : Int) : Int := if fig n tx i ∧ lo ≤ nmV n tx i ∧ nmV n tx i ≤ hi then nmV n tx i else -1
theorem nmE_r {n : Int} {tx : Int → Int} {i : Int} : i + 1 ≤ nmE n tx i ∧ nmE n tx i ≤ i + 2 := by
  unfold nmE
  split <;> omega
theorem nmb_r {n : Int} {tx : Int → Int} {i lo hi : Int} (h : 0 ≤ lo) : nm n tx i lo hi = -1 ∨ (lo ≤ nm n tx i lo hi ∧ nm n tx i lo hi ≤ hi) := by
  unfold nm
  split
  · rename_i q; exact Or.inr q.2
  · exact Or.inl rfl
theorem dX8_letterAt_0 : decode cX8_letterAt 0 = .ok (.iload_n 1, 1) := by decide +kernel
theorem dX8_letterAt_1 : decode cX8_letterAt 1 = .ok (.aload_n 0, 1) := by decide +kernel
theorem dX8_letterAt_2 : decode cX8_letterAt 2 = .ok (.getfield 85, 3) := by decide +kernel
theorem dX8_letterAt_5 : decode cX8_letterAt 5 = .ok (.if_icmp .ge 12, 3) := by decide +kernel
theorem dX8_letterAt_8 : decode cX8_letterAt 8 = .ok (.aload_n 0, 1) := by decide +kernel
theorem dX8_letterAt_9 : decode cX8_letterAt 9 = .ok (.getfield 7, 3) := by decide +kernel
theorem dX8_letterAt_12 : decode cX8_letterAt 12 = .ok (.iload_n 1, 1) := by decide +kernel
theorem dX8_letterAt_13 : decode cX8_letterAt 13 = .ok (.iaload, 1) := by decide +kernel
theorem dX8_letterAt_14 : decode cX8_letterAt 14 = .ok (.goto 4, 3) := by decide +kernel
theorem dX8_letterAt_17 : decode cX8_letterAt 17 = .ok (.iconst 0, 1) := by decide +kernel
theorem dX8_letterAt_18 : decode cX8_letterAt 18 = .ok (.ireturn, 1) := by decide +kernel
set_option maxHeartbeats 4000000 in
set_option maxRecDepth 20000 in
theorem c_X8_letterAt : ConI mX8_letterAt (fun args N lay r h Q => ∃ (b : Nat) (n : Int) (tx : Int → Int) (i : Int), args = [.ref b, vI i] ∧ MdAt lay r b ∧ h b 0 = n ∧ h (b + 1) = tx ∧ (0 ≤ n ∧ n ≤ 200) ∧ (0 ≤ i ∧ i < 1000) ∧ (-2147483648 ≤ ltr n tx i ∧ ltr n tx i < 2147483648 → Q (ltr n tx i) N lay r h)) := by
  refine ConI.of (by decide) (by rintro _ N lay r h Q ⟨b, n, tx, i, rfl, hM, hn, htx, hn2, hi, hQ⟩; exact ⟨rfl, Nat.le_of_ble_eq_true rfl⟩) ?_
  rintro E _ N lay r h Q ⟨b, n, tx, i, rfl, hM, hn, htx, hn2, hi, hQ⟩ hret
  obtain ⟨ml0, ml1, ml2, ml3, ml4, ml5, ml6, ml7, ml8, ml9, ml10, ml11, ml12, ml13, ml14, ml15, ml16, ml17, ml18, ml19, ml20, mr1, mr2, mr3, mr4, mr5, mr6, mr7, mr8, mr9, mr10, mr11, mr12, mr13, mr14, mr15, mr16, mr17, mr18, mr19, mr20⟩ := id hM
  show St E mX8_letterAt 0 [some (.ref b), some (vI i)] [] (0, 0) N lay r h
  refine r_iload_1 (pc := 0) dX8_letterAt_0 ?_
  refine r_aload_0 (pc := 1) dX8_letterAt_1 ?_
  refine gf_X8_85 (pc := 2) rfl (by assumption) dX8_letterAt_2 (fun i_2 => ?_)
  rw [hn]
  refine r_icmp_ge (pc := 5) (tgt := 17) dX8_letterAt_5 (by decide) (by omega) (by omega) (fun c_5 => ?_) (fun c_5 => ?_)
  · refine r_iconst (pc := 17) dX8_letterAt_17 ?_
    refine r_iret (pc := 18) hret dX8_letterAt_18 rfl rfl rfl ?_
    first
    | (have e9 : ltr n tx i = 0 := if_pos c_5
       rw [e9] at hQ
       exact hQ (by omega))
    | (have e9 : ltr n tx i = tx i := if_neg (by omega)
       rw [e9] at hQ
       exact hQ i_13)
  · refine r_aload_0 (pc := 8) dX8_letterAt_8 ?_
    refine gf_X8_7 (pc := 9) rfl (by assumption) dX8_letterAt_9 (by assumption) ?_
    refine r_iload_1 (pc := 12) dX8_letterAt_12 ?_
    refine r_ialdE (pc := 13) (by assumption) (by first | assumption | exact rfl) dX8_letterAt_13 (by omega) (by omega) (fun i_13 => ?_)
    refine r_goto (pc := 14) (tgt := 18) dX8_letterAt_14 (by decide) ?_
    refine r_iret (pc := 18) hret dX8_letterAt_18 rfl rfl rfl ?_
    first
    | (have e9 : ltr n tx i = 0 := if_pos c_5
       rw [e9] at hQ
       exact hQ (by omega))
    | (have e9 : ltr n tx i = tx i := if_neg (by omega)
       rw [e9] at hQ
       exact hQ i_13)

theorem dX8_isFigure_0 : decode cX8_isFigure 0 = .ok (.aload_n 0, 1) := by decide +kernel
theorem dX8_isFigure_1 : decode cX8_isFigure 1 = .ok (.iload_n 1, 1) := by decide +kernel
theorem dX8_isFigure_2 : decode cX8_isFigure 2 = .ok (.invokevirtual 89, 3) := by decide +kernel
theorem dX8_isFigure_5 : decode cX8_isFigure 5 = .ok (.bipush 48, 2) := by decide +kernel
theorem dX8_isFigure_7 : decode cX8_isFigure 7 = .ok (.if_icmp .lt 17, 3) := by decide +kernel
theorem dX8_isFigure_10 : decode cX8_isFigure 10 = .ok (.aload_n 0, 1) := by decide +kernel
theorem dX8_isFigure_11 : decode cX8_isFigure 11 = .ok (.iload_n 1, 1) := by decide +kernel
theorem dX8_isFigure_12 : decode cX8_isFigure 12 = .ok (.invokevirtual 89, 3) := by decide +kernel
theorem dX8_isFigure_15 : decode cX8_isFigure 15 = .ok (.bipush 57, 2) := by decide +kernel
theorem dX8_isFigure_17 : decode cX8_isFigure 17 = .ok (.if_icmp .gt 7, 3) := by decide +kernel
theorem dX8_isFigure_20 : decode cX8_isFigure 20 = .ok (.iconst 1, 1) := by decide +kernel
theorem dX8_isFigure_21 : decode cX8_isFigure 21 = .ok (.goto 4, 3) := by decide +kernel
theorem dX8_isFigure_24 : decode cX8_isFigure 24 = .ok (.iconst 0, 1) := by decide +kernel
theorem dX8_isFigure_25 : decode cX8_isFigure 25 = .ok (.ireturn, 1) := by decide +kernel
set_option maxHeartbeats 4000000 in
set_option maxRecDepth 20000 in
theorem c_X8_isFigure : ConI mX8_isFigure (fun args N lay r h Q => ∃ (b : Nat) (n : Int) (tx : Int → Int) (i : Int), args = [.ref b, vI i] ∧ MdAt lay r b ∧ h b 0 = n ∧ h (b + 1) = tx ∧ (0 ≤ n ∧ n ≤ 200) ∧ (0 ≤ i ∧ i < 1000) ∧ Q (bI (fig n tx i)) N lay r h) := by
  refine ConI.of (by decide) (by rintro _ N lay r h Q ⟨b, n, tx, i, rfl, hM, hn, htx, hn2, hi, hQ⟩; exact ⟨rfl, Nat.le_of_ble_eq_true rfl⟩) ?_
  rintro E _ N lay r h Q ⟨b, n, tx, i, rfl, hM, hn, htx, hn2, hi, hQ⟩ hret
  obtain ⟨ml0, ml1, ml2, ml3, ml4, ml5, ml6, ml7, ml8, ml9, ml10, ml11, ml12, ml13, ml14, ml15, ml16, ml17, ml18, ml19, ml20, mr1, mr2, mr3, mr4, mr5, mr6, mr7, mr8, mr9, mr10, mr11, mr12, mr13, mr14, mr15, mr16, mr17, mr18, mr19, mr20⟩ := id hM
  show St E mX8_isFigure 0 [some (.ref b), some (vI i)] [] (0, 0) N lay r h
  refine r_aload_0 (pc := 0) dX8_isFigure_0 ?_
  refine r_iload_1 (pc := 1) dX8_isFigure_1 ?_
  refine k_VI1 (pc := 2) c_X8_letterAt lk_X8_89 ⟨Nat.le_of_ble_eq_true rfl, Nat.le_of_ble_eq_true rfl⟩ ⟨rfl, rfl⟩ ⟨Nat.le_of_ble_eq_true rfl, Nat.le_of_ble_eq_true rfl⟩ (k := 8) rfl (by decide) (by assumption) dX8_isFigure_2 (Nat.le_of_ble_eq_true rfl) ?_
  refine ⟨_, _, _, _, rfl, by assumption, by first | assumption | exact rfl, by first | assumption | exact rfl, by omega, by omega, fun i_2 => ?_⟩
  refine r_bipush (pc := 5) dX8_isFigure_5 (by decide) ?_
  refine r_icmp_lt (pc := 7) (tgt := 24) dX8_isFigure_7 (by decide) (by omega) (by omega) (fun c_7 => ?_) (fun c_7 => ?_)
  · refine r_iconst (pc := 24) dX8_isFigure_24 ?_
    refine r_zret (pc := 25) hret dX8_isFigure_25 rfl rfl rfl (by first | exact Or.inl rfl | exact Or.inr rfl | exact bI_01 | omega) ?_
    first
    | (rw [bI_t (by omega)] at hQ; exact hQ)
    | (rw [bI_f (by omega)] at hQ; exact hQ)
  · refine r_aload_0 (pc := 10) dX8_isFigure_10 ?_
    refine r_iload_1 (pc := 11) dX8_isFigure_11 ?_
    refine k_VI1 (pc := 12) c_X8_letterAt lk_X8_89 ⟨Nat.le_of_ble_eq_true rfl, Nat.le_of_ble_eq_true rfl⟩ ⟨rfl, rfl⟩ ⟨Nat.le_of_ble_eq_true rfl, Nat.le_of_ble_eq_true rfl⟩ (k := 8) rfl (by decide) (by assumption) dX8_isFigure_12 (Nat.le_of_ble_eq_true rfl) ?_
    refine ⟨_, _, _, _, rfl, by assumption, by first | assumption | exact rfl, by first | assumption | exact rfl, by omega, by omega, fun i_12 => ?_⟩
    refine r_bipush (pc := 15) dX8_isFigure_15 (by decide) ?_
    refine r_icmp_gt (pc := 17) (tgt := 24) dX8_isFigure_17 (by decide) (by omega) (by omega) (fun c_17 => ?_) (fun c_17 => ?_)
    · refine r_iconst (pc := 24) dX8_isFigure_24 ?_
      refine r_zret (pc := 25) hret dX8_isFigure_25 rfl rfl rfl (by first | exact Or.inl rfl | exact Or.inr rfl | exact bI_01 | omega) ?_
      first
      | (rw [bI_t (by omega)] at hQ; exact hQ)
      | (rw [bI_f (by omega)] at hQ; exact hQ)
    · refine r_iconst (pc := 20) dX8_isFigure_20 ?_
      refine r_goto (pc := 21) (tgt := 25) dX8_isFigure_21 (by decide) ?_
      refine r_zret (pc := 25) hret dX8_isFigure_25 rfl rfl rfl (by first | exact Or.inl rfl | exact Or.inr rfl | exact bI_01 | omega) ?_
      first
      | (rw [bI_t (by omega)] at hQ; exact hQ)
      | (rw [bI_f (by omega)] at hQ; exact hQ)

theorem dX8_number_0 : decode cX8_number 0 = .ok (.aload_n 0, 1) := by decide +kernel
theorem dX8_number_1 : decode cX8_number 1 = .ok (.iload_n 1, 1) := by decide +kernel
theorem dX8_number_2 : decode cX8_number 2 = .ok (.invokevirtual 92, 3) := by decide +kernel
theorem dX8_number_5 : decode cX8_number 5 = .ok (.ifCond .ne 5, 3) := by decide +kernel
theorem dX8_number_8 : decode cX8_number 8 = .ok (.iconst (-1), 1) := by decide +kernel
theorem dX8_number_9 : decode cX8_number 9 = .ok (.ireturn, 1) := by decide +kernel
theorem dX8_number_10 : decode cX8_number 10 = .ok (.aload_n 0, 1) := by decide +kernel
theorem dX8_number_11 : decode cX8_number 11 = .ok (.iload_n 1, 1) := by decide +kernel
theorem dX8_number_12 : decode cX8_number 12 = .ok (.invokevirtual 89, 3) := by decide +kernel
theorem dX8_number_15 : decode cX8_number 15 = .ok (.bipush 48, 2) := by decide +kernel
theorem dX8_number_17 : decode cX8_number 17 = .ok (.isub, 1) := by decide +kernel
theorem dX8_number_18 : decode cX8_number 18 = .ok (.istore 4, 2) := by decide +kernel
theorem dX8_number_20 : decode cX8_number 20 = .ok (.aload_n 0, 1) := by decide +kernel
theorem dX8_number_21 : decode cX8_number 21 = .ok (.iload_n 1, 1) := by decide +kernel
theorem dX8_number_22 : decode cX8_number 22 = .ok (.iconst 1, 1) := by decide +kernel
theorem dX8_number_23 : decode cX8_number 23 = .ok (.iadd, 1) := by decide +kernel
theorem dX8_number_24 : decode cX8_number 24 = .ok (.putfield 96, 3) := by decide +kernel
theorem dX8_number_27 : decode cX8_number 27 = .ok (.aload_n 0, 1) := by decide +kernel
theorem dX8_number_28 : decode cX8_number 28 = .ok (.iload_n 1, 1) := by decide +kernel
theorem dX8_number_29 : decode cX8_number 29 = .ok (.iconst 1, 1) := by decide +kernel
theorem dX8_number_30 : decode cX8_number 30 = .ok (.iadd, 1) := by decide +kernel
theorem dX8_number_31 : decode cX8_number 31 = .ok (.invokevirtual 92, 3) := by decide +kernel
theorem dX8_number_34 : decode cX8_number 34 = .ok (.ifCond .eq 28, 3) := by decide +kernel
theorem dX8_number_37 : decode cX8_number 37 = .ok (.bipush 10, 2) := by decide +kernel
theorem dX8_number_39 : decode cX8_number 39 = .ok (.iload 4, 2) := by decide +kernel
theorem dX8_number_41 : decode cX8_number 41 = .ok (.imul, 1) := by decide +kernel
theorem dX8_number_42 : decode cX8_number 42 = .ok (.aload_n 0, 1) := by decide +kernel
theorem dX8_number_43 : decode cX8_number 43 = .ok (.iload_n 1, 1) := by decide +kernel
theorem dX8_number_44 : decode cX8_number 44 = .ok (.iconst 1, 1) := by decide +kernel
theorem dX8_number_45 : decode cX8_number 45 = .ok (.iadd, 1) := by decide +kernel
theorem dX8_number_46 : decode cX8_number 46 = .ok (.invokevirtual 89, 3) := by decide +kernel
theorem dX8_number_49 : decode cX8_number 49 = .ok (.iadd, 1) := by decide +kernel
theorem dX8_number_50 : decode cX8_number 50 = .ok (.bipush 48, 2) := by decide +kernel
theorem dX8_number_52 : decode cX8_number 52 = .ok (.isub, 1) := by decide +kernel
theorem dX8_number_53 : decode cX8_number 53 = .ok (.istore 4, 2) := by decide +kernel
theorem dX8_number_55 : decode cX8_number 55 = .ok (.aload_n 0, 1) := by decide +kernel
theorem dX8_number_56 : decode cX8_number 56 = .ok (.iload_n 1, 1) := by decide +kernel
theorem dX8_number_57 : decode cX8_number 57 = .ok (.iconst 2, 1) := by decide +kernel
theorem dX8_number_58 : decode cX8_number 58 = .ok (.iadd, 1) := by decide +kernel
theorem dX8_number_59 : decode cX8_number 59 = .ok (.putfield 96, 3) := by decide +kernel
theorem dX8_number_62 : decode cX8_number 62 = .ok (.iload 4, 2) := by decide +kernel
theorem dX8_number_64 : decode cX8_number 64 = .ok (.iload_n 2, 1) := by decide +kernel
theorem dX8_number_65 : decode cX8_number 65 = .ok (.if_icmp .lt 9, 3) := by decide +kernel
theorem dX8_number_68 : decode cX8_number 68 = .ok (.iload 4, 2) := by decide +kernel
theorem dX8_number_70 : decode cX8_number 70 = .ok (.iload_n 3, 1) := by decide +kernel
theorem dX8_number_71 : decode cX8_number 71 = .ok (.if_icmp .le 7, 3) := by decide +kernel
theorem dX8_number_74 : decode cX8_number 74 = .ok (.iconst (-1), 1) := by decide +kernel
theorem dX8_number_75 : decode cX8_number 75 = .ok (.goto 5, 3) := by decide +kernel
theorem dX8_number_78 : decode cX8_number 78 = .ok (.iload 4, 2) := by decide +kernel
theorem dX8_number_80 : decode cX8_number 80 = .ok (.ireturn, 1) := by decide +kernel
set_option maxHeartbeats 4000000 in
set_option maxRecDepth 20000 in
theorem c_X8_number : ConI mX8_number (fun args N lay r h Q => ∃ (b : Nat) (n : Int) (tx : Int → Int) (i lo hi : Int), args = [.ref b, vI i, vI lo, vI hi] ∧ MdAt lay r b ∧ h b 0 = n ∧ h (b + 1) = tx ∧ (0 ≤ n ∧ n ≤ 200) ∧ (0 ≤ i ∧ i < 900) ∧ (0 ≤ lo ∧ lo ≤ 100) ∧ (0 ≤ hi ∧ hi ≤ 100) ∧ ∀ h2, Fr h h2 (fun x => x = b) → h2 b = up (h b) 24 (h2 b 24) → (0 ≤ nm n tx i lo hi → h2 b 24 = nmE n tx i) → Q (nm n tx i lo hi) N lay r h2) := by
  refine ConI.of (by decide) (by rintro _ N lay r h Q ⟨b, n, tx, i, lo, hi, rfl, hM, hn, htx, hn2, hi_, hlo, hhi, hQ⟩; exact ⟨rfl, Nat.le_of_ble_eq_true rfl⟩) ?_
  rintro E _ N lay r h Q ⟨b, n, tx, i, lo, hi, rfl, hM, hn, htx, hn2, hi_, hlo, hhi, hQ⟩ hret
  obtain ⟨ml0, ml1, ml2, ml3, ml4, ml5, ml6, ml7, ml8, ml9, ml10, ml11, ml12, ml13, ml14, ml15, ml16, ml17, ml18, ml19, ml20, mr1, mr2, mr3, mr4, mr5, mr6, mr7, mr8, mr9, mr10, mr11, mr12, mr13, mr14, mr15, mr16, mr17, mr18, mr19, mr20⟩ := id hM
  show St E mX8_number 0 [some (.ref b), some (vI i), some (vI lo), some (vI hi), none] [] (0, 0) N lay r h
  refine r_aload_0 (pc := 0) dX8_number_0 ?_
  refine r_iload_1 (pc := 1) dX8_number_1 ?_
  refine k_VI1 (pc := 2) c_X8_isFigure lk_X8_92 ⟨Nat.le_of_ble_eq_true rfl, Nat.le_of_ble_eq_true rfl⟩ ⟨rfl, rfl⟩ ⟨Nat.le_of_ble_eq_true rfl, Nat.le_of_ble_eq_true rfl⟩ (k := 8) rfl (by decide) (by assumption) dX8_number_2 (Nat.le_of_ble_eq_true rfl) ?_
  refine ⟨_, _, _, _, rfl, by assumption, by first | assumption | exact rfl, by first | assumption | exact rfl, by omega, by omega, ?_⟩
  refine r_ifne_b (pc := 5) (tgt := 10) dX8_number_5 (by decide) (fun c_5 => ?_) (fun c_5 => ?_)
  · refine r_aload_0 (pc := 10) dX8_number_10 ?_
    refine r_iload_1 (pc := 11) dX8_number_11 ?_
    refine k_VI1 (pc := 12) c_X8_letterAt lk_X8_89 ⟨Nat.le_of_ble_eq_true rfl, Nat.le_of_ble_eq_true rfl⟩ ⟨rfl, rfl⟩ ⟨Nat.le_of_ble_eq_true rfl, Nat.le_of_ble_eq_true rfl⟩ (k := 8) rfl (by decide) (by assumption) dX8_number_12 (Nat.le_of_ble_eq_true rfl) ?_
    refine ⟨_, _, _, _, rfl, by assumption, by first | assumption | exact rfl, by first | assumption | exact rfl, by omega, by omega, fun i_12 => ?_⟩
    refine r_bipush (pc := 15) dX8_number_15 (by decide) ?_
    refine r_isub (pc := 17) dX8_number_17 ?_
    refine r_istore_4 (pc := 18) dX8_number_18 rfl ?_
    refine r_aload_0 (pc := 20) dX8_number_20 ?_
    refine r_iload_1 (pc := 21) dX8_number_21 ?_
    refine r_iconst (pc := 22) dX8_number_22 ?_
    refine r_iadd (pc := 23) dX8_number_23 ?_
    refine pf_X8_96 (pc := 24) rfl (by assumption) dX8_number_24 (by omega) ?_
    have l1 : (hr h b (up (h b) 24 (i + 1))) b 0 = n := by rw [hr_s, up_n (by omega)]; exact hn
    have x1 : (hr h b (up (h b) 24 (i + 1))) (b + 1) = tx := (hr_n (by omega)).trans htx
    refine r_aload_0 (pc := 27) dX8_number_27 ?_
    refine r_iload_1 (pc := 28) dX8_number_28 ?_
    refine r_iconst (pc := 29) dX8_number_29 ?_
    refine r_iadd (pc := 30) dX8_number_30 ?_
    refine k_VI1 (pc := 31) c_X8_isFigure lk_X8_92 ⟨Nat.le_of_ble_eq_true rfl, Nat.le_of_ble_eq_true rfl⟩ ⟨rfl, rfl⟩ ⟨Nat.le_of_ble_eq_true rfl, Nat.le_of_ble_eq_true rfl⟩ (k := 8) rfl (by decide) (by assumption) dX8_number_31 (Nat.le_of_ble_eq_true rfl) ?_
    refine ⟨_, _, _, _, rfl, by assumption, by first | assumption | exact rfl, by first | assumption | exact rfl, by omega, by omega, ?_⟩
    refine r_ifeq_b (pc := 34) (tgt := 62) dX8_number_34 (by decide) (fun c_34 => ?_) (fun c_34 => ?_)
    · try rw [hr_hr, hr_s, up_up]
      refine r_iload_4 (pc := 62) dX8_number_62 ?_
      refine r_iload_2 (pc := 64) dX8_number_64 ?_
      refine r_icmp_lt (pc := 65) (tgt := 74) dX8_number_65 (by decide) (by omega) (by omega) (fun c_65 => ?_) (fun c_65 => ?_)
      · refine r_iconst (pc := 74) dX8_number_74 ?_
        refine r_goto (pc := 75) (tgt := 80) dX8_number_75 (by decide) ?_
        refine r_iret (pc := 80) hret dX8_number_80 rfl rfl rfl ?_
        first
        | (have e9 : nm n tx i lo hi = -1 := if_neg (fun z => c_5 z.1)
           have z := hQ h (fun _ _ => rfl) up_id.symm (by rw [e9]; omega)
           rw [e9] at z
           exact z)
        | (have e7 : nmV n tx i = (ltr n tx i - 48) := if_neg c_34
           have e8 : nmE n tx i = (i + 1) := if_neg c_34
           have e9 : nm n tx i lo hi = -1 := if_neg (fun z => by have := z.2; omega)
           have z := hQ (hr h b (up (h b) 24 (i + 1))) (fun x hx => hr_n hx) (by rw [hr_s, up_s]) (fun _ => by rw [e8, hr_s, up_s])
           rw [e9] at z
           exact z)
        | (have e7 : nmV n tx i = (ltr n tx i - 48) := if_neg c_34
           have e8 : nmE n tx i = (i + 1) := if_neg c_34
           have e9 : nm n tx i lo hi = (ltr n tx i - 48) := (if_pos ⟨c_5, by omega, by omega⟩).trans e7
           have z := hQ (hr h b (up (h b) 24 (i + 1))) (fun x hx => hr_n hx) (by rw [hr_s, up_s]) (fun _ => by rw [e8, hr_s, up_s])
           rw [e9] at z
           exact z)
        | (have e7 : nmV n tx i = (10 * (ltr n tx i - 48) + ltr n tx (i + 1) - 48) := if_pos c_34
           have e8 : nmE n tx i = (i + 2) := if_pos c_34
           have e9 : nm n tx i lo hi = -1 := if_neg (fun z => by have := z.2; omega)
           have z := hQ (hr h b (up (h b) 24 (i + 2))) (fun x hx => hr_n hx) (by rw [hr_s, up_s]) (fun _ => by rw [e8, hr_s, up_s])
           rw [e9] at z
           exact z)
        | (have e7 : nmV n tx i = (10 * (ltr n tx i - 48) + ltr n tx (i + 1) - 48) := if_pos c_34
           have e8 : nmE n tx i = (i + 2) := if_pos c_34
           have e9 : nm n tx i lo hi = (10 * (ltr n tx i - 48) + ltr n tx (i + 1) - 48) := (if_pos ⟨c_5, by omega, by omega⟩).trans e7
           have z := hQ (hr h b (up (h b) 24 (i + 2))) (fun x hx => hr_n hx) (by rw [hr_s, up_s]) (fun _ => by rw [e8, hr_s, up_s])
           rw [e9] at z
           exact z)
        
      · refine r_iload_4 (pc := 68) dX8_number_68 ?_
        refine r_iload_3 (pc := 70) dX8_number_70 ?_
        refine r_icmp_le (pc := 71) (tgt := 78) dX8_number_71 (by decide) (by omega) (by omega) (fun c_71 => ?_) (fun c_71 => ?_)
        · refine r_iload_4 (pc := 78) dX8_number_78 ?_
          refine r_iret (pc := 80) hret dX8_number_80 rfl rfl rfl ?_
          first
          | (have e9 : nm n tx i lo hi = -1 := if_neg (fun z => c_5 z.1)
             have z := hQ h (fun _ _ => rfl) up_id.symm (by rw [e9]; omega)
             rw [e9] at z
             exact z)
          | (have e7 : nmV n tx i = (ltr n tx i - 48) := if_neg c_34
             have e8 : nmE n tx i = (i + 1) := if_neg c_34
             have e9 : nm n tx i lo hi = -1 := if_neg (fun z => by have := z.2; omega)
             have z := hQ (hr h b (up (h b) 24 (i + 1))) (fun x hx => hr_n hx) (by rw [hr_s, up_s]) (fun _ => by rw [e8, hr_s, up_s])
             rw [e9] at z
             exact z)
          | (have e7 : nmV n tx i = (ltr n tx i - 48) := if_neg c_34
             have e8 : nmE n tx i = (i + 1) := if_neg c_34
             have e9 : nm n tx i lo hi = (ltr n tx i - 48) := (if_pos ⟨c_5, by omega, by omega⟩).trans e7
             have z := hQ (hr h b (up (h b) 24 (i + 1))) (fun x hx => hr_n hx) (by rw [hr_s, up_s]) (fun _ => by rw [e8, hr_s, up_s])
             rw [e9] at z
             exact z)
          | (have e7 : nmV n tx i = (10 * (ltr n tx i - 48) + ltr n tx (i + 1) - 48) := if_pos c_34
             have e8 : nmE n tx i = (i + 2) := if_pos c_34
             have e9 : nm n tx i lo hi = -1 := if_neg (fun z => by have := z.2; omega)
             have z := hQ (hr h b (up (h b) 24 (i + 2))) (fun x hx => hr_n hx) (by rw [hr_s, up_s]) (fun _ => by rw [e8, hr_s, up_s])
             rw [e9] at z
             exact z)
          | (have e7 : nmV n tx i = (10 * (ltr n tx i - 48) + ltr n tx (i + 1) - 48) := if_pos c_34
             have e8 : nmE n tx i = (i + 2) := if_pos c_34
             have e9 : nm n tx i lo hi = (10 * (ltr n tx i - 48) + ltr n tx (i + 1) - 48) := (if_pos ⟨c_5, by omega, by omega⟩).trans e7
             have z := hQ (hr h b (up (h b) 24 (i + 2))) (fun x hx => hr_n hx) (by rw [hr_s, up_s]) (fun _ => by rw [e8, hr_s, up_s])
             rw [e9] at z
             exact z)
          
        · refine r_iconst (pc := 74) dX8_number_74 ?_
          refine r_goto (pc := 75) (tgt := 80) dX8_number_75 (by decide) ?_
          refine r_iret (pc := 80) hret dX8_number_80 rfl rfl rfl ?_
          first
          | (have e9 : nm n tx i lo hi = -1 := if_neg (fun z => c_5 z.1)
             have z := hQ h (fun _ _ => rfl) up_id.symm (by rw [e9]; omega)
             rw [e9] at z
             exact z)
          | (have e7 : nmV n tx i = (ltr n tx i - 48) := if_neg c_34
             have e8 : nmE n tx i = (i + 1) := if_neg c_34
             have e9 : nm n tx i lo hi = -1 := if_neg (fun z => by have := z.2; omega)
             have z := hQ (hr h b (up (h b) 24 (i + 1))) (fun x hx => hr_n hx) (by rw [hr_s, up_s]) (fun _ => by rw [e8, hr_s, up_s])
             rw [e9] at z
             exact z)
          | (have e7 : nmV n tx i = (ltr n tx i - 48) := if_neg c_34
             have e8 : nmE n tx i = (i + 1) := if_neg c_34
             have e9 : nm n tx i lo hi = (ltr n tx i - 48) := (if_pos ⟨c_5, by omega, by omega⟩).trans e7
             have z := hQ (hr h b (up (h b) 24 (i + 1))) (fun x hx => hr_n hx) (by rw [hr_s, up_s]) (fun _ => by rw [e8, hr_s, up_s])
             rw [e9] at z
             exact z)
          | (have e7 : nmV n tx i = (10 * (ltr n tx i - 48) + ltr n tx (i + 1) - 48) := if_pos c_34
             have e8 : nmE n tx i = (i + 2) := if_pos c_34
             have e9 : nm n tx i lo hi = -1 := if_neg (fun z => by have := z.2; omega)
             have z := hQ (hr h b (up (h b) 24 (i + 2))) (fun x hx => hr_n hx) (by rw [hr_s, up_s]) (fun _ => by rw [e8, hr_s, up_s])
             rw [e9] at z
             exact z)
          | (have e7 : nmV n tx i = (10 * (ltr n tx i - 48) + ltr n tx (i + 1) - 48) := if_pos c_34
             have e8 : nmE n tx i = (i + 2) := if_pos c_34
             have e9 : nm n tx i lo hi = (10 * (ltr n tx i - 48) + ltr n tx (i + 1) - 48) := (if_pos ⟨c_5, by omega, by omega⟩).trans e7
             have z := hQ (hr h b (up (h b) 24 (i + 2))) (fun x hx => hr_n hx) (by rw [hr_s, up_s]) (fun _ => by rw [e8, hr_s, up_s])
             rw [e9] at z
             exact z)
          
    · refine r_bipush (pc := 37) dX8_number_37 (by decide) ?_
      refine r_iload_4 (pc := 39) dX8_number_39 ?_
      refine r_imul (pc := 41) dX8_number_41 ?_
      refine r_aload_0 (pc := 42) dX8_number_42 ?_
      refine r_iload_1 (pc := 43) dX8_number_43 ?_
      refine r_iconst (pc := 44) dX8_number_44 ?_
      refine r_iadd (pc := 45) dX8_number_45 ?_
      refine k_VI1 (pc := 46) c_X8_letterAt lk_X8_89 ⟨Nat.le_of_ble_eq_true rfl, Nat.le_of_ble_eq_true rfl⟩ ⟨rfl, rfl⟩ ⟨Nat.le_of_ble_eq_true rfl, Nat.le_of_ble_eq_true rfl⟩ (k := 8) rfl (by decide) (by assumption) dX8_number_46 (Nat.le_of_ble_eq_true rfl) ?_
      refine ⟨_, _, _, _, rfl, by assumption, by first | assumption | exact rfl, by first | assumption | exact rfl, by omega, by omega, fun i_46 => ?_⟩
      refine r_iadd (pc := 49) dX8_number_49 ?_
      refine r_bipush (pc := 50) dX8_number_50 (by decide) ?_
      refine r_isub (pc := 52) dX8_number_52 ?_
      refine r_istore_4 (pc := 53) dX8_number_53 rfl ?_
      refine r_aload_0 (pc := 55) dX8_number_55 ?_
      refine r_iload_1 (pc := 56) dX8_number_56 ?_
      refine r_iconst (pc := 57) dX8_number_57 ?_
      refine r_iadd (pc := 58) dX8_number_58 ?_
      refine pf_X8_96 (pc := 59) rfl (by assumption) dX8_number_59 (by omega) ?_
      try rw [hr_hr, hr_s, up_up]
      refine r_iload_4 (pc := 62) dX8_number_62 ?_
      refine r_iload_2 (pc := 64) dX8_number_64 ?_
      refine r_icmp_lt (pc := 65) (tgt := 74) dX8_number_65 (by decide) (by omega) (by omega) (fun c_65 => ?_) (fun c_65 => ?_)
      · refine r_iconst (pc := 74) dX8_number_74 ?_
        refine r_goto (pc := 75) (tgt := 80) dX8_number_75 (by decide) ?_
        refine r_iret (pc := 80) hret dX8_number_80 rfl rfl rfl ?_
        first
        | (have e9 : nm n tx i lo hi = -1 := if_neg (fun z => c_5 z.1)
           have z := hQ h (fun _ _ => rfl) up_id.symm (by rw [e9]; omega)
           rw [e9] at z
           exact z)
        | (have e7 : nmV n tx i = (ltr n tx i - 48) := if_neg c_34
           have e8 : nmE n tx i = (i + 1) := if_neg c_34
           have e9 : nm n tx i lo hi = -1 := if_neg (fun z => by have := z.2; omega)
           have z := hQ (hr h b (up (h b) 24 (i + 1))) (fun x hx => hr_n hx) (by rw [hr_s, up_s]) (fun _ => by rw [e8, hr_s, up_s])
           rw [e9] at z
           exact z)
        | (have e7 : nmV n tx i = (ltr n tx i - 48) := if_neg c_34
           have e8 : nmE n tx i = (i + 1) := if_neg c_34
           have e9 : nm n tx i lo hi = (ltr n tx i - 48) := (if_pos ⟨c_5, by omega, by omega⟩).trans e7
           have z := hQ (hr h b (up (h b) 24 (i + 1))) (fun x hx => hr_n hx) (by rw [hr_s, up_s]) (fun _ => by rw [e8, hr_s, up_s])
           rw [e9] at z
           exact z)
        | (have e7 : nmV n tx i = (10 * (ltr n tx i - 48) + ltr n tx (i + 1) - 48) := if_pos c_34
           have e8 : nmE n tx i = (i + 2) := if_pos c_34
           have e9 : nm n tx i lo hi = -1 := if_neg (fun z => by have := z.2; omega)
           have z := hQ (hr h b (up (h b) 24 (i + 2))) (fun x hx => hr_n hx) (by rw [hr_s, up_s]) (fun _ => by rw [e8, hr_s, up_s])
           rw [e9] at z
           exact z)
        | (have e7 : nmV n tx i = (10 * (ltr n tx i - 48) + ltr n tx (i + 1) - 48) := if_pos c_34
           have e8 : nmE n tx i = (i + 2) := if_pos c_34
           have e9 : nm n tx i lo hi = (10 * (ltr n tx i - 48) + ltr n tx (i + 1) - 48) := (if_pos ⟨c_5, by omega, by omega⟩).trans e7
           have z := hQ (hr h b (up (h b) 24 (i + 2))) (fun x hx => hr_n hx) (by rw [hr_s, up_s]) (fun _ => by rw [e8, hr_s, up_s])
           rw [e9] at z
           exact z)
        
      · refine r_iload_4 (pc := 68) dX8_number_68 ?_
        refine r_iload_3 (pc := 70) dX8_number_70 ?_
        refine r_icmp_le (pc := 71) (tgt := 78) dX8_number_71 (by decide) (by omega) (by omega) (fun c_71 => ?_) (fun c_71 => ?_)
        · refine r_iload_4 (pc := 78) dX8_number_78 ?_
          refine r_iret (pc := 80) hret dX8_number_80 rfl rfl rfl ?_
          first
          | (have e9 : nm n tx i lo hi = -1 := if_neg (fun z => c_5 z.1)
             have z := hQ h (fun _ _ => rfl) up_id.symm (by rw [e9]; omega)
             rw [e9] at z
             exact z)
          | (have e7 : nmV n tx i = (ltr n tx i - 48) := if_neg c_34
             have e8 : nmE n tx i = (i + 1) := if_neg c_34
             have e9 : nm n tx i lo hi = -1 := if_neg (fun z => by have := z.2; omega)
             have z := hQ (hr h b (up (h b) 24 (i + 1))) (fun x hx => hr_n hx) (by rw [hr_s, up_s]) (fun _ => by rw [e8, hr_s, up_s])
             rw [e9] at z
             exact z)
          | (have e7 : nmV n tx i = (ltr n tx i - 48) := if_neg c_34
             have e8 : nmE n tx i = (i + 1) := if_neg c_34
             have e9 : nm n tx i lo hi = (ltr n tx i - 48) := (if_pos ⟨c_5, by omega, by omega⟩).trans e7
             have z := hQ (hr h b (up (h b) 24 (i + 1))) (fun x hx => hr_n hx) (by rw [hr_s, up_s]) (fun _ => by rw [e8, hr_s, up_s])
             rw [e9] at z
             exact z)
          | (have e7 : nmV n tx i = (10 * (ltr n tx i - 48) + ltr n tx (i + 1) - 48) := if_pos c_34
             have e8 : nmE n tx i = (i + 2) := if_pos c_34
             have e9 : nm n tx i lo hi = -1 := if_neg (fun z => by have := z.2; omega)
             have z := hQ (hr h b (up (h b) 24 (i + 2))) (fun x hx => hr_n hx) (by rw [hr_s, up_s]) (fun _ => by rw [e8, hr_s, up_s])
             rw [e9] at z
             exact z)
          | (have e7 : nmV n tx i = (10 * (ltr n tx i - 48) + ltr n tx (i + 1) - 48) := if_pos c_34
             have e8 : nmE n tx i = (i + 2) := if_pos c_34
             have e9 : nm n tx i lo hi = (10 * (ltr n tx i - 48) + ltr n tx (i + 1) - 48) := (if_pos ⟨c_5, by omega, by omega⟩).trans e7
             have z := hQ (hr h b (up (h b) 24 (i + 2))) (fun x hx => hr_n hx) (by rw [hr_s, up_s]) (fun _ => by rw [e8, hr_s, up_s])
             rw [e9] at z
             exact z)
          
        · refine r_iconst (pc := 74) dX8_number_74 ?_
          refine r_goto (pc := 75) (tgt := 80) dX8_number_75 (by decide) ?_
          refine r_iret (pc := 80) hret dX8_number_80 rfl rfl rfl ?_
          first
          | (have e9 : nm n tx i lo hi = -1 := if_neg (fun z => c_5 z.1)
             have z := hQ h (fun _ _ => rfl) up_id.symm (by rw [e9]; omega)
             rw [e9] at z
             exact z)
          | (have e7 : nmV n tx i = (ltr n tx i - 48) := if_neg c_34
             have e8 : nmE n tx i = (i + 1) := if_neg c_34
             have e9 : nm n tx i lo hi = -1 := if_neg (fun z => by have := z.2; omega)
             have z := hQ (hr h b (up (h b) 24 (i + 1))) (fun x hx => hr_n hx) (by rw [hr_s, up_s]) (fun _ => by rw [e8, hr_s, up_s])
             rw [e9] at z
             exact z)
          | (have e7 : nmV n tx i = (ltr n tx i - 48) := if_neg c_34
             have e8 : nmE n tx i = (i + 1) := if_neg c_34
             have e9 : nm n tx i lo hi = (ltr n tx i - 48) := (if_pos ⟨c_5, by omega, by omega⟩).trans e7
             have z := hQ (hr h b (up (h b) 24 (i + 1))) (fun x hx => hr_n hx) (by rw [hr_s, up_s]) (fun _ => by rw [e8, hr_s, up_s])
             rw [e9] at z
             exact z)
          | (have e7 : nmV n tx i = (10 * (ltr n tx i - 48) + ltr n tx (i + 1) - 48) := if_pos c_34
             have e8 : nmE n tx i = (i + 2) := if_pos c_34
             have e9 : nm n tx i lo hi = -1 := if_neg (fun z => by have := z.2; omega)
             have z := hQ (hr h b (up (h b) 24 (i + 2))) (fun x hx => hr_n hx) (by rw [hr_s, up_s]) (fun _ => by rw [e8, hr_s, up_s])
             rw [e9] at z
             exact z)
          | (have e7 : nmV n tx i = (10 * (ltr n tx i - 48) + ltr n tx (i + 1) - 48) := if_pos c_34
             have e8 : nmE n tx i = (i + 2) := if_pos c_34
             have e9 : nm n tx i lo hi = (10 * (ltr n tx i - 48) + ltr n tx (i + 1) - 48) := (if_pos ⟨c_5, by omega, by omega⟩).trans e7
             have z := hQ (hr h b (up (h b) 24 (i + 2))) (fun x hx => hr_n hx) (by rw [hr_s, up_s]) (fun _ => by rw [e8, hr_s, up_s])
             rw [e9] at z
             exact z)
          
  · refine r_iconst (pc := 8) dX8_number_8 ?_
    refine r_iret (pc := 9) hret dX8_number_9 rfl rfl rfl ?_
    first
    | (have e9 : nm n tx i lo hi = -1 := if_neg (fun z => c_5 z.1)
       have z := hQ h (fun _ _ => rfl) up_id.symm (by rw [e9]; omega)
       rw [e9] at z
       exact z)
    | (have e7 : nmV n tx i = (ltr n tx i - 48) := if_neg c_34
       have e8 : nmE n tx i = (i + 1) := if_neg c_34
       have e9 : nm n tx i lo hi = -1 := if_neg (fun z => by have := z.2; omega)
       have z := hQ (hr h b (up (h b) 24 (i + 1))) (fun x hx => hr_n hx) (by rw [hr_s, up_s]) (fun _ => by rw [e8, hr_s, up_s])
       rw [e9] at z
       exact z)
    | (have e7 : nmV n tx i = (ltr n tx i - 48) := if_neg c_34
       have e8 : nmE n tx i = (i + 1) := if_neg c_34
       have e9 : nm n tx i lo hi = (ltr n tx i - 48) := (if_pos ⟨c_5, by omega, by omega⟩).trans e7
       have z := hQ (hr h b (up (h b) 24 (i + 1))) (fun x hx => hr_n hx) (by rw [hr_s, up_s]) (fun _ => by rw [e8, hr_s, up_s])
       rw [e9] at z
       exact z)
    | (have e7 : nmV n tx i = (10 * (ltr n tx i - 48) + ltr n tx (i + 1) - 48) := if_pos c_34
       have e8 : nmE n tx i = (i + 2) := if_pos c_34
       have e9 : nm n tx i lo hi = -1 := if_neg (fun z => by have := z.2; omega)
       have z := hQ (hr h b (up (h b) 24 (i + 2))) (fun x hx => hr_n hx) (by rw [hr_s, up_s]) (fun _ => by rw [e8, hr_s, up_s])
       rw [e9] at z
       exact z)
    | (have e7 : nmV n tx i = (10 * (ltr n tx i - 48) + ltr n tx (i + 1) - 48) := if_pos c_34
       have e8 : nmE n tx i = (i + 2) := if_pos c_34
       have e9 : nm n tx i lo hi = (10 * (ltr n tx i - 48) + ltr n tx (i + 1) - 48) := (if_pos ⟨c_5, by omega, by omega⟩).trans e7
       have z := hQ (hr h b (up (h b) 24 (i + 2))) (fun x hx => hr_n hx) (by rw [hr_s, up_s]) (fun _ => by rw [e8, hr_s, up_s])
       rw [e9] at z
       exact z)
    

def rdDk (tl : Int → Int) (w c : Int) : Int → Int := up (up (up (up (up tl (10 + tl 130) (3 + tl 129)) (22 + (10 + tl 130)) w) (44 + (10 + tl 130)) (10 * c)) (66 + (10 + tl 130)) 16) 130 (tl 130 + 1)
def rdD (n : Int) (tx : Int → Int) (i : Int) (tl : Int → Int) : Int × (Int → Int) := if tl 129 ≠ 0 ∧ tl 130 ≠ 12 ∧ 0 ≤ nm n tx i 0 40 ∧ ltr n tx (nmE n tx i) = 44 ∧ 0 ≤ nm n tx (nmE n tx i + 1) 0 99 then (nmE n tx (nmE n tx i + 1), rdDk tl (nm n tx i 0 40) (nm n tx (nmE n tx i + 1) 0 99)) else (-1, tl)
def rdR (n : Int) (tx : Int → Int) (i : Int) (tl : Int → Int) : Int × (Int → Int) := if 0 ≤ nm n tx i 1 4 ∧ ltr n tx (nmE n tx i) = 44 ∧ 0 ≤ nm n tx (nmE n tx i + 1) 1 3 ∧ ltr n tx (nmE n tx (nmE n tx i + 1)) = 44 ∧ 0 ≤ nm n tx (nmE n tx (nmE n tx i + 1) + 1) 0 1 then (nmE n tx (nmE n tx (nmE n tx i + 1) + 1), up (up (up tl 131 (nm n tx i 1 4)) 132 (nm n tx (nmE n tx i + 1) 1 3)) 133 (nm n tx (nmE n tx (nmE n tx i + 1) + 1) 0 1)) else (-1, tl)
theorem dX8_readsDisk_0 : decode cX8_readsDisk 0 = .ok (.aload_n 0, 1) := by decide +kernel
theorem dX8_readsDisk_1 : decode cX8_readsDisk 1 = .ok (.iload_n 1, 1) := by decide +kernel
theorem dX8_readsDisk_2 : decode cX8_readsDisk 2 = .ok (.iconst 0, 1) := by decide +kernel
theorem dX8_readsDisk_3 : decode cX8_readsDisk 3 = .ok (.bipush 40, 2) := by decide +kernel
theorem dX8_readsDisk_5 : decode cX8_readsDisk 5 = .ok (.invokevirtual 99, 3) := by decide +kernel
theorem dX8_readsDisk_8 : decode cX8_readsDisk 8 = .ok (.istore_n 2, 1) := by decide +kernel
theorem dX8_readsDisk_9 : decode cX8_readsDisk 9 = .ok (.aload_n 0, 1) := by decide +kernel
theorem dX8_readsDisk_10 : decode cX8_readsDisk 10 = .ok (.getfield 25, 3) := by decide +kernel
theorem dX8_readsDisk_13 : decode cX8_readsDisk 13 = .ok (.sipush 129, 3) := by decide +kernel
theorem dX8_readsDisk_16 : decode cX8_readsDisk 16 = .ok (.iaload, 1) := by decide +kernel
theorem dX8_readsDisk_17 : decode cX8_readsDisk 17 = .ok (.ifCond .eq 33, 3) := by decide +kernel
theorem dX8_readsDisk_20 : decode cX8_readsDisk 20 = .ok (.aload_n 0, 1) := by decide +kernel
theorem dX8_readsDisk_21 : decode cX8_readsDisk 21 = .ok (.getfield 25, 3) := by decide +kernel
theorem dX8_readsDisk_24 : decode cX8_readsDisk 24 = .ok (.sipush 130, 3) := by decide +kernel
theorem dX8_readsDisk_27 : decode cX8_readsDisk 27 = .ok (.iaload, 1) := by decide +kernel
theorem dX8_readsDisk_28 : decode cX8_readsDisk 28 = .ok (.bipush 12, 2) := by decide +kernel
theorem dX8_readsDisk_30 : decode cX8_readsDisk 30 = .ok (.if_icmp .eq 20, 3) := by decide +kernel
theorem dX8_readsDisk_33 : decode cX8_readsDisk 33 = .ok (.iload_n 2, 1) := by decide +kernel
theorem dX8_readsDisk_34 : decode cX8_readsDisk 34 = .ok (.ifCond .lt 16, 3) := by decide +kernel
theorem dX8_readsDisk_37 : decode cX8_readsDisk 37 = .ok (.aload_n 0, 1) := by decide +kernel
theorem dX8_readsDisk_38 : decode cX8_readsDisk 38 = .ok (.aload_n 0, 1) := by decide +kernel
theorem dX8_readsDisk_39 : decode cX8_readsDisk 39 = .ok (.getfield 96, 3) := by decide +kernel
theorem dX8_readsDisk_42 : decode cX8_readsDisk 42 = .ok (.invokevirtual 89, 3) := by decide +kernel
theorem dX8_readsDisk_45 : decode cX8_readsDisk 45 = .ok (.bipush 44, 2) := by decide +kernel
theorem dX8_readsDisk_47 : decode cX8_readsDisk 47 = .ok (.if_icmp .eq 5, 3) := by decide +kernel
theorem dX8_readsDisk_50 : decode cX8_readsDisk 50 = .ok (.iconst (-1), 1) := by decide +kernel
theorem dX8_readsDisk_51 : decode cX8_readsDisk 51 = .ok (.ireturn, 1) := by decide +kernel
theorem dX8_readsDisk_52 : decode cX8_readsDisk 52 = .ok (.aload_n 0, 1) := by decide +kernel
theorem dX8_readsDisk_53 : decode cX8_readsDisk 53 = .ok (.aload_n 0, 1) := by decide +kernel
theorem dX8_readsDisk_54 : decode cX8_readsDisk 54 = .ok (.getfield 96, 3) := by decide +kernel
theorem dX8_readsDisk_57 : decode cX8_readsDisk 57 = .ok (.iconst 1, 1) := by decide +kernel
theorem dX8_readsDisk_58 : decode cX8_readsDisk 58 = .ok (.iadd, 1) := by decide +kernel
theorem dX8_readsDisk_59 : decode cX8_readsDisk 59 = .ok (.iconst 0, 1) := by decide +kernel
theorem dX8_readsDisk_60 : decode cX8_readsDisk 60 = .ok (.bipush 99, 2) := by decide +kernel
theorem dX8_readsDisk_62 : decode cX8_readsDisk 62 = .ok (.invokevirtual 99, 3) := by decide +kernel
theorem dX8_readsDisk_65 : decode cX8_readsDisk 65 = .ok (.istore_n 3, 1) := by decide +kernel
theorem dX8_readsDisk_66 : decode cX8_readsDisk 66 = .ok (.iload_n 3, 1) := by decide +kernel
theorem dX8_readsDisk_67 : decode cX8_readsDisk 67 = .ok (.ifCond .ge 5, 3) := by decide +kernel
theorem dX8_readsDisk_70 : decode cX8_readsDisk 70 = .ok (.iconst (-1), 1) := by decide +kernel
theorem dX8_readsDisk_71 : decode cX8_readsDisk 71 = .ok (.ireturn, 1) := by decide +kernel
theorem dX8_readsDisk_72 : decode cX8_readsDisk 72 = .ok (.bipush 10, 2) := by decide +kernel
theorem dX8_readsDisk_74 : decode cX8_readsDisk 74 = .ok (.aload_n 0, 1) := by decide +kernel
theorem dX8_readsDisk_75 : decode cX8_readsDisk 75 = .ok (.getfield 25, 3) := by decide +kernel
theorem dX8_readsDisk_78 : decode cX8_readsDisk 78 = .ok (.sipush 130, 3) := by decide +kernel
theorem dX8_readsDisk_81 : decode cX8_readsDisk 81 = .ok (.iaload, 1) := by decide +kernel
theorem dX8_readsDisk_82 : decode cX8_readsDisk 82 = .ok (.iadd, 1) := by decide +kernel
theorem dX8_readsDisk_83 : decode cX8_readsDisk 83 = .ok (.istore 4, 2) := by decide +kernel
theorem dX8_readsDisk_85 : decode cX8_readsDisk 85 = .ok (.aload_n 0, 1) := by decide +kernel
theorem dX8_readsDisk_86 : decode cX8_readsDisk 86 = .ok (.getfield 25, 3) := by decide +kernel
theorem dX8_readsDisk_89 : decode cX8_readsDisk 89 = .ok (.iload 4, 2) := by decide +kernel
theorem dX8_readsDisk_91 : decode cX8_readsDisk 91 = .ok (.iconst 3, 1) := by decide +kernel
theorem dX8_readsDisk_92 : decode cX8_readsDisk 92 = .ok (.aload_n 0, 1) := by decide +kernel
theorem dX8_readsDisk_93 : decode cX8_readsDisk 93 = .ok (.getfield 25, 3) := by decide +kernel
theorem dX8_readsDisk_96 : decode cX8_readsDisk 96 = .ok (.sipush 129, 3) := by decide +kernel
theorem dX8_readsDisk_99 : decode cX8_readsDisk 99 = .ok (.iaload, 1) := by decide +kernel
theorem dX8_readsDisk_100 : decode cX8_readsDisk 100 = .ok (.iadd, 1) := by decide +kernel
theorem dX8_readsDisk_101 : decode cX8_readsDisk 101 = .ok (.iastore, 1) := by decide +kernel
theorem dX8_readsDisk_102 : decode cX8_readsDisk 102 = .ok (.aload_n 0, 1) := by decide +kernel
theorem dX8_readsDisk_103 : decode cX8_readsDisk 103 = .ok (.getfield 25, 3) := by decide +kernel
theorem dX8_readsDisk_106 : decode cX8_readsDisk 106 = .ok (.bipush 22, 2) := by decide +kernel
theorem dX8_readsDisk_108 : decode cX8_readsDisk 108 = .ok (.iload 4, 2) := by decide +kernel
theorem dX8_readsDisk_110 : decode cX8_readsDisk 110 = .ok (.iadd, 1) := by decide +kernel
theorem dX8_readsDisk_111 : decode cX8_readsDisk 111 = .ok (.iload_n 2, 1) := by decide +kernel
theorem dX8_readsDisk_112 : decode cX8_readsDisk 112 = .ok (.iastore, 1) := by decide +kernel
theorem dX8_readsDisk_113 : decode cX8_readsDisk 113 = .ok (.aload_n 0, 1) := by decide +kernel
theorem dX8_readsDisk_114 : decode cX8_readsDisk 114 = .ok (.getfield 25, 3) := by decide +kernel
theorem dX8_readsDisk_117 : decode cX8_readsDisk 117 = .ok (.bipush 44, 2) := by decide +kernel
theorem dX8_readsDisk_119 : decode cX8_readsDisk 119 = .ok (.iload 4, 2) := by decide +kernel
theorem dX8_readsDisk_121 : decode cX8_readsDisk 121 = .ok (.iadd, 1) := by decide +kernel
theorem dX8_readsDisk_122 : decode cX8_readsDisk 122 = .ok (.bipush 10, 2) := by decide +kernel
theorem dX8_readsDisk_124 : decode cX8_readsDisk 124 = .ok (.iload_n 3, 1) := by decide +kernel
theorem dX8_readsDisk_125 : decode cX8_readsDisk 125 = .ok (.imul, 1) := by decide +kernel
theorem dX8_readsDisk_126 : decode cX8_readsDisk 126 = .ok (.iastore, 1) := by decide +kernel
theorem dX8_readsDisk_127 : decode cX8_readsDisk 127 = .ok (.aload_n 0, 1) := by decide +kernel
theorem dX8_readsDisk_128 : decode cX8_readsDisk 128 = .ok (.getfield 25, 3) := by decide +kernel
theorem dX8_readsDisk_131 : decode cX8_readsDisk 131 = .ok (.bipush 66, 2) := by decide +kernel
theorem dX8_readsDisk_133 : decode cX8_readsDisk 133 = .ok (.iload 4, 2) := by decide +kernel
theorem dX8_readsDisk_135 : decode cX8_readsDisk 135 = .ok (.iadd, 1) := by decide +kernel
theorem dX8_readsDisk_136 : decode cX8_readsDisk 136 = .ok (.bipush 16, 2) := by decide +kernel
theorem dX8_readsDisk_138 : decode cX8_readsDisk 138 = .ok (.iastore, 1) := by decide +kernel
theorem dX8_readsDisk_139 : decode cX8_readsDisk 139 = .ok (.aload_n 0, 1) := by decide +kernel
theorem dX8_readsDisk_140 : decode cX8_readsDisk 140 = .ok (.getfield 25, 3) := by decide +kernel
theorem dX8_readsDisk_143 : decode cX8_readsDisk 143 = .ok (.sipush 130, 3) := by decide +kernel
theorem dX8_readsDisk_146 : decode cX8_readsDisk 146 = .ok (.dup2, 1) := by decide +kernel
theorem dX8_readsDisk_147 : decode cX8_readsDisk 147 = .ok (.iaload, 1) := by decide +kernel
theorem dX8_readsDisk_148 : decode cX8_readsDisk 148 = .ok (.iconst 1, 1) := by decide +kernel
theorem dX8_readsDisk_149 : decode cX8_readsDisk 149 = .ok (.iadd, 1) := by decide +kernel
theorem dX8_readsDisk_150 : decode cX8_readsDisk 150 = .ok (.iastore, 1) := by decide +kernel
theorem dX8_readsDisk_151 : decode cX8_readsDisk 151 = .ok (.aload_n 0, 1) := by decide +kernel
theorem dX8_readsDisk_152 : decode cX8_readsDisk 152 = .ok (.getfield 96, 3) := by decide +kernel
theorem dX8_readsDisk_155 : decode cX8_readsDisk 155 = .ok (.ireturn, 1) := by decide +kernel
set_option maxHeartbeats 4000000 in
set_option maxRecDepth 20000 in
theorem c_X8_readsDisk : ConI mX8_readsDisk (fun args N lay r h Q => ∃ (b : Nat) (n : Int) (tx : Int → Int) (i : Int) (tl : Int → Int), args = [.ref b, vI i] ∧ MdAt lay r b ∧ h b 0 = n ∧ h (b + 1) = tx ∧ (0 ≤ n ∧ n ≤ 200) ∧ h (b + 6) = tl ∧ (0 ≤ tl 128 ∧ tl 128 ≤ 3) ∧ (0 ≤ tl 129 ∧ tl 129 ≤ 6) ∧ (0 ≤ tl 130 ∧ tl 130 ≤ 12) ∧ (0 ≤ i ∧ i < 800) ∧ ∀ h2, Fr h h2 (fun x => x = b ∨ x = b + 6) → h2 b = up (h b) 24 (h2 b 24) → h2 (b + 6) = (rdD n tx i tl).2 → Q (rdD n tx i tl).1 N lay r h2) := by
  refine ConI.of (by decide) (by rintro _ N lay r h Q ⟨b, n, tx, i, tl, rfl, hM, hn, htx, hn2, htl, htl8, htl9, htl0, hi_, hQ⟩; exact ⟨rfl, Nat.le_of_ble_eq_true rfl⟩) ?_
  rintro E _ N lay r h Q ⟨b, n, tx, i, tl, rfl, hM, hn, htx, hn2, htl, htl8, htl9, htl0, hi_, hQ⟩ hret
  obtain ⟨ml0, ml1, ml2, ml3, ml4, ml5, ml6, ml7, ml8, ml9, ml10, ml11, ml12, ml13, ml14, ml15, ml16, ml17, ml18, ml19, ml20, mr1, mr2, mr3, mr4, mr5, mr6, mr7, mr8, mr9, mr10, mr11, mr12, mr13, mr14, mr15, mr16, mr17, mr18, mr19, mr20⟩ := id hM
  show St E mX8_readsDisk 0 [some (.ref b), some (vI i), none, none, none] [] (0, 0) N lay r h
  refine r_aload_0 (pc := 0) dX8_readsDisk_0 ?_
  refine r_iload_1 (pc := 1) dX8_readsDisk_1 ?_
  refine r_iconst (pc := 2) dX8_readsDisk_2 ?_
  refine r_bipush (pc := 3) dX8_readsDisk_3 (by decide) ?_
  refine k_VI3 (pc := 5) c_X8_number lk_X8_99 ⟨Nat.le_of_ble_eq_true rfl, Nat.le_of_ble_eq_true rfl⟩ ⟨rfl, rfl⟩ ⟨Nat.le_of_ble_eq_true rfl, Nat.le_of_ble_eq_true rfl⟩ (k := 8) rfl (by decide) (by assumption) dX8_readsDisk_5 (Nat.le_of_ble_eq_true rfl) ?_
  refine ⟨_, _, _, _, _, _, rfl, by assumption, by first | assumption | exact rfl, by first | assumption | exact rfl, by omega, by omega, by omega, by omega, fun h_5 f_5 o_5 e_5 => ?_⟩
  have l_5 : h_5 b 0 = n := by rw [o_5, up_n (by omega)]; assumption
  have x_5 : h_5 (b + 1) = tx := (f_5 _ (by omega)).trans (by assumption)
  have t_5 : h_5 (b + 6) = tl := (f_5 _ (by omega)).trans htl
  have nr1 := nmb_r (n := n) (tx := tx) (i := i) (lo := 0) (hi := 40) (by omega)
  have er1 := nmE_r (n := n) (tx := tx) (i := i)
  refine r_istore_2 (pc := 8) dX8_readsDisk_8 rfl ?_
  refine r_aload_0 (pc := 9) dX8_readsDisk_9 ?_
  refine gf_X8_25 (pc := 10) rfl (by assumption) dX8_readsDisk_10 (by assumption) ?_
  refine r_sipush (pc := 13) dX8_readsDisk_13 (by decide) ?_
  refine r_ialdE (pc := 16) (by assumption) (by first | assumption | exact rfl) dX8_readsDisk_16 (by omega) (by omega) (fun i_16 => ?_)
  refine r_if_eq (pc := 17) (tgt := 50) dX8_readsDisk_17 (by decide) (by omega) (fun c_17 => ?_) (fun c_17 => ?_)
  · refine r_iconst (pc := 50) dX8_readsDisk_50 ?_
    refine r_iret (pc := 51) hret dX8_readsDisk_51 rfl rfl rfl ?_
    first
    | (have k9 : tl 129 = 0 := c_17
       have e9 : rdD n tx i tl = (-1, tl) := if_neg (fun z => z.1 k9)
       have z := hQ h_5 (fun x hx => by first | exact f_5 x (by omega)) o_5 (by rw [e9]; assumption)
       rw [e9] at z
       exact z)
    | (have k9 : tl 130 = 12 := c_30
       have e9 : rdD n tx i tl = (-1, tl) := if_neg (fun z => z.2.1 k9)
       have z := hQ h_5 (fun x hx => by first | exact f_5 x (by omega)) o_5 (by rw [e9]; assumption)
       rw [e9] at z
       exact z)
    | (have k9 : nm n tx i 0 40 < 0 := c_34
       have e9 : rdD n tx i tl = (-1, tl) := if_neg (fun z => by have := z.2.2.1; omega)
       have z := hQ h_5 (fun x hx => by first | exact f_5 x (by omega)) o_5 (by rw [e9]; assumption)
       rw [e9] at z
       exact z)
    | (have k9 : ltr n tx (nmE n tx i) ≠ 44 := c_47
       have e9 : rdD n tx i tl = (-1, tl) := if_neg (fun z => k9 z.2.2.2.1)
       have z := hQ h_5 (fun x hx => by first | exact f_5 x (by omega)) o_5 (by rw [e9]; assumption)
       rw [e9] at z
       exact z)
    | (have k9 : nm n tx (nmE n tx i + 1) 0 99 < 0 := c_67
       have e9 : rdD n tx i tl = (-1, tl) := if_neg (fun z => by have := z.2.2.2.2; omega)
       have z := hQ h_62 (fun x hx => by first | exact (f_62 x (by omega)).trans (f_5 x (by omega))) (by rw [o_5, up_up] at o_62; exact o_62) (by rw [e9]; assumption)
       rw [e9] at z
       exact z)
    | (have e9 : rdD n tx i tl = (nmE n tx ((nmE n tx i) + 1), rdDk tl (nm n tx i 0 40) (nm n tx (nmE n tx i + 1) 0 99)) := if_pos ⟨c_17, c_30, c_34, c_47, c_67⟩
       have z := hQ (hr h_62 (b + 6) (rdDk tl (nm n tx i 0 40) (nm n tx (nmE n tx i + 1) 0 99))) (fun x hx => by rw [hr_n (by omega), f_62 x (by omega), f_5 x (by omega)]) (by rw [hr_n (by omega)]; rw [o_5, up_up] at o_62; exact o_62) (by rw [e9, hr_s])
       rw [e9] at z
       exact z)
  · refine r_aload_0 (pc := 20) dX8_readsDisk_20 ?_
    refine gf_X8_25 (pc := 21) rfl (by assumption) dX8_readsDisk_21 (by assumption) ?_
    refine r_sipush (pc := 24) dX8_readsDisk_24 (by decide) ?_
    refine r_ialdE (pc := 27) (by assumption) (by first | assumption | exact rfl) dX8_readsDisk_27 (by omega) (by omega) (fun i_27 => ?_)
    refine r_bipush (pc := 28) dX8_readsDisk_28 (by decide) ?_
    refine r_icmp_eq (pc := 30) (tgt := 50) dX8_readsDisk_30 (by decide) (by omega) (by omega) (fun c_30 => ?_) (fun c_30 => ?_)
    · refine r_iconst (pc := 50) dX8_readsDisk_50 ?_
      refine r_iret (pc := 51) hret dX8_readsDisk_51 rfl rfl rfl ?_
      first
      | (have k9 : tl 129 = 0 := c_17
         have e9 : rdD n tx i tl = (-1, tl) := if_neg (fun z => z.1 k9)
         have z := hQ h_5 (fun x hx => by first | exact f_5 x (by omega)) o_5 (by rw [e9]; assumption)
         rw [e9] at z
         exact z)
      | (have k9 : tl 130 = 12 := c_30
         have e9 : rdD n tx i tl = (-1, tl) := if_neg (fun z => z.2.1 k9)
         have z := hQ h_5 (fun x hx => by first | exact f_5 x (by omega)) o_5 (by rw [e9]; assumption)
         rw [e9] at z
         exact z)
      | (have k9 : nm n tx i 0 40 < 0 := c_34
         have e9 : rdD n tx i tl = (-1, tl) := if_neg (fun z => by have := z.2.2.1; omega)
         have z := hQ h_5 (fun x hx => by first | exact f_5 x (by omega)) o_5 (by rw [e9]; assumption)
         rw [e9] at z
         exact z)
      | (have k9 : ltr n tx (nmE n tx i) ≠ 44 := c_47
         have e9 : rdD n tx i tl = (-1, tl) := if_neg (fun z => k9 z.2.2.2.1)
         have z := hQ h_5 (fun x hx => by first | exact f_5 x (by omega)) o_5 (by rw [e9]; assumption)
         rw [e9] at z
         exact z)
      | (have k9 : nm n tx (nmE n tx i + 1) 0 99 < 0 := c_67
         have e9 : rdD n tx i tl = (-1, tl) := if_neg (fun z => by have := z.2.2.2.2; omega)
         have z := hQ h_62 (fun x hx => by first | exact (f_62 x (by omega)).trans (f_5 x (by omega))) (by rw [o_5, up_up] at o_62; exact o_62) (by rw [e9]; assumption)
         rw [e9] at z
         exact z)
      | (have e9 : rdD n tx i tl = (nmE n tx ((nmE n tx i) + 1), rdDk tl (nm n tx i 0 40) (nm n tx (nmE n tx i + 1) 0 99)) := if_pos ⟨c_17, c_30, c_34, c_47, c_67⟩
         have z := hQ (hr h_62 (b + 6) (rdDk tl (nm n tx i 0 40) (nm n tx (nmE n tx i + 1) 0 99))) (fun x hx => by rw [hr_n (by omega), f_62 x (by omega), f_5 x (by omega)]) (by rw [hr_n (by omega)]; rw [o_5, up_up] at o_62; exact o_62) (by rw [e9, hr_s])
         rw [e9] at z
         exact z)
    · refine r_iload_2 (pc := 33) dX8_readsDisk_33 ?_
      refine r_if_lt (pc := 34) (tgt := 50) dX8_readsDisk_34 (by decide) (by omega) (fun c_34 => ?_) (fun c_34 => ?_)
      · refine r_iconst (pc := 50) dX8_readsDisk_50 ?_
        refine r_iret (pc := 51) hret dX8_readsDisk_51 rfl rfl rfl ?_
        first
        | (have k9 : tl 129 = 0 := c_17
           have e9 : rdD n tx i tl = (-1, tl) := if_neg (fun z => z.1 k9)
           have z := hQ h_5 (fun x hx => by first | exact f_5 x (by omega)) o_5 (by rw [e9]; assumption)
           rw [e9] at z
           exact z)
        | (have k9 : tl 130 = 12 := c_30
           have e9 : rdD n tx i tl = (-1, tl) := if_neg (fun z => z.2.1 k9)
           have z := hQ h_5 (fun x hx => by first | exact f_5 x (by omega)) o_5 (by rw [e9]; assumption)
           rw [e9] at z
           exact z)
        | (have k9 : nm n tx i 0 40 < 0 := c_34
           have e9 : rdD n tx i tl = (-1, tl) := if_neg (fun z => by have := z.2.2.1; omega)
           have z := hQ h_5 (fun x hx => by first | exact f_5 x (by omega)) o_5 (by rw [e9]; assumption)
           rw [e9] at z
           exact z)
        | (have k9 : ltr n tx (nmE n tx i) ≠ 44 := c_47
           have e9 : rdD n tx i tl = (-1, tl) := if_neg (fun z => k9 z.2.2.2.1)
           have z := hQ h_5 (fun x hx => by first | exact f_5 x (by omega)) o_5 (by rw [e9]; assumption)
           rw [e9] at z
           exact z)
        | (have k9 : nm n tx (nmE n tx i + 1) 0 99 < 0 := c_67
           have e9 : rdD n tx i tl = (-1, tl) := if_neg (fun z => by have := z.2.2.2.2; omega)
           have z := hQ h_62 (fun x hx => by first | exact (f_62 x (by omega)).trans (f_5 x (by omega))) (by rw [o_5, up_up] at o_62; exact o_62) (by rw [e9]; assumption)
           rw [e9] at z
           exact z)
        | (have e9 : rdD n tx i tl = (nmE n tx ((nmE n tx i) + 1), rdDk tl (nm n tx i 0 40) (nm n tx (nmE n tx i + 1) 0 99)) := if_pos ⟨c_17, c_30, c_34, c_47, c_67⟩
           have z := hQ (hr h_62 (b + 6) (rdDk tl (nm n tx i 0 40) (nm n tx (nmE n tx i + 1) 0 99))) (fun x hx => by rw [hr_n (by omega), f_62 x (by omega), f_5 x (by omega)]) (by rw [hr_n (by omega)]; rw [o_5, up_up] at o_62; exact o_62) (by rw [e9, hr_s])
           rw [e9] at z
           exact z)
      · refine r_aload_0 (pc := 37) dX8_readsDisk_37 ?_
        refine r_aload_0 (pc := 38) dX8_readsDisk_38 ?_
        refine gf_X8_96 (pc := 39) rfl (by assumption) dX8_readsDisk_39 (fun i_39 => ?_)
        rw [e_5 c_34]
        refine k_VI1 (pc := 42) c_X8_letterAt lk_X8_89 ⟨Nat.le_of_ble_eq_true rfl, Nat.le_of_ble_eq_true rfl⟩ ⟨rfl, rfl⟩ ⟨Nat.le_of_ble_eq_true rfl, Nat.le_of_ble_eq_true rfl⟩ (k := 8) rfl (by decide) (by assumption) dX8_readsDisk_42 (Nat.le_of_ble_eq_true rfl) ?_
        refine ⟨_, _, _, _, rfl, by assumption, by first | assumption | exact rfl, by first | assumption | exact rfl, by omega, by omega, fun i_42 => ?_⟩
        refine r_bipush (pc := 45) dX8_readsDisk_45 (by decide) ?_
        refine r_icmp_eq (pc := 47) (tgt := 52) dX8_readsDisk_47 (by decide) (by omega) (by omega) (fun c_47 => ?_) (fun c_47 => ?_)
        · refine r_aload_0 (pc := 52) dX8_readsDisk_52 ?_
          refine r_aload_0 (pc := 53) dX8_readsDisk_53 ?_
          refine gf_X8_96 (pc := 54) rfl (by assumption) dX8_readsDisk_54 (fun i_54 => ?_)
          rw [e_5 c_34]
          refine r_iconst (pc := 57) dX8_readsDisk_57 ?_
          refine r_iadd (pc := 58) dX8_readsDisk_58 ?_
          refine r_iconst (pc := 59) dX8_readsDisk_59 ?_
          refine r_bipush (pc := 60) dX8_readsDisk_60 (by decide) ?_
          refine k_VI3 (pc := 62) c_X8_number lk_X8_99 ⟨Nat.le_of_ble_eq_true rfl, Nat.le_of_ble_eq_true rfl⟩ ⟨rfl, rfl⟩ ⟨Nat.le_of_ble_eq_true rfl, Nat.le_of_ble_eq_true rfl⟩ (k := 8) rfl (by decide) (by assumption) dX8_readsDisk_62 (Nat.le_of_ble_eq_true rfl) ?_
          refine ⟨_, _, _, _, _, _, rfl, by assumption, by first | assumption | exact rfl, by first | assumption | exact rfl, by omega, by omega, by omega, by omega, fun h_62 f_62 o_62 e_62 => ?_⟩
          have l_62 : h_62 b 0 = n := by rw [o_62, up_n (by omega)]; assumption
          have x_62 : h_62 (b + 1) = tx := (f_62 _ (by omega)).trans (by assumption)
          have t_62 : h_62 (b + 6) = tl := (f_62 _ (by omega)).trans t_5
          have nr2 := nmb_r (n := n) (tx := tx) (i := (nmE n tx i) + 1) (lo := 0) (hi := 99) (by omega)
          have er2 := nmE_r (n := n) (tx := tx) (i := (nmE n tx i) + 1)
          refine r_istore_3 (pc := 65) dX8_readsDisk_65 rfl ?_
          refine r_iload_3 (pc := 66) dX8_readsDisk_66 ?_
          refine r_if_ge (pc := 67) (tgt := 72) dX8_readsDisk_67 (by decide) (by omega) (fun c_67 => ?_) (fun c_67 => ?_)
          · refine r_bipush (pc := 72) dX8_readsDisk_72 (by decide) ?_
            refine r_aload_0 (pc := 74) dX8_readsDisk_74 ?_
            refine gf_X8_25 (pc := 75) rfl (by assumption) dX8_readsDisk_75 (by assumption) ?_
            refine r_sipush (pc := 78) dX8_readsDisk_78 (by decide) ?_
            refine r_ialdE (pc := 81) (by assumption) (by first | assumption | exact rfl) dX8_readsDisk_81 (by omega) (by omega) (fun i_81 => ?_)
            refine r_iadd (pc := 82) dX8_readsDisk_82 ?_
            refine r_istore_4 (pc := 83) dX8_readsDisk_83 rfl ?_
            refine r_aload_0 (pc := 85) dX8_readsDisk_85 ?_
            refine gf_X8_25 (pc := 86) rfl (by assumption) dX8_readsDisk_86 (by assumption) ?_
            refine r_iload_4 (pc := 89) dX8_readsDisk_89 ?_
            refine r_iconst (pc := 91) dX8_readsDisk_91 ?_
            refine r_aload_0 (pc := 92) dX8_readsDisk_92 ?_
            refine gf_X8_25 (pc := 93) rfl (by assumption) dX8_readsDisk_93 (by assumption) ?_
            refine r_sipush (pc := 96) dX8_readsDisk_96 (by decide) ?_
            refine r_ialdE (pc := 99) (by assumption) (by first | assumption | exact rfl) dX8_readsDisk_99 (by omega) (by omega) (fun i_99 => ?_)
            refine r_iadd (pc := 100) dX8_readsDisk_100 ?_
            refine r_iastE (pc := 101) (by assumption) (by first | assumption | exact rfl) dX8_readsDisk_101 (by omega) (by omega) (by omega) ?_
            refine r_aload_0 (pc := 102) dX8_readsDisk_102 ?_
            refine gf_X8_25 (pc := 103) rfl (by assumption) dX8_readsDisk_103 (by assumption) ?_
            refine r_bipush (pc := 106) dX8_readsDisk_106 (by decide) ?_
            refine r_iload_4 (pc := 108) dX8_readsDisk_108 ?_
            refine r_iadd (pc := 110) dX8_readsDisk_110 ?_
            refine r_iload_2 (pc := 111) dX8_readsDisk_111 ?_
            refine r_iastE (pc := 112) (by assumption) hr_s dX8_readsDisk_112 (by omega) (by omega) (by omega) ?_
            rw [hr_hr]
            refine r_aload_0 (pc := 113) dX8_readsDisk_113 ?_
            refine gf_X8_25 (pc := 114) rfl (by assumption) dX8_readsDisk_114 (by assumption) ?_
            refine r_bipush (pc := 117) dX8_readsDisk_117 (by decide) ?_
            refine r_iload_4 (pc := 119) dX8_readsDisk_119 ?_
            refine r_iadd (pc := 121) dX8_readsDisk_121 ?_
            refine r_bipush (pc := 122) dX8_readsDisk_122 (by decide) ?_
            refine r_iload_3 (pc := 124) dX8_readsDisk_124 ?_
            refine r_imul (pc := 125) dX8_readsDisk_125 ?_
            refine r_iastE (pc := 126) (by assumption) hr_s dX8_readsDisk_126 (by omega) (by omega) (by omega) ?_
            rw [hr_hr]
            refine r_aload_0 (pc := 127) dX8_readsDisk_127 ?_
            refine gf_X8_25 (pc := 128) rfl (by assumption) dX8_readsDisk_128 (by assumption) ?_
            refine r_bipush (pc := 131) dX8_readsDisk_131 (by decide) ?_
            refine r_iload_4 (pc := 133) dX8_readsDisk_133 ?_
            refine r_iadd (pc := 135) dX8_readsDisk_135 ?_
            refine r_bipush (pc := 136) dX8_readsDisk_136 (by decide) ?_
            refine r_iastE (pc := 138) (by assumption) hr_s dX8_readsDisk_138 (by omega) (by omega) (by omega) ?_
            rw [hr_hr]
            refine r_aload_0 (pc := 139) dX8_readsDisk_139 ?_
            refine gf_X8_25 (pc := 140) rfl (by assumption) dX8_readsDisk_140 (by assumption) ?_
            refine r_sipush (pc := 143) dX8_readsDisk_143 (by decide) ?_
            refine r_dup2 (pc := 146) dX8_readsDisk_146 ?_
            refine r_ialdE (pc := 147) (by assumption) hr_s dX8_readsDisk_147 (by omega) (by omega) (fun i_147 => ?_)
            rw [up_n (show (130 : Int) ≠ 66 + (10 + tl 130) by omega), up_n (show (130 : Int) ≠ 44 + (10 + tl 130) by omega), up_n (show (130 : Int) ≠ 22 + (10 + tl 130) by omega), up_n (show (130 : Int) ≠ 10 + tl 130 by omega)]
            refine r_iconst (pc := 148) dX8_readsDisk_148 ?_
            refine r_iadd (pc := 149) dX8_readsDisk_149 ?_
            refine r_iastE (pc := 150) (by assumption) hr_s dX8_readsDisk_150 (by omega) (by omega) (by omega) ?_
            rw [hr_hr]
            rw [show up (up (up (up (up tl (10 + tl 130) (3 + tl 129)) (22 + (10 + tl 130)) (nm n tx i 0 40)) (44 + (10 + tl 130)) (10 * nm n tx (nmE n tx i + 1) 0 99)) (66 + (10 + tl 130)) 16) 130 (tl 130 + 1) = rdDk tl (nm n tx i 0 40) (nm n tx (nmE n tx i + 1) 0 99) from rfl]
            refine r_aload_0 (pc := 151) dX8_readsDisk_151 ?_
            refine gf_X8_96 (pc := 152) rfl (by assumption) dX8_readsDisk_152 (fun i_152 => ?_)
            rw [hr_n (show b ≠ b + 6 by omega), e_62 c_67]
            refine r_iret (pc := 155) hret dX8_readsDisk_155 rfl rfl rfl ?_
            first
            | (have k9 : tl 129 = 0 := c_17
               have e9 : rdD n tx i tl = (-1, tl) := if_neg (fun z => z.1 k9)
               have z := hQ h_5 (fun x hx => by first | exact f_5 x (by omega)) o_5 (by rw [e9]; assumption)
               rw [e9] at z
               exact z)
            | (have k9 : tl 130 = 12 := c_30
               have e9 : rdD n tx i tl = (-1, tl) := if_neg (fun z => z.2.1 k9)
               have z := hQ h_5 (fun x hx => by first | exact f_5 x (by omega)) o_5 (by rw [e9]; assumption)
               rw [e9] at z
               exact z)
            | (have k9 : nm n tx i 0 40 < 0 := c_34
               have e9 : rdD n tx i tl = (-1, tl) := if_neg (fun z => by have := z.2.2.1; omega)
               have z := hQ h_5 (fun x hx => by first | exact f_5 x (by omega)) o_5 (by rw [e9]; assumption)
               rw [e9] at z
               exact z)
            | (have k9 : ltr n tx (nmE n tx i) ≠ 44 := c_47
               have e9 : rdD n tx i tl = (-1, tl) := if_neg (fun z => k9 z.2.2.2.1)
               have z := hQ h_5 (fun x hx => by first | exact f_5 x (by omega)) o_5 (by rw [e9]; assumption)
               rw [e9] at z
               exact z)
            | (have k9 : nm n tx (nmE n tx i + 1) 0 99 < 0 := c_67
               have e9 : rdD n tx i tl = (-1, tl) := if_neg (fun z => by have := z.2.2.2.2; omega)
               have z := hQ h_62 (fun x hx => by first | exact (f_62 x (by omega)).trans (f_5 x (by omega))) (by rw [o_5, up_up] at o_62; exact o_62) (by rw [e9]; assumption)
               rw [e9] at z
               exact z)
            | (have e9 : rdD n tx i tl = (nmE n tx ((nmE n tx i) + 1), rdDk tl (nm n tx i 0 40) (nm n tx (nmE n tx i + 1) 0 99)) := if_pos ⟨c_17, c_30, c_34, c_47, c_67⟩
               have z := hQ (hr h_62 (b + 6) (rdDk tl (nm n tx i 0 40) (nm n tx (nmE n tx i + 1) 0 99))) (fun x hx => by rw [hr_n (by omega), f_62 x (by omega), f_5 x (by omega)]) (by rw [hr_n (by omega)]; rw [o_5, up_up] at o_62; exact o_62) (by rw [e9, hr_s])
               rw [e9] at z
               exact z)
          · refine r_iconst (pc := 70) dX8_readsDisk_70 ?_
            refine r_iret (pc := 71) hret dX8_readsDisk_71 rfl rfl rfl ?_
            first
            | (have k9 : tl 129 = 0 := c_17
               have e9 : rdD n tx i tl = (-1, tl) := if_neg (fun z => z.1 k9)
               have z := hQ h_5 (fun x hx => by first | exact f_5 x (by omega)) o_5 (by rw [e9]; assumption)
               rw [e9] at z
               exact z)
            | (have k9 : tl 130 = 12 := c_30
               have e9 : rdD n tx i tl = (-1, tl) := if_neg (fun z => z.2.1 k9)
               have z := hQ h_5 (fun x hx => by first | exact f_5 x (by omega)) o_5 (by rw [e9]; assumption)
               rw [e9] at z
               exact z)
            | (have k9 : nm n tx i 0 40 < 0 := c_34
               have e9 : rdD n tx i tl = (-1, tl) := if_neg (fun z => by have := z.2.2.1; omega)
               have z := hQ h_5 (fun x hx => by first | exact f_5 x (by omega)) o_5 (by rw [e9]; assumption)
               rw [e9] at z
               exact z)
            | (have k9 : ltr n tx (nmE n tx i) ≠ 44 := c_47
               have e9 : rdD n tx i tl = (-1, tl) := if_neg (fun z => k9 z.2.2.2.1)
               have z := hQ h_5 (fun x hx => by first | exact f_5 x (by omega)) o_5 (by rw [e9]; assumption)
               rw [e9] at z
               exact z)
            | (have k9 : nm n tx (nmE n tx i + 1) 0 99 < 0 := c_67
               have e9 : rdD n tx i tl = (-1, tl) := if_neg (fun z => by have := z.2.2.2.2; omega)
               have z := hQ h_62 (fun x hx => by first | exact (f_62 x (by omega)).trans (f_5 x (by omega))) (by rw [o_5, up_up] at o_62; exact o_62) (by rw [e9]; assumption)
               rw [e9] at z
               exact z)
            | (have e9 : rdD n tx i tl = (nmE n tx ((nmE n tx i) + 1), rdDk tl (nm n tx i 0 40) (nm n tx (nmE n tx i + 1) 0 99)) := if_pos ⟨c_17, c_30, c_34, c_47, c_67⟩
               have z := hQ (hr h_62 (b + 6) (rdDk tl (nm n tx i 0 40) (nm n tx (nmE n tx i + 1) 0 99))) (fun x hx => by rw [hr_n (by omega), f_62 x (by omega), f_5 x (by omega)]) (by rw [hr_n (by omega)]; rw [o_5, up_up] at o_62; exact o_62) (by rw [e9, hr_s])
               rw [e9] at z
               exact z)
        · refine r_iconst (pc := 50) dX8_readsDisk_50 ?_
          refine r_iret (pc := 51) hret dX8_readsDisk_51 rfl rfl rfl ?_
          first
          | (have k9 : tl 129 = 0 := c_17
             have e9 : rdD n tx i tl = (-1, tl) := if_neg (fun z => z.1 k9)
             have z := hQ h_5 (fun x hx => by first | exact f_5 x (by omega)) o_5 (by rw [e9]; assumption)
             rw [e9] at z
             exact z)
          | (have k9 : tl 130 = 12 := c_30
             have e9 : rdD n tx i tl = (-1, tl) := if_neg (fun z => z.2.1 k9)
             have z := hQ h_5 (fun x hx => by first | exact f_5 x (by omega)) o_5 (by rw [e9]; assumption)
             rw [e9] at z
             exact z)
          | (have k9 : nm n tx i 0 40 < 0 := c_34
             have e9 : rdD n tx i tl = (-1, tl) := if_neg (fun z => by have := z.2.2.1; omega)
             have z := hQ h_5 (fun x hx => by first | exact f_5 x (by omega)) o_5 (by rw [e9]; assumption)
             rw [e9] at z
             exact z)
          | (have k9 : ltr n tx (nmE n tx i) ≠ 44 := c_47
             have e9 : rdD n tx i tl = (-1, tl) := if_neg (fun z => k9 z.2.2.2.1)
             have z := hQ h_5 (fun x hx => by first | exact f_5 x (by omega)) o_5 (by rw [e9]; assumption)
             rw [e9] at z
             exact z)
          | (have k9 : nm n tx (nmE n tx i + 1) 0 99 < 0 := c_67
             have e9 : rdD n tx i tl = (-1, tl) := if_neg (fun z => by have := z.2.2.2.2; omega)
             have z := hQ h_62 (fun x hx => by first | exact (f_62 x (by omega)).trans (f_5 x (by omega))) (by rw [o_5, up_up] at o_62; exact o_62) (by rw [e9]; assumption)
             rw [e9] at z
             exact z)
          | (have e9 : rdD n tx i tl = (nmE n tx ((nmE n tx i) + 1), rdDk tl (nm n tx i 0 40) (nm n tx (nmE n tx i + 1) 0 99)) := if_pos ⟨c_17, c_30, c_34, c_47, c_67⟩
             have z := hQ (hr h_62 (b + 6) (rdDk tl (nm n tx i 0 40) (nm n tx (nmE n tx i + 1) 0 99))) (fun x hx => by rw [hr_n (by omega), f_62 x (by omega), f_5 x (by omega)]) (by rw [hr_n (by omega)]; rw [o_5, up_up] at o_62; exact o_62) (by rw [e9, hr_s])
             rw [e9] at z
             exact z)

theorem dX8_readsRule_0 : decode cX8_readsRule 0 = .ok (.aload_n 0, 1) := by decide +kernel
theorem dX8_readsRule_1 : decode cX8_readsRule 1 = .ok (.iload_n 1, 1) := by decide +kernel
theorem dX8_readsRule_2 : decode cX8_readsRule 2 = .ok (.iconst 1, 1) := by decide +kernel
theorem dX8_readsRule_3 : decode cX8_readsRule 3 = .ok (.iconst 4, 1) := by decide +kernel
theorem dX8_readsRule_4 : decode cX8_readsRule 4 = .ok (.invokevirtual 99, 3) := by decide +kernel
theorem dX8_readsRule_7 : decode cX8_readsRule 7 = .ok (.istore_n 2, 1) := by decide +kernel
theorem dX8_readsRule_8 : decode cX8_readsRule 8 = .ok (.iload_n 2, 1) := by decide +kernel
theorem dX8_readsRule_9 : decode cX8_readsRule 9 = .ok (.ifCond .lt 16, 3) := by decide +kernel
theorem dX8_readsRule_12 : decode cX8_readsRule 12 = .ok (.aload_n 0, 1) := by decide +kernel
theorem dX8_readsRule_13 : decode cX8_readsRule 13 = .ok (.aload_n 0, 1) := by decide +kernel
theorem dX8_readsRule_14 : decode cX8_readsRule 14 = .ok (.getfield 96, 3) := by decide +kernel
theorem dX8_readsRule_17 : decode cX8_readsRule 17 = .ok (.invokevirtual 89, 3) := by decide +kernel
theorem dX8_readsRule_20 : decode cX8_readsRule 20 = .ok (.bipush 44, 2) := by decide +kernel
theorem dX8_readsRule_22 : decode cX8_readsRule 22 = .ok (.if_icmp .eq 5, 3) := by decide +kernel
theorem dX8_readsRule_25 : decode cX8_readsRule 25 = .ok (.iconst (-1), 1) := by decide +kernel
theorem dX8_readsRule_26 : decode cX8_readsRule 26 = .ok (.ireturn, 1) := by decide +kernel
theorem dX8_readsRule_27 : decode cX8_readsRule 27 = .ok (.aload_n 0, 1) := by decide +kernel
theorem dX8_readsRule_28 : decode cX8_readsRule 28 = .ok (.aload_n 0, 1) := by decide +kernel
theorem dX8_readsRule_29 : decode cX8_readsRule 29 = .ok (.getfield 96, 3) := by decide +kernel
theorem dX8_readsRule_32 : decode cX8_readsRule 32 = .ok (.iconst 1, 1) := by decide +kernel
theorem dX8_readsRule_33 : decode cX8_readsRule 33 = .ok (.iadd, 1) := by decide +kernel
theorem dX8_readsRule_34 : decode cX8_readsRule 34 = .ok (.iconst 1, 1) := by decide +kernel
theorem dX8_readsRule_35 : decode cX8_readsRule 35 = .ok (.iconst 3, 1) := by decide +kernel
theorem dX8_readsRule_36 : decode cX8_readsRule 36 = .ok (.invokevirtual 99, 3) := by decide +kernel
theorem dX8_readsRule_39 : decode cX8_readsRule 39 = .ok (.istore_n 3, 1) := by decide +kernel
theorem dX8_readsRule_40 : decode cX8_readsRule 40 = .ok (.iload_n 3, 1) := by decide +kernel
theorem dX8_readsRule_41 : decode cX8_readsRule 41 = .ok (.ifCond .lt 16, 3) := by decide +kernel
theorem dX8_readsRule_44 : decode cX8_readsRule 44 = .ok (.aload_n 0, 1) := by decide +kernel
theorem dX8_readsRule_45 : decode cX8_readsRule 45 = .ok (.aload_n 0, 1) := by decide +kernel
theorem dX8_readsRule_46 : decode cX8_readsRule 46 = .ok (.getfield 96, 3) := by decide +kernel
theorem dX8_readsRule_49 : decode cX8_readsRule 49 = .ok (.invokevirtual 89, 3) := by decide +kernel
theorem dX8_readsRule_52 : decode cX8_readsRule 52 = .ok (.bipush 44, 2) := by decide +kernel
theorem dX8_readsRule_54 : decode cX8_readsRule 54 = .ok (.if_icmp .eq 5, 3) := by decide +kernel
theorem dX8_readsRule_57 : decode cX8_readsRule 57 = .ok (.iconst (-1), 1) := by decide +kernel
theorem dX8_readsRule_58 : decode cX8_readsRule 58 = .ok (.ireturn, 1) := by decide +kernel
theorem dX8_readsRule_59 : decode cX8_readsRule 59 = .ok (.aload_n 0, 1) := by decide +kernel
theorem dX8_readsRule_60 : decode cX8_readsRule 60 = .ok (.aload_n 0, 1) := by decide +kernel
theorem dX8_readsRule_61 : decode cX8_readsRule 61 = .ok (.getfield 96, 3) := by decide +kernel
theorem dX8_readsRule_64 : decode cX8_readsRule 64 = .ok (.iconst 1, 1) := by decide +kernel
theorem dX8_readsRule_65 : decode cX8_readsRule 65 = .ok (.iadd, 1) := by decide +kernel
theorem dX8_readsRule_66 : decode cX8_readsRule 66 = .ok (.iconst 0, 1) := by decide +kernel
theorem dX8_readsRule_67 : decode cX8_readsRule 67 = .ok (.iconst 1, 1) := by decide +kernel
theorem dX8_readsRule_68 : decode cX8_readsRule 68 = .ok (.invokevirtual 99, 3) := by decide +kernel
theorem dX8_readsRule_71 : decode cX8_readsRule 71 = .ok (.istore 4, 2) := by decide +kernel
theorem dX8_readsRule_73 : decode cX8_readsRule 73 = .ok (.iload 4, 2) := by decide +kernel
theorem dX8_readsRule_75 : decode cX8_readsRule 75 = .ok (.ifCond .ge 5, 3) := by decide +kernel
theorem dX8_readsRule_78 : decode cX8_readsRule 78 = .ok (.iconst (-1), 1) := by decide +kernel
theorem dX8_readsRule_79 : decode cX8_readsRule 79 = .ok (.ireturn, 1) := by decide +kernel
theorem dX8_readsRule_80 : decode cX8_readsRule 80 = .ok (.aload_n 0, 1) := by decide +kernel
theorem dX8_readsRule_81 : decode cX8_readsRule 81 = .ok (.getfield 25, 3) := by decide +kernel
theorem dX8_readsRule_84 : decode cX8_readsRule 84 = .ok (.sipush 131, 3) := by decide +kernel
theorem dX8_readsRule_87 : decode cX8_readsRule 87 = .ok (.iload_n 2, 1) := by decide +kernel
theorem dX8_readsRule_88 : decode cX8_readsRule 88 = .ok (.iastore, 1) := by decide +kernel
theorem dX8_readsRule_89 : decode cX8_readsRule 89 = .ok (.aload_n 0, 1) := by decide +kernel
theorem dX8_readsRule_90 : decode cX8_readsRule 90 = .ok (.getfield 25, 3) := by decide +kernel
theorem dX8_readsRule_93 : decode cX8_readsRule 93 = .ok (.sipush 132, 3) := by decide +kernel
theorem dX8_readsRule_96 : decode cX8_readsRule 96 = .ok (.iload_n 3, 1) := by decide +kernel
theorem dX8_readsRule_97 : decode cX8_readsRule 97 = .ok (.iastore, 1) := by decide +kernel
theorem dX8_readsRule_98 : decode cX8_readsRule 98 = .ok (.aload_n 0, 1) := by decide +kernel
theorem dX8_readsRule_99 : decode cX8_readsRule 99 = .ok (.getfield 25, 3) := by decide +kernel
theorem dX8_readsRule_102 : decode cX8_readsRule 102 = .ok (.sipush 133, 3) := by decide +kernel
theorem dX8_readsRule_105 : decode cX8_readsRule 105 = .ok (.iload 4, 2) := by decide +kernel
theorem dX8_readsRule_107 : decode cX8_readsRule 107 = .ok (.iastore, 1) := by decide +kernel
theorem dX8_readsRule_108 : decode cX8_readsRule 108 = .ok (.aload_n 0, 1) := by decide +kernel
theorem dX8_readsRule_109 : decode cX8_readsRule 109 = .ok (.getfield 96, 3) := by decide +kernel
theorem dX8_readsRule_112 : decode cX8_readsRule 112 = .ok (.ireturn, 1) := by decide +kernel
set_option maxHeartbeats 4000000 in
set_option maxRecDepth 20000 in
theorem c_X8_readsRule : ConI mX8_readsRule (fun args N lay r h Q => ∃ (b : Nat) (n : Int) (tx : Int → Int) (i : Int) (tl : Int → Int), args = [.ref b, vI i] ∧ MdAt lay r b ∧ h b 0 = n ∧ h (b + 1) = tx ∧ (0 ≤ n ∧ n ≤ 200) ∧ h (b + 6) = tl ∧ (0 ≤ tl 128 ∧ tl 128 ≤ 3) ∧ (0 ≤ tl 129 ∧ tl 129 ≤ 6) ∧ (0 ≤ tl 130 ∧ tl 130 ≤ 12) ∧ (0 ≤ i ∧ i < 800) ∧ ∀ h2, Fr h h2 (fun x => x = b ∨ x = b + 6) → h2 b = up (h b) 24 (h2 b 24) → h2 (b + 6) = (rdR n tx i tl).2 → Q (rdR n tx i tl).1 N lay r h2) := by
  refine ConI.of (by decide) (by rintro _ N lay r h Q ⟨b, n, tx, i, tl, rfl, hM, hn, htx, hn2, htl, htl8, htl9, htl0, hi_, hQ⟩; exact ⟨rfl, Nat.le_of_ble_eq_true rfl⟩) ?_
  rintro E _ N lay r h Q ⟨b, n, tx, i, tl, rfl, hM, hn, htx, hn2, htl, htl8, htl9, htl0, hi_, hQ⟩ hret
  obtain ⟨ml0, ml1, ml2, ml3, ml4, ml5, ml6, ml7, ml8, ml9, ml10, ml11, ml12, ml13, ml14, ml15, ml16, ml17, ml18, ml19, ml20, mr1, mr2, mr3, mr4, mr5, mr6, mr7, mr8, mr9, mr10, mr11, mr12, mr13, mr14, mr15, mr16, mr17, mr18, mr19, mr20⟩ := id hM
  show St E mX8_readsRule 0 [some (.ref b), some (vI i), none, none, none] [] (0, 0) N lay r h
  refine r_aload_0 (pc := 0) dX8_readsRule_0 ?_
  refine r_iload_1 (pc := 1) dX8_readsRule_1 ?_
  refine r_iconst (pc := 2) dX8_readsRule_2 ?_
  refine r_iconst (pc := 3) dX8_readsRule_3 ?_
  refine k_VI3 (pc := 4) c_X8_number lk_X8_99 ⟨Nat.le_of_ble_eq_true rfl, Nat.le_of_ble_eq_true rfl⟩ ⟨rfl, rfl⟩ ⟨Nat.le_of_ble_eq_true rfl, Nat.le_of_ble_eq_true rfl⟩ (k := 8) rfl (by decide) (by assumption) dX8_readsRule_4 (Nat.le_of_ble_eq_true rfl) ?_
  refine ⟨_, _, _, _, _, _, rfl, by assumption, by first | assumption | exact rfl, by first | assumption | exact rfl, by omega, by omega, by omega, by omega, fun h_4 f_4 o_4 e_4 => ?_⟩
  have l_4 : h_4 b 0 = n := by rw [o_4, up_n (by omega)]; assumption
  have x_4 : h_4 (b + 1) = tx := (f_4 _ (by omega)).trans (by assumption)
  have t_4 : h_4 (b + 6) = tl := (f_4 _ (by omega)).trans htl
  have nr4 := nmb_r (n := n) (tx := tx) (i := i) (lo := 1) (hi := 4) (by omega)
  have er4 := nmE_r (n := n) (tx := tx) (i := i)
  refine r_istore_2 (pc := 7) dX8_readsRule_7 rfl ?_
  refine r_iload_2 (pc := 8) dX8_readsRule_8 ?_
  refine r_if_lt (pc := 9) (tgt := 25) dX8_readsRule_9 (by decide) (by omega) (fun c_9 => ?_) (fun c_9 => ?_)
  · refine r_iconst (pc := 25) dX8_readsRule_25 ?_
    refine r_iret (pc := 26) hret dX8_readsRule_26 rfl rfl rfl ?_
    first
    | (have k9 : nm n tx i 1 4 < 0 := c_9
       have e9 : rdR n tx i tl = (-1, tl) := if_neg (fun z => by have := z.1; omega)
       have z := hQ h_4 (fun x hx => by first | exact f_4 x (by omega)) o_4 (by rw [e9]; assumption)
       rw [e9] at z
       exact z)
    | (have k9 : ltr n tx (nmE n tx i) ≠ 44 := c_22
       have e9 : rdR n tx i tl = (-1, tl) := if_neg (fun z => k9 z.2.1)
       have z := hQ h_4 (fun x hx => by first | exact f_4 x (by omega)) o_4 (by rw [e9]; assumption)
       rw [e9] at z
       exact z)
    | (have k9 : nm n tx ((nmE n tx i) + 1) 1 3 < 0 := c_41
       have e9 : rdR n tx i tl = (-1, tl) := if_neg (fun z => by have := z.2.2.1; omega)
       have z := hQ h_36 (fun x hx => by first | exact (f_36 x (by omega)).trans (f_4 x (by omega))) (by rw [o_4, up_up] at o_36; exact o_36) (by rw [e9]; assumption)
       rw [e9] at z
       exact z)
    | (have k9 : ltr n tx (nmE n tx ((nmE n tx i) + 1)) ≠ 44 := c_54
       have e9 : rdR n tx i tl = (-1, tl) := if_neg (fun z => k9 z.2.2.2.1)
       have z := hQ h_36 (fun x hx => by first | exact (f_36 x (by omega)).trans (f_4 x (by omega))) (by rw [o_4, up_up] at o_36; exact o_36) (by rw [e9]; assumption)
       rw [e9] at z
       exact z)
    | (have k9 : nm n tx ((nmE n tx ((nmE n tx i) + 1)) + 1) 0 1 < 0 := c_75
       have e9 : rdR n tx i tl = (-1, tl) := if_neg (fun z => by have := z.2.2.2.2; omega)
       have z := hQ h_68 (fun x hx => by first | exact ((f_68 x (by omega)).trans (f_36 x (by omega))).trans (f_4 x (by omega))) (by rw [o_36, up_up, o_4, up_up] at o_68; exact o_68) (by rw [e9]; assumption)
       rw [e9] at z
       exact z)
    | (have e9 : rdR n tx i tl = (nmE n tx ((nmE n tx ((nmE n tx i) + 1)) + 1), (up (up (up tl 131 (nm n tx i 1 4)) 132 (nm n tx ((nmE n tx i) + 1) 1 3)) 133 (nm n tx ((nmE n tx ((nmE n tx i) + 1)) + 1) 0 1))) := if_pos ⟨c_9, c_22, c_41, c_54, c_75⟩
       have z := hQ (hr h_68 (b + 6) (up (up (up tl 131 (nm n tx i 1 4)) 132 (nm n tx ((nmE n tx i) + 1) 1 3)) 133 (nm n tx ((nmE n tx ((nmE n tx i) + 1)) + 1) 0 1))) (fun x hx => by rw [hr_n (by omega), f_68 x (by omega), f_36 x (by omega), f_4 x (by omega)]) (by rw [hr_n (by omega)]; rw [o_36, up_up, o_4, up_up] at o_68; exact o_68) (by rw [e9, hr_s])
       rw [e9] at z
       exact z)
  · refine r_aload_0 (pc := 12) dX8_readsRule_12 ?_
    refine r_aload_0 (pc := 13) dX8_readsRule_13 ?_
    refine gf_X8_96 (pc := 14) rfl (by assumption) dX8_readsRule_14 (fun i_14 => ?_)
    rw [e_4 c_9]
    refine k_VI1 (pc := 17) c_X8_letterAt lk_X8_89 ⟨Nat.le_of_ble_eq_true rfl, Nat.le_of_ble_eq_true rfl⟩ ⟨rfl, rfl⟩ ⟨Nat.le_of_ble_eq_true rfl, Nat.le_of_ble_eq_true rfl⟩ (k := 8) rfl (by decide) (by assumption) dX8_readsRule_17 (Nat.le_of_ble_eq_true rfl) ?_
    refine ⟨_, _, _, _, rfl, by assumption, by first | assumption | exact rfl, by first | assumption | exact rfl, by omega, by omega, fun i_17 => ?_⟩
    refine r_bipush (pc := 20) dX8_readsRule_20 (by decide) ?_
    refine r_icmp_eq (pc := 22) (tgt := 27) dX8_readsRule_22 (by decide) (by omega) (by omega) (fun c_22 => ?_) (fun c_22 => ?_)
    · refine r_aload_0 (pc := 27) dX8_readsRule_27 ?_
      refine r_aload_0 (pc := 28) dX8_readsRule_28 ?_
      refine gf_X8_96 (pc := 29) rfl (by assumption) dX8_readsRule_29 (fun i_29 => ?_)
      rw [e_4 c_9]
      refine r_iconst (pc := 32) dX8_readsRule_32 ?_
      refine r_iadd (pc := 33) dX8_readsRule_33 ?_
      refine r_iconst (pc := 34) dX8_readsRule_34 ?_
      refine r_iconst (pc := 35) dX8_readsRule_35 ?_
      refine k_VI3 (pc := 36) c_X8_number lk_X8_99 ⟨Nat.le_of_ble_eq_true rfl, Nat.le_of_ble_eq_true rfl⟩ ⟨rfl, rfl⟩ ⟨Nat.le_of_ble_eq_true rfl, Nat.le_of_ble_eq_true rfl⟩ (k := 8) rfl (by decide) (by assumption) dX8_readsRule_36 (Nat.le_of_ble_eq_true rfl) ?_
      refine ⟨_, _, _, _, _, _, rfl, by assumption, by first | assumption | exact rfl, by first | assumption | exact rfl, by omega, by omega, by omega, by omega, fun h_36 f_36 o_36 e_36 => ?_⟩
      have l_36 : h_36 b 0 = n := by rw [o_36, up_n (by omega)]; assumption
      have x_36 : h_36 (b + 1) = tx := (f_36 _ (by omega)).trans (by assumption)
      have t_36 : h_36 (b + 6) = tl := (f_36 _ (by omega)).trans t_4
      have nr36 := nmb_r (n := n) (tx := tx) (i := (nmE n tx i) + 1) (lo := 1) (hi := 3) (by omega)
      have er36 := nmE_r (n := n) (tx := tx) (i := (nmE n tx i) + 1)
      refine r_istore_3 (pc := 39) dX8_readsRule_39 rfl ?_
      refine r_iload_3 (pc := 40) dX8_readsRule_40 ?_
      refine r_if_lt (pc := 41) (tgt := 57) dX8_readsRule_41 (by decide) (by omega) (fun c_41 => ?_) (fun c_41 => ?_)
      · refine r_iconst (pc := 57) dX8_readsRule_57 ?_
        refine r_iret (pc := 58) hret dX8_readsRule_58 rfl rfl rfl ?_
        first
        | (have k9 : nm n tx i 1 4 < 0 := c_9
           have e9 : rdR n tx i tl = (-1, tl) := if_neg (fun z => by have := z.1; omega)
           have z := hQ h_4 (fun x hx => by first | exact f_4 x (by omega)) o_4 (by rw [e9]; assumption)
           rw [e9] at z
           exact z)
        | (have k9 : ltr n tx (nmE n tx i) ≠ 44 := c_22
           have e9 : rdR n tx i tl = (-1, tl) := if_neg (fun z => k9 z.2.1)
           have z := hQ h_4 (fun x hx => by first | exact f_4 x (by omega)) o_4 (by rw [e9]; assumption)
           rw [e9] at z
           exact z)
        | (have k9 : nm n tx ((nmE n tx i) + 1) 1 3 < 0 := c_41
           have e9 : rdR n tx i tl = (-1, tl) := if_neg (fun z => by have := z.2.2.1; omega)
           have z := hQ h_36 (fun x hx => by first | exact (f_36 x (by omega)).trans (f_4 x (by omega))) (by rw [o_4, up_up] at o_36; exact o_36) (by rw [e9]; assumption)
           rw [e9] at z
           exact z)
        | (have k9 : ltr n tx (nmE n tx ((nmE n tx i) + 1)) ≠ 44 := c_54
           have e9 : rdR n tx i tl = (-1, tl) := if_neg (fun z => k9 z.2.2.2.1)
           have z := hQ h_36 (fun x hx => by first | exact (f_36 x (by omega)).trans (f_4 x (by omega))) (by rw [o_4, up_up] at o_36; exact o_36) (by rw [e9]; assumption)
           rw [e9] at z
           exact z)
        | (have k9 : nm n tx ((nmE n tx ((nmE n tx i) + 1)) + 1) 0 1 < 0 := c_75
           have e9 : rdR n tx i tl = (-1, tl) := if_neg (fun z => by have := z.2.2.2.2; omega)
           have z := hQ h_68 (fun x hx => by first | exact ((f_68 x (by omega)).trans (f_36 x (by omega))).trans (f_4 x (by omega))) (by rw [o_36, up_up, o_4, up_up] at o_68; exact o_68) (by rw [e9]; assumption)
           rw [e9] at z
           exact z)
        | (have e9 : rdR n tx i tl = (nmE n tx ((nmE n tx ((nmE n tx i) + 1)) + 1), (up (up (up tl 131 (nm n tx i 1 4)) 132 (nm n tx ((nmE n tx i) + 1) 1 3)) 133 (nm n tx ((nmE n tx ((nmE n tx i) + 1)) + 1) 0 1))) := if_pos ⟨c_9, c_22, c_41, c_54, c_75⟩
           have z := hQ (hr h_68 (b + 6) (up (up (up tl 131 (nm n tx i 1 4)) 132 (nm n tx ((nmE n tx i) + 1) 1 3)) 133 (nm n tx ((nmE n tx ((nmE n tx i) + 1)) + 1) 0 1))) (fun x hx => by rw [hr_n (by omega), f_68 x (by omega), f_36 x (by omega), f_4 x (by omega)]) (by rw [hr_n (by omega)]; rw [o_36, up_up, o_4, up_up] at o_68; exact o_68) (by rw [e9, hr_s])
           rw [e9] at z
           exact z)
      · refine r_aload_0 (pc := 44) dX8_readsRule_44 ?_
        refine r_aload_0 (pc := 45) dX8_readsRule_45 ?_
        refine gf_X8_96 (pc := 46) rfl (by assumption) dX8_readsRule_46 (fun i_46 => ?_)
        rw [e_36 c_41]
        refine k_VI1 (pc := 49) c_X8_letterAt lk_X8_89 ⟨Nat.le_of_ble_eq_true rfl, Nat.le_of_ble_eq_true rfl⟩ ⟨rfl, rfl⟩ ⟨Nat.le_of_ble_eq_true rfl, Nat.le_of_ble_eq_true rfl⟩ (k := 8) rfl (by decide) (by assumption) dX8_readsRule_49 (Nat.le_of_ble_eq_true rfl) ?_
        refine ⟨_, _, _, _, rfl, by assumption, by first | assumption | exact rfl, by first | assumption | exact rfl, by omega, by omega, fun i_49 => ?_⟩
        refine r_bipush (pc := 52) dX8_readsRule_52 (by decide) ?_
        refine r_icmp_eq (pc := 54) (tgt := 59) dX8_readsRule_54 (by decide) (by omega) (by omega) (fun c_54 => ?_) (fun c_54 => ?_)
        · refine r_aload_0 (pc := 59) dX8_readsRule_59 ?_
          refine r_aload_0 (pc := 60) dX8_readsRule_60 ?_
          refine gf_X8_96 (pc := 61) rfl (by assumption) dX8_readsRule_61 (fun i_61 => ?_)
          rw [e_36 c_41]
          refine r_iconst (pc := 64) dX8_readsRule_64 ?_
          refine r_iadd (pc := 65) dX8_readsRule_65 ?_
          refine r_iconst (pc := 66) dX8_readsRule_66 ?_
          refine r_iconst (pc := 67) dX8_readsRule_67 ?_
          refine k_VI3 (pc := 68) c_X8_number lk_X8_99 ⟨Nat.le_of_ble_eq_true rfl, Nat.le_of_ble_eq_true rfl⟩ ⟨rfl, rfl⟩ ⟨Nat.le_of_ble_eq_true rfl, Nat.le_of_ble_eq_true rfl⟩ (k := 8) rfl (by decide) (by assumption) dX8_readsRule_68 (Nat.le_of_ble_eq_true rfl) ?_
          refine ⟨_, _, _, _, _, _, rfl, by assumption, by first | assumption | exact rfl, by first | assumption | exact rfl, by omega, by omega, by omega, by omega, fun h_68 f_68 o_68 e_68 => ?_⟩
          have l_68 : h_68 b 0 = n := by rw [o_68, up_n (by omega)]; assumption
          have x_68 : h_68 (b + 1) = tx := (f_68 _ (by omega)).trans (by assumption)
          have t_68 : h_68 (b + 6) = tl := (f_68 _ (by omega)).trans t_36
          have nr68 := nmb_r (n := n) (tx := tx) (i := (nmE n tx ((nmE n tx i) + 1)) + 1) (lo := 0) (hi := 1) (by omega)
          have er68 := nmE_r (n := n) (tx := tx) (i := (nmE n tx ((nmE n tx i) + 1)) + 1)
          refine r_istore_4 (pc := 71) dX8_readsRule_71 rfl ?_
          refine r_iload_4 (pc := 73) dX8_readsRule_73 ?_
          refine r_if_ge (pc := 75) (tgt := 80) dX8_readsRule_75 (by decide) (by omega) (fun c_75 => ?_) (fun c_75 => ?_)
          · refine r_aload_0 (pc := 80) dX8_readsRule_80 ?_
            refine gf_X8_25 (pc := 81) rfl (by assumption) dX8_readsRule_81 (by assumption) ?_
            refine r_sipush (pc := 84) dX8_readsRule_84 (by decide) ?_
            refine r_iload_2 (pc := 87) dX8_readsRule_87 ?_
            refine r_iastE (pc := 88) (by assumption) (by first | assumption | exact rfl) dX8_readsRule_88 (by omega) (by omega) (by omega) ?_
            refine r_aload_0 (pc := 89) dX8_readsRule_89 ?_
            refine gf_X8_25 (pc := 90) rfl (by assumption) dX8_readsRule_90 (by assumption) ?_
            refine r_sipush (pc := 93) dX8_readsRule_93 (by decide) ?_
            refine r_iload_3 (pc := 96) dX8_readsRule_96 ?_
            refine r_iastE (pc := 97) (by assumption) hr_s dX8_readsRule_97 (by omega) (by omega) (by omega) ?_
            rw [hr_hr]
            refine r_aload_0 (pc := 98) dX8_readsRule_98 ?_
            refine gf_X8_25 (pc := 99) rfl (by assumption) dX8_readsRule_99 (by assumption) ?_
            refine r_sipush (pc := 102) dX8_readsRule_102 (by decide) ?_
            refine r_iload_4 (pc := 105) dX8_readsRule_105 ?_
            refine r_iastE (pc := 107) (by assumption) hr_s dX8_readsRule_107 (by omega) (by omega) (by omega) ?_
            rw [hr_hr]
            refine r_aload_0 (pc := 108) dX8_readsRule_108 ?_
            refine gf_X8_96 (pc := 109) rfl (by assumption) dX8_readsRule_109 (fun i_109 => ?_)
            rw [hr_n (show b ≠ b + 6 by omega), e_68 c_75]
            refine r_iret (pc := 112) hret dX8_readsRule_112 rfl rfl rfl ?_
            first
            | (have k9 : nm n tx i 1 4 < 0 := c_9
               have e9 : rdR n tx i tl = (-1, tl) := if_neg (fun z => by have := z.1; omega)
               have z := hQ h_4 (fun x hx => by first | exact f_4 x (by omega)) o_4 (by rw [e9]; assumption)
               rw [e9] at z
               exact z)
            | (have k9 : ltr n tx (nmE n tx i) ≠ 44 := c_22
               have e9 : rdR n tx i tl = (-1, tl) := if_neg (fun z => k9 z.2.1)
               have z := hQ h_4 (fun x hx => by first | exact f_4 x (by omega)) o_4 (by rw [e9]; assumption)
               rw [e9] at z
               exact z)
            | (have k9 : nm n tx ((nmE n tx i) + 1) 1 3 < 0 := c_41
               have e9 : rdR n tx i tl = (-1, tl) := if_neg (fun z => by have := z.2.2.1; omega)
               have z := hQ h_36 (fun x hx => by first | exact (f_36 x (by omega)).trans (f_4 x (by omega))) (by rw [o_4, up_up] at o_36; exact o_36) (by rw [e9]; assumption)
               rw [e9] at z
               exact z)
            | (have k9 : ltr n tx (nmE n tx ((nmE n tx i) + 1)) ≠ 44 := c_54
               have e9 : rdR n tx i tl = (-1, tl) := if_neg (fun z => k9 z.2.2.2.1)
               have z := hQ h_36 (fun x hx => by first | exact (f_36 x (by omega)).trans (f_4 x (by omega))) (by rw [o_4, up_up] at o_36; exact o_36) (by rw [e9]; assumption)
               rw [e9] at z
               exact z)
            | (have k9 : nm n tx ((nmE n tx ((nmE n tx i) + 1)) + 1) 0 1 < 0 := c_75
               have e9 : rdR n tx i tl = (-1, tl) := if_neg (fun z => by have := z.2.2.2.2; omega)
               have z := hQ h_68 (fun x hx => by first | exact ((f_68 x (by omega)).trans (f_36 x (by omega))).trans (f_4 x (by omega))) (by rw [o_36, up_up, o_4, up_up] at o_68; exact o_68) (by rw [e9]; assumption)
               rw [e9] at z
               exact z)
            | (have e9 : rdR n tx i tl = (nmE n tx ((nmE n tx ((nmE n tx i) + 1)) + 1), (up (up (up tl 131 (nm n tx i 1 4)) 132 (nm n tx ((nmE n tx i) + 1) 1 3)) 133 (nm n tx ((nmE n tx ((nmE n tx i) + 1)) + 1) 0 1))) := if_pos ⟨c_9, c_22, c_41, c_54, c_75⟩
               have z := hQ (hr h_68 (b + 6) (up (up (up tl 131 (nm n tx i 1 4)) 132 (nm n tx ((nmE n tx i) + 1) 1 3)) 133 (nm n tx ((nmE n tx ((nmE n tx i) + 1)) + 1) 0 1))) (fun x hx => by rw [hr_n (by omega), f_68 x (by omega), f_36 x (by omega), f_4 x (by omega)]) (by rw [hr_n (by omega)]; rw [o_36, up_up, o_4, up_up] at o_68; exact o_68) (by rw [e9, hr_s])
               rw [e9] at z
               exact z)
          · refine r_iconst (pc := 78) dX8_readsRule_78 ?_
            refine r_iret (pc := 79) hret dX8_readsRule_79 rfl rfl rfl ?_
            first
            | (have k9 : nm n tx i 1 4 < 0 := c_9
               have e9 : rdR n tx i tl = (-1, tl) := if_neg (fun z => by have := z.1; omega)
               have z := hQ h_4 (fun x hx => by first | exact f_4 x (by omega)) o_4 (by rw [e9]; assumption)
               rw [e9] at z
               exact z)
            | (have k9 : ltr n tx (nmE n tx i) ≠ 44 := c_22
               have e9 : rdR n tx i tl = (-1, tl) := if_neg (fun z => k9 z.2.1)
               have z := hQ h_4 (fun x hx => by first | exact f_4 x (by omega)) o_4 (by rw [e9]; assumption)
               rw [e9] at z
               exact z)
            | (have k9 : nm n tx ((nmE n tx i) + 1) 1 3 < 0 := c_41
               have e9 : rdR n tx i tl = (-1, tl) := if_neg (fun z => by have := z.2.2.1; omega)
               have z := hQ h_36 (fun x hx => by first | exact (f_36 x (by omega)).trans (f_4 x (by omega))) (by rw [o_4, up_up] at o_36; exact o_36) (by rw [e9]; assumption)
               rw [e9] at z
               exact z)
            | (have k9 : ltr n tx (nmE n tx ((nmE n tx i) + 1)) ≠ 44 := c_54
               have e9 : rdR n tx i tl = (-1, tl) := if_neg (fun z => k9 z.2.2.2.1)
               have z := hQ h_36 (fun x hx => by first | exact (f_36 x (by omega)).trans (f_4 x (by omega))) (by rw [o_4, up_up] at o_36; exact o_36) (by rw [e9]; assumption)
               rw [e9] at z
               exact z)
            | (have k9 : nm n tx ((nmE n tx ((nmE n tx i) + 1)) + 1) 0 1 < 0 := c_75
               have e9 : rdR n tx i tl = (-1, tl) := if_neg (fun z => by have := z.2.2.2.2; omega)
               have z := hQ h_68 (fun x hx => by first | exact ((f_68 x (by omega)).trans (f_36 x (by omega))).trans (f_4 x (by omega))) (by rw [o_36, up_up, o_4, up_up] at o_68; exact o_68) (by rw [e9]; assumption)
               rw [e9] at z
               exact z)
            | (have e9 : rdR n tx i tl = (nmE n tx ((nmE n tx ((nmE n tx i) + 1)) + 1), (up (up (up tl 131 (nm n tx i 1 4)) 132 (nm n tx ((nmE n tx i) + 1) 1 3)) 133 (nm n tx ((nmE n tx ((nmE n tx i) + 1)) + 1) 0 1))) := if_pos ⟨c_9, c_22, c_41, c_54, c_75⟩
               have z := hQ (hr h_68 (b + 6) (up (up (up tl 131 (nm n tx i 1 4)) 132 (nm n tx ((nmE n tx i) + 1) 1 3)) 133 (nm n tx ((nmE n tx ((nmE n tx i) + 1)) + 1) 0 1))) (fun x hx => by rw [hr_n (by omega), f_68 x (by omega), f_36 x (by omega), f_4 x (by omega)]) (by rw [hr_n (by omega)]; rw [o_36, up_up, o_4, up_up] at o_68; exact o_68) (by rw [e9, hr_s])
               rw [e9] at z
               exact z)
        · refine r_iconst (pc := 57) dX8_readsRule_57 ?_
          refine r_iret (pc := 58) hret dX8_readsRule_58 rfl rfl rfl ?_
          first
          | (have k9 : nm n tx i 1 4 < 0 := c_9
             have e9 : rdR n tx i tl = (-1, tl) := if_neg (fun z => by have := z.1; omega)
             have z := hQ h_4 (fun x hx => by first | exact f_4 x (by omega)) o_4 (by rw [e9]; assumption)
             rw [e9] at z
             exact z)
          | (have k9 : ltr n tx (nmE n tx i) ≠ 44 := c_22
             have e9 : rdR n tx i tl = (-1, tl) := if_neg (fun z => k9 z.2.1)
             have z := hQ h_4 (fun x hx => by first | exact f_4 x (by omega)) o_4 (by rw [e9]; assumption)
             rw [e9] at z
             exact z)
          | (have k9 : nm n tx ((nmE n tx i) + 1) 1 3 < 0 := c_41
             have e9 : rdR n tx i tl = (-1, tl) := if_neg (fun z => by have := z.2.2.1; omega)
             have z := hQ h_36 (fun x hx => by first | exact (f_36 x (by omega)).trans (f_4 x (by omega))) (by rw [o_4, up_up] at o_36; exact o_36) (by rw [e9]; assumption)
             rw [e9] at z
             exact z)
          | (have k9 : ltr n tx (nmE n tx ((nmE n tx i) + 1)) ≠ 44 := c_54
             have e9 : rdR n tx i tl = (-1, tl) := if_neg (fun z => k9 z.2.2.2.1)
             have z := hQ h_36 (fun x hx => by first | exact (f_36 x (by omega)).trans (f_4 x (by omega))) (by rw [o_4, up_up] at o_36; exact o_36) (by rw [e9]; assumption)
             rw [e9] at z
             exact z)
          | (have k9 : nm n tx ((nmE n tx ((nmE n tx i) + 1)) + 1) 0 1 < 0 := c_75
             have e9 : rdR n tx i tl = (-1, tl) := if_neg (fun z => by have := z.2.2.2.2; omega)
             have z := hQ h_68 (fun x hx => by first | exact ((f_68 x (by omega)).trans (f_36 x (by omega))).trans (f_4 x (by omega))) (by rw [o_36, up_up, o_4, up_up] at o_68; exact o_68) (by rw [e9]; assumption)
             rw [e9] at z
             exact z)
          | (have e9 : rdR n tx i tl = (nmE n tx ((nmE n tx ((nmE n tx i) + 1)) + 1), (up (up (up tl 131 (nm n tx i 1 4)) 132 (nm n tx ((nmE n tx i) + 1) 1 3)) 133 (nm n tx ((nmE n tx ((nmE n tx i) + 1)) + 1) 0 1))) := if_pos ⟨c_9, c_22, c_41, c_54, c_75⟩
             have z := hQ (hr h_68 (b + 6) (up (up (up tl 131 (nm n tx i 1 4)) 132 (nm n tx ((nmE n tx i) + 1) 1 3)) 133 (nm n tx ((nmE n tx ((nmE n tx i) + 1)) + 1) 0 1))) (fun x hx => by rw [hr_n (by omega), f_68 x (by omega), f_36 x (by omega), f_4 x (by omega)]) (by rw [hr_n (by omega)]; rw [o_36, up_up, o_4, up_up] at o_68; exact o_68) (by rw [e9, hr_s])
             rw [e9] at z
             exact z)
    · refine r_iconst (pc := 25) dX8_readsRule_25 ?_
      refine r_iret (pc := 26) hret dX8_readsRule_26 rfl rfl rfl ?_
      first
      | (have k9 : nm n tx i 1 4 < 0 := c_9
         have e9 : rdR n tx i tl = (-1, tl) := if_neg (fun z => by have := z.1; omega)
         have z := hQ h_4 (fun x hx => by first | exact f_4 x (by omega)) o_4 (by rw [e9]; assumption)
         rw [e9] at z
         exact z)
      | (have k9 : ltr n tx (nmE n tx i) ≠ 44 := c_22
         have e9 : rdR n tx i tl = (-1, tl) := if_neg (fun z => k9 z.2.1)
         have z := hQ h_4 (fun x hx => by first | exact f_4 x (by omega)) o_4 (by rw [e9]; assumption)
         rw [e9] at z
         exact z)
      | (have k9 : nm n tx ((nmE n tx i) + 1) 1 3 < 0 := c_41
         have e9 : rdR n tx i tl = (-1, tl) := if_neg (fun z => by have := z.2.2.1; omega)
         have z := hQ h_36 (fun x hx => by first | exact (f_36 x (by omega)).trans (f_4 x (by omega))) (by rw [o_4, up_up] at o_36; exact o_36) (by rw [e9]; assumption)
         rw [e9] at z
         exact z)
      | (have k9 : ltr n tx (nmE n tx ((nmE n tx i) + 1)) ≠ 44 := c_54
         have e9 : rdR n tx i tl = (-1, tl) := if_neg (fun z => k9 z.2.2.2.1)
         have z := hQ h_36 (fun x hx => by first | exact (f_36 x (by omega)).trans (f_4 x (by omega))) (by rw [o_4, up_up] at o_36; exact o_36) (by rw [e9]; assumption)
         rw [e9] at z
         exact z)
      | (have k9 : nm n tx ((nmE n tx ((nmE n tx i) + 1)) + 1) 0 1 < 0 := c_75
         have e9 : rdR n tx i tl = (-1, tl) := if_neg (fun z => by have := z.2.2.2.2; omega)
         have z := hQ h_68 (fun x hx => by first | exact ((f_68 x (by omega)).trans (f_36 x (by omega))).trans (f_4 x (by omega))) (by rw [o_36, up_up, o_4, up_up] at o_68; exact o_68) (by rw [e9]; assumption)
         rw [e9] at z
         exact z)
      | (have e9 : rdR n tx i tl = (nmE n tx ((nmE n tx ((nmE n tx i) + 1)) + 1), (up (up (up tl 131 (nm n tx i 1 4)) 132 (nm n tx ((nmE n tx i) + 1) 1 3)) 133 (nm n tx ((nmE n tx ((nmE n tx i) + 1)) + 1) 0 1))) := if_pos ⟨c_9, c_22, c_41, c_54, c_75⟩
         have z := hQ (hr h_68 (b + 6) (up (up (up tl 131 (nm n tx i 1 4)) 132 (nm n tx ((nmE n tx i) + 1) 1 3)) 133 (nm n tx ((nmE n tx ((nmE n tx i) + 1)) + 1) 0 1))) (fun x hx => by rw [hr_n (by omega), f_68 x (by omega), f_36 x (by omega), f_4 x (by omega)]) (by rw [hr_n (by omega)]; rw [o_36, up_up, o_4, up_up] at o_68; exact o_68) (by rw [e9, hr_s])
         rw [e9] at z
         exact z)

