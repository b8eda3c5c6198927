/-! PLANS: a new disk, copies of plans, counts -/
/-- a map with one disk more -/
def DkX (mp mp' : Int → Int) (n w c : Int) : Prop := mp' (10 + mp 130) = n ∧ mp' (22 + (10 + mp 130)) = w ∧ mp' (44 + (10 + mp 130)) = c ∧ mp' (66 + (10 + mp 130)) = 16 ∧ mp' (88 + (10 + mp 130)) ≠ 1 ∧ mp' 130 = mp 130 + 1 ∧ ∀ j, 0 ≤ j → j < 136 → j ≠ 130 → j ≠ 10 + mp 130 → j ≠ 22 + (10 + mp 130) → j ≠ 44 + (10 + mp 130) → j ≠ 66 + (10 + mp 130) → j ≠ 88 + (10 + mp 130) → mp' j = mp j
theorem dX3_addDisk_0 : decode cX3_addDisk 0 = .ok (.aload_n 0, 1) := by decide +kernel
theorem dX3_addDisk_1 : decode cX3_addDisk 1 = .ok (.getfield 12, 3) := by decide +kernel
theorem dX3_addDisk_4 : decode cX3_addDisk 4 = .ok (.iload_n 1, 1) := by decide +kernel
theorem dX3_addDisk_5 : decode cX3_addDisk 5 = .ok (.iload_n 2, 1) := by decide +kernel
theorem dX3_addDisk_6 : decode cX3_addDisk 6 = .ok (.invokevirtual 80, 3) := by decide +kernel
theorem dX3_addDisk_9 : decode cX3_addDisk 9 = .ok (.ifCond .ne 5, 3) := by decide +kernel
theorem dX3_addDisk_12 : decode cX3_addDisk 12 = .ok (.iconst 0, 1) := by decide +kernel
theorem dX3_addDisk_13 : decode cX3_addDisk 13 = .ok (.ireturn, 1) := by decide +kernel
theorem dX3_addDisk_14 : decode cX3_addDisk 14 = .ok (.aload_n 0, 1) := by decide +kernel
theorem dX3_addDisk_15 : decode cX3_addDisk 15 = .ok (.getfield 12, 3) := by decide +kernel
theorem dX3_addDisk_18 : decode cX3_addDisk 18 = .ok (.invokevirtual 84, 3) := by decide +kernel
theorem dX3_addDisk_21 : decode cX3_addDisk 21 = .ok (.iconst 1, 1) := by decide +kernel
theorem dX3_addDisk_22 : decode cX3_addDisk 22 = .ok (.isub, 1) := by decide +kernel
theorem dX3_addDisk_23 : decode cX3_addDisk 23 = .ok (.istore 4, 2) := by decide +kernel
theorem dX3_addDisk_25 : decode cX3_addDisk 25 = .ok (.aload_n 0, 1) := by decide +kernel
theorem dX3_addDisk_26 : decode cX3_addDisk 26 = .ok (.getfield 25, 3) := by decide +kernel
theorem dX3_addDisk_29 : decode cX3_addDisk 29 = .ok (.iload 4, 2) := by decide +kernel
theorem dX3_addDisk_31 : decode cX3_addDisk 31 = .ok (.bipush 10, 2) := by decide +kernel
theorem dX3_addDisk_33 : decode cX3_addDisk 33 = .ok (.iload_n 3, 1) := by decide +kernel
theorem dX3_addDisk_34 : decode cX3_addDisk 34 = .ok (.imul, 1) := by decide +kernel
theorem dX3_addDisk_35 : decode cX3_addDisk 35 = .ok (.iastore, 1) := by decide +kernel
theorem dX3_addDisk_36 : decode cX3_addDisk 36 = .ok (.aload_n 0, 1) := by decide +kernel
theorem dX3_addDisk_37 : decode cX3_addDisk 37 = .ok (.getfield 29, 3) := by decide +kernel
theorem dX3_addDisk_40 : decode cX3_addDisk 40 = .ok (.iload 4, 2) := by decide +kernel
theorem dX3_addDisk_42 : decode cX3_addDisk 42 = .ok (.bipush 16, 2) := by decide +kernel
theorem dX3_addDisk_44 : decode cX3_addDisk 44 = .ok (.iastore, 1) := by decide +kernel
theorem dX3_addDisk_45 : decode cX3_addDisk 45 = .ok (.iconst 1, 1) := by decide +kernel
theorem dX3_addDisk_46 : decode cX3_addDisk 46 = .ok (.ireturn, 1) := by decide +kernel
set_option maxHeartbeats 4000000 in
set_option maxRecDepth 20000 in
theorem c_X3_addDisk : ConI mX3_addDisk (fun args N lay r h Q => ∃ (p : Nat) (mp : Int → Int) (n w c : Int), args = [.ref p, vI n, vI w, vI c] ∧ PlAt lay r p ∧ TrM mp ∧ RlM mp ∧ PTr h p mp ∧ PRl h p mp ∧ (-2147483648 ≤ n ∧ n < 2147483648) ∧ (-2147483648 ≤ w ∧ w < 2147483648) ∧ (0 ≤ c ∧ c ≤ 99) ∧ (¬ (mp 130 < 12 ∧ 4 ≤ n ∧ n < 4 + mp 129) → Q 0 N lay r h) ∧ ((mp 130 < 12 ∧ 4 ≤ n ∧ n < 4 + mp 129) → ∀ h2, Fr h h2 (fun x => x = p + 1 ∨ x = p + 2 ∨ x = p + 3 ∨ x = p + 9 ∨ x = p + 10) → (∀ mp', DkX mp mp' n w (10 * c) → PTr h2 p mp' ∧ PRl h2 p mp') → Q 1 N lay r h2)) := by
  refine ConI.of (by decide) (by rintro _ N lay r h Q ⟨p, mp, n, w, c, rfl, hA, hT, hR, hN, hL, hn, hw, hc, hB, hQ⟩; exact ⟨rfl, Nat.le_of_ble_eq_true rfl⟩) ?_
  rintro E _ N lay r h Q ⟨p, mp, n, w, c, rfl, hA, hT, hR, hN, hL, hn, hw, hc, hB, hQ⟩ hret
  obtain ⟨pl0, pl1, pl2, pl3, pl4, pl5, pl6, pl7, pl8, pl9, pl10, pl11, pl12, pl13, pr0, pr1, pr2, pr3, pr9, pr10, pr11, qr3, qr4, vr1, vr2, vr3, vr4⟩ := id hA
  obtain ⟨⟨n0, n1, n2⟩, up1, up2, uw, u0, uh⟩ := id hN
  obtain ⟨t1, t2, t3, t4, t5, t6, t7⟩ := id hT
  obtain ⟨⟨rl5, rl6, rl7, rl8⟩, rfu, rca, rre, rnu, rdv⟩ := id hL
  obtain ⟨r1, r2, r3, r4, r5, r6, r7⟩ := id hR
  show St E mX3_addDisk 0 [some (.ref p), some (vI n), some (vI w), some (vI c), none] [] (0, 0) N lay r h
  refine r_aload_0 (pc := 0) dX3_addDisk_0 ?_
  refine gf_X3_12 (pc := 1) rfl (by assumption) dX3_addDisk_1 (by assumption) ?_
  refine r_iload_1 (pc := 4) dX3_addDisk_4 ?_
  refine r_iload_2 (pc := 5) dX3_addDisk_5 ?_
  refine k_VI2 (pc := 6) c_X6_addDisk lk_X3_80 ⟨Nat.le_of_ble_eq_true rfl, Nat.le_of_ble_eq_true rfl⟩ ⟨rfl, rfl⟩ ⟨Nat.le_of_ble_eq_true rfl, Nat.le_of_ble_eq_true rfl⟩ (k := 6) rfl (by decide) (by assumption) dX3_addDisk_6 (Nat.le_of_ble_eq_true rfl) ?_
  refine ⟨_, _, _, rfl, hA.tr, by omega, by omega, by omega, by omega, by omega, fun g_6 => ?_, fun g_6 => ?_⟩
  · refine r_ifne_F (pc := 9) (tgt := 14) dX3_addDisk_9 (by decide) (by decide) ?_
    refine r_iconst (pc := 12) dX3_addDisk_12 ?_
    refine r_zret (pc := 13) hret dX3_addDisk_13 rfl rfl rfl (Or.inl rfl) ?_
    exact hB (by omega)
  · refine r_ifne_T (pc := 9) (tgt := 14) dX3_addDisk_9 (by decide) (by decide) ?_
    show St E mX3_addDisk 14 _ _ _ N lay r (hr (hr (hr h (p + 2) (up (h (p + 2)) (10 + h (p + 1) 2) n)) (p + 3) (up (h (p + 3)) (10 + h (p + 1) 2) w)) (p + 1) (up (h (p + 1)) 2 (h (p + 1) 2 + 1)))
    refine r_aload_0 (pc := 14) dX3_addDisk_14 ?_
    refine gf_X3_12 (pc := 15) rfl (by assumption) dX3_addDisk_15 (by assumption) ?_
    refine k_VI0 (pc := 18) c_X6_endOfDisks lk_X3_84 ⟨Nat.le_of_ble_eq_true rfl, Nat.le_of_ble_eq_true rfl⟩ ⟨rfl, rfl⟩ ⟨Nat.le_of_ble_eq_true rfl, Nat.le_of_ble_eq_true rfl⟩ (k := 6) rfl (by decide) (by assumption) dX3_addDisk_18 (Nat.le_of_ble_eq_true rfl) ?_
    refine ⟨_, _, rfl, by assumption, fun i_18 => ?_⟩
    rw [hr_s, up_s] at i_18 ⊢
    refine r_iconst (pc := 21) dX3_addDisk_21 ?_
    refine r_isub (pc := 22) dX3_addDisk_22 ?_
    refine r_istore_4 (pc := 23) dX3_addDisk_23 rfl ?_
    refine r_aload_0 (pc := 25) dX3_addDisk_25 ?_
    refine gf_X3_25 (pc := 26) rfl (by assumption) dX3_addDisk_26 (by assumption) ?_
    refine r_iload_4 (pc := 29) dX3_addDisk_29 ?_
    refine r_bipush (pc := 31) dX3_addDisk_31 (by decide) ?_
    refine r_iload_3 (pc := 33) dX3_addDisk_33 ?_
    refine r_imul (pc := 34) dX3_addDisk_34 ?_
    refine r_iastE (pc := 35) (by assumption) ((hr_n (by omega)).trans ((hr_n (by omega)).trans (hr_n (by omega)))) dX3_addDisk_35 (by omega) (by omega) (by omega) ?_
    refine r_aload_0 (pc := 36) dX3_addDisk_36 ?_
    refine gf_X3_29 (pc := 37) rfl (by assumption) dX3_addDisk_37 (by assumption) ?_
    refine r_iload_4 (pc := 40) dX3_addDisk_40 ?_
    refine r_bipush (pc := 42) dX3_addDisk_42 (by decide) ?_
    refine r_iastE (pc := 44) (by assumption) ((hr_n (by omega)).trans ((hr_n (by omega)).trans ((hr_n (by omega)).trans (hr_n (by omega))))) dX3_addDisk_44 (by omega) (by omega) (by omega) ?_
    refine r_iconst (pc := 45) dX3_addDisk_45 ?_
    refine r_zret (pc := 46) hret dX3_addDisk_46 rfl rfl rfl (by first | exact Or.inl rfl | exact Or.inr rfl | exact bI_01 | omega) ?_
    refine hQ (by omega) _ (fun x hx => by rw [hr_n (by omega), hr_n (by omega), hr_n (by omega), hr_n (by omega), hr_n (by omega)]) (fun mp' ⟨k1, k2, k3, k4, k5, k6, k7⟩ => ?_)
    have m8 := k7 128 (by omega) (by omega) (by omega) (by omega) (by omega) (by omega) (by omega) (by omega)
    have m9 := k7 129 (by omega) (by omega) (by omega) (by omega) (by omega) (by omega) (by omega) (by omega)
    have m11 := k7 131 (by omega) (by omega) (by omega) (by omega) (by omega) (by omega) (by omega) (by omega)
    have m12 := k7 132 (by omega) (by omega) (by omega) (by omega) (by omega) (by omega) (by omega) (by omega)
    have m13 := k7 133 (by omega) (by omega) (by omega) (by omega) (by omega) (by omega) (by omega) (by omega)
    have m14 := k7 134 (by omega) (by omega) (by omega) (by omega) (by omega) (by omega) (by omega) (by omega)
    have m15 := k7 135 (by omega) (by omega) (by omega) (by omega) (by omega) (by omega) (by omega) (by omega)
    have ei : 10 + (h (p + 1) 2 + 1) - 1 = 10 + mp 130 := by omega
    rw [ei, n2]
    refine ⟨⟨⟨?_, ?_, ?_⟩, fun q q0 q1 => ?_, fun q q0 q1 => ?_, fun q q0 q1 => ?_, ?_, fun q q0 q1 => ?_⟩, ⟨⟨?_, ?_, ?_, ?_⟩, ⟨?_, fun k => ?_⟩, fun q q0 q1 => ?_, fun q q0 q1 => ?_, ?_, fun q q0 q1 => ?_⟩⟩
    · rw [m8, hr_n (by omega), hr_n (by omega), hr_s, up_n (by omega)]; exact n0
    · rw [m9, hr_n (by omega), hr_n (by omega), hr_s, up_n (by omega)]; exact n1
    · rw [k6, hr_n (by omega), hr_n (by omega), hr_s, up_s]
    · rw [hr_n (by omega), hr_n (by omega), hr_n (by omega), hr_n (by omega), hr_s, up_n (by omega), k7 q (by omega) (by omega) (by omega) (by omega) (by omega) (by omega) (by omega) (by omega)]
      exact up1 q q0 (by omega)
    · rw [hr_n (by omega), hr_n (by omega), hr_n (by omega), hr_n (by omega), hr_s]
      by_cases e : q = 10 + mp 130
      · rw [e, up_s, k1]
      · rw [up_n e, k7 q (by omega) (by omega) (by omega) (by omega) (by omega) (by omega) (by omega) (by omega)]
        exact up2 q q0 (by omega)
    · rw [hr_n (by omega), hr_n (by omega), hr_n (by omega), hr_s]
      by_cases e : q = 10 + mp 130
      · rw [e, up_s, k2]
      · rw [up_n e, k7 (22 + q) (by omega) (by omega) (by omega) (by omega) (by omega) (by omega) (by omega) (by omega)]
        exact uw q q0 (by omega)
    · rw [hr_n (by omega), hr_n (by omega), hr_n (by omega), hr_n (by omega), hr_s, up_n (by omega)]; exact u0
    · rw [hr_n (by omega), hr_n (by omega), hr_n (by omega), hr_n (by omega), hr_s, up_n (by omega)]; exact uh q q0 (by omega)
    · rw [m11, hr_n (by omega), hr_n (by omega), hr_n (by omega), hr_n (by omega), hr_n (by omega)]; exact rl5
    · rw [m12, hr_n (by omega), hr_n (by omega), hr_n (by omega), hr_n (by omega), hr_n (by omega)]; exact rl6
    · rw [m13, hr_n (by omega), hr_n (by omega), hr_n (by omega), hr_n (by omega), hr_n (by omega)]; exact rl7
    · rw [m14, hr_n (by omega), hr_n (by omega), hr_n (by omega), hr_n (by omega), hr_n (by omega)]; exact rl8
    · rw [hr_n (by omega), hr_n (by omega), hr_n (by omega), hr_n (by omega), hr_n (by omega)]; exact rfu.1
    · rw [hr_n (by omega), hr_n (by omega), hr_n (by omega), hr_n (by omega), hr_n (by omega), rfu.2 k, k6]
      by_cases e : (k : Int) = mp 130
      · rw [decide_eq_false (by omega), decide_eq_false (fun z => by rw [e] at z; exact k5 z.2)]
      · by_cases e2 : (k : Int) < mp 130
        · rw [k7 (88 + (10 + (k : Int))) (by omega) (by omega) (by omega) (by omega) (by omega) (by omega) (by omega) (by omega)]
          congr 1
          rw [eq_iff_iff]
          constructor
          · rintro ⟨z1, z2⟩; exact ⟨by omega, z2⟩
          · rintro ⟨z1, z2⟩; exact ⟨e2, z2⟩
        · rw [decide_eq_false (by omega), decide_eq_false (by omega)]
    · rw [hr_n (by omega), hr_s]
      by_cases e : q = 10 + mp 130
      · rw [e, up_s, k3]
      · rw [up_n e, k7 (44 + q) (by omega) (by omega) (by omega) (by omega) (by omega) (by omega) (by omega) (by omega)]
        exact rca q q0 (by omega)
    · rw [hr_s]
      by_cases e : q = 10 + mp 130
      · rw [e, up_s, k4]
      · rw [up_n e, k7 (66 + q) (by omega) (by omega) (by omega) (by omega) (by omega) (by omega) (by omega) (by omega)]
        exact rre q q0 (by omega)
    · rw [m15, hr_n (by omega), hr_n (by omega), hr_n (by omega), hr_n (by omega), hr_n (by omega)]; exact rnu
    · rw [hr_n (by omega), hr_n (by omega), hr_n (by omega), hr_n (by omega), hr_n (by omega), hr_n (by omega), hr_n (by omega), hr_n (by omega), hr_n (by omega), hr_n (by omega), hr_n (by omega), hr_n (by omega), hr_n (by omega), hr_n (by omega), hr_n (by omega)]
      rw [k7 (110 + 3 * q) (by omega) (by omega) (by omega) (by omega) (by omega) (by omega) (by omega) (by omega), k7 (111 + 3 * q) (by omega) (by omega) (by omega) (by omega) (by omega) (by omega) (by omega) (by omega), k7 (112 + 3 * q) (by omega) (by omega) (by omega) (by omega) (by omega) (by omega) (by omega) (by omega)]
      exact rdv q q0 (by omega)

