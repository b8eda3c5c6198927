/-! THE REFERENCE: lay -/
theorem dX8_lay_0 : decode cX8_lay 0 = .ok (.aload_n 0, 1) := by decide +kernel
theorem dX8_lay_1 : decode cX8_lay 1 = .ok (.invokevirtual 112, 3) := by decide +kernel
theorem dX8_lay_4 : decode cX8_lay 4 = .ok (.bipush (-4), 2) := by decide +kernel
theorem dX8_lay_6 : decode cX8_lay 6 = .ok (.if_icmp .ne 14, 3) := by decide +kernel
theorem dX8_lay_9 : decode cX8_lay 9 = .ok (.aload_n 0, 1) := by decide +kernel
theorem dX8_lay_10 : decode cX8_lay 10 = .ok (.getfield 25, 3) := by decide +kernel
theorem dX8_lay_13 : decode cX8_lay 13 = .ok (.sipush 130, 3) := by decide +kernel
theorem dX8_lay_16 : decode cX8_lay 16 = .ok (.iaload, 1) := by decide +kernel
theorem dX8_lay_17 : decode cX8_lay 17 = .ok (.ifCond .ne 6, 3) := by decide +kernel
theorem dX8_lay_20 : decode cX8_lay 20 = .ok (.bipush (-2), 2) := by decide +kernel
theorem dX8_lay_22 : decode cX8_lay 22 = .ok (.ireturn, 1) := by decide +kernel
theorem dX8_lay_23 : decode cX8_lay 23 = .ok (.aload_n 0, 1) := by decide +kernel
theorem dX8_lay_24 : decode cX8_lay 24 = .ok (.aload_n 0, 1) := by decide +kernel
theorem dX8_lay_25 : decode cX8_lay 25 = .ok (.getfield 25, 3) := by decide +kernel
theorem dX8_lay_28 : decode cX8_lay 28 = .ok (.aload_n 0, 1) := by decide +kernel
theorem dX8_lay_29 : decode cX8_lay 29 = .ok (.getfield 13, 3) := by decide +kernel
theorem dX8_lay_32 : decode cX8_lay 32 = .ok (.invokevirtual 134, 3) := by decide +kernel
theorem dX8_lay_35 : decode cX8_lay 35 = .ok (.aload_n 0, 1) := by decide +kernel
theorem dX8_lay_36 : decode cX8_lay 36 = .ok (.invokevirtual 82, 3) := by decide +kernel
theorem dX8_lay_39 : decode cX8_lay 39 = .ok (.aload_n 0, 1) := by decide +kernel
theorem dX8_lay_40 : decode cX8_lay 40 = .ok (.getfield 13, 3) := by decide +kernel
theorem dX8_lay_43 : decode cX8_lay 43 = .ok (.sipush 130, 3) := by decide +kernel
theorem dX8_lay_46 : decode cX8_lay 46 = .ok (.iaload, 1) := by decide +kernel
theorem dX8_lay_47 : decode cX8_lay 47 = .ok (.ireturn, 1) := by decide +kernel
set_option maxHeartbeats 4000000 in
set_option maxRecDepth 20000 in
theorem c_X8_lay : ConI mX8_lay (fun args N lay r h Q => ∃ (b : Nat) (mp : Int → Int) (n : Int) (tx : Int → Int), args = [.ref b] ∧ MdAt lay r b ∧ h (b + 2) = mp ∧ h b 0 = n ∧ h (b + 1) = tx ∧ (0 ≤ n ∧ n ≤ 200) ∧ WaT (h (b + 7)) ∧ (¬ ((rds n tx 201 0 (bgn (h (b + 6)))).1 = -4 ∧ (rds n tx 201 0 (bgn (h (b + 6)))).2 130 ≠ 0) → ∀ h2, Fr h h2 (fun x => x = b ∨ x = b + 6) → h2 b = up (h b) 24 (h2 b 24) → Q (-2) N lay r h2) ∧ (((rds n tx 201 0 (bgn (h (b + 6)))).1 = -4 ∧ (rds n tx 201 0 (bgn (h (b + 6)))).2 130 ≠ 0) → ∀ (h2 : HpT) (e : Int), Fr h h2 (fun x => x = b ∨ x = b + 2 ∨ x = b + 6 ∨ x = b + 3 ∨ x = b + 4 ∨ x = b + 8 ∨ x = b + 9 ∨ x = b + 10 ∨ x = b + 11 ∨ x = b + 12 ∨ x = b + 14 ∨ x = b + 15) → TlI (rds n tx 201 0 (bgn (h (b + 6)))).2 → h2 (b + 2) = (cpR (rds n tx 201 0 (bgn (h (b + 6)))).2 mp 136) → h2 b = up (up (up (up (h b) 24 e) 5 1) 17 (iSl 1 ((rds n tx 201 0 (bgn (h (b + 6)))).2 130) - 1)) 19 0 → (∀ q, 0 ≤ q → q < 5 → h2 (b + 4) q = if q = 1 then 1 else 0) → h2 (b + 3) = kpR (h (b + 3)) (cpR (rds n tx 201 0 (bgn (h (b + 6)))).2 mp 136) 1 136 → (∀ j, 0 ≤ j → j < 64 → h2 (b + 12) j = plc (cpR (rds n tx 201 0 (bgn (h (b + 6)))).2 mp 136) (j / 4) (j % 4)) → (∀ q, 0 ≤ q → q < 16 → h2 (b + 14) q = pb (h2 (b + 12)) q) → (∀ q, 0 ≤ q → q < 16 → h2 (b + 15) q = 0) → Q ((rds n tx 201 0 (bgn (h (b + 6)))).2 130) N lay r h2)) := by
  refine ConI.of (by decide) (by rintro _ N lay r h Q ⟨b, mp, n, tx, rfl, hM, hmp, hn, htx, hn2, hwa, hB, hQ⟩; exact ⟨rfl, Nat.le_of_ble_eq_true rfl⟩) ?_
  rintro E _ N lay r h Q ⟨b, mp, n, tx, rfl, hM, hmp, hn, htx, hn2, hwa, hB, hQ⟩ hret
  obtain ⟨ml0, ml1, ml2, ml3, ml4, ml5, ml6, ml7, ml8, ml9, ml10, ml11, ml12, ml13, ml14, ml15, ml16, ml17, ml18, ml19, ml20, mr1, mr2, mr3, mr4, mr5, mr6, mr7, mr8, mr9, mr10, mr11, mr12, mr13, mr14, mr15, mr16, mr17, mr18, mr19, mr20⟩ := id hM
  show St E mX8_lay 0 [some (.ref b)] [] (0, 0) N lay r h
  refine r_aload_0 (pc := 0) dX8_lay_0 ?_
  refine k_VI0 (pc := 1) c_X8_reads lk_X8_112 ⟨Nat.le_of_ble_eq_true rfl, Nat.le_of_ble_eq_true rfl⟩ ⟨rfl, rfl⟩ ⟨Nat.le_of_ble_eq_true rfl, Nat.le_of_ble_eq_true rfl⟩ (k := 8) rfl (by decide) (by assumption) dX8_lay_1 (Nat.le_of_ble_eq_true rfl) ?_
  refine ⟨_, _, _, rfl, by assumption, by first | assumption | exact rfl, by first | assumption | exact rfl, by omega, fun h_1 f_1 o_1 t_1 v_1 b_1 => ?_⟩
  refine r_bipush (pc := 4) dX8_lay_4 (by decide) ?_
  refine r_icmp_ne (pc := 6) (tgt := 20) dX8_lay_6 (by decide) (by omega) (by omega) (fun c_6 => ?_) (fun c_6 => ?_)
  · refine r_bipush (pc := 20) dX8_lay_20 (by decide) ?_
    refine r_iret (pc := 22) hret dX8_lay_22 rfl rfl rfl ?_
    first
    | (have k9 : (rds n tx 201 0 (bgn (h (b + 6)))).1 ≠ -4 := c_6
       exact hB (fun z => k9 z.1) h_1 f_1 o_1)
    | (have k9 : (rds n tx 201 0 (bgn (h (b + 6)))).2 130 = 0 := c_17
       exact hB (fun z => z.2 k9) h_1 f_1 o_1)
    | (refine hQ ⟨c_6, c_17⟩ h_36 (h_1 b 24) (fun x hx => ?_) hI m_36 ?_ k_36 ?_ a_36 ho_36 hs_36
       · rw [f_36 x (by omega), hr_n (by omega), f_1 x (by omega)]
       · rw [o_36, hr_n (by omega), o_1, e130, up_s]
       · rw [q_36, hr_n (by omega), f_1 _ (by omega)])
  · refine r_aload_0 (pc := 9) dX8_lay_9 ?_
    refine gf_X8_25 (pc := 10) rfl (by assumption) dX8_lay_10 (by assumption) ?_
    refine r_sipush (pc := 13) dX8_lay_13 (by decide) ?_
    refine r_ialdE (pc := 16) (by assumption) t_1 dX8_lay_16 (by omega) (by omega) (fun i_16 => ?_)
    refine r_if_ne (pc := 17) (tgt := 23) dX8_lay_17 (by decide) (by omega) (fun c_17 => ?_) (fun c_17 => ?_)
    · refine r_aload_0 (pc := 23) dX8_lay_23 ?_
      refine r_aload_0 (pc := 24) dX8_lay_24 ?_
      refine gf_X8_25 (pc := 25) rfl (by assumption) dX8_lay_25 (by assumption) ?_
      refine r_aload_0 (pc := 28) dX8_lay_28 ?_
      refine gf_X8_13 (pc := 29) rfl (by assumption) dX8_lay_29 (by assumption) ?_
      refine k_VV2 (pc := 32) c_X8_copies lk_X8_134 ⟨Nat.le_of_ble_eq_true rfl, Nat.le_of_ble_eq_true rfl⟩ ⟨rfl, rfl⟩ ⟨Nat.le_of_ble_eq_true rfl, Nat.le_of_ble_eq_true rfl⟩ (k := 8) rfl (by decide) (by assumption) dX8_lay_32 (Nat.le_of_ble_eq_true rfl) ?_
      refine ⟨_, _, _, rfl, by assumption, by assumption, by omega, ?_⟩
      refine r_aload_0 (pc := 35) dX8_lay_35 ?_
      have hI := v_1 c_6
      have e32 : (hr h_1 (b + 2) (cpR (h_1 (b + 6)) (h_1 (b + 2)) 136)) = hr h_1 (b + 2) (cpR (rds n tx 201 0 (bgn (h (b + 6)))).2 mp 136) := by rw [t_1, f_1 (b + 2) (by omega), hmp]
      rw [e32]
      have em2 : hr h_1 (b + 2) (cpR (rds n tx 201 0 (bgn (h (b + 6)))).2 mp 136) (b + 2) = (cpR (rds n tx 201 0 (bgn (h (b + 6)))).2 mp 136) := hr_s
      have ec : ∀ j, 0 ≤ j → j < 136 → (cpR (rds n tx 201 0 (bgn (h (b + 6)))).2 mp 136) j = (rds n tx 201 0 (bgn (h (b + 6)))).2 j := fun j j0 j1 => if_pos ⟨j0, j1⟩
      have hT2 : TrM (cpR (rds n tx 201 0 (bgn (h (b + 6)))).2 mp 136) := TrM_c hI.1 (fun j hj => ec j (by omega) (by omega))
      have hR2 : RlM (cpR (rds n tx 201 0 (bgn (h (b + 6)))).2 mp 136) := RlM_c hI.2.1 hI.1 (fun j hj => ec j (by omega) (by omega))
      have e130 : (cpR (rds n tx 201 0 (bgn (h (b + 6)))).2 mp 136) 130 = (rds n tx 201 0 (bgn (h (b + 6)))).2 130 := ec 130 (by omega) (by omega)
      have hwa2 : WaT (hr h_1 (b + 2) (cpR (rds n tx 201 0 (bgn (h (b + 6)))).2 mp 136) (b + 7)) := by rw [hr_n (by omega), f_1 _ (by omega)]; exact hwa
      refine k_VV0 (pc := 36) c_X8_lays lk_X8_82 ⟨Nat.le_of_ble_eq_true rfl, Nat.le_of_ble_eq_true rfl⟩ ⟨rfl, rfl⟩ ⟨Nat.le_of_ble_eq_true rfl, Nat.le_of_ble_eq_true rfl⟩ (k := 8) rfl (by decide) (by assumption) dX8_lay_36 (Nat.le_of_ble_eq_true rfl) ?_
      refine ⟨_, _, rfl, hM, em2, hT2, hR2, hwa2, fun h_36 f_36 o_36 k_36 q_36 a_36 ho_36 hs_36 => ?_⟩
      have m_36 : h_36 (b + 2) = (cpR (rds n tx 201 0 (bgn (h (b + 6)))).2 mp 136) := (f_36 _ (by omega)).trans em2
      refine r_aload_0 (pc := 39) dX8_lay_39 ?_
      refine gf_X8_13 (pc := 40) rfl (by assumption) dX8_lay_40 (by assumption) ?_
      refine r_sipush (pc := 43) dX8_lay_43 (by decide) ?_
      refine r_ialdE (pc := 46) (by assumption) m_36 dX8_lay_46 (by omega) (by omega) (fun i_46 => ?_)
      rw [e130]
      refine r_iret (pc := 47) hret dX8_lay_47 rfl rfl rfl ?_
      first
      | (have k9 : (rds n tx 201 0 (bgn (h (b + 6)))).1 ≠ -4 := c_6
         exact hB (fun z => k9 z.1) h_1 f_1 o_1)
      | (have k9 : (rds n tx 201 0 (bgn (h (b + 6)))).2 130 = 0 := c_17
         exact hB (fun z => z.2 k9) h_1 f_1 o_1)
      | (refine hQ ⟨c_6, c_17⟩ h_36 (h_1 b 24) (fun x hx => ?_) hI m_36 ?_ k_36 ?_ a_36 ho_36 hs_36
         · rw [f_36 x (by omega), hr_n (by omega), f_1 x (by omega)]
         · rw [o_36, hr_n (by omega), o_1, e130, up_s]
         · rw [q_36, hr_n (by omega), f_1 _ (by omega)])
    · refine r_bipush (pc := 20) dX8_lay_20 (by decide) ?_
      refine r_iret (pc := 22) hret dX8_lay_22 rfl rfl rfl ?_
      first
      | (have k9 : (rds n tx 201 0 (bgn (h (b + 6)))).1 ≠ -4 := c_6
         exact hB (fun z => k9 z.1) h_1 f_1 o_1)
      | (have k9 : (rds n tx 201 0 (bgn (h (b + 6)))).2 130 = 0 := c_17
         exact hB (fun z => z.2 k9) h_1 f_1 o_1)
      | (refine hQ ⟨c_6, c_17⟩ h_36 (h_1 b 24) (fun x hx => ?_) hI m_36 ?_ k_36 ?_ a_36 ho_36 hs_36
         · rw [f_36 x (by omega), hr_n (by omega), f_1 x (by omega)]
         · rw [o_36, hr_n (by omega), o_1, e130, up_s]
         · rw [q_36, hr_n (by omega), f_1 _ (by omega)])

