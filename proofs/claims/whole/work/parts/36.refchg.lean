/-! THE REFERENCE: changes of the map -/
/-- h2 is h after a new epoch with the map mp, where hb was the object's row -/
def Ch (b : Nat) (h : HpT) (hb : Int → Int) (h2 : HpT) (mp : Int → Int) : Prop := Fr h h2 (fun x => x = b ∨ x = b + 2 ∨ x = b + 3 ∨ x = b + 4 ∨ x = b + 8 ∨ x = b + 9 ∨ x = b + 10 ∨ x = b + 11 ∨ x = b + 12) ∧ h2 (b + 2) = mp ∧ h2 b = up hb 5 (hb 5 + 1) ∧ h2 (b + 4) = up (h (b + 4)) ((hb 5 + 1) % 5) (hb 5 + 1) ∧ h2 (b + 3) = kpR (h (b + 3)) mp ((hb 5 + 1) % 5) 136 ∧ ∀ j, 0 ≤ j → j < 64 → h2 (b + 12) j = plc mp (j / 4) (j % 4)
theorem Ch_of {b : Nat} {h H h2 : HpT} {mp hb : Int → Int} (g : Fr h H (fun x => x = b ∨ x = b + 2)) (gb : H b = hb) (gm : H (b + 2) = mp) (f : Fr H h2 (fun x => x = b ∨ x = b + 3 ∨ x = b + 4 ∨ x = b + 8 ∨ x = b + 9 ∨ x = b + 10 ∨ x = b + 11 ∨ x = b + 12)) (o_ : h2 b = up (H b) 5 (H b 5 + 1)) (k_ : h2 (b + 4) = up (H (b + 4)) ((H b 5 + 1) % 5) (H b 5 + 1)) (q_ : h2 (b + 3) = kpR (H (b + 3)) mp ((H b 5 + 1) % 5) 136) (a_ : ∀ j, 0 ≤ j → j < 64 → h2 (b + 12) j = plc mp (j / 4) (j % 4)) : Ch b h hb h2 mp := by
  rw [gb] at o_ k_ q_
  rw [g (b + 4) (by omega)] at k_
  rw [g (b + 3) (by omega)] at q_
  exact ⟨fun x hx => (f x (by omega)).trans (g x (by omega)), (f _ (by omega)).trans gm, o_, k_, q_, a_⟩
theorem TrM_c {mp mq : Int → Int} (h : TrM mp) (e : ∀ j, (0 ≤ j ∧ j < 44) ∨ (128 ≤ j ∧ j ≤ 130) → mq j = mp j) : TrM mq := by
  obtain ⟨t1, t2, t3, t4, t5, t6, t7⟩ := h
  have e8 := e 128 (by omega)
  have e9 := e 129 (by omega)
  have e0 := e 130 (by omega)
  refine ⟨by rw [e8]; exact t1, by rw [e9]; exact t2, by rw [e0]; exact t3, fun n n0 n1 => by rw [e _ (by omega)]; exact t4 n n0 n1, fun n n0 n1 => ?_, fun n n0 n1 => ?_, fun n n0 n1 => ?_⟩
  · rw [e9] at n1
    rw [e n (by omega), e8]; exact t5 n n0 n1
  · rw [e0] at n1
    rw [e n (by omega), e9]; exact t6 n n0 n1
  · rw [e0] at n1
    rw [e _ (by omega)]; exact t7 n n0 n1
theorem RlM_c {mp mq : Int → Int} (h : RlM mp) (hT : TrM mp) (e : ∀ j, (44 ≤ j ∧ j < 128) ∨ (130 ≤ j ∧ j ≤ 135) → mq j = mp j) : RlM mq := by
  obtain ⟨r1, r2, r3, r4, r5, r6, r7⟩ := h
  have t3 := hT.2.2.1
  have e0 := e 130 (by omega)
  have e5 := e 135 (by omega)
  refine ⟨by rw [e _ (by omega)]; exact r1, by rw [e _ (by omega)]; exact r2, by rw [e _ (by omega)]; exact r3, by rw [e _ (by omega)]; exact r4, by rw [e5]; exact r5, fun n n0 n1 => ?_, fun n n0 n1 => ?_⟩
  · rw [e0] at n1
    rw [e _ (by omega), e _ (by omega), e _ (by omega)]; exact r6 n n0 n1
  · rw [e5] at n1
    rw [e _ (by omega), e _ (by omega), e _ (by omega), e _ (by omega)]; exact r7 n n0 n1
theorem RlM_rw {mp : Int → Int} {d w : Int} (h : RlM mp) (hT : TrM mp) (hd : 10 ≤ d ∧ d < 10 + mp 130) (hw : 0 ≤ w ∧ w ≤ 16) : RlM (up mp (66 + d) w) := by
  obtain ⟨r1, r2, r3, r4, r5, r6, r7⟩ := h
  have t3 := hT.2.2.1
  have e : ∀ j, j ≠ 66 + d → up mp (66 + d) w j = mp j := fun j hj => up_n hj
  refine ⟨by rw [e _ (by omega)]; exact r1, by rw [e _ (by omega)]; exact r2, by rw [e _ (by omega)]; exact r3, by rw [e _ (by omega)]; exact r4, by rw [e _ (by omega)]; exact r5, fun n n0 n1 => ?_, fun n n0 n1 => ?_⟩
  · rw [e 130 (by omega)] at n1
    have q6 := r6 n n0 n1
    rw [e (44 + n) (by omega), e (88 + n) (by omega)]
    by_cases en : n = d
    · rw [en, up_s]; rw [en] at q6; exact ⟨q6.1, hw, q6.2.2⟩
    · rw [e _ (by omega)]; exact q6
  · rw [e 135 (by omega)] at n1
    rw [e _ (by omega), e _ (by omega), e _ (by omega), e _ (by omega)]; exact r7 n n0 n1
theorem RlM_rule {mp : Int → Int} {x y z : Int} (h : RlM mp) (hT : TrM mp) (hx : 1 ≤ x ∧ x ≤ 4) (hy : 1 ≤ y ∧ y ≤ 3) (hz : 0 ≤ z ∧ z ≤ 1) : RlM (up (up (up mp 131 x) 132 y) 133 z) := by
  obtain ⟨r1, r2, r3, r4, r5, r6, r7⟩ := h
  have t3 := hT.2.2.1
  have e : ∀ j, j ≠ 131 → j ≠ 132 → j ≠ 133 → up (up (up mp 131 x) 132 y) 133 z j = mp j := fun j h1 h2 h3 => by rw [up_n h3, up_n h2, up_n h1]
  refine ⟨hx, hy, hz, by rw [e _ (by omega) (by omega) (by omega)]; exact r4, by rw [e _ (by omega) (by omega) (by omega)]; exact r5, fun n n0 n1 => ?_, fun n n0 n1 => ?_⟩
  · rw [e 130 (by omega) (by omega) (by omega)] at n1
    rw [e _ (by omega) (by omega) (by omega), e _ (by omega) (by omega) (by omega), e _ (by omega) (by omega) (by omega)]; exact r6 n n0 n1
  · rw [e 135 (by omega) (by omega) (by omega)] at n1
    rw [e _ (by omega) (by omega) (by omega), e _ (by omega) (by omega) (by omega), e _ (by omega) (by omega) (by omega), e _ (by omega) (by omega) (by omega)]; exact r7 n n0 n1
theorem TrM_rack {mp : Int → Int} {x : Int} (h : TrM mp) (hx : 1 ≤ x ∧ x ≤ mp 128) (h6 : mp 129 < 6) : TrM (up (up mp (4 + mp 129) x) 129 (mp 129 + 1)) := by
  obtain ⟨t1, t2, t3, t4, t5, t6, t7⟩ := h
  have e : ∀ j, j ≠ 4 + mp 129 → j ≠ 129 → up (up mp (4 + mp 129) x) 129 (mp 129 + 1) j = mp j := fun j h1 h2 => by rw [up_n h2, up_n h1]
  have e9 : up (up mp (4 + mp 129) x) 129 (mp 129 + 1) 129 = mp 129 + 1 := up_s
  have e4 : up (up mp (4 + mp 129) x) 129 (mp 129 + 1) (4 + mp 129) = x := by rw [up_n (by omega), up_s]
  have e8 := e 128 (by omega) (by omega)
  have e0 := e 130 (by omega) (by omega)
  refine ⟨by rw [e8]; exact t1, by rw [e9]; omega, by rw [e0]; exact t3, fun n n0 n1 => by rw [e _ (by omega) (by omega)]; exact t4 n n0 n1, fun n n0 n1 => ?_, fun n n0 n1 => ?_, fun n n0 n1 => ?_⟩
  · rw [e9] at n1
    rw [e8]
    by_cases en : n = 4 + mp 129
    · rw [en, e4]; exact hx
    · rw [e n en (by omega)]; exact t5 n n0 (by omega)
  · rw [e0] at n1
    have := t6 n n0 n1
    rw [e n (by omega) (by omega), e9]; omega
  · rw [e0] at n1
    rw [e _ (by omega) (by omega)]; exact t7 n n0 n1
theorem TrM_move {mp : Int → Int} {n x : Int} (h : TrM mp) (hx : (4 ≤ n ∧ n ≤ 3 + mp 129 ∧ 1 ≤ x ∧ x ≤ mp 128) ∨ (10 ≤ n ∧ n ≤ 9 + mp 130 ∧ 4 ≤ x ∧ x ≤ 3 + mp 129)) : TrM (up mp n x) := by
  obtain ⟨t1, t2, t3, t4, t5, t6, t7⟩ := h
  have e : ∀ j, j ≠ n → up mp n x j = mp j := fun j h1 => up_n h1
  have e8 := e 128 (by omega)
  have e9 := e 129 (by omega)
  have e0 := e 130 (by omega)
  refine ⟨by rw [e8]; exact t1, by rw [e9]; omega, by rw [e0]; exact t3, fun n n0 n1 => by rw [e _ (by omega)]; exact t4 n n0 n1, fun m n0 n1 => ?_, fun m n0 n1 => ?_, fun m n0 n1 => ?_⟩
  · rw [e9] at n1
    rw [e8]
    by_cases en : m = n
    · rw [en, up_s]; omega
    · rw [e m en]; exact t5 m n0 n1
  · rw [e0] at n1
    rw [e9]
    by_cases en : m = n
    · rw [en, up_s]; omega
    · rw [e m en]; exact t6 m n0 n1
  · rw [e0] at n1
    rw [e _ (by omega)]; exact t7 m n0 n1
theorem dX8_weigh_0 : decode cX8_weigh 0 = .ok (.aload_n 0, 1) := by decide +kernel
theorem dX8_weigh_1 : decode cX8_weigh 1 = .ok (.iload_n 1, 1) := by decide +kernel
theorem dX8_weigh_2 : decode cX8_weigh 2 = .ok (.invokevirtual 147, 3) := by decide +kernel
theorem dX8_weigh_5 : decode cX8_weigh 5 = .ok (.ifCond .eq 14, 3) := by decide +kernel
theorem dX8_weigh_8 : decode cX8_weigh 8 = .ok (.aload_n 0, 1) := by decide +kernel
theorem dX8_weigh_9 : decode cX8_weigh 9 = .ok (.iload_n 2, 1) := by decide +kernel
theorem dX8_weigh_10 : decode cX8_weigh 10 = .ok (.iconst 0, 1) := by decide +kernel
theorem dX8_weigh_11 : decode cX8_weigh 11 = .ok (.bipush 40, 2) := by decide +kernel
theorem dX8_weigh_13 : decode cX8_weigh 13 = .ok (.invokevirtual 137, 3) := by decide +kernel
theorem dX8_weigh_16 : decode cX8_weigh 16 = .ok (.ifCond .ne 5, 3) := by decide +kernel
theorem dX8_weigh_19 : decode cX8_weigh 19 = .ok (.iconst (-1), 1) := by decide +kernel
theorem dX8_weigh_20 : decode cX8_weigh 20 = .ok (.ireturn, 1) := by decide +kernel
theorem dX8_weigh_21 : decode cX8_weigh 21 = .ok (.aload_n 0, 1) := by decide +kernel
theorem dX8_weigh_22 : decode cX8_weigh 22 = .ok (.getfield 13, 3) := by decide +kernel
theorem dX8_weigh_25 : decode cX8_weigh 25 = .ok (.bipush 22, 2) := by decide +kernel
theorem dX8_weigh_27 : decode cX8_weigh 27 = .ok (.iload_n 1, 1) := by decide +kernel
theorem dX8_weigh_28 : decode cX8_weigh 28 = .ok (.iadd, 1) := by decide +kernel
theorem dX8_weigh_29 : decode cX8_weigh 29 = .ok (.iaload, 1) := by decide +kernel
theorem dX8_weigh_30 : decode cX8_weigh 30 = .ok (.istore_n 3, 1) := by decide +kernel
theorem dX8_weigh_31 : decode cX8_weigh 31 = .ok (.iload_n 3, 1) := by decide +kernel
theorem dX8_weigh_32 : decode cX8_weigh 32 = .ok (.iload_n 2, 1) := by decide +kernel
theorem dX8_weigh_33 : decode cX8_weigh 33 = .ok (.if_icmp .ne 6, 3) := by decide +kernel
theorem dX8_weigh_36 : decode cX8_weigh 36 = .ok (.bipush (-2), 2) := by decide +kernel
theorem dX8_weigh_38 : decode cX8_weigh 38 = .ok (.ireturn, 1) := by decide +kernel
theorem dX8_weigh_39 : decode cX8_weigh 39 = .ok (.aload_n 0, 1) := by decide +kernel
theorem dX8_weigh_40 : decode cX8_weigh 40 = .ok (.getfield 13, 3) := by decide +kernel
theorem dX8_weigh_43 : decode cX8_weigh 43 = .ok (.bipush 22, 2) := by decide +kernel
theorem dX8_weigh_45 : decode cX8_weigh 45 = .ok (.iload_n 1, 1) := by decide +kernel
theorem dX8_weigh_46 : decode cX8_weigh 46 = .ok (.iadd, 1) := by decide +kernel
theorem dX8_weigh_47 : decode cX8_weigh 47 = .ok (.iload_n 2, 1) := by decide +kernel
theorem dX8_weigh_48 : decode cX8_weigh 48 = .ok (.iastore, 1) := by decide +kernel
theorem dX8_weigh_49 : decode cX8_weigh 49 = .ok (.aload_n 0, 1) := by decide +kernel
theorem dX8_weigh_50 : decode cX8_weigh 50 = .ok (.invokevirtual 223, 3) := by decide +kernel
theorem dX8_weigh_53 : decode cX8_weigh 53 = .ok (.iload_n 3, 1) := by decide +kernel
theorem dX8_weigh_54 : decode cX8_weigh 54 = .ok (.ireturn, 1) := by decide +kernel
set_option maxHeartbeats 4000000 in
set_option maxRecDepth 20000 in
theorem c_X8_weigh : ConI mX8_weigh (fun args N lay r h Q => ∃ (b : Nat) (mp : Int → Int) (d w : Int), args = [.ref b, vI d, vI w] ∧ MdAt lay r b ∧ h (b + 2) = mp ∧ TrM mp ∧ RlM mp ∧ (-2147483648 ≤ d ∧ d < 2147483648) ∧ (-2147483648 ≤ w ∧ w < 2147483648) ∧ WaT (h (b + 7)) ∧ (1 ≤ h b 5 ∧ h b 5 < 2147483647) ∧ (¬ ((10 ≤ d ∧ d ≤ 9 + mp 130) ∧ (0 ≤ w ∧ w ≤ 40)) → Q (-1) N lay r h) ∧ (((10 ≤ d ∧ d ≤ 9 + mp 130) ∧ (0 ≤ w ∧ w ≤ 40)) → (mp (22 + d) = w → Q (-2) N lay r h) ∧ (mp (22 + d) ≠ w → ∀ h2, Ch b h (h b) h2 (up mp (22 + d) w) → Q (mp (22 + d)) N lay r h2))) := by
  refine ConI.of (by decide) (by rintro _ N lay r h Q ⟨b, mp, d, w, rfl, hM, hmp, hT, hR, hd, hw, hwa, hep, hB, hQ⟩; exact ⟨rfl, Nat.le_of_ble_eq_true rfl⟩) ?_
  rintro E _ N lay r h Q ⟨b, mp, d, w, rfl, hM, hmp, hT, hR, hd, hw, hwa, hep, hB, hQ⟩ hret
  obtain ⟨ml0, ml1, ml2, ml3, ml4, ml5, ml6, ml7, ml8, ml9, ml10, ml11, ml12, ml13, ml14, ml15, ml16, ml17, ml18, ml19, ml20, mr1, mr2, mr3, mr4, mr5, mr6, mr7, mr8, mr9, mr10, mr11, mr12, mr13, mr14, mr15, mr16, mr17, mr18, mr19, mr20⟩ := id hM
  obtain ⟨t1, t2, t3, t4, t5, t6, t7⟩ := id hT
  obtain ⟨r1, r2, r3, r4, r5, r6, r7⟩ := id hR
  show St E mX8_weigh 0 [some (.ref b), some (vI d), some (vI w), none] [] (0, 0) N lay r h
  refine r_aload_0 (pc := 0) dX8_weigh_0 ?_
  refine r_iload_1 (pc := 1) dX8_weigh_1 ?_
  refine k_VI1 (pc := 2) c_X8_isDisk lk_X8_147 ⟨Nat.le_of_ble_eq_true rfl, Nat.le_of_ble_eq_true rfl⟩ ⟨rfl, rfl⟩ ⟨Nat.le_of_ble_eq_true rfl, Nat.le_of_ble_eq_true rfl⟩ (k := 8) rfl (by decide) (by assumption) dX8_weigh_2 (Nat.le_of_ble_eq_true rfl) ?_
  refine ⟨_, _, _, rfl, by assumption, by first | assumption | exact rfl, by omega, by omega, ?_⟩
  refine r_ifeq_b (pc := 5) (tgt := 19) dX8_weigh_5 (by decide) (fun c_5 => ?_) (fun c_5 => ?_)
  · refine r_iconst (pc := 19) dX8_weigh_19 ?_
    refine r_iret (pc := 20) hret dX8_weigh_20 rfl rfl rfl ?_
    first | exact hB (by omega) | exact (hQ (by omega)).1 c_33 | exact (hQ (by omega)).2 c_33 h_50 ch
  · refine r_aload_0 (pc := 8) dX8_weigh_8 ?_
    refine r_iload_2 (pc := 9) dX8_weigh_9 ?_
    refine r_iconst (pc := 10) dX8_weigh_10 ?_
    refine r_bipush (pc := 11) dX8_weigh_11 (by decide) ?_
    refine k_VI3 (pc := 13) c_X8_isIn lk_X8_137 ⟨Nat.le_of_ble_eq_true rfl, Nat.le_of_ble_eq_true rfl⟩ ⟨rfl, rfl⟩ ⟨Nat.le_of_ble_eq_true rfl, Nat.le_of_ble_eq_true rfl⟩ (k := 8) rfl (by decide) (by assumption) dX8_weigh_13 (Nat.le_of_ble_eq_true rfl) ?_
    refine ⟨_, _, _, _, rfl, by omega, by omega, by omega, ?_⟩
    refine r_ifne_b (pc := 16) (tgt := 21) dX8_weigh_16 (by decide) (fun c_16 => ?_) (fun c_16 => ?_)
    · refine r_aload_0 (pc := 21) dX8_weigh_21 ?_
      refine gf_X8_13 (pc := 22) rfl (by assumption) dX8_weigh_22 (by assumption) ?_
      refine r_bipush (pc := 25) dX8_weigh_25 (by decide) ?_
      refine r_iload_1 (pc := 27) dX8_weigh_27 ?_
      refine r_iadd (pc := 28) dX8_weigh_28 ?_
      refine r_ialdE (pc := 29) (by assumption) (by first | assumption | exact rfl) dX8_weigh_29 (by omega) (by omega) (fun i_29 => ?_)
      refine r_istore_3 (pc := 30) dX8_weigh_30 rfl ?_
      refine r_iload_3 (pc := 31) dX8_weigh_31 ?_
      refine r_iload_2 (pc := 32) dX8_weigh_32 ?_
      refine r_icmp_ne (pc := 33) (tgt := 39) dX8_weigh_33 (by decide) (by omega) (by omega) (fun c_33 => ?_) (fun c_33 => ?_)
      · refine r_aload_0 (pc := 39) dX8_weigh_39 ?_
        refine gf_X8_13 (pc := 40) rfl (by assumption) dX8_weigh_40 (by assumption) ?_
        refine r_bipush (pc := 43) dX8_weigh_43 (by decide) ?_
        refine r_iload_1 (pc := 45) dX8_weigh_45 ?_
        refine r_iadd (pc := 46) dX8_weigh_46 ?_
        refine r_iload_2 (pc := 47) dX8_weigh_47 ?_
        refine r_iastE (pc := 48) (by assumption) (by first | assumption | exact rfl) dX8_weigh_48 (by omega) (by omega) (by omega) ?_
        refine r_aload_0 (pc := 49) dX8_weigh_49 ?_
        have em2 : (hr h (b + 2) (up mp (22 + d) w)) (b + 2) = (up mp (22 + d) w) := hr_s
        have hT2 : TrM (up mp (22 + d) w) := TrM_w hT (by omega) (by omega)
        have hR2 : RlM (up mp (22 + d) w) := RlM_w hR (by omega)
        have eb2 : (hr h (b + 2) (up mp (22 + d) w)) b = (h b) := hr_n (by omega)
        have g2 : Fr h (hr h (b + 2) (up mp (22 + d) w)) (fun x => x = b ∨ x = b + 2) := fun x hx => hr_n (by omega)
        have hwa2 : WaT ((hr h (b + 2) (up mp (22 + d) w)) (b + 7)) := by rw [g2 _ (by omega)]; exact hwa
        have hep2 : 1 ≤ (hr h (b + 2) (up mp (22 + d) w)) b 5 ∧ (hr h (b + 2) (up mp (22 + d) w)) b 5 < 2147483647 := by rw [eb2]; exact hep
        refine k_VV0 (pc := 50) c_X8_changed lk_X8_223 ⟨Nat.le_of_ble_eq_true rfl, Nat.le_of_ble_eq_true rfl⟩ ⟨rfl, rfl⟩ ⟨Nat.le_of_ble_eq_true rfl, Nat.le_of_ble_eq_true rfl⟩ (k := 8) rfl (by decide) (by assumption) dX8_weigh_50 (Nat.le_of_ble_eq_true rfl) ?_
        refine ⟨_, _, rfl, hM, em2, hT2, hR2, hwa2, hep2, fun h_50 f_50 o_50 k_50 q_50 a_50 => ?_⟩
        have ch := Ch_of g2 eb2 em2 f_50 o_50 k_50 q_50 a_50
        refine r_iload_3 (pc := 53) dX8_weigh_53 ?_
        refine r_iret (pc := 54) hret dX8_weigh_54 rfl rfl rfl ?_
        first | exact hB (by omega) | exact (hQ (by omega)).1 c_33 | exact (hQ (by omega)).2 c_33 h_50 ch
      · refine r_bipush (pc := 36) dX8_weigh_36 (by decide) ?_
        refine r_iret (pc := 38) hret dX8_weigh_38 rfl rfl rfl ?_
        first | exact hB (by omega) | exact (hQ (by omega)).1 c_33 | exact (hQ (by omega)).2 c_33 h_50 ch
    · refine r_iconst (pc := 19) dX8_weigh_19 ?_
      refine r_iret (pc := 20) hret dX8_weigh_20 rfl rfl rfl ?_
      first | exact hB (by omega) | exact (hQ (by omega)).1 c_33 | exact (hQ (by omega)).2 c_33 h_50 ch

theorem dX8_reweigh_0 : decode cX8_reweigh 0 = .ok (.aload_n 0, 1) := by decide +kernel
theorem dX8_reweigh_1 : decode cX8_reweigh 1 = .ok (.iload_n 1, 1) := by decide +kernel
theorem dX8_reweigh_2 : decode cX8_reweigh 2 = .ok (.invokevirtual 147, 3) := by decide +kernel
theorem dX8_reweigh_5 : decode cX8_reweigh 5 = .ok (.ifCond .eq 14, 3) := by decide +kernel
theorem dX8_reweigh_8 : decode cX8_reweigh 8 = .ok (.aload_n 0, 1) := by decide +kernel
theorem dX8_reweigh_9 : decode cX8_reweigh 9 = .ok (.iload_n 2, 1) := by decide +kernel
theorem dX8_reweigh_10 : decode cX8_reweigh 10 = .ok (.iconst 0, 1) := by decide +kernel
theorem dX8_reweigh_11 : decode cX8_reweigh 11 = .ok (.bipush 16, 2) := by decide +kernel
theorem dX8_reweigh_13 : decode cX8_reweigh 13 = .ok (.invokevirtual 137, 3) := by decide +kernel
theorem dX8_reweigh_16 : decode cX8_reweigh 16 = .ok (.ifCond .ne 5, 3) := by decide +kernel
theorem dX8_reweigh_19 : decode cX8_reweigh 19 = .ok (.iconst (-1), 1) := by decide +kernel
theorem dX8_reweigh_20 : decode cX8_reweigh 20 = .ok (.ireturn, 1) := by decide +kernel
theorem dX8_reweigh_21 : decode cX8_reweigh 21 = .ok (.aload_n 0, 1) := by decide +kernel
theorem dX8_reweigh_22 : decode cX8_reweigh 22 = .ok (.getfield 13, 3) := by decide +kernel
theorem dX8_reweigh_25 : decode cX8_reweigh 25 = .ok (.bipush 66, 2) := by decide +kernel
theorem dX8_reweigh_27 : decode cX8_reweigh 27 = .ok (.iload_n 1, 1) := by decide +kernel
theorem dX8_reweigh_28 : decode cX8_reweigh 28 = .ok (.iadd, 1) := by decide +kernel
theorem dX8_reweigh_29 : decode cX8_reweigh 29 = .ok (.iaload, 1) := by decide +kernel
theorem dX8_reweigh_30 : decode cX8_reweigh 30 = .ok (.istore_n 3, 1) := by decide +kernel
theorem dX8_reweigh_31 : decode cX8_reweigh 31 = .ok (.iload_n 3, 1) := by decide +kernel
theorem dX8_reweigh_32 : decode cX8_reweigh 32 = .ok (.iload_n 2, 1) := by decide +kernel
theorem dX8_reweigh_33 : decode cX8_reweigh 33 = .ok (.if_icmp .ne 6, 3) := by decide +kernel
theorem dX8_reweigh_36 : decode cX8_reweigh 36 = .ok (.bipush (-2), 2) := by decide +kernel
theorem dX8_reweigh_38 : decode cX8_reweigh 38 = .ok (.ireturn, 1) := by decide +kernel
theorem dX8_reweigh_39 : decode cX8_reweigh 39 = .ok (.aload_n 0, 1) := by decide +kernel
theorem dX8_reweigh_40 : decode cX8_reweigh 40 = .ok (.getfield 13, 3) := by decide +kernel
theorem dX8_reweigh_43 : decode cX8_reweigh 43 = .ok (.bipush 66, 2) := by decide +kernel
theorem dX8_reweigh_45 : decode cX8_reweigh 45 = .ok (.iload_n 1, 1) := by decide +kernel
theorem dX8_reweigh_46 : decode cX8_reweigh 46 = .ok (.iadd, 1) := by decide +kernel
theorem dX8_reweigh_47 : decode cX8_reweigh 47 = .ok (.iload_n 2, 1) := by decide +kernel
theorem dX8_reweigh_48 : decode cX8_reweigh 48 = .ok (.iastore, 1) := by decide +kernel
theorem dX8_reweigh_49 : decode cX8_reweigh 49 = .ok (.aload_n 0, 1) := by decide +kernel
theorem dX8_reweigh_50 : decode cX8_reweigh 50 = .ok (.invokevirtual 223, 3) := by decide +kernel
theorem dX8_reweigh_53 : decode cX8_reweigh 53 = .ok (.iload_n 3, 1) := by decide +kernel
theorem dX8_reweigh_54 : decode cX8_reweigh 54 = .ok (.ireturn, 1) := by decide +kernel
set_option maxHeartbeats 4000000 in
set_option maxRecDepth 20000 in
theorem c_X8_reweigh : ConI mX8_reweigh (fun args N lay r h Q => ∃ (b : Nat) (mp : Int → Int) (d w : Int), args = [.ref b, vI d, vI w] ∧ MdAt lay r b ∧ h (b + 2) = mp ∧ TrM mp ∧ RlM mp ∧ (-2147483648 ≤ d ∧ d < 2147483648) ∧ (-2147483648 ≤ w ∧ w < 2147483648) ∧ WaT (h (b + 7)) ∧ (1 ≤ h b 5 ∧ h b 5 < 2147483647) ∧ (¬ ((10 ≤ d ∧ d ≤ 9 + mp 130) ∧ (0 ≤ w ∧ w ≤ 16)) → Q (-1) N lay r h) ∧ (((10 ≤ d ∧ d ≤ 9 + mp 130) ∧ (0 ≤ w ∧ w ≤ 16)) → (mp (66 + d) = w → Q (-2) N lay r h) ∧ (mp (66 + d) ≠ w → ∀ h2, Ch b h (h b) h2 (up mp (66 + d) w) → Q (mp (66 + d)) N lay r h2))) := by
  refine ConI.of (by decide) (by rintro _ N lay r h Q ⟨b, mp, d, w, rfl, hM, hmp, hT, hR, hd, hw, hwa, hep, hB, hQ⟩; exact ⟨rfl, Nat.le_of_ble_eq_true rfl⟩) ?_
  rintro E _ N lay r h Q ⟨b, mp, d, w, rfl, hM, hmp, hT, hR, hd, hw, hwa, hep, hB, hQ⟩ hret
  obtain ⟨ml0, ml1, ml2, ml3, ml4, ml5, ml6, ml7, ml8, ml9, ml10, ml11, ml12, ml13, ml14, ml15, ml16, ml17, ml18, ml19, ml20, mr1, mr2, mr3, mr4, mr5, mr6, mr7, mr8, mr9, mr10, mr11, mr12, mr13, mr14, mr15, mr16, mr17, mr18, mr19, mr20⟩ := id hM
  obtain ⟨t1, t2, t3, t4, t5, t6, t7⟩ := id hT
  obtain ⟨r1, r2, r3, r4, r5, r6, r7⟩ := id hR
  show St E mX8_reweigh 0 [some (.ref b), some (vI d), some (vI w), none] [] (0, 0) N lay r h
  refine r_aload_0 (pc := 0) dX8_reweigh_0 ?_
  refine r_iload_1 (pc := 1) dX8_reweigh_1 ?_
  refine k_VI1 (pc := 2) c_X8_isDisk lk_X8_147 ⟨Nat.le_of_ble_eq_true rfl, Nat.le_of_ble_eq_true rfl⟩ ⟨rfl, rfl⟩ ⟨Nat.le_of_ble_eq_true rfl, Nat.le_of_ble_eq_true rfl⟩ (k := 8) rfl (by decide) (by assumption) dX8_reweigh_2 (Nat.le_of_ble_eq_true rfl) ?_
  refine ⟨_, _, _, rfl, by assumption, by first | assumption | exact rfl, by omega, by omega, ?_⟩
  refine r_ifeq_b (pc := 5) (tgt := 19) dX8_reweigh_5 (by decide) (fun c_5 => ?_) (fun c_5 => ?_)
  · refine r_iconst (pc := 19) dX8_reweigh_19 ?_
    refine r_iret (pc := 20) hret dX8_reweigh_20 rfl rfl rfl ?_
    first | exact hB (by omega) | exact (hQ (by omega)).1 c_33 | exact (hQ (by omega)).2 c_33 h_50 ch
  · refine r_aload_0 (pc := 8) dX8_reweigh_8 ?_
    refine r_iload_2 (pc := 9) dX8_reweigh_9 ?_
    refine r_iconst (pc := 10) dX8_reweigh_10 ?_
    refine r_bipush (pc := 11) dX8_reweigh_11 (by decide) ?_
    refine k_VI3 (pc := 13) c_X8_isIn lk_X8_137 ⟨Nat.le_of_ble_eq_true rfl, Nat.le_of_ble_eq_true rfl⟩ ⟨rfl, rfl⟩ ⟨Nat.le_of_ble_eq_true rfl, Nat.le_of_ble_eq_true rfl⟩ (k := 8) rfl (by decide) (by assumption) dX8_reweigh_13 (Nat.le_of_ble_eq_true rfl) ?_
    refine ⟨_, _, _, _, rfl, by omega, by omega, by omega, ?_⟩
    refine r_ifne_b (pc := 16) (tgt := 21) dX8_reweigh_16 (by decide) (fun c_16 => ?_) (fun c_16 => ?_)
    · refine r_aload_0 (pc := 21) dX8_reweigh_21 ?_
      refine gf_X8_13 (pc := 22) rfl (by assumption) dX8_reweigh_22 (by assumption) ?_
      refine r_bipush (pc := 25) dX8_reweigh_25 (by decide) ?_
      refine r_iload_1 (pc := 27) dX8_reweigh_27 ?_
      refine r_iadd (pc := 28) dX8_reweigh_28 ?_
      refine r_ialdE (pc := 29) (by assumption) (by first | assumption | exact rfl) dX8_reweigh_29 (by omega) (by omega) (fun i_29 => ?_)
      refine r_istore_3 (pc := 30) dX8_reweigh_30 rfl ?_
      refine r_iload_3 (pc := 31) dX8_reweigh_31 ?_
      refine r_iload_2 (pc := 32) dX8_reweigh_32 ?_
      refine r_icmp_ne (pc := 33) (tgt := 39) dX8_reweigh_33 (by decide) (by omega) (by omega) (fun c_33 => ?_) (fun c_33 => ?_)
      · refine r_aload_0 (pc := 39) dX8_reweigh_39 ?_
        refine gf_X8_13 (pc := 40) rfl (by assumption) dX8_reweigh_40 (by assumption) ?_
        refine r_bipush (pc := 43) dX8_reweigh_43 (by decide) ?_
        refine r_iload_1 (pc := 45) dX8_reweigh_45 ?_
        refine r_iadd (pc := 46) dX8_reweigh_46 ?_
        refine r_iload_2 (pc := 47) dX8_reweigh_47 ?_
        refine r_iastE (pc := 48) (by assumption) (by first | assumption | exact rfl) dX8_reweigh_48 (by omega) (by omega) (by omega) ?_
        refine r_aload_0 (pc := 49) dX8_reweigh_49 ?_
        have em2 : (hr h (b + 2) (up mp (66 + d) w)) (b + 2) = (up mp (66 + d) w) := hr_s
        have hT2 : TrM (up mp (66 + d) w) := TrM_c hT (fun j hj => up_n (by omega))
        have hR2 : RlM (up mp (66 + d) w) := RlM_rw hR hT (by omega) (by omega)
        have eb2 : (hr h (b + 2) (up mp (66 + d) w)) b = (h b) := hr_n (by omega)
        have g2 : Fr h (hr h (b + 2) (up mp (66 + d) w)) (fun x => x = b ∨ x = b + 2) := fun x hx => hr_n (by omega)
        have hwa2 : WaT ((hr h (b + 2) (up mp (66 + d) w)) (b + 7)) := by rw [g2 _ (by omega)]; exact hwa
        have hep2 : 1 ≤ (hr h (b + 2) (up mp (66 + d) w)) b 5 ∧ (hr h (b + 2) (up mp (66 + d) w)) b 5 < 2147483647 := by rw [eb2]; exact hep
        refine k_VV0 (pc := 50) c_X8_changed lk_X8_223 ⟨Nat.le_of_ble_eq_true rfl, Nat.le_of_ble_eq_true rfl⟩ ⟨rfl, rfl⟩ ⟨Nat.le_of_ble_eq_true rfl, Nat.le_of_ble_eq_true rfl⟩ (k := 8) rfl (by decide) (by assumption) dX8_reweigh_50 (Nat.le_of_ble_eq_true rfl) ?_
        refine ⟨_, _, rfl, hM, em2, hT2, hR2, hwa2, hep2, fun h_50 f_50 o_50 k_50 q_50 a_50 => ?_⟩
        have ch := Ch_of g2 eb2 em2 f_50 o_50 k_50 q_50 a_50
        refine r_iload_3 (pc := 53) dX8_reweigh_53 ?_
        refine r_iret (pc := 54) hret dX8_reweigh_54 rfl rfl rfl ?_
        first | exact hB (by omega) | exact (hQ (by omega)).1 c_33 | exact (hQ (by omega)).2 c_33 h_50 ch
      · refine r_bipush (pc := 36) dX8_reweigh_36 (by decide) ?_
        refine r_iret (pc := 38) hret dX8_reweigh_38 rfl rfl rfl ?_
        first | exact hB (by omega) | exact (hQ (by omega)).1 c_33 | exact (hQ (by omega)).2 c_33 h_50 ch
    · refine r_iconst (pc := 19) dX8_reweigh_19 ?_
      refine r_iret (pc := 20) hret dX8_reweigh_20 rfl rfl rfl ?_
      first | exact hB (by omega) | exact (hQ (by omega)).1 c_33 | exact (hQ (by omega)).2 c_33 h_50 ch

theorem dX8_rule_0 : decode cX8_rule 0 = .ok (.aload_n 0, 1) := by decide +kernel
theorem dX8_rule_1 : decode cX8_rule 1 = .ok (.iload_n 1, 1) := by decide +kernel
theorem dX8_rule_2 : decode cX8_rule 2 = .ok (.iconst 1, 1) := by decide +kernel
theorem dX8_rule_3 : decode cX8_rule 3 = .ok (.iconst 4, 1) := by decide +kernel
theorem dX8_rule_4 : decode cX8_rule 4 = .ok (.invokevirtual 137, 3) := by decide +kernel
theorem dX8_rule_7 : decode cX8_rule 7 = .ok (.ifCond .eq 23, 3) := by decide +kernel
theorem dX8_rule_10 : decode cX8_rule 10 = .ok (.aload_n 0, 1) := by decide +kernel
theorem dX8_rule_11 : decode cX8_rule 11 = .ok (.iload_n 2, 1) := by decide +kernel
theorem dX8_rule_12 : decode cX8_rule 12 = .ok (.iconst 1, 1) := by decide +kernel
theorem dX8_rule_13 : decode cX8_rule 13 = .ok (.iconst 3, 1) := by decide +kernel
theorem dX8_rule_14 : decode cX8_rule 14 = .ok (.invokevirtual 137, 3) := by decide +kernel
theorem dX8_rule_17 : decode cX8_rule 17 = .ok (.ifCond .eq 13, 3) := by decide +kernel
theorem dX8_rule_20 : decode cX8_rule 20 = .ok (.aload_n 0, 1) := by decide +kernel
theorem dX8_rule_21 : decode cX8_rule 21 = .ok (.iload_n 3, 1) := by decide +kernel
theorem dX8_rule_22 : decode cX8_rule 22 = .ok (.iconst 0, 1) := by decide +kernel
theorem dX8_rule_23 : decode cX8_rule 23 = .ok (.iconst 1, 1) := by decide +kernel
theorem dX8_rule_24 : decode cX8_rule 24 = .ok (.invokevirtual 137, 3) := by decide +kernel
theorem dX8_rule_27 : decode cX8_rule 27 = .ok (.ifCond .ne 5, 3) := by decide +kernel
theorem dX8_rule_30 : decode cX8_rule 30 = .ok (.iconst (-1), 1) := by decide +kernel
theorem dX8_rule_31 : decode cX8_rule 31 = .ok (.ireturn, 1) := by decide +kernel
theorem dX8_rule_32 : decode cX8_rule 32 = .ok (.bipush 100, 2) := by decide +kernel
theorem dX8_rule_34 : decode cX8_rule 34 = .ok (.aload_n 0, 1) := by decide +kernel
theorem dX8_rule_35 : decode cX8_rule 35 = .ok (.getfield 13, 3) := by decide +kernel
theorem dX8_rule_38 : decode cX8_rule 38 = .ok (.sipush 131, 3) := by decide +kernel
theorem dX8_rule_41 : decode cX8_rule 41 = .ok (.iaload, 1) := by decide +kernel
theorem dX8_rule_42 : decode cX8_rule 42 = .ok (.imul, 1) := by decide +kernel
theorem dX8_rule_43 : decode cX8_rule 43 = .ok (.bipush 10, 2) := by decide +kernel
theorem dX8_rule_45 : decode cX8_rule 45 = .ok (.aload_n 0, 1) := by decide +kernel
theorem dX8_rule_46 : decode cX8_rule 46 = .ok (.getfield 13, 3) := by decide +kernel
theorem dX8_rule_49 : decode cX8_rule 49 = .ok (.sipush 132, 3) := by decide +kernel
theorem dX8_rule_52 : decode cX8_rule 52 = .ok (.iaload, 1) := by decide +kernel
theorem dX8_rule_53 : decode cX8_rule 53 = .ok (.imul, 1) := by decide +kernel
theorem dX8_rule_54 : decode cX8_rule 54 = .ok (.iadd, 1) := by decide +kernel
theorem dX8_rule_55 : decode cX8_rule 55 = .ok (.aload_n 0, 1) := by decide +kernel
theorem dX8_rule_56 : decode cX8_rule 56 = .ok (.getfield 13, 3) := by decide +kernel
theorem dX8_rule_59 : decode cX8_rule 59 = .ok (.sipush 133, 3) := by decide +kernel
theorem dX8_rule_62 : decode cX8_rule 62 = .ok (.iaload, 1) := by decide +kernel
theorem dX8_rule_63 : decode cX8_rule 63 = .ok (.iadd, 1) := by decide +kernel
theorem dX8_rule_64 : decode cX8_rule 64 = .ok (.istore 4, 2) := by decide +kernel
theorem dX8_rule_66 : decode cX8_rule 66 = .ok (.iload 4, 2) := by decide +kernel
theorem dX8_rule_68 : decode cX8_rule 68 = .ok (.bipush 100, 2) := by decide +kernel
theorem dX8_rule_70 : decode cX8_rule 70 = .ok (.iload_n 1, 1) := by decide +kernel
theorem dX8_rule_71 : decode cX8_rule 71 = .ok (.imul, 1) := by decide +kernel
theorem dX8_rule_72 : decode cX8_rule 72 = .ok (.bipush 10, 2) := by decide +kernel
theorem dX8_rule_74 : decode cX8_rule 74 = .ok (.iload_n 2, 1) := by decide +kernel
theorem dX8_rule_75 : decode cX8_rule 75 = .ok (.imul, 1) := by decide +kernel
theorem dX8_rule_76 : decode cX8_rule 76 = .ok (.iadd, 1) := by decide +kernel
theorem dX8_rule_77 : decode cX8_rule 77 = .ok (.iload_n 3, 1) := by decide +kernel
theorem dX8_rule_78 : decode cX8_rule 78 = .ok (.iadd, 1) := by decide +kernel
theorem dX8_rule_79 : decode cX8_rule 79 = .ok (.if_icmp .ne 6, 3) := by decide +kernel
theorem dX8_rule_82 : decode cX8_rule 82 = .ok (.bipush (-2), 2) := by decide +kernel
theorem dX8_rule_84 : decode cX8_rule 84 = .ok (.ireturn, 1) := by decide +kernel
theorem dX8_rule_85 : decode cX8_rule 85 = .ok (.aload_n 0, 1) := by decide +kernel
theorem dX8_rule_86 : decode cX8_rule 86 = .ok (.getfield 13, 3) := by decide +kernel
theorem dX8_rule_89 : decode cX8_rule 89 = .ok (.sipush 131, 3) := by decide +kernel
theorem dX8_rule_92 : decode cX8_rule 92 = .ok (.iload_n 1, 1) := by decide +kernel
theorem dX8_rule_93 : decode cX8_rule 93 = .ok (.iastore, 1) := by decide +kernel
theorem dX8_rule_94 : decode cX8_rule 94 = .ok (.aload_n 0, 1) := by decide +kernel
theorem dX8_rule_95 : decode cX8_rule 95 = .ok (.getfield 13, 3) := by decide +kernel
theorem dX8_rule_98 : decode cX8_rule 98 = .ok (.sipush 132, 3) := by decide +kernel
theorem dX8_rule_101 : decode cX8_rule 101 = .ok (.iload_n 2, 1) := by decide +kernel
theorem dX8_rule_102 : decode cX8_rule 102 = .ok (.iastore, 1) := by decide +kernel
theorem dX8_rule_103 : decode cX8_rule 103 = .ok (.aload_n 0, 1) := by decide +kernel
theorem dX8_rule_104 : decode cX8_rule 104 = .ok (.getfield 13, 3) := by decide +kernel
theorem dX8_rule_107 : decode cX8_rule 107 = .ok (.sipush 133, 3) := by decide +kernel
theorem dX8_rule_110 : decode cX8_rule 110 = .ok (.iload_n 3, 1) := by decide +kernel
theorem dX8_rule_111 : decode cX8_rule 111 = .ok (.iastore, 1) := by decide +kernel
theorem dX8_rule_112 : decode cX8_rule 112 = .ok (.aload_n 0, 1) := by decide +kernel
theorem dX8_rule_113 : decode cX8_rule 113 = .ok (.invokevirtual 223, 3) := by decide +kernel
theorem dX8_rule_116 : decode cX8_rule 116 = .ok (.iload 4, 2) := by decide +kernel
theorem dX8_rule_118 : decode cX8_rule 118 = .ok (.ireturn, 1) := by decide +kernel
set_option maxHeartbeats 4000000 in
set_option maxRecDepth 20000 in
theorem c_X8_rule : ConI mX8_rule (fun args N lay r h Q => ∃ (b : Nat) (mp : Int → Int) (x y z : Int), args = [.ref b, vI x, vI y, vI z] ∧ MdAt lay r b ∧ h (b + 2) = mp ∧ TrM mp ∧ RlM mp ∧ (-2147483648 ≤ x ∧ x < 2147483648) ∧ (-2147483648 ≤ y ∧ y < 2147483648) ∧ (-2147483648 ≤ z ∧ z < 2147483648) ∧ WaT (h (b + 7)) ∧ (1 ≤ h b 5 ∧ h b 5 < 2147483647) ∧ (¬ ((1 ≤ x ∧ x ≤ 4) ∧ (1 ≤ y ∧ y ≤ 3) ∧ (0 ≤ z ∧ z ≤ 1)) → Q (-1) N lay r h) ∧ (((1 ≤ x ∧ x ≤ 4) ∧ (1 ≤ y ∧ y ≤ 3) ∧ (0 ≤ z ∧ z ≤ 1)) → (100 * mp 131 + 10 * mp 132 + mp 133 = 100 * x + 10 * y + z → Q (-2) N lay r h) ∧ (100 * mp 131 + 10 * mp 132 + mp 133 ≠ 100 * x + 10 * y + z → ∀ h2, Ch b h (h b) h2 (up (up (up mp 131 x) 132 y) 133 z) → Q (100 * mp 131 + 10 * mp 132 + mp 133) N lay r h2))) := by
  refine ConI.of (by decide) (by rintro _ N lay r h Q ⟨b, mp, x, y, z, rfl, hM, hmp, hT, hR, hx, hy, hz, hwa, hep, hB, hQ⟩; exact ⟨rfl, Nat.le_of_ble_eq_true rfl⟩) ?_
  rintro E _ N lay r h Q ⟨b, mp, x, y, z, rfl, hM, hmp, hT, hR, hx, hy, hz, hwa, hep, hB, hQ⟩ hret
  obtain ⟨ml0, ml1, ml2, ml3, ml4, ml5, ml6, ml7, ml8, ml9, ml10, ml11, ml12, ml13, ml14, ml15, ml16, ml17, ml18, ml19, ml20, mr1, mr2, mr3, mr4, mr5, mr6, mr7, mr8, mr9, mr10, mr11, mr12, mr13, mr14, mr15, mr16, mr17, mr18, mr19, mr20⟩ := id hM
  obtain ⟨t1, t2, t3, t4, t5, t6, t7⟩ := id hT
  obtain ⟨r1, r2, r3, r4, r5, r6, r7⟩ := id hR
  show St E mX8_rule 0 [some (.ref b), some (vI x), some (vI y), some (vI z), none] [] (0, 0) N lay r h
  refine r_aload_0 (pc := 0) dX8_rule_0 ?_
  refine r_iload_1 (pc := 1) dX8_rule_1 ?_
  refine r_iconst (pc := 2) dX8_rule_2 ?_
  refine r_iconst (pc := 3) dX8_rule_3 ?_
  refine k_VI3 (pc := 4) c_X8_isIn lk_X8_137 ⟨Nat.le_of_ble_eq_true rfl, Nat.le_of_ble_eq_true rfl⟩ ⟨rfl, rfl⟩ ⟨Nat.le_of_ble_eq_true rfl, Nat.le_of_ble_eq_true rfl⟩ (k := 8) rfl (by decide) (by assumption) dX8_rule_4 (Nat.le_of_ble_eq_true rfl) ?_
  refine ⟨_, _, _, _, rfl, by omega, by omega, by omega, ?_⟩
  refine r_ifeq_b (pc := 7) (tgt := 30) dX8_rule_7 (by decide) (fun c_7 => ?_) (fun c_7 => ?_)
  · refine r_iconst (pc := 30) dX8_rule_30 ?_
    refine r_iret (pc := 31) hret dX8_rule_31 rfl rfl rfl ?_
    first | exact hB (by omega) | exact (hQ (by omega)).1 c_79 | exact (hQ (by omega)).2 c_79 h_113 ch
  · refine r_aload_0 (pc := 10) dX8_rule_10 ?_
    refine r_iload_2 (pc := 11) dX8_rule_11 ?_
    refine r_iconst (pc := 12) dX8_rule_12 ?_
    refine r_iconst (pc := 13) dX8_rule_13 ?_
    refine k_VI3 (pc := 14) c_X8_isIn lk_X8_137 ⟨Nat.le_of_ble_eq_true rfl, Nat.le_of_ble_eq_true rfl⟩ ⟨rfl, rfl⟩ ⟨Nat.le_of_ble_eq_true rfl, Nat.le_of_ble_eq_true rfl⟩ (k := 8) rfl (by decide) (by assumption) dX8_rule_14 (Nat.le_of_ble_eq_true rfl) ?_
    refine ⟨_, _, _, _, rfl, by omega, by omega, by omega, ?_⟩
    refine r_ifeq_b (pc := 17) (tgt := 30) dX8_rule_17 (by decide) (fun c_17 => ?_) (fun c_17 => ?_)
    · refine r_iconst (pc := 30) dX8_rule_30 ?_
      refine r_iret (pc := 31) hret dX8_rule_31 rfl rfl rfl ?_
      first | exact hB (by omega) | exact (hQ (by omega)).1 c_79 | exact (hQ (by omega)).2 c_79 h_113 ch
    · refine r_aload_0 (pc := 20) dX8_rule_20 ?_
      refine r_iload_3 (pc := 21) dX8_rule_21 ?_
      refine r_iconst (pc := 22) dX8_rule_22 ?_
      refine r_iconst (pc := 23) dX8_rule_23 ?_
      refine k_VI3 (pc := 24) c_X8_isIn lk_X8_137 ⟨Nat.le_of_ble_eq_true rfl, Nat.le_of_ble_eq_true rfl⟩ ⟨rfl, rfl⟩ ⟨Nat.le_of_ble_eq_true rfl, Nat.le_of_ble_eq_true rfl⟩ (k := 8) rfl (by decide) (by assumption) dX8_rule_24 (Nat.le_of_ble_eq_true rfl) ?_
      refine ⟨_, _, _, _, rfl, by omega, by omega, by omega, ?_⟩
      refine r_ifne_b (pc := 27) (tgt := 32) dX8_rule_27 (by decide) (fun c_27 => ?_) (fun c_27 => ?_)
      · refine r_bipush (pc := 32) dX8_rule_32 (by decide) ?_
        refine r_aload_0 (pc := 34) dX8_rule_34 ?_
        refine gf_X8_13 (pc := 35) rfl (by assumption) dX8_rule_35 (by assumption) ?_
        refine r_sipush (pc := 38) dX8_rule_38 (by decide) ?_
        refine r_ialdE (pc := 41) (by assumption) (by first | assumption | exact rfl) dX8_rule_41 (by omega) (by omega) (fun i_41 => ?_)
        refine r_imul (pc := 42) dX8_rule_42 ?_
        refine r_bipush (pc := 43) dX8_rule_43 (by decide) ?_
        refine r_aload_0 (pc := 45) dX8_rule_45 ?_
        refine gf_X8_13 (pc := 46) rfl (by assumption) dX8_rule_46 (by assumption) ?_
        refine r_sipush (pc := 49) dX8_rule_49 (by decide) ?_
        refine r_ialdE (pc := 52) (by assumption) (by first | assumption | exact rfl) dX8_rule_52 (by omega) (by omega) (fun i_52 => ?_)
        refine r_imul (pc := 53) dX8_rule_53 ?_
        refine r_iadd (pc := 54) dX8_rule_54 ?_
        refine r_aload_0 (pc := 55) dX8_rule_55 ?_
        refine gf_X8_13 (pc := 56) rfl (by assumption) dX8_rule_56 (by assumption) ?_
        refine r_sipush (pc := 59) dX8_rule_59 (by decide) ?_
        refine r_ialdE (pc := 62) (by assumption) (by first | assumption | exact rfl) dX8_rule_62 (by omega) (by omega) (fun i_62 => ?_)
        refine r_iadd (pc := 63) dX8_rule_63 ?_
        refine r_istore_4 (pc := 64) dX8_rule_64 rfl ?_
        refine r_iload_4 (pc := 66) dX8_rule_66 ?_
        refine r_bipush (pc := 68) dX8_rule_68 (by decide) ?_
        refine r_iload_1 (pc := 70) dX8_rule_70 ?_
        refine r_imul (pc := 71) dX8_rule_71 ?_
        refine r_bipush (pc := 72) dX8_rule_72 (by decide) ?_
        refine r_iload_2 (pc := 74) dX8_rule_74 ?_
        refine r_imul (pc := 75) dX8_rule_75 ?_
        refine r_iadd (pc := 76) dX8_rule_76 ?_
        refine r_iload_3 (pc := 77) dX8_rule_77 ?_
        refine r_iadd (pc := 78) dX8_rule_78 ?_
        refine r_icmp_ne (pc := 79) (tgt := 85) dX8_rule_79 (by decide) (by omega) (by omega) (fun c_79 => ?_) (fun c_79 => ?_)
        · refine r_aload_0 (pc := 85) dX8_rule_85 ?_
          refine gf_X8_13 (pc := 86) rfl (by assumption) dX8_rule_86 (by assumption) ?_
          refine r_sipush (pc := 89) dX8_rule_89 (by decide) ?_
          refine r_iload_1 (pc := 92) dX8_rule_92 ?_
          refine r_iastE (pc := 93) (by assumption) (by first | assumption | exact rfl) dX8_rule_93 (by omega) (by omega) (by omega) ?_
          refine r_aload_0 (pc := 94) dX8_rule_94 ?_
          refine gf_X8_13 (pc := 95) rfl (by assumption) dX8_rule_95 (by assumption) ?_
          refine r_sipush (pc := 98) dX8_rule_98 (by decide) ?_
          refine r_iload_2 (pc := 101) dX8_rule_101 ?_
          refine r_iastE (pc := 102) (by assumption) hr_s dX8_rule_102 (by omega) (by omega) (by omega) ?_
          rw [hr_hr]
          refine r_aload_0 (pc := 103) dX8_rule_103 ?_
          refine gf_X8_13 (pc := 104) rfl (by assumption) dX8_rule_104 (by assumption) ?_
          refine r_sipush (pc := 107) dX8_rule_107 (by decide) ?_
          refine r_iload_3 (pc := 110) dX8_rule_110 ?_
          refine r_iastE (pc := 111) (by assumption) hr_s dX8_rule_111 (by omega) (by omega) (by omega) ?_
          rw [hr_hr]
          refine r_aload_0 (pc := 112) dX8_rule_112 ?_
          have em2 : (hr h (b + 2) (up (up (up mp 131 x) 132 y) 133 z)) (b + 2) = (up (up (up mp 131 x) 132 y) 133 z) := hr_s
          have hT2 : TrM (up (up (up mp 131 x) 132 y) 133 z) := TrM_c hT (fun j hj => by rw [up_n (by omega), up_n (by omega), up_n (by omega)])
          have hR2 : RlM (up (up (up mp 131 x) 132 y) 133 z) := RlM_rule hR hT (by omega) (by omega) (by omega)
          have eb2 : (hr h (b + 2) (up (up (up mp 131 x) 132 y) 133 z)) b = (h b) := hr_n (by omega)
          have g2 : Fr h (hr h (b + 2) (up (up (up mp 131 x) 132 y) 133 z)) (fun x => x = b ∨ x = b + 2) := fun x hx => hr_n (by omega)
          have hwa2 : WaT ((hr h (b + 2) (up (up (up mp 131 x) 132 y) 133 z)) (b + 7)) := by rw [g2 _ (by omega)]; exact hwa
          have hep2 : 1 ≤ (hr h (b + 2) (up (up (up mp 131 x) 132 y) 133 z)) b 5 ∧ (hr h (b + 2) (up (up (up mp 131 x) 132 y) 133 z)) b 5 < 2147483647 := by rw [eb2]; exact hep
          refine k_VV0 (pc := 113) c_X8_changed lk_X8_223 ⟨Nat.le_of_ble_eq_true rfl, Nat.le_of_ble_eq_true rfl⟩ ⟨rfl, rfl⟩ ⟨Nat.le_of_ble_eq_true rfl, Nat.le_of_ble_eq_true rfl⟩ (k := 8) rfl (by decide) (by assumption) dX8_rule_113 (Nat.le_of_ble_eq_true rfl) ?_
          refine ⟨_, _, rfl, hM, em2, hT2, hR2, hwa2, hep2, fun h_113 f_113 o_113 k_113 q_113 a_113 => ?_⟩
          have ch := Ch_of g2 eb2 em2 f_113 o_113 k_113 q_113 a_113
          refine r_iload_4 (pc := 116) dX8_rule_116 ?_
          refine r_iret (pc := 118) hret dX8_rule_118 rfl rfl rfl ?_
          first | exact hB (by omega) | exact (hQ (by omega)).1 c_79 | exact (hQ (by omega)).2 c_79 h_113 ch
        · refine r_bipush (pc := 82) dX8_rule_82 (by decide) ?_
          refine r_iret (pc := 84) hret dX8_rule_84 rfl rfl rfl ?_
          first | exact hB (by omega) | exact (hQ (by omega)).1 c_79 | exact (hQ (by omega)).2 c_79 h_113 ch
      · refine r_iconst (pc := 30) dX8_rule_30 ?_
        refine r_iret (pc := 31) hret dX8_rule_31 rfl rfl rfl ?_
        first | exact hB (by omega) | exact (hQ (by omega)).1 c_79 | exact (hQ (by omega)).2 c_79 h_113 ch

theorem dX8_rack_0 : decode cX8_rack 0 = .ok (.aload_n 0, 1) := by decide +kernel
theorem dX8_rack_1 : decode cX8_rack 1 = .ok (.iload_n 1, 1) := by decide +kernel
theorem dX8_rack_2 : decode cX8_rack 2 = .ok (.invokevirtual 141, 3) := by decide +kernel
theorem dX8_rack_5 : decode cX8_rack 5 = .ok (.ifCond .ne 5, 3) := by decide +kernel
theorem dX8_rack_8 : decode cX8_rack 8 = .ok (.iconst (-1), 1) := by decide +kernel
theorem dX8_rack_9 : decode cX8_rack 9 = .ok (.ireturn, 1) := by decide +kernel
theorem dX8_rack_10 : decode cX8_rack 10 = .ok (.aload_n 0, 1) := by decide +kernel
theorem dX8_rack_11 : decode cX8_rack 11 = .ok (.getfield 13, 3) := by decide +kernel
theorem dX8_rack_14 : decode cX8_rack 14 = .ok (.sipush 129, 3) := by decide +kernel
theorem dX8_rack_17 : decode cX8_rack 17 = .ok (.iaload, 1) := by decide +kernel
theorem dX8_rack_18 : decode cX8_rack 18 = .ok (.bipush 6, 2) := by decide +kernel
theorem dX8_rack_20 : decode cX8_rack 20 = .ok (.if_icmp .ne 6, 3) := by decide +kernel
theorem dX8_rack_23 : decode cX8_rack 23 = .ok (.bipush (-3), 2) := by decide +kernel
theorem dX8_rack_25 : decode cX8_rack 25 = .ok (.ireturn, 1) := by decide +kernel
theorem dX8_rack_26 : decode cX8_rack 26 = .ok (.iconst 4, 1) := by decide +kernel
theorem dX8_rack_27 : decode cX8_rack 27 = .ok (.aload_n 0, 1) := by decide +kernel
theorem dX8_rack_28 : decode cX8_rack 28 = .ok (.getfield 13, 3) := by decide +kernel
theorem dX8_rack_31 : decode cX8_rack 31 = .ok (.sipush 129, 3) := by decide +kernel
theorem dX8_rack_34 : decode cX8_rack 34 = .ok (.iaload, 1) := by decide +kernel
theorem dX8_rack_35 : decode cX8_rack 35 = .ok (.iadd, 1) := by decide +kernel
theorem dX8_rack_36 : decode cX8_rack 36 = .ok (.istore_n 2, 1) := by decide +kernel
theorem dX8_rack_37 : decode cX8_rack 37 = .ok (.aload_n 0, 1) := by decide +kernel
theorem dX8_rack_38 : decode cX8_rack 38 = .ok (.getfield 13, 3) := by decide +kernel
theorem dX8_rack_41 : decode cX8_rack 41 = .ok (.iload_n 2, 1) := by decide +kernel
theorem dX8_rack_42 : decode cX8_rack 42 = .ok (.iload_n 1, 1) := by decide +kernel
theorem dX8_rack_43 : decode cX8_rack 43 = .ok (.iastore, 1) := by decide +kernel
theorem dX8_rack_44 : decode cX8_rack 44 = .ok (.aload_n 0, 1) := by decide +kernel
theorem dX8_rack_45 : decode cX8_rack 45 = .ok (.getfield 13, 3) := by decide +kernel
theorem dX8_rack_48 : decode cX8_rack 48 = .ok (.sipush 129, 3) := by decide +kernel
theorem dX8_rack_51 : decode cX8_rack 51 = .ok (.dup2, 1) := by decide +kernel
theorem dX8_rack_52 : decode cX8_rack 52 = .ok (.iaload, 1) := by decide +kernel
theorem dX8_rack_53 : decode cX8_rack 53 = .ok (.iconst 1, 1) := by decide +kernel
theorem dX8_rack_54 : decode cX8_rack 54 = .ok (.iadd, 1) := by decide +kernel
theorem dX8_rack_55 : decode cX8_rack 55 = .ok (.iastore, 1) := by decide +kernel
theorem dX8_rack_56 : decode cX8_rack 56 = .ok (.aload_n 0, 1) := by decide +kernel
theorem dX8_rack_57 : decode cX8_rack 57 = .ok (.invokevirtual 223, 3) := by decide +kernel
theorem dX8_rack_60 : decode cX8_rack 60 = .ok (.iload_n 2, 1) := by decide +kernel
theorem dX8_rack_61 : decode cX8_rack 61 = .ok (.ireturn, 1) := by decide +kernel
set_option maxHeartbeats 4000000 in
set_option maxRecDepth 20000 in
theorem c_X8_rack : ConI mX8_rack (fun args N lay r h Q => ∃ (b : Nat) (mp : Int → Int) (x : Int), args = [.ref b, vI x] ∧ MdAt lay r b ∧ h (b + 2) = mp ∧ TrM mp ∧ RlM mp ∧ (-2147483648 ≤ x ∧ x < 2147483648) ∧ WaT (h (b + 7)) ∧ (1 ≤ h b 5 ∧ h b 5 < 2147483647) ∧ (¬ (1 ≤ x ∧ x ≤ mp 128) → Q (-1) N lay r h) ∧ ((1 ≤ x ∧ x ≤ mp 128) → (mp 129 = 6 → Q (-3) N lay r h) ∧ (mp 129 ≠ 6 → ∀ h2, Ch b h (h b) h2 (up (up mp (4 + mp 129) x) 129 (mp 129 + 1)) → Q (4 + mp 129) N lay r h2))) := by
  refine ConI.of (by decide) (by rintro _ N lay r h Q ⟨b, mp, x, rfl, hM, hmp, hT, hR, hx, hwa, hep, hB, hQ⟩; exact ⟨rfl, Nat.le_of_ble_eq_true rfl⟩) ?_
  rintro E _ N lay r h Q ⟨b, mp, x, rfl, hM, hmp, hT, hR, hx, hwa, hep, hB, hQ⟩ hret
  obtain ⟨ml0, ml1, ml2, ml3, ml4, ml5, ml6, ml7, ml8, ml9, ml10, ml11, ml12, ml13, ml14, ml15, ml16, ml17, ml18, ml19, ml20, mr1, mr2, mr3, mr4, mr5, mr6, mr7, mr8, mr9, mr10, mr11, mr12, mr13, mr14, mr15, mr16, mr17, mr18, mr19, mr20⟩ := id hM
  obtain ⟨t1, t2, t3, t4, t5, t6, t7⟩ := id hT
  obtain ⟨r1, r2, r3, r4, r5, r6, r7⟩ := id hR
  show St E mX8_rack 0 [some (.ref b), some (vI x), none] [] (0, 0) N lay r h
  refine r_aload_0 (pc := 0) dX8_rack_0 ?_
  refine r_iload_1 (pc := 1) dX8_rack_1 ?_
  refine k_VI1 (pc := 2) c_X8_isHall lk_X8_141 ⟨Nat.le_of_ble_eq_true rfl, Nat.le_of_ble_eq_true rfl⟩ ⟨rfl, rfl⟩ ⟨Nat.le_of_ble_eq_true rfl, Nat.le_of_ble_eq_true rfl⟩ (k := 8) rfl (by decide) (by assumption) dX8_rack_2 (Nat.le_of_ble_eq_true rfl) ?_
  refine ⟨_, _, _, rfl, by assumption, by first | assumption | exact rfl, by omega, by omega, ?_⟩
  refine r_ifne_b (pc := 5) (tgt := 10) dX8_rack_5 (by decide) (fun c_5 => ?_) (fun c_5 => ?_)
  · refine r_aload_0 (pc := 10) dX8_rack_10 ?_
    refine gf_X8_13 (pc := 11) rfl (by assumption) dX8_rack_11 (by assumption) ?_
    refine r_sipush (pc := 14) dX8_rack_14 (by decide) ?_
    refine r_ialdE (pc := 17) (by assumption) (by first | assumption | exact rfl) dX8_rack_17 (by omega) (by omega) (fun i_17 => ?_)
    refine r_bipush (pc := 18) dX8_rack_18 (by decide) ?_
    refine r_icmp_ne (pc := 20) (tgt := 26) dX8_rack_20 (by decide) (by omega) (by omega) (fun c_20 => ?_) (fun c_20 => ?_)
    · refine r_iconst (pc := 26) dX8_rack_26 ?_
      refine r_aload_0 (pc := 27) dX8_rack_27 ?_
      refine gf_X8_13 (pc := 28) rfl (by assumption) dX8_rack_28 (by assumption) ?_
      refine r_sipush (pc := 31) dX8_rack_31 (by decide) ?_
      refine r_ialdE (pc := 34) (by assumption) (by first | assumption | exact rfl) dX8_rack_34 (by omega) (by omega) (fun i_34 => ?_)
      refine r_iadd (pc := 35) dX8_rack_35 ?_
      refine r_istore_2 (pc := 36) dX8_rack_36 rfl ?_
      refine r_aload_0 (pc := 37) dX8_rack_37 ?_
      refine gf_X8_13 (pc := 38) rfl (by assumption) dX8_rack_38 (by assumption) ?_
      refine r_iload_2 (pc := 41) dX8_rack_41 ?_
      refine r_iload_1 (pc := 42) dX8_rack_42 ?_
      refine r_iastE (pc := 43) (by assumption) (by first | assumption | exact rfl) dX8_rack_43 (by omega) (by omega) (by omega) ?_
      refine r_aload_0 (pc := 44) dX8_rack_44 ?_
      refine gf_X8_13 (pc := 45) rfl (by assumption) dX8_rack_45 (by assumption) ?_
      refine r_sipush (pc := 48) dX8_rack_48 (by decide) ?_
      refine r_dup2 (pc := 51) dX8_rack_51 ?_
      refine r_ialdE (pc := 52) (by assumption) hr_s dX8_rack_52 (by omega) (by omega) (fun i_52 => ?_)
      rw [up_n (show (129 : Int) ≠ 4 + mp 129 by omega)]
      refine r_iconst (pc := 53) dX8_rack_53 ?_
      refine r_iadd (pc := 54) dX8_rack_54 ?_
      refine r_iastE (pc := 55) (by assumption) hr_s dX8_rack_55 (by omega) (by omega) (by omega) ?_
      rw [hr_hr]
      refine r_aload_0 (pc := 56) dX8_rack_56 ?_
      have em2 : (hr h (b + 2) (up (up mp (4 + mp 129) x) 129 (mp 129 + 1))) (b + 2) = (up (up mp (4 + mp 129) x) 129 (mp 129 + 1)) := hr_s
      have hT2 : TrM (up (up mp (4 + mp 129) x) 129 (mp 129 + 1)) := TrM_rack hT (by omega) (by omega)
      have hR2 : RlM (up (up mp (4 + mp 129) x) 129 (mp 129 + 1)) := RlM_c hR hT (fun j hj => by rw [up_n (by omega), up_n (by omega)])
      have eb2 : (hr h (b + 2) (up (up mp (4 + mp 129) x) 129 (mp 129 + 1))) b = (h b) := hr_n (by omega)
      have g2 : Fr h (hr h (b + 2) (up (up mp (4 + mp 129) x) 129 (mp 129 + 1))) (fun x => x = b ∨ x = b + 2) := fun x hx => hr_n (by omega)
      have hwa2 : WaT ((hr h (b + 2) (up (up mp (4 + mp 129) x) 129 (mp 129 + 1))) (b + 7)) := by rw [g2 _ (by omega)]; exact hwa
      have hep2 : 1 ≤ (hr h (b + 2) (up (up mp (4 + mp 129) x) 129 (mp 129 + 1))) b 5 ∧ (hr h (b + 2) (up (up mp (4 + mp 129) x) 129 (mp 129 + 1))) b 5 < 2147483647 := by rw [eb2]; exact hep
      refine k_VV0 (pc := 57) c_X8_changed lk_X8_223 ⟨Nat.le_of_ble_eq_true rfl, Nat.le_of_ble_eq_true rfl⟩ ⟨rfl, rfl⟩ ⟨Nat.le_of_ble_eq_true rfl, Nat.le_of_ble_eq_true rfl⟩ (k := 8) rfl (by decide) (by assumption) dX8_rack_57 (Nat.le_of_ble_eq_true rfl) ?_
      refine ⟨_, _, rfl, hM, em2, hT2, hR2, hwa2, hep2, fun h_57 f_57 o_57 k_57 q_57 a_57 => ?_⟩
      have ch := Ch_of g2 eb2 em2 f_57 o_57 k_57 q_57 a_57
      refine r_iload_2 (pc := 60) dX8_rack_60 ?_
      refine r_iret (pc := 61) hret dX8_rack_61 rfl rfl rfl ?_
      first | exact hB (by omega) | exact (hQ (by omega)).1 c_20 | exact (hQ (by omega)).2 c_20 h_57 ch
    · refine r_bipush (pc := 23) dX8_rack_23 (by decide) ?_
      refine r_iret (pc := 25) hret dX8_rack_25 rfl rfl rfl ?_
      first | exact hB (by omega) | exact (hQ (by omega)).1 c_20 | exact (hQ (by omega)).2 c_20 h_57 ch
  · refine r_iconst (pc := 8) dX8_rack_8 ?_
    refine r_iret (pc := 9) hret dX8_rack_9 rfl rfl rfl ?_
    first | exact hB (by omega) | exact (hQ (by omega)).1 c_20 | exact (hQ (by omega)).2 c_20 h_57 ch

theorem dX8_move_0 : decode cX8_move 0 = .ok (.aload_n 0, 1) := by decide +kernel
theorem dX8_move_1 : decode cX8_move 1 = .ok (.iload_n 1, 1) := by decide +kernel
theorem dX8_move_2 : decode cX8_move 2 = .ok (.invokevirtual 144, 3) := by decide +kernel
theorem dX8_move_5 : decode cX8_move 5 = .ok (.ifCond .eq 11, 3) := by decide +kernel
theorem dX8_move_8 : decode cX8_move 8 = .ok (.aload_n 0, 1) := by decide +kernel
theorem dX8_move_9 : decode cX8_move 9 = .ok (.iload_n 2, 1) := by decide +kernel
theorem dX8_move_10 : decode cX8_move 10 = .ok (.invokevirtual 141, 3) := by decide +kernel
theorem dX8_move_13 : decode cX8_move 13 = .ok (.ifCond .ne 19, 3) := by decide +kernel
theorem dX8_move_16 : decode cX8_move 16 = .ok (.aload_n 0, 1) := by decide +kernel
theorem dX8_move_17 : decode cX8_move 17 = .ok (.iload_n 1, 1) := by decide +kernel
theorem dX8_move_18 : decode cX8_move 18 = .ok (.invokevirtual 147, 3) := by decide +kernel
theorem dX8_move_21 : decode cX8_move 21 = .ok (.ifCond .eq 15, 3) := by decide +kernel
theorem dX8_move_24 : decode cX8_move 24 = .ok (.aload_n 0, 1) := by decide +kernel
theorem dX8_move_25 : decode cX8_move 25 = .ok (.iload_n 2, 1) := by decide +kernel
theorem dX8_move_26 : decode cX8_move 26 = .ok (.invokevirtual 144, 3) := by decide +kernel
theorem dX8_move_29 : decode cX8_move 29 = .ok (.ifCond .eq 7, 3) := by decide +kernel
theorem dX8_move_32 : decode cX8_move 32 = .ok (.iconst 1, 1) := by decide +kernel
theorem dX8_move_33 : decode cX8_move 33 = .ok (.goto 4, 3) := by decide +kernel
theorem dX8_move_36 : decode cX8_move 36 = .ok (.iconst 0, 1) := by decide +kernel
theorem dX8_move_37 : decode cX8_move 37 = .ok (.istore_n 3, 1) := by decide +kernel
theorem dX8_move_38 : decode cX8_move 38 = .ok (.iload_n 3, 1) := by decide +kernel
theorem dX8_move_39 : decode cX8_move 39 = .ok (.ifCond .ne 5, 3) := by decide +kernel
theorem dX8_move_42 : decode cX8_move 42 = .ok (.iconst (-1), 1) := by decide +kernel
theorem dX8_move_43 : decode cX8_move 43 = .ok (.ireturn, 1) := by decide +kernel
theorem dX8_move_44 : decode cX8_move 44 = .ok (.aload_n 0, 1) := by decide +kernel
theorem dX8_move_45 : decode cX8_move 45 = .ok (.getfield 13, 3) := by decide +kernel
theorem dX8_move_48 : decode cX8_move 48 = .ok (.iload_n 1, 1) := by decide +kernel
theorem dX8_move_49 : decode cX8_move 49 = .ok (.iaload, 1) := by decide +kernel
theorem dX8_move_50 : decode cX8_move 50 = .ok (.istore 4, 2) := by decide +kernel
theorem dX8_move_52 : decode cX8_move 52 = .ok (.iload 4, 2) := by decide +kernel
theorem dX8_move_54 : decode cX8_move 54 = .ok (.iload_n 2, 1) := by decide +kernel
theorem dX8_move_55 : decode cX8_move 55 = .ok (.if_icmp .ne 6, 3) := by decide +kernel
theorem dX8_move_58 : decode cX8_move 58 = .ok (.bipush (-2), 2) := by decide +kernel
theorem dX8_move_60 : decode cX8_move 60 = .ok (.ireturn, 1) := by decide +kernel
theorem dX8_move_61 : decode cX8_move 61 = .ok (.aload_n 0, 1) := by decide +kernel
theorem dX8_move_62 : decode cX8_move 62 = .ok (.getfield 13, 3) := by decide +kernel
theorem dX8_move_65 : decode cX8_move 65 = .ok (.iload_n 1, 1) := by decide +kernel
theorem dX8_move_66 : decode cX8_move 66 = .ok (.iload_n 2, 1) := by decide +kernel
theorem dX8_move_67 : decode cX8_move 67 = .ok (.iastore, 1) := by decide +kernel
theorem dX8_move_68 : decode cX8_move 68 = .ok (.aload_n 0, 1) := by decide +kernel
theorem dX8_move_69 : decode cX8_move 69 = .ok (.invokevirtual 223, 3) := by decide +kernel
theorem dX8_move_72 : decode cX8_move 72 = .ok (.iload 4, 2) := by decide +kernel
theorem dX8_move_74 : decode cX8_move 74 = .ok (.ireturn, 1) := by decide +kernel
set_option maxHeartbeats 4000000 in
set_option maxRecDepth 20000 in
theorem c_X8_move : ConI mX8_move (fun args N lay r h Q => ∃ (b : Nat) (mp : Int → Int) (n x : Int), args = [.ref b, vI n, vI x] ∧ MdAt lay r b ∧ h (b + 2) = mp ∧ TrM mp ∧ RlM mp ∧ (-2147483648 ≤ n ∧ n < 2147483648) ∧ (-2147483648 ≤ x ∧ x < 2147483648) ∧ WaT (h (b + 7)) ∧ (1 ≤ h b 5 ∧ h b 5 < 2147483647) ∧ (¬ (((4 ≤ n ∧ n ≤ 3 + mp 129) ∧ (1 ≤ x ∧ x ≤ mp 128)) ∨ ((10 ≤ n ∧ n ≤ 9 + mp 130) ∧ (4 ≤ x ∧ x ≤ 3 + mp 129))) → Q (-1) N lay r h) ∧ ((((4 ≤ n ∧ n ≤ 3 + mp 129) ∧ (1 ≤ x ∧ x ≤ mp 128)) ∨ ((10 ≤ n ∧ n ≤ 9 + mp 130) ∧ (4 ≤ x ∧ x ≤ 3 + mp 129))) → (mp n = x → Q (-2) N lay r h) ∧ (mp n ≠ x → ∀ h2, Ch b h (h b) h2 (up mp n x) → Q (mp n) N lay r h2))) := by
  refine ConI.of (by decide) (by rintro _ N lay r h Q ⟨b, mp, n, x, rfl, hM, hmp, hT, hR, hn, hx, hwa, hep, hB, hQ⟩; exact ⟨rfl, Nat.le_of_ble_eq_true rfl⟩) ?_
  rintro E _ N lay r h Q ⟨b, mp, n, x, rfl, hM, hmp, hT, hR, hn, hx, hwa, hep, hB, hQ⟩ hret
  obtain ⟨ml0, ml1, ml2, ml3, ml4, ml5, ml6, ml7, ml8, ml9, ml10, ml11, ml12, ml13, ml14, ml15, ml16, ml17, ml18, ml19, ml20, mr1, mr2, mr3, mr4, mr5, mr6, mr7, mr8, mr9, mr10, mr11, mr12, mr13, mr14, mr15, mr16, mr17, mr18, mr19, mr20⟩ := id hM
  obtain ⟨t1, t2, t3, t4, t5, t6, t7⟩ := id hT
  obtain ⟨r1, r2, r3, r4, r5, r6, r7⟩ := id hR
  show St E mX8_move 0 [some (.ref b), some (vI n), some (vI x), none, none] [] (0, 0) N lay r h
  refine r_aload_0 (pc := 0) dX8_move_0 ?_
  refine r_iload_1 (pc := 1) dX8_move_1 ?_
  refine k_VI1 (pc := 2) c_X8_isRack lk_X8_144 ⟨Nat.le_of_ble_eq_true rfl, Nat.le_of_ble_eq_true rfl⟩ ⟨rfl, rfl⟩ ⟨Nat.le_of_ble_eq_true rfl, Nat.le_of_ble_eq_true rfl⟩ (k := 8) rfl (by decide) (by assumption) dX8_move_2 (Nat.le_of_ble_eq_true rfl) ?_
  refine ⟨_, _, _, rfl, by assumption, by first | assumption | exact rfl, by omega, by omega, ?_⟩
  refine r_ifeq_b (pc := 5) (tgt := 16) dX8_move_5 (by decide) (fun c_5 => ?_) (fun c_5 => ?_)
  · refine r_aload_0 (pc := 16) dX8_move_16 ?_
    refine r_iload_1 (pc := 17) dX8_move_17 ?_
    refine k_VI1 (pc := 18) c_X8_isDisk lk_X8_147 ⟨Nat.le_of_ble_eq_true rfl, Nat.le_of_ble_eq_true rfl⟩ ⟨rfl, rfl⟩ ⟨Nat.le_of_ble_eq_true rfl, Nat.le_of_ble_eq_true rfl⟩ (k := 8) rfl (by decide) (by assumption) dX8_move_18 (Nat.le_of_ble_eq_true rfl) ?_
    refine ⟨_, _, _, rfl, by assumption, by first | assumption | exact rfl, by omega, by omega, ?_⟩
    refine r_ifeq_b (pc := 21) (tgt := 36) dX8_move_21 (by decide) (fun c_21 => ?_) (fun c_21 => ?_)
    · refine r_iconst (pc := 36) dX8_move_36 ?_
      refine r_istore_3 (pc := 37) dX8_move_37 rfl ?_
      refine r_iload_3 (pc := 38) dX8_move_38 ?_
      refine r_ifne_F (pc := 39) (tgt := 44) dX8_move_39 (by decide) (by decide) ?_
      refine r_iconst (pc := 42) dX8_move_42 ?_
      refine r_iret (pc := 43) hret dX8_move_43 rfl rfl rfl ?_
      first | exact hB (by omega) | exact (hQ (by omega)).1 c_55 | exact (hQ (by omega)).2 c_55 h_69 ch
    · refine r_aload_0 (pc := 24) dX8_move_24 ?_
      refine r_iload_2 (pc := 25) dX8_move_25 ?_
      refine k_VI1 (pc := 26) c_X8_isRack lk_X8_144 ⟨Nat.le_of_ble_eq_true rfl, Nat.le_of_ble_eq_true rfl⟩ ⟨rfl, rfl⟩ ⟨Nat.le_of_ble_eq_true rfl, Nat.le_of_ble_eq_true rfl⟩ (k := 8) rfl (by decide) (by assumption) dX8_move_26 (Nat.le_of_ble_eq_true rfl) ?_
      refine ⟨_, _, _, rfl, by assumption, by first | assumption | exact rfl, by omega, by omega, ?_⟩
      refine r_ifeq_b (pc := 29) (tgt := 36) dX8_move_29 (by decide) (fun c_29 => ?_) (fun c_29 => ?_)
      · refine r_iconst (pc := 36) dX8_move_36 ?_
        refine r_istore_3 (pc := 37) dX8_move_37 rfl ?_
        refine r_iload_3 (pc := 38) dX8_move_38 ?_
        refine r_ifne_F (pc := 39) (tgt := 44) dX8_move_39 (by decide) (by decide) ?_
        refine r_iconst (pc := 42) dX8_move_42 ?_
        refine r_iret (pc := 43) hret dX8_move_43 rfl rfl rfl ?_
        first | exact hB (by omega) | exact (hQ (by omega)).1 c_55 | exact (hQ (by omega)).2 c_55 h_69 ch
      · refine r_iconst (pc := 32) dX8_move_32 ?_
        refine r_goto (pc := 33) (tgt := 37) dX8_move_33 (by decide) ?_
        refine r_istore_3 (pc := 37) dX8_move_37 rfl ?_
        refine r_iload_3 (pc := 38) dX8_move_38 ?_
        refine r_ifne_T (pc := 39) (tgt := 44) dX8_move_39 (by decide) (by decide) ?_
        refine r_aload_0 (pc := 44) dX8_move_44 ?_
        refine gf_X8_13 (pc := 45) rfl (by assumption) dX8_move_45 (by assumption) ?_
        refine r_iload_1 (pc := 48) dX8_move_48 ?_
        refine r_ialdE (pc := 49) (by assumption) (by first | assumption | exact rfl) dX8_move_49 (by omega) (by omega) (fun i_49 => ?_)
        refine r_istore_4 (pc := 50) dX8_move_50 rfl ?_
        refine r_iload_4 (pc := 52) dX8_move_52 ?_
        refine r_iload_2 (pc := 54) dX8_move_54 ?_
        refine r_icmp_ne (pc := 55) (tgt := 61) dX8_move_55 (by decide) (by omega) (by omega) (fun c_55 => ?_) (fun c_55 => ?_)
        · refine r_aload_0 (pc := 61) dX8_move_61 ?_
          refine gf_X8_13 (pc := 62) rfl (by assumption) dX8_move_62 (by assumption) ?_
          refine r_iload_1 (pc := 65) dX8_move_65 ?_
          refine r_iload_2 (pc := 66) dX8_move_66 ?_
          refine r_iastE (pc := 67) (by assumption) (by first | assumption | exact rfl) dX8_move_67 (by omega) (by omega) (by omega) ?_
          refine r_aload_0 (pc := 68) dX8_move_68 ?_
          have em2 : (hr h (b + 2) (up mp n x)) (b + 2) = (up mp n x) := hr_s
          have hT2 : TrM (up mp n x) := TrM_move hT (by omega)
          have hR2 : RlM (up mp n x) := RlM_c hR hT (fun j hj => up_n (by omega))
          have eb2 : (hr h (b + 2) (up mp n x)) b = (h b) := hr_n (by omega)
          have g2 : Fr h (hr h (b + 2) (up mp n x)) (fun x => x = b ∨ x = b + 2) := fun x hx => hr_n (by omega)
          have hwa2 : WaT ((hr h (b + 2) (up mp n x)) (b + 7)) := by rw [g2 _ (by omega)]; exact hwa
          have hep2 : 1 ≤ (hr h (b + 2) (up mp n x)) b 5 ∧ (hr h (b + 2) (up mp n x)) b 5 < 2147483647 := by rw [eb2]; exact hep
          refine k_VV0 (pc := 69) c_X8_changed lk_X8_223 ⟨Nat.le_of_ble_eq_true rfl, Nat.le_of_ble_eq_true rfl⟩ ⟨rfl, rfl⟩ ⟨Nat.le_of_ble_eq_true rfl, Nat.le_of_ble_eq_true rfl⟩ (k := 8) rfl (by decide) (by assumption) dX8_move_69 (Nat.le_of_ble_eq_true rfl) ?_
          refine ⟨_, _, rfl, hM, em2, hT2, hR2, hwa2, hep2, fun h_69 f_69 o_69 k_69 q_69 a_69 => ?_⟩
          have ch := Ch_of g2 eb2 em2 f_69 o_69 k_69 q_69 a_69
          refine r_iload_4 (pc := 72) dX8_move_72 ?_
          refine r_iret (pc := 74) hret dX8_move_74 rfl rfl rfl ?_
          first | exact hB (by omega) | exact (hQ (by omega)).1 c_55 | exact (hQ (by omega)).2 c_55 h_69 ch
        · refine r_bipush (pc := 58) dX8_move_58 (by decide) ?_
          refine r_iret (pc := 60) hret dX8_move_60 rfl rfl rfl ?_
          first | exact hB (by omega) | exact (hQ (by omega)).1 c_55 | exact (hQ (by omega)).2 c_55 h_69 ch
  · refine r_aload_0 (pc := 8) dX8_move_8 ?_
    refine r_iload_2 (pc := 9) dX8_move_9 ?_
    refine k_VI1 (pc := 10) c_X8_isHall lk_X8_141 ⟨Nat.le_of_ble_eq_true rfl, Nat.le_of_ble_eq_true rfl⟩ ⟨rfl, rfl⟩ ⟨Nat.le_of_ble_eq_true rfl, Nat.le_of_ble_eq_true rfl⟩ (k := 8) rfl (by decide) (by assumption) dX8_move_10 (Nat.le_of_ble_eq_true rfl) ?_
    refine ⟨_, _, _, rfl, by assumption, by first | assumption | exact rfl, by omega, by omega, ?_⟩
    refine r_ifne_b (pc := 13) (tgt := 32) dX8_move_13 (by decide) (fun c_13 => ?_) (fun c_13 => ?_)
    · refine r_iconst (pc := 32) dX8_move_32 ?_
      refine r_goto (pc := 33) (tgt := 37) dX8_move_33 (by decide) ?_
      refine r_istore_3 (pc := 37) dX8_move_37 rfl ?_
      refine r_iload_3 (pc := 38) dX8_move_38 ?_
      refine r_ifne_T (pc := 39) (tgt := 44) dX8_move_39 (by decide) (by decide) ?_
      refine r_aload_0 (pc := 44) dX8_move_44 ?_
      refine gf_X8_13 (pc := 45) rfl (by assumption) dX8_move_45 (by assumption) ?_
      refine r_iload_1 (pc := 48) dX8_move_48 ?_
      refine r_ialdE (pc := 49) (by assumption) (by first | assumption | exact rfl) dX8_move_49 (by omega) (by omega) (fun i_49 => ?_)
      refine r_istore_4 (pc := 50) dX8_move_50 rfl ?_
      refine r_iload_4 (pc := 52) dX8_move_52 ?_
      refine r_iload_2 (pc := 54) dX8_move_54 ?_
      refine r_icmp_ne (pc := 55) (tgt := 61) dX8_move_55 (by decide) (by omega) (by omega) (fun c_55 => ?_) (fun c_55 => ?_)
      · refine r_aload_0 (pc := 61) dX8_move_61 ?_
        refine gf_X8_13 (pc := 62) rfl (by assumption) dX8_move_62 (by assumption) ?_
        refine r_iload_1 (pc := 65) dX8_move_65 ?_
        refine r_iload_2 (pc := 66) dX8_move_66 ?_
        refine r_iastE (pc := 67) (by assumption) (by first | assumption | exact rfl) dX8_move_67 (by omega) (by omega) (by omega) ?_
        refine r_aload_0 (pc := 68) dX8_move_68 ?_
        have em2 : (hr h (b + 2) (up mp n x)) (b + 2) = (up mp n x) := hr_s
        have hT2 : TrM (up mp n x) := TrM_move hT (by omega)
        have hR2 : RlM (up mp n x) := RlM_c hR hT (fun j hj => up_n (by omega))
        have eb2 : (hr h (b + 2) (up mp n x)) b = (h b) := hr_n (by omega)
        have g2 : Fr h (hr h (b + 2) (up mp n x)) (fun x => x = b ∨ x = b + 2) := fun x hx => hr_n (by omega)
        have hwa2 : WaT ((hr h (b + 2) (up mp n x)) (b + 7)) := by rw [g2 _ (by omega)]; exact hwa
        have hep2 : 1 ≤ (hr h (b + 2) (up mp n x)) b 5 ∧ (hr h (b + 2) (up mp n x)) b 5 < 2147483647 := by rw [eb2]; exact hep
        refine k_VV0 (pc := 69) c_X8_changed lk_X8_223 ⟨Nat.le_of_ble_eq_true rfl, Nat.le_of_ble_eq_true rfl⟩ ⟨rfl, rfl⟩ ⟨Nat.le_of_ble_eq_true rfl, Nat.le_of_ble_eq_true rfl⟩ (k := 8) rfl (by decide) (by assumption) dX8_move_69 (Nat.le_of_ble_eq_true rfl) ?_
        refine ⟨_, _, rfl, hM, em2, hT2, hR2, hwa2, hep2, fun h_69 f_69 o_69 k_69 q_69 a_69 => ?_⟩
        have ch := Ch_of g2 eb2 em2 f_69 o_69 k_69 q_69 a_69
        refine r_iload_4 (pc := 72) dX8_move_72 ?_
        refine r_iret (pc := 74) hret dX8_move_74 rfl rfl rfl ?_
        first | exact hB (by omega) | exact (hQ (by omega)).1 c_55 | exact (hQ (by omega)).2 c_55 h_69 ch
      · refine r_bipush (pc := 58) dX8_move_58 (by decide) ?_
        refine r_iret (pc := 60) hret dX8_move_60 rfl rfl rfl ?_
        first | exact hB (by omega) | exact (hQ (by omega)).1 c_55 | exact (hQ (by omega)).2 c_55 h_69 ch
    · refine r_aload_0 (pc := 16) dX8_move_16 ?_
      refine r_iload_1 (pc := 17) dX8_move_17 ?_
      refine k_VI1 (pc := 18) c_X8_isDisk lk_X8_147 ⟨Nat.le_of_ble_eq_true rfl, Nat.le_of_ble_eq_true rfl⟩ ⟨rfl, rfl⟩ ⟨Nat.le_of_ble_eq_true rfl, Nat.le_of_ble_eq_true rfl⟩ (k := 8) rfl (by decide) (by assumption) dX8_move_18 (Nat.le_of_ble_eq_true rfl) ?_
      refine ⟨_, _, _, rfl, by assumption, by first | assumption | exact rfl, by omega, by omega, ?_⟩
      refine r_ifeq_b (pc := 21) (tgt := 36) dX8_move_21 (by decide) (fun c_21 => ?_) (fun c_21 => ?_)
      · refine r_iconst (pc := 36) dX8_move_36 ?_
        refine r_istore_3 (pc := 37) dX8_move_37 rfl ?_
        refine r_iload_3 (pc := 38) dX8_move_38 ?_
        refine r_ifne_F (pc := 39) (tgt := 44) dX8_move_39 (by decide) (by decide) ?_
        refine r_iconst (pc := 42) dX8_move_42 ?_
        refine r_iret (pc := 43) hret dX8_move_43 rfl rfl rfl ?_
        first | exact hB (by omega) | exact (hQ (by omega)).1 c_55 | exact (hQ (by omega)).2 c_55 h_69 ch
      · refine r_aload_0 (pc := 24) dX8_move_24 ?_
        refine r_iload_2 (pc := 25) dX8_move_25 ?_
        refine k_VI1 (pc := 26) c_X8_isRack lk_X8_144 ⟨Nat.le_of_ble_eq_true rfl, Nat.le_of_ble_eq_true rfl⟩ ⟨rfl, rfl⟩ ⟨Nat.le_of_ble_eq_true rfl, Nat.le_of_ble_eq_true rfl⟩ (k := 8) rfl (by decide) (by assumption) dX8_move_26 (Nat.le_of_ble_eq_true rfl) ?_
        refine ⟨_, _, _, rfl, by assumption, by first | assumption | exact rfl, by omega, by omega, ?_⟩
        refine r_ifeq_b (pc := 29) (tgt := 36) dX8_move_29 (by decide) (fun c_29 => ?_) (fun c_29 => ?_)
        · refine r_iconst (pc := 36) dX8_move_36 ?_
          refine r_istore_3 (pc := 37) dX8_move_37 rfl ?_
          refine r_iload_3 (pc := 38) dX8_move_38 ?_
          refine r_ifne_F (pc := 39) (tgt := 44) dX8_move_39 (by decide) (by decide) ?_
          refine r_iconst (pc := 42) dX8_move_42 ?_
          refine r_iret (pc := 43) hret dX8_move_43 rfl rfl rfl ?_
          first | exact hB (by omega) | exact (hQ (by omega)).1 c_55 | exact (hQ (by omega)).2 c_55 h_69 ch
        · refine r_iconst (pc := 32) dX8_move_32 ?_
          refine r_goto (pc := 33) (tgt := 37) dX8_move_33 (by decide) ?_
          refine r_istore_3 (pc := 37) dX8_move_37 rfl ?_
          refine r_iload_3 (pc := 38) dX8_move_38 ?_
          refine r_ifne_T (pc := 39) (tgt := 44) dX8_move_39 (by decide) (by decide) ?_
          refine r_aload_0 (pc := 44) dX8_move_44 ?_
          refine gf_X8_13 (pc := 45) rfl (by assumption) dX8_move_45 (by assumption) ?_
          refine r_iload_1 (pc := 48) dX8_move_48 ?_
          refine r_ialdE (pc := 49) (by assumption) (by first | assumption | exact rfl) dX8_move_49 (by omega) (by omega) (fun i_49 => ?_)
          refine r_istore_4 (pc := 50) dX8_move_50 rfl ?_
          refine r_iload_4 (pc := 52) dX8_move_52 ?_
          refine r_iload_2 (pc := 54) dX8_move_54 ?_
          refine r_icmp_ne (pc := 55) (tgt := 61) dX8_move_55 (by decide) (by omega) (by omega) (fun c_55 => ?_) (fun c_55 => ?_)
          · refine r_aload_0 (pc := 61) dX8_move_61 ?_
            refine gf_X8_13 (pc := 62) rfl (by assumption) dX8_move_62 (by assumption) ?_
            refine r_iload_1 (pc := 65) dX8_move_65 ?_
            refine r_iload_2 (pc := 66) dX8_move_66 ?_
            refine r_iastE (pc := 67) (by assumption) (by first | assumption | exact rfl) dX8_move_67 (by omega) (by omega) (by omega) ?_
            refine r_aload_0 (pc := 68) dX8_move_68 ?_
            have em2 : (hr h (b + 2) (up mp n x)) (b + 2) = (up mp n x) := hr_s
            have hT2 : TrM (up mp n x) := TrM_move hT (by omega)
            have hR2 : RlM (up mp n x) := RlM_c hR hT (fun j hj => up_n (by omega))
            have eb2 : (hr h (b + 2) (up mp n x)) b = (h b) := hr_n (by omega)
            have g2 : Fr h (hr h (b + 2) (up mp n x)) (fun x => x = b ∨ x = b + 2) := fun x hx => hr_n (by omega)
            have hwa2 : WaT ((hr h (b + 2) (up mp n x)) (b + 7)) := by rw [g2 _ (by omega)]; exact hwa
            have hep2 : 1 ≤ (hr h (b + 2) (up mp n x)) b 5 ∧ (hr h (b + 2) (up mp n x)) b 5 < 2147483647 := by rw [eb2]; exact hep
            refine k_VV0 (pc := 69) c_X8_changed lk_X8_223 ⟨Nat.le_of_ble_eq_true rfl, Nat.le_of_ble_eq_true rfl⟩ ⟨rfl, rfl⟩ ⟨Nat.le_of_ble_eq_true rfl, Nat.le_of_ble_eq_true rfl⟩ (k := 8) rfl (by decide) (by assumption) dX8_move_69 (Nat.le_of_ble_eq_true rfl) ?_
            refine ⟨_, _, rfl, hM, em2, hT2, hR2, hwa2, hep2, fun h_69 f_69 o_69 k_69 q_69 a_69 => ?_⟩
            have ch := Ch_of g2 eb2 em2 f_69 o_69 k_69 q_69 a_69
            refine r_iload_4 (pc := 72) dX8_move_72 ?_
            refine r_iret (pc := 74) hret dX8_move_74 rfl rfl rfl ?_
            first | exact hB (by omega) | exact (hQ (by omega)).1 c_55 | exact (hQ (by omega)).2 c_55 h_69 ch
          · refine r_bipush (pc := 58) dX8_move_58 (by decide) ?_
            refine r_iret (pc := 60) hret dX8_move_60 rfl rfl rfl ?_
            first | exact hB (by omega) | exact (hQ (by omega)).1 c_55 | exact (hQ (by omega)).2 c_55 h_69 ch

