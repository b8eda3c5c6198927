/-! THE REFERENCE: disk, divert, lift, back, refill -/
def dkM (mp : Int → Int) (x w c : Int) : Int → Int := (up (up (up (up (up (up mp (10 + mp 130) x) (22 + (10 + mp 130)) w) (44 + (10 + mp 130)) (10 * c)) (66 + (10 + mp 130)) 16) (88 + (10 + mp 130)) 0) 130 (mp 130 + 1))
theorem dkM_e {mp : Int → Int} {x w c j : Int} (h : 0 ≤ mp 130 ∧ mp 130 ≤ 12) (hj : j ≠ 10 + mp 130 ∧ j ≠ 32 + mp 130 ∧ j ≠ 54 + mp 130 ∧ j ≠ 76 + mp 130 ∧ j ≠ 98 + mp 130 ∧ j ≠ 130) : dkM mp x w c j = mp j := by
  unfold dkM
  rw [up_n (by omega), up_n (by omega), up_n (by omega), up_n (by omega), up_n (by omega), up_n (by omega)]
theorem dkM_0 {mp : Int → Int} {x w c : Int} : dkM mp x w c 130 = mp 130 + 1 := up_s
theorem dkM_1 {mp : Int → Int} {x w c : Int} (h : 0 ≤ mp 130 ∧ mp 130 ≤ 12) : dkM mp x w c (10 + mp 130) = x := by
  unfold dkM
  rw [up_n (by omega), up_n (by omega), up_n (by omega), up_n (by omega), up_n (by omega), up_s]
theorem dkM_2 {mp : Int → Int} {x w c : Int} (h : 0 ≤ mp 130 ∧ mp 130 ≤ 12) : dkM mp x w c (22 + (10 + mp 130)) = w := by
  unfold dkM
  rw [up_n (by omega), up_n (by omega), up_n (by omega), up_n (by omega), up_s]
theorem dkM_3 {mp : Int → Int} {x w c : Int} (h : 0 ≤ mp 130 ∧ mp 130 ≤ 12) : dkM mp x w c (44 + (10 + mp 130)) = 10 * c := by
  unfold dkM
  rw [up_n (by omega), up_n (by omega), up_n (by omega), up_s]
theorem dkM_4 {mp : Int → Int} {x w c : Int} (h : 0 ≤ mp 130 ∧ mp 130 ≤ 12) : dkM mp x w c (66 + (10 + mp 130)) = 16 := by
  unfold dkM
  rw [up_n (by omega), up_n (by omega), up_s]
theorem dkM_5 {mp : Int → Int} {x w c : Int} (h : 0 ≤ mp 130 ∧ mp 130 ≤ 12) : dkM mp x w c (88 + (10 + mp 130)) = 0 := by
  unfold dkM
  rw [up_n (by omega), up_s]
theorem TrM_disk {mp : Int → Int} {x w c : Int} (h : TrM mp) (hx : 4 ≤ x ∧ x ≤ 3 + mp 129) (hw : 0 ≤ w ∧ w ≤ 40) (h12 : mp 130 < 12) : TrM (dkM mp x w c) := by
  obtain ⟨t1, t2, t3, t4, t5, t6, t7⟩ := h
  have e8 : dkM mp x w c 128 = mp 128 := dkM_e t3 (by omega)
  have e9 : dkM mp x w c 129 = mp 129 := dkM_e t3 (by omega)
  refine ⟨by rw [e8]; exact t1, by rw [e9]; exact t2, by rw [dkM_0]; omega, fun n n0 n1 => by rw [dkM_e t3 (by omega)]; exact t4 n n0 n1, fun n n0 n1 => ?_, fun n n0 n1 => ?_, fun n n0 n1 => ?_⟩
  · rw [e9] at n1
    rw [dkM_e t3 (by omega), e8]; exact t5 n n0 n1
  · rw [dkM_0] at n1
    rw [e9]
    by_cases en : n = 10 + mp 130
    · rw [en, dkM_1 t3]; omega
    · rw [dkM_e t3 (by omega)]; exact t6 n n0 (by omega)
  · rw [dkM_0] at n1
    by_cases en : n = 10 + mp 130
    · rw [en, dkM_2 t3]; exact hw
    · rw [dkM_e t3 (by omega)]; exact t7 n n0 (by omega)
theorem RlM_disk {mp : Int → Int} {x w c : Int} (h : RlM mp) (hT : TrM mp) (hc : 0 ≤ c ∧ c ≤ 99) (h12 : mp 130 < 12) : RlM (dkM mp x w c) := by
  obtain ⟨r1, r2, r3, r4, r5, r6, r7⟩ := h
  have t3 := hT.2.2.1
  have e5 : dkM mp x w c 135 = mp 135 := dkM_e t3 (by omega)
  refine ⟨by rw [dkM_e t3 (by omega)]; exact r1, by rw [dkM_e t3 (by omega)]; exact r2, by rw [dkM_e t3 (by omega)]; exact r3, by rw [dkM_e t3 (by omega)]; exact r4, by rw [e5]; exact r5, fun n n0 n1 => ?_, fun n n0 n1 => ?_⟩
  · rw [dkM_0] at n1
    by_cases en : n = 10 + mp 130
    · rw [en, dkM_3 t3, dkM_4 t3, dkM_5 t3]; omega
    · rw [dkM_e t3 (by omega), dkM_e t3 (by omega), dkM_e t3 (by omega)]; exact r6 n n0 (by omega)
  · rw [e5] at n1
    have q7 := r7 n n0 n1
    rw [dkM_e t3 (show 110 + 3 * n ≠ 10 + mp 130 ∧ _ by omega), dkM_e t3 (show 111 + 3 * n ≠ 10 + mp 130 ∧ _ by omega), dkM_e t3 (show 112 + 3 * n ≠ 10 + mp 130 ∧ _ by omega), dkM_0]
    omega
theorem dX8_disk_0 : decode cX8_disk 0 = .ok (.aload_n 0, 1) := by decide +kernel
theorem dX8_disk_1 : decode cX8_disk 1 = .ok (.iload_n 1, 1) := by decide +kernel
theorem dX8_disk_2 : decode cX8_disk 2 = .ok (.invokevirtual 144, 3) := by decide +kernel
theorem dX8_disk_5 : decode cX8_disk 5 = .ok (.ifCond .eq 25, 3) := by decide +kernel
theorem dX8_disk_8 : decode cX8_disk 8 = .ok (.aload_n 0, 1) := by decide +kernel
theorem dX8_disk_9 : decode cX8_disk 9 = .ok (.iload_n 2, 1) := by decide +kernel
theorem dX8_disk_10 : decode cX8_disk 10 = .ok (.iconst 0, 1) := by decide +kernel
theorem dX8_disk_11 : decode cX8_disk 11 = .ok (.bipush 40, 2) := by decide +kernel
theorem dX8_disk_13 : decode cX8_disk 13 = .ok (.invokevirtual 137, 3) := by decide +kernel
theorem dX8_disk_16 : decode cX8_disk 16 = .ok (.ifCond .eq 14, 3) := by decide +kernel
theorem dX8_disk_19 : decode cX8_disk 19 = .ok (.aload_n 0, 1) := by decide +kernel
theorem dX8_disk_20 : decode cX8_disk 20 = .ok (.iload_n 3, 1) := by decide +kernel
theorem dX8_disk_21 : decode cX8_disk 21 = .ok (.iconst 0, 1) := by decide +kernel
theorem dX8_disk_22 : decode cX8_disk 22 = .ok (.bipush 99, 2) := by decide +kernel
theorem dX8_disk_24 : decode cX8_disk 24 = .ok (.invokevirtual 137, 3) := by decide +kernel
theorem dX8_disk_27 : decode cX8_disk 27 = .ok (.ifCond .ne 5, 3) := by decide +kernel
theorem dX8_disk_30 : decode cX8_disk 30 = .ok (.iconst (-1), 1) := by decide +kernel
theorem dX8_disk_31 : decode cX8_disk 31 = .ok (.ireturn, 1) := by decide +kernel
theorem dX8_disk_32 : decode cX8_disk 32 = .ok (.aload_n 0, 1) := by decide +kernel
theorem dX8_disk_33 : decode cX8_disk 33 = .ok (.getfield 13, 3) := by decide +kernel
theorem dX8_disk_36 : decode cX8_disk 36 = .ok (.sipush 130, 3) := by decide +kernel
theorem dX8_disk_39 : decode cX8_disk 39 = .ok (.iaload, 1) := by decide +kernel
theorem dX8_disk_40 : decode cX8_disk 40 = .ok (.bipush 12, 2) := by decide +kernel
theorem dX8_disk_42 : decode cX8_disk 42 = .ok (.if_icmp .ne 6, 3) := by decide +kernel
theorem dX8_disk_45 : decode cX8_disk 45 = .ok (.bipush (-3), 2) := by decide +kernel
theorem dX8_disk_47 : decode cX8_disk 47 = .ok (.ireturn, 1) := by decide +kernel
theorem dX8_disk_48 : decode cX8_disk 48 = .ok (.bipush 10, 2) := by decide +kernel
theorem dX8_disk_50 : decode cX8_disk 50 = .ok (.aload_n 0, 1) := by decide +kernel
theorem dX8_disk_51 : decode cX8_disk 51 = .ok (.getfield 13, 3) := by decide +kernel
theorem dX8_disk_54 : decode cX8_disk 54 = .ok (.sipush 130, 3) := by decide +kernel
theorem dX8_disk_57 : decode cX8_disk 57 = .ok (.iaload, 1) := by decide +kernel
theorem dX8_disk_58 : decode cX8_disk 58 = .ok (.iadd, 1) := by decide +kernel
theorem dX8_disk_59 : decode cX8_disk 59 = .ok (.istore 4, 2) := by decide +kernel
theorem dX8_disk_61 : decode cX8_disk 61 = .ok (.aload_n 0, 1) := by decide +kernel
theorem dX8_disk_62 : decode cX8_disk 62 = .ok (.getfield 13, 3) := by decide +kernel
theorem dX8_disk_65 : decode cX8_disk 65 = .ok (.iload 4, 2) := by decide +kernel
theorem dX8_disk_67 : decode cX8_disk 67 = .ok (.iload_n 1, 1) := by decide +kernel
theorem dX8_disk_68 : decode cX8_disk 68 = .ok (.iastore, 1) := by decide +kernel
theorem dX8_disk_69 : decode cX8_disk 69 = .ok (.aload_n 0, 1) := by decide +kernel
theorem dX8_disk_70 : decode cX8_disk 70 = .ok (.getfield 13, 3) := by decide +kernel
theorem dX8_disk_73 : decode cX8_disk 73 = .ok (.bipush 22, 2) := by decide +kernel
theorem dX8_disk_75 : decode cX8_disk 75 = .ok (.iload 4, 2) := by decide +kernel
theorem dX8_disk_77 : decode cX8_disk 77 = .ok (.iadd, 1) := by decide +kernel
theorem dX8_disk_78 : decode cX8_disk 78 = .ok (.iload_n 2, 1) := by decide +kernel
theorem dX8_disk_79 : decode cX8_disk 79 = .ok (.iastore, 1) := by decide +kernel
theorem dX8_disk_80 : decode cX8_disk 80 = .ok (.aload_n 0, 1) := by decide +kernel
theorem dX8_disk_81 : decode cX8_disk 81 = .ok (.getfield 13, 3) := by decide +kernel
theorem dX8_disk_84 : decode cX8_disk 84 = .ok (.bipush 44, 2) := by decide +kernel
theorem dX8_disk_86 : decode cX8_disk 86 = .ok (.iload 4, 2) := by decide +kernel
theorem dX8_disk_88 : decode cX8_disk 88 = .ok (.iadd, 1) := by decide +kernel
theorem dX8_disk_89 : decode cX8_disk 89 = .ok (.bipush 10, 2) := by decide +kernel
theorem dX8_disk_91 : decode cX8_disk 91 = .ok (.iload_n 3, 1) := by decide +kernel
theorem dX8_disk_92 : decode cX8_disk 92 = .ok (.imul, 1) := by decide +kernel
theorem dX8_disk_93 : decode cX8_disk 93 = .ok (.iastore, 1) := by decide +kernel
theorem dX8_disk_94 : decode cX8_disk 94 = .ok (.aload_n 0, 1) := by decide +kernel
theorem dX8_disk_95 : decode cX8_disk 95 = .ok (.getfield 13, 3) := by decide +kernel
theorem dX8_disk_98 : decode cX8_disk 98 = .ok (.bipush 66, 2) := by decide +kernel
theorem dX8_disk_100 : decode cX8_disk 100 = .ok (.iload 4, 2) := by decide +kernel
theorem dX8_disk_102 : decode cX8_disk 102 = .ok (.iadd, 1) := by decide +kernel
theorem dX8_disk_103 : decode cX8_disk 103 = .ok (.bipush 16, 2) := by decide +kernel
theorem dX8_disk_105 : decode cX8_disk 105 = .ok (.iastore, 1) := by decide +kernel
theorem dX8_disk_106 : decode cX8_disk 106 = .ok (.aload_n 0, 1) := by decide +kernel
theorem dX8_disk_107 : decode cX8_disk 107 = .ok (.getfield 13, 3) := by decide +kernel
theorem dX8_disk_110 : decode cX8_disk 110 = .ok (.bipush 88, 2) := by decide +kernel
theorem dX8_disk_112 : decode cX8_disk 112 = .ok (.iload 4, 2) := by decide +kernel
theorem dX8_disk_114 : decode cX8_disk 114 = .ok (.iadd, 1) := by decide +kernel
theorem dX8_disk_115 : decode cX8_disk 115 = .ok (.iconst 0, 1) := by decide +kernel
theorem dX8_disk_116 : decode cX8_disk 116 = .ok (.iastore, 1) := by decide +kernel
theorem dX8_disk_117 : decode cX8_disk 117 = .ok (.aload_n 0, 1) := by decide +kernel
theorem dX8_disk_118 : decode cX8_disk 118 = .ok (.getfield 13, 3) := by decide +kernel
theorem dX8_disk_121 : decode cX8_disk 121 = .ok (.sipush 130, 3) := by decide +kernel
theorem dX8_disk_124 : decode cX8_disk 124 = .ok (.dup2, 1) := by decide +kernel
theorem dX8_disk_125 : decode cX8_disk 125 = .ok (.iaload, 1) := by decide +kernel
theorem dX8_disk_126 : decode cX8_disk 126 = .ok (.iconst 1, 1) := by decide +kernel
theorem dX8_disk_127 : decode cX8_disk 127 = .ok (.iadd, 1) := by decide +kernel
theorem dX8_disk_128 : decode cX8_disk 128 = .ok (.iastore, 1) := by decide +kernel
theorem dX8_disk_129 : decode cX8_disk 129 = .ok (.aload_n 0, 1) := by decide +kernel
theorem dX8_disk_130 : decode cX8_disk 130 = .ok (.dup, 1) := by decide +kernel
theorem dX8_disk_131 : decode cX8_disk 131 = .ok (.getfield 125, 3) := by decide +kernel
theorem dX8_disk_134 : decode cX8_disk 134 = .ok (.iconst 1, 1) := by decide +kernel
theorem dX8_disk_135 : decode cX8_disk 135 = .ok (.iload 4, 2) := by decide +kernel
theorem dX8_disk_137 : decode cX8_disk 137 = .ok (.bipush 10, 2) := by decide +kernel
theorem dX8_disk_139 : decode cX8_disk 139 = .ok (.isub, 1) := by decide +kernel
theorem dX8_disk_140 : decode cX8_disk 140 = .ok (.ishl, 1) := by decide +kernel
theorem dX8_disk_141 : decode cX8_disk 141 = .ok (.ior, 1) := by decide +kernel
theorem dX8_disk_142 : decode cX8_disk 142 = .ok (.putfield 125, 3) := by decide +kernel
theorem dX8_disk_145 : decode cX8_disk 145 = .ok (.aload_n 0, 1) := by decide +kernel
theorem dX8_disk_146 : decode cX8_disk 146 = .ok (.invokevirtual 223, 3) := by decide +kernel
theorem dX8_disk_149 : decode cX8_disk 149 = .ok (.iload 4, 2) := by decide +kernel
theorem dX8_disk_151 : decode cX8_disk 151 = .ok (.ireturn, 1) := by decide +kernel
set_option maxHeartbeats 4000000 in
set_option maxRecDepth 20000 in
theorem c_X8_disk : ConI mX8_disk (fun args N lay r h Q => ∃ (b : Nat) (mp : Int → Int) (x w c : Int), args = [.ref b, vI x, vI w, vI c] ∧ MdAt lay r b ∧ h (b + 2) = mp ∧ TrM mp ∧ RlM mp ∧ (-2147483648 ≤ x ∧ x < 2147483648) ∧ (-2147483648 ≤ w ∧ w < 2147483648) ∧ (-2147483648 ≤ c ∧ c < 2147483648) ∧ WaT (h (b + 7)) ∧ (1 ≤ h b 5 ∧ h b 5 < 2147483647) ∧ (¬ ((4 ≤ x ∧ x ≤ 3 + mp 129) ∧ (0 ≤ w ∧ w ≤ 40) ∧ (0 ≤ c ∧ c ≤ 99)) → Q (-1) N lay r h) ∧ (((4 ≤ x ∧ x ≤ 3 + mp 129) ∧ (0 ≤ w ∧ w ≤ 40) ∧ (0 ≤ c ∧ c ≤ 99)) → (mp 130 = 12 → Q (-3) N lay r h) ∧ (mp 130 ≠ 12 → ∀ h2, Ch b h (up (h b) 17 (iO (h b 17) (iSl 1 (10 + mp 130 - 10)))) h2 (dkM mp x w c) → Q (10 + mp 130) N lay r h2))) := by
  refine ConI.of (by decide) (by rintro _ N lay r h Q ⟨b, mp, x, w, c, rfl, hM, hmp, hT, hR, hx, hw, hc, hwa, hep, hB, hQ⟩; exact ⟨rfl, Nat.le_of_ble_eq_true rfl⟩) ?_
  rintro E _ N lay r h Q ⟨b, mp, x, w, c, rfl, hM, hmp, hT, hR, hx, hw, hc, hwa, hep, hB, hQ⟩ hret
  obtain ⟨ml0, ml1, ml2, ml3, ml4, ml5, ml6, ml7, ml8, ml9, ml10, ml11, ml12, ml13, ml14, ml15, ml16, ml17, ml18, ml19, ml20, mr1, mr2, mr3, mr4, mr5, mr6, mr7, mr8, mr9, mr10, mr11, mr12, mr13, mr14, mr15, mr16, mr17, mr18, mr19, mr20⟩ := id hM
  obtain ⟨t1, t2, t3, t4, t5, t6, t7⟩ := id hT
  obtain ⟨r1, r2, r3, r4, r5, r6, r7⟩ := id hR
  show St E mX8_disk 0 [some (.ref b), some (vI x), some (vI w), some (vI c), none] [] (0, 0) N lay r h
  refine r_aload_0 (pc := 0) dX8_disk_0 ?_
  refine r_iload_1 (pc := 1) dX8_disk_1 ?_
  refine k_VI1 (pc := 2) c_X8_isRack lk_X8_144 ⟨Nat.le_of_ble_eq_true rfl, Nat.le_of_ble_eq_true rfl⟩ ⟨rfl, rfl⟩ ⟨Nat.le_of_ble_eq_true rfl, Nat.le_of_ble_eq_true rfl⟩ (k := 8) rfl (by decide) (by assumption) dX8_disk_2 (Nat.le_of_ble_eq_true rfl) ?_
  refine ⟨_, _, _, rfl, by assumption, by first | assumption | exact rfl, by omega, by omega, ?_⟩
  refine r_ifeq_b (pc := 5) (tgt := 30) dX8_disk_5 (by decide) (fun c_5 => ?_) (fun c_5 => ?_)
  · refine r_iconst (pc := 30) dX8_disk_30 ?_
    refine r_iret (pc := 31) hret dX8_disk_31 rfl rfl rfl ?_
    first | exact hB (by omega) | exact (hQ (by omega)).1 c_42 | exact (hQ (by omega)).2 c_42 h_146 ch
  · refine r_aload_0 (pc := 8) dX8_disk_8 ?_
    refine r_iload_2 (pc := 9) dX8_disk_9 ?_
    refine r_iconst (pc := 10) dX8_disk_10 ?_
    refine r_bipush (pc := 11) dX8_disk_11 (by decide) ?_
    refine k_VI3 (pc := 13) c_X8_isIn lk_X8_137 ⟨Nat.le_of_ble_eq_true rfl, Nat.le_of_ble_eq_true rfl⟩ ⟨rfl, rfl⟩ ⟨Nat.le_of_ble_eq_true rfl, Nat.le_of_ble_eq_true rfl⟩ (k := 8) rfl (by decide) (by assumption) dX8_disk_13 (Nat.le_of_ble_eq_true rfl) ?_
    refine ⟨_, _, _, _, rfl, by omega, by omega, by omega, ?_⟩
    refine r_ifeq_b (pc := 16) (tgt := 30) dX8_disk_16 (by decide) (fun c_16 => ?_) (fun c_16 => ?_)
    · refine r_iconst (pc := 30) dX8_disk_30 ?_
      refine r_iret (pc := 31) hret dX8_disk_31 rfl rfl rfl ?_
      first | exact hB (by omega) | exact (hQ (by omega)).1 c_42 | exact (hQ (by omega)).2 c_42 h_146 ch
    · refine r_aload_0 (pc := 19) dX8_disk_19 ?_
      refine r_iload_3 (pc := 20) dX8_disk_20 ?_
      refine r_iconst (pc := 21) dX8_disk_21 ?_
      refine r_bipush (pc := 22) dX8_disk_22 (by decide) ?_
      refine k_VI3 (pc := 24) c_X8_isIn lk_X8_137 ⟨Nat.le_of_ble_eq_true rfl, Nat.le_of_ble_eq_true rfl⟩ ⟨rfl, rfl⟩ ⟨Nat.le_of_ble_eq_true rfl, Nat.le_of_ble_eq_true rfl⟩ (k := 8) rfl (by decide) (by assumption) dX8_disk_24 (Nat.le_of_ble_eq_true rfl) ?_
      refine ⟨_, _, _, _, rfl, by omega, by omega, by omega, ?_⟩
      refine r_ifne_b (pc := 27) (tgt := 32) dX8_disk_27 (by decide) (fun c_27 => ?_) (fun c_27 => ?_)
      · refine r_aload_0 (pc := 32) dX8_disk_32 ?_
        refine gf_X8_13 (pc := 33) rfl (by assumption) dX8_disk_33 (by assumption) ?_
        refine r_sipush (pc := 36) dX8_disk_36 (by decide) ?_
        refine r_ialdE (pc := 39) (by assumption) (by first | assumption | exact rfl) dX8_disk_39 (by omega) (by omega) (fun i_39 => ?_)
        refine r_bipush (pc := 40) dX8_disk_40 (by decide) ?_
        refine r_icmp_ne (pc := 42) (tgt := 48) dX8_disk_42 (by decide) (by omega) (by omega) (fun c_42 => ?_) (fun c_42 => ?_)
        · refine r_bipush (pc := 48) dX8_disk_48 (by decide) ?_
          refine r_aload_0 (pc := 50) dX8_disk_50 ?_
          refine gf_X8_13 (pc := 51) rfl (by assumption) dX8_disk_51 (by assumption) ?_
          refine r_sipush (pc := 54) dX8_disk_54 (by decide) ?_
          refine r_ialdE (pc := 57) (by assumption) (by first | assumption | exact rfl) dX8_disk_57 (by omega) (by omega) (fun i_57 => ?_)
          refine r_iadd (pc := 58) dX8_disk_58 ?_
          refine r_istore_4 (pc := 59) dX8_disk_59 rfl ?_
          refine r_aload_0 (pc := 61) dX8_disk_61 ?_
          refine gf_X8_13 (pc := 62) rfl (by assumption) dX8_disk_62 (by assumption) ?_
          refine r_iload_4 (pc := 65) dX8_disk_65 ?_
          refine r_iload_1 (pc := 67) dX8_disk_67 ?_
          refine r_iastE (pc := 68) (by assumption) (by first | assumption | exact rfl) dX8_disk_68 (by omega) (by omega) (by omega) ?_
          refine r_aload_0 (pc := 69) dX8_disk_69 ?_
          refine gf_X8_13 (pc := 70) rfl (by assumption) dX8_disk_70 (by assumption) ?_
          refine r_bipush (pc := 73) dX8_disk_73 (by decide) ?_
          refine r_iload_4 (pc := 75) dX8_disk_75 ?_
          refine r_iadd (pc := 77) dX8_disk_77 ?_
          refine r_iload_2 (pc := 78) dX8_disk_78 ?_
          refine r_iastE (pc := 79) (by assumption) hr_s dX8_disk_79 (by omega) (by omega) (by omega) ?_
          rw [hr_hr]
          refine r_aload_0 (pc := 80) dX8_disk_80 ?_
          refine gf_X8_13 (pc := 81) rfl (by assumption) dX8_disk_81 (by assumption) ?_
          refine r_bipush (pc := 84) dX8_disk_84 (by decide) ?_
          refine r_iload_4 (pc := 86) dX8_disk_86 ?_
          refine r_iadd (pc := 88) dX8_disk_88 ?_
          refine r_bipush (pc := 89) dX8_disk_89 (by decide) ?_
          refine r_iload_3 (pc := 91) dX8_disk_91 ?_
          refine r_imul (pc := 92) dX8_disk_92 ?_
          refine r_iastE (pc := 93) (by assumption) hr_s dX8_disk_93 (by omega) (by omega) (by omega) ?_
          rw [hr_hr]
          refine r_aload_0 (pc := 94) dX8_disk_94 ?_
          refine gf_X8_13 (pc := 95) rfl (by assumption) dX8_disk_95 (by assumption) ?_
          refine r_bipush (pc := 98) dX8_disk_98 (by decide) ?_
          refine r_iload_4 (pc := 100) dX8_disk_100 ?_
          refine r_iadd (pc := 102) dX8_disk_102 ?_
          refine r_bipush (pc := 103) dX8_disk_103 (by decide) ?_
          refine r_iastE (pc := 105) (by assumption) hr_s dX8_disk_105 (by omega) (by omega) (by omega) ?_
          rw [hr_hr]
          refine r_aload_0 (pc := 106) dX8_disk_106 ?_
          refine gf_X8_13 (pc := 107) rfl (by assumption) dX8_disk_107 (by assumption) ?_
          refine r_bipush (pc := 110) dX8_disk_110 (by decide) ?_
          refine r_iload_4 (pc := 112) dX8_disk_112 ?_
          refine r_iadd (pc := 114) dX8_disk_114 ?_
          refine r_iconst (pc := 115) dX8_disk_115 ?_
          refine r_iastE (pc := 116) (by assumption) hr_s dX8_disk_116 (by omega) (by omega) (by omega) ?_
          rw [hr_hr]
          refine r_aload_0 (pc := 117) dX8_disk_117 ?_
          refine gf_X8_13 (pc := 118) rfl (by assumption) dX8_disk_118 (by assumption) ?_
          refine r_sipush (pc := 121) dX8_disk_121 (by decide) ?_
          refine r_dup2 (pc := 124) dX8_disk_124 ?_
          refine r_ialdE (pc := 125) (by assumption) hr_s dX8_disk_125 (by omega) (by omega) (fun i_125 => ?_)
          rw [up_n (show (130 : Int) ≠ 88 + (10 + mp 130) by omega), up_n (show (130 : Int) ≠ 66 + (10 + mp 130) by omega), up_n (show (130 : Int) ≠ 44 + (10 + mp 130) by omega), up_n (show (130 : Int) ≠ 22 + (10 + mp 130) by omega), up_n (show (130 : Int) ≠ 10 + mp 130 by omega)]
          refine r_iconst (pc := 126) dX8_disk_126 ?_
          refine r_iadd (pc := 127) dX8_disk_127 ?_
          refine r_iastE (pc := 128) (by assumption) hr_s dX8_disk_128 (by omega) (by omega) (by omega) ?_
          rw [hr_hr]
          rw [show (up (up (up (up (up (up mp (10 + mp 130) x) (22 + (10 + mp 130)) w) (44 + (10 + mp 130)) (10 * c)) (66 + (10 + mp 130)) 16) (88 + (10 + mp 130)) 0) 130 (mp 130 + 1)) = dkM mp x w c from rfl]
          refine r_aload_0 (pc := 129) dX8_disk_129 ?_
          first | refine r_dupI (pc := 130) dX8_disk_130 ?_ | refine r_dupA (pc := 130) dX8_disk_130 ?_
          refine gf_X8_125 (pc := 131) rfl (by assumption) dX8_disk_131 (fun i_131 => ?_)
          rw [hr_n (show b ≠ b + 2 by omega)]
          refine r_iconst (pc := 134) dX8_disk_134 ?_
          refine r_iload_4 (pc := 135) dX8_disk_135 ?_
          refine r_bipush (pc := 137) dX8_disk_137 (by decide) ?_
          refine r_isub (pc := 139) dX8_disk_139 ?_
          refine r_ishl (pc := 140) dX8_disk_140 (fun i_140 => ?_)
          refine r_ior (pc := 141) dX8_disk_141 (fun i_141 => ?_)
          refine pf_X8_125 (pc := 142) rfl (by assumption) dX8_disk_142 (by omega) ?_
          rw [hr_n (show b ≠ b + 2 by omega)]
          refine r_aload_0 (pc := 145) dX8_disk_145 ?_
          have em2 : (hr (hr h (b + 2) (dkM mp x w c)) b (up (h b) 17 (iO (h b 17) (iSl 1 (10 + mp 130 - 10))))) (b + 2) = (dkM mp x w c) := by rw [hr_n (by omega), hr_s]
          have hT2 : TrM (dkM mp x w c) := TrM_disk hT (by omega) (by omega) (by omega)
          have hR2 : RlM (dkM mp x w c) := RlM_disk hR hT (by omega) (by omega)
          have eb2 : (hr (hr h (b + 2) (dkM mp x w c)) b (up (h b) 17 (iO (h b 17) (iSl 1 (10 + mp 130 - 10))))) b = (up (h b) 17 (iO (h b 17) (iSl 1 (10 + mp 130 - 10)))) := hr_s
          have g2 : Fr h (hr (hr h (b + 2) (dkM mp x w c)) b (up (h b) 17 (iO (h b 17) (iSl 1 (10 + mp 130 - 10))))) (fun x => x = b ∨ x = b + 2) := fun x hx => by rw [hr_n (by omega), hr_n (by omega)]
          have hwa2 : WaT ((hr (hr h (b + 2) (dkM mp x w c)) b (up (h b) 17 (iO (h b 17) (iSl 1 (10 + mp 130 - 10))))) (b + 7)) := by rw [g2 _ (by omega)]; exact hwa
          have hep2 : 1 ≤ (hr (hr h (b + 2) (dkM mp x w c)) b (up (h b) 17 (iO (h b 17) (iSl 1 (10 + mp 130 - 10))))) b 5 ∧ (hr (hr h (b + 2) (dkM mp x w c)) b (up (h b) 17 (iO (h b 17) (iSl 1 (10 + mp 130 - 10))))) b 5 < 2147483647 := by rw [eb2]; rw [up_n (by omega)]; exact hep
          refine k_VV0 (pc := 146) c_X8_changed lk_X8_223 ⟨Nat.le_of_ble_eq_true rfl, Nat.le_of_ble_eq_true rfl⟩ ⟨rfl, rfl⟩ ⟨Nat.le_of_ble_eq_true rfl, Nat.le_of_ble_eq_true rfl⟩ (k := 8) rfl (by decide) (by assumption) dX8_disk_146 (Nat.le_of_ble_eq_true rfl) ?_
          refine ⟨_, _, rfl, hM, em2, hT2, hR2, hwa2, hep2, fun h_146 f_146 o_146 k_146 q_146 a_146 => ?_⟩
          have ch := Ch_of g2 eb2 em2 f_146 o_146 k_146 q_146 a_146
          refine r_iload_4 (pc := 149) dX8_disk_149 ?_
          refine r_iret (pc := 151) hret dX8_disk_151 rfl rfl rfl ?_
          first | exact hB (by omega) | exact (hQ (by omega)).1 c_42 | exact (hQ (by omega)).2 c_42 h_146 ch
        · refine r_bipush (pc := 45) dX8_disk_45 (by decide) ?_
          refine r_iret (pc := 47) hret dX8_disk_47 rfl rfl rfl ?_
          first | exact hB (by omega) | exact (hQ (by omega)).1 c_42 | exact (hQ (by omega)).2 c_42 h_146 ch
      · refine r_iconst (pc := 30) dX8_disk_30 ?_
        refine r_iret (pc := 31) hret dX8_disk_31 rfl rfl rfl ?_
        first | exact hB (by omega) | exact (hQ (by omega)).1 c_42 | exact (hQ (by omega)).2 c_42 h_146 ch

def dvM (mp : Int → Int) (g f t : Int) : Int → Int := up (up (up (up mp (110 + 3 * mp 135) g) (111 + 3 * mp 135) f) (112 + 3 * mp 135) t) 135 (mp 135 + 1)
theorem dvM_e {mp : Int → Int} {g f t j : Int} (hj : j ≠ 110 + 3 * mp 135 ∧ j ≠ 111 + 3 * mp 135 ∧ j ≠ 112 + 3 * mp 135 ∧ j ≠ 135) : dvM mp g f t j = mp j := by
  unfold dvM
  rw [up_n (by omega), up_n (by omega), up_n (by omega), up_n (by omega)]
theorem RlM_dv {mp : Int → Int} {g f t : Int} (h : RlM mp) (hT : TrM mp) (hg : 0 ≤ g ∧ g < 16) (hf : 10 ≤ f ∧ f ≤ 9 + mp 130) (ht : 10 ≤ t ∧ t ≤ 9 + mp 130) (h6 : mp 135 < 6) : RlM (dvM mp g f t) := by
  obtain ⟨r1, r2, r3, r4, r5, r6, r7⟩ := h
  have t3 := hT.2.2.1
  have e5 : dvM mp g f t 135 = mp 135 + 1 := up_s
  have e0 : dvM mp g f t 130 = mp 130 := dvM_e (by omega)
  refine ⟨by rw [dvM_e (by omega)]; exact r1, by rw [dvM_e (by omega)]; exact r2, by rw [dvM_e (by omega)]; exact r3, by rw [dvM_e (by omega)]; exact r4, by rw [e5]; omega, fun n n0 n1 => ?_, fun n n0 n1 => ?_⟩
  · rw [e0] at n1
    rw [dvM_e (by omega), dvM_e (by omega), dvM_e (by omega)]; exact r6 n n0 n1
  · rw [e5] at n1
    rw [e0]
    by_cases en : n = mp 135
    · have q0 : dvM mp g f t (110 + 3 * n) = g := by unfold dvM; rw [en, up_n (by omega), up_n (by omega), up_n (by omega), up_s]
      have q1 : dvM mp g f t (111 + 3 * n) = f := by unfold dvM; rw [en, up_n (by omega), up_n (by omega), up_s]
      have q2 : dvM mp g f t (112 + 3 * n) = t := by unfold dvM; rw [en, up_n (by omega), up_s]
      rw [q0, q1, q2]; omega
    · rw [dvM_e (by omega), dvM_e (by omega), dvM_e (by omega)]; exact r7 n n0 (by omega)
theorem dX8_divert_0 : decode cX8_divert 0 = .ok (.iload_n 1, 1) := by decide +kernel
theorem dX8_divert_1 : decode cX8_divert 1 = .ok (.invokestatic 183, 3) := by decide +kernel
theorem dX8_divert_4 : decode cX8_divert 4 = .ok (.ifCond .eq 24, 3) := by decide +kernel
theorem dX8_divert_7 : decode cX8_divert 7 = .ok (.aload_n 0, 1) := by decide +kernel
theorem dX8_divert_8 : decode cX8_divert 8 = .ok (.iload_n 2, 1) := by decide +kernel
theorem dX8_divert_9 : decode cX8_divert 9 = .ok (.invokevirtual 147, 3) := by decide +kernel
theorem dX8_divert_12 : decode cX8_divert 12 = .ok (.ifCond .eq 16, 3) := by decide +kernel
theorem dX8_divert_15 : decode cX8_divert 15 = .ok (.aload_n 0, 1) := by decide +kernel
theorem dX8_divert_16 : decode cX8_divert 16 = .ok (.iload_n 3, 1) := by decide +kernel
theorem dX8_divert_17 : decode cX8_divert 17 = .ok (.invokevirtual 147, 3) := by decide +kernel
theorem dX8_divert_20 : decode cX8_divert 20 = .ok (.ifCond .eq 8, 3) := by decide +kernel
theorem dX8_divert_23 : decode cX8_divert 23 = .ok (.iload_n 2, 1) := by decide +kernel
theorem dX8_divert_24 : decode cX8_divert 24 = .ok (.iload_n 3, 1) := by decide +kernel
theorem dX8_divert_25 : decode cX8_divert 25 = .ok (.if_icmp .ne 5, 3) := by decide +kernel
theorem dX8_divert_28 : decode cX8_divert 28 = .ok (.iconst (-1), 1) := by decide +kernel
theorem dX8_divert_29 : decode cX8_divert 29 = .ok (.ireturn, 1) := by decide +kernel
theorem dX8_divert_30 : decode cX8_divert 30 = .ok (.iconst 0, 1) := by decide +kernel
theorem dX8_divert_31 : decode cX8_divert 31 = .ok (.istore 4, 2) := by decide +kernel
theorem dX8_divert_33 : decode cX8_divert 33 = .ok (.iload 4, 2) := by decide +kernel
theorem dX8_divert_35 : decode cX8_divert 35 = .ok (.aload_n 0, 1) := by decide +kernel
theorem dX8_divert_36 : decode cX8_divert 36 = .ok (.getfield 13, 3) := by decide +kernel
theorem dX8_divert_39 : decode cX8_divert 39 = .ok (.sipush 135, 3) := by decide +kernel
theorem dX8_divert_42 : decode cX8_divert 42 = .ok (.iaload, 1) := by decide +kernel
theorem dX8_divert_43 : decode cX8_divert 43 = .ok (.if_icmp .ge 60, 3) := by decide +kernel
theorem dX8_divert_46 : decode cX8_divert 46 = .ok (.aload_n 0, 1) := by decide +kernel
theorem dX8_divert_47 : decode cX8_divert 47 = .ok (.getfield 13, 3) := by decide +kernel
theorem dX8_divert_50 : decode cX8_divert 50 = .ok (.bipush 110, 2) := by decide +kernel
theorem dX8_divert_52 : decode cX8_divert 52 = .ok (.iconst 3, 1) := by decide +kernel
theorem dX8_divert_53 : decode cX8_divert 53 = .ok (.iload 4, 2) := by decide +kernel
theorem dX8_divert_55 : decode cX8_divert 55 = .ok (.imul, 1) := by decide +kernel
theorem dX8_divert_56 : decode cX8_divert 56 = .ok (.iadd, 1) := by decide +kernel
theorem dX8_divert_57 : decode cX8_divert 57 = .ok (.iaload, 1) := by decide +kernel
theorem dX8_divert_58 : decode cX8_divert 58 = .ok (.iload_n 1, 1) := by decide +kernel
theorem dX8_divert_59 : decode cX8_divert 59 = .ok (.if_icmp .ne 38, 3) := by decide +kernel
theorem dX8_divert_62 : decode cX8_divert 62 = .ok (.aload_n 0, 1) := by decide +kernel
theorem dX8_divert_63 : decode cX8_divert 63 = .ok (.getfield 13, 3) := by decide +kernel
theorem dX8_divert_66 : decode cX8_divert 66 = .ok (.bipush 111, 2) := by decide +kernel
theorem dX8_divert_68 : decode cX8_divert 68 = .ok (.iconst 3, 1) := by decide +kernel
theorem dX8_divert_69 : decode cX8_divert 69 = .ok (.iload 4, 2) := by decide +kernel
theorem dX8_divert_71 : decode cX8_divert 71 = .ok (.imul, 1) := by decide +kernel
theorem dX8_divert_72 : decode cX8_divert 72 = .ok (.iadd, 1) := by decide +kernel
theorem dX8_divert_73 : decode cX8_divert 73 = .ok (.iaload, 1) := by decide +kernel
theorem dX8_divert_74 : decode cX8_divert 74 = .ok (.iload_n 2, 1) := by decide +kernel
theorem dX8_divert_75 : decode cX8_divert 75 = .ok (.if_icmp .ne 22, 3) := by decide +kernel
theorem dX8_divert_78 : decode cX8_divert 78 = .ok (.aload_n 0, 1) := by decide +kernel
theorem dX8_divert_79 : decode cX8_divert 79 = .ok (.getfield 13, 3) := by decide +kernel
theorem dX8_divert_82 : decode cX8_divert 82 = .ok (.bipush 112, 2) := by decide +kernel
theorem dX8_divert_84 : decode cX8_divert 84 = .ok (.iconst 3, 1) := by decide +kernel
theorem dX8_divert_85 : decode cX8_divert 85 = .ok (.iload 4, 2) := by decide +kernel
theorem dX8_divert_87 : decode cX8_divert 87 = .ok (.imul, 1) := by decide +kernel
theorem dX8_divert_88 : decode cX8_divert 88 = .ok (.iadd, 1) := by decide +kernel
theorem dX8_divert_89 : decode cX8_divert 89 = .ok (.iaload, 1) := by decide +kernel
theorem dX8_divert_90 : decode cX8_divert 90 = .ok (.iload_n 3, 1) := by decide +kernel
theorem dX8_divert_91 : decode cX8_divert 91 = .ok (.if_icmp .ne 6, 3) := by decide +kernel
theorem dX8_divert_94 : decode cX8_divert 94 = .ok (.bipush (-2), 2) := by decide +kernel
theorem dX8_divert_96 : decode cX8_divert 96 = .ok (.ireturn, 1) := by decide +kernel
theorem dX8_divert_97 : decode cX8_divert 97 = .ok (.iinc 4 1, 3) := by decide +kernel
theorem dX8_divert_100 : decode cX8_divert 100 = .ok (.goto (-67), 3) := by decide +kernel
theorem dX8_divert_103 : decode cX8_divert 103 = .ok (.aload_n 0, 1) := by decide +kernel
theorem dX8_divert_104 : decode cX8_divert 104 = .ok (.getfield 13, 3) := by decide +kernel
theorem dX8_divert_107 : decode cX8_divert 107 = .ok (.sipush 135, 3) := by decide +kernel
theorem dX8_divert_110 : decode cX8_divert 110 = .ok (.iaload, 1) := by decide +kernel
theorem dX8_divert_111 : decode cX8_divert 111 = .ok (.istore 4, 2) := by decide +kernel
theorem dX8_divert_113 : decode cX8_divert 113 = .ok (.iload 4, 2) := by decide +kernel
theorem dX8_divert_115 : decode cX8_divert 115 = .ok (.bipush 6, 2) := by decide +kernel
theorem dX8_divert_117 : decode cX8_divert 117 = .ok (.if_icmp .ne 6, 3) := by decide +kernel
theorem dX8_divert_120 : decode cX8_divert 120 = .ok (.bipush (-3), 2) := by decide +kernel
theorem dX8_divert_122 : decode cX8_divert 122 = .ok (.ireturn, 1) := by decide +kernel
theorem dX8_divert_123 : decode cX8_divert 123 = .ok (.aload_n 0, 1) := by decide +kernel
theorem dX8_divert_124 : decode cX8_divert 124 = .ok (.getfield 13, 3) := by decide +kernel
theorem dX8_divert_127 : decode cX8_divert 127 = .ok (.bipush 110, 2) := by decide +kernel
theorem dX8_divert_129 : decode cX8_divert 129 = .ok (.iconst 3, 1) := by decide +kernel
theorem dX8_divert_130 : decode cX8_divert 130 = .ok (.iload 4, 2) := by decide +kernel
theorem dX8_divert_132 : decode cX8_divert 132 = .ok (.imul, 1) := by decide +kernel
theorem dX8_divert_133 : decode cX8_divert 133 = .ok (.iadd, 1) := by decide +kernel
theorem dX8_divert_134 : decode cX8_divert 134 = .ok (.iload_n 1, 1) := by decide +kernel
theorem dX8_divert_135 : decode cX8_divert 135 = .ok (.iastore, 1) := by decide +kernel
theorem dX8_divert_136 : decode cX8_divert 136 = .ok (.aload_n 0, 1) := by decide +kernel
theorem dX8_divert_137 : decode cX8_divert 137 = .ok (.getfield 13, 3) := by decide +kernel
theorem dX8_divert_140 : decode cX8_divert 140 = .ok (.bipush 111, 2) := by decide +kernel
theorem dX8_divert_142 : decode cX8_divert 142 = .ok (.iconst 3, 1) := by decide +kernel
theorem dX8_divert_143 : decode cX8_divert 143 = .ok (.iload 4, 2) := by decide +kernel
theorem dX8_divert_145 : decode cX8_divert 145 = .ok (.imul, 1) := by decide +kernel
theorem dX8_divert_146 : decode cX8_divert 146 = .ok (.iadd, 1) := by decide +kernel
theorem dX8_divert_147 : decode cX8_divert 147 = .ok (.iload_n 2, 1) := by decide +kernel
theorem dX8_divert_148 : decode cX8_divert 148 = .ok (.iastore, 1) := by decide +kernel
theorem dX8_divert_149 : decode cX8_divert 149 = .ok (.aload_n 0, 1) := by decide +kernel
theorem dX8_divert_150 : decode cX8_divert 150 = .ok (.getfield 13, 3) := by decide +kernel
theorem dX8_divert_153 : decode cX8_divert 153 = .ok (.bipush 112, 2) := by decide +kernel
theorem dX8_divert_155 : decode cX8_divert 155 = .ok (.iconst 3, 1) := by decide +kernel
theorem dX8_divert_156 : decode cX8_divert 156 = .ok (.iload 4, 2) := by decide +kernel
theorem dX8_divert_158 : decode cX8_divert 158 = .ok (.imul, 1) := by decide +kernel
theorem dX8_divert_159 : decode cX8_divert 159 = .ok (.iadd, 1) := by decide +kernel
theorem dX8_divert_160 : decode cX8_divert 160 = .ok (.iload_n 3, 1) := by decide +kernel
theorem dX8_divert_161 : decode cX8_divert 161 = .ok (.iastore, 1) := by decide +kernel
theorem dX8_divert_162 : decode cX8_divert 162 = .ok (.aload_n 0, 1) := by decide +kernel
theorem dX8_divert_163 : decode cX8_divert 163 = .ok (.getfield 13, 3) := by decide +kernel
theorem dX8_divert_166 : decode cX8_divert 166 = .ok (.sipush 135, 3) := by decide +kernel
theorem dX8_divert_169 : decode cX8_divert 169 = .ok (.iload 4, 2) := by decide +kernel
theorem dX8_divert_171 : decode cX8_divert 171 = .ok (.iconst 1, 1) := by decide +kernel
theorem dX8_divert_172 : decode cX8_divert 172 = .ok (.iadd, 1) := by decide +kernel
theorem dX8_divert_173 : decode cX8_divert 173 = .ok (.iastore, 1) := by decide +kernel
theorem dX8_divert_174 : decode cX8_divert 174 = .ok (.aload_n 0, 1) := by decide +kernel
theorem dX8_divert_175 : decode cX8_divert 175 = .ok (.invokevirtual 223, 3) := by decide +kernel
theorem dX8_divert_178 : decode cX8_divert 178 = .ok (.iload 4, 2) := by decide +kernel
theorem dX8_divert_180 : decode cX8_divert 180 = .ok (.iconst 1, 1) := by decide +kernel
theorem dX8_divert_181 : decode cX8_divert 181 = .ok (.iadd, 1) := by decide +kernel
theorem dX8_divert_182 : decode cX8_divert 182 = .ok (.ireturn, 1) := by decide +kernel
set_option maxHeartbeats 4000000 in
set_option maxRecDepth 20000 in
theorem c_X8_divert : ConI mX8_divert (fun args N lay r h Q => ∃ (b : Nat) (mp : Int → Int) (g f t : Int), args = [.ref b, vI g, vI f, vI t] ∧ MdAt lay r b ∧ h (b + 2) = mp ∧ TrM mp ∧ RlM mp ∧ (-2147483648 ≤ g ∧ g < 2147483648) ∧ (-2147483648 ≤ f ∧ f < 2147483648) ∧ (-2147483648 ≤ t ∧ t < 2147483648) ∧ WaT (h (b + 7)) ∧ (1 ≤ h b 5 ∧ h b 5 < 2147483647) ∧ (¬ ((0 ≤ g ∧ g < 16) ∧ (10 ≤ f ∧ f ≤ 9 + mp 130) ∧ (10 ≤ t ∧ t ≤ 9 + mp 130) ∧ f ≠ t) → Q (-1) N lay r h) ∧ (((0 ≤ g ∧ g < 16) ∧ (10 ≤ f ∧ f ≤ 9 + mp 130) ∧ (10 ≤ t ∧ t ≤ 9 + mp 130) ∧ f ≠ t) → ((∃ i, 0 ≤ i ∧ i < mp 135 ∧ mp (110 + 3 * i) = g ∧ mp (111 + 3 * i) = f ∧ mp (112 + 3 * i) = t) → Q (-2) N lay r h) ∧ (¬ (∃ i, 0 ≤ i ∧ i < mp 135 ∧ mp (110 + 3 * i) = g ∧ mp (111 + 3 * i) = f ∧ mp (112 + 3 * i) = t) → (mp 135 = 6 → Q (-3) N lay r h) ∧ (mp 135 ≠ 6 → ∀ h2, Ch b h (h b) h2 (dvM mp g f t) → Q (mp 135 + 1) N lay r h2)))) := by
  refine ConI.of (by decide) (by rintro _ N lay r h Q ⟨b, mp, g, f, t, rfl, hM, hmp, hT, hR, hg, hf, ht, hwa, hep, hB, hQ⟩; exact ⟨rfl, Nat.le_of_ble_eq_true rfl⟩) ?_
  rintro E _ N lay r h Q ⟨b, mp, g, f, t, rfl, hM, hmp, hT, hR, hg, hf, ht, hwa, hep, hB, hQ⟩ hret
  obtain ⟨ml0, ml1, ml2, ml3, ml4, ml5, ml6, ml7, ml8, ml9, ml10, ml11, ml12, ml13, ml14, ml15, ml16, ml17, ml18, ml19, ml20, mr1, mr2, mr3, mr4, mr5, mr6, mr7, mr8, mr9, mr10, mr11, mr12, mr13, mr14, mr15, mr16, mr17, mr18, mr19, mr20⟩ := id hM
  obtain ⟨t1, t2, t3, t4, t5, t6, t7⟩ := id hT
  obtain ⟨r1, r2, r3, r4, r5, r6, r7⟩ := id hR
  show St E mX8_divert 0 [some (.ref b), some (vI g), some (vI f), some (vI t), none] [] (0, 0) N lay r h
  have aft : ((0 ≤ g ∧ g < 16) ∧ (10 ≤ f ∧ f ≤ 9 + mp 130) ∧ (10 ≤ t ∧ t ≤ 9 + mp 130) ∧ f ≠ t) → (∀ i, 0 ≤ i → i < mp 135 → ¬ (mp (110 + 3 * i) = g ∧ mp (111 + 3 * i) = f ∧ mp (112 + 3 * i) = t)) → ∀ x4, St E mX8_divert 103 [some (.ref b), some (vI g), some (vI f), some (vI t), x4] [] (0, 0) N lay r h := by
    intro hc0 hno x4
    refine r_aload_0 (pc := 103) dX8_divert_103 ?_
    refine gf_X8_13 (pc := 104) rfl (by assumption) dX8_divert_104 (by assumption) ?_
    refine r_sipush (pc := 107) dX8_divert_107 (by decide) ?_
    refine r_ialdE (pc := 110) (by assumption) (by first | assumption | exact rfl) dX8_divert_110 (by omega) (by omega) (fun i_110 => ?_)
    refine r_istore_4 (pc := 111) dX8_divert_111 rfl ?_
    refine r_iload_4 (pc := 113) dX8_divert_113 ?_
    refine r_bipush (pc := 115) dX8_divert_115 (by decide) ?_
    refine r_icmp_ne (pc := 117) (tgt := 123) dX8_divert_117 (by decide) (by omega) (by omega) (fun c_117 => ?_) (fun c_117 => ?_)
    · refine r_aload_0 (pc := 123) dX8_divert_123 ?_
      refine gf_X8_13 (pc := 124) rfl (by assumption) dX8_divert_124 (by assumption) ?_
      refine r_bipush (pc := 127) dX8_divert_127 (by decide) ?_
      refine r_iconst (pc := 129) dX8_divert_129 ?_
      refine r_iload_4 (pc := 130) dX8_divert_130 ?_
      refine r_imul (pc := 132) dX8_divert_132 ?_
      refine r_iadd (pc := 133) dX8_divert_133 ?_
      refine r_iload_1 (pc := 134) dX8_divert_134 ?_
      refine r_iastE (pc := 135) (by assumption) (by first | assumption | exact rfl) dX8_divert_135 (by omega) (by omega) (by omega) ?_
      refine r_aload_0 (pc := 136) dX8_divert_136 ?_
      refine gf_X8_13 (pc := 137) rfl (by assumption) dX8_divert_137 (by assumption) ?_
      refine r_bipush (pc := 140) dX8_divert_140 (by decide) ?_
      refine r_iconst (pc := 142) dX8_divert_142 ?_
      refine r_iload_4 (pc := 143) dX8_divert_143 ?_
      refine r_imul (pc := 145) dX8_divert_145 ?_
      refine r_iadd (pc := 146) dX8_divert_146 ?_
      refine r_iload_2 (pc := 147) dX8_divert_147 ?_
      refine r_iastE (pc := 148) (by assumption) hr_s dX8_divert_148 (by omega) (by omega) (by omega) ?_
      rw [hr_hr]
      refine r_aload_0 (pc := 149) dX8_divert_149 ?_
      refine gf_X8_13 (pc := 150) rfl (by assumption) dX8_divert_150 (by assumption) ?_
      refine r_bipush (pc := 153) dX8_divert_153 (by decide) ?_
      refine r_iconst (pc := 155) dX8_divert_155 ?_
      refine r_iload_4 (pc := 156) dX8_divert_156 ?_
      refine r_imul (pc := 158) dX8_divert_158 ?_
      refine r_iadd (pc := 159) dX8_divert_159 ?_
      refine r_iload_3 (pc := 160) dX8_divert_160 ?_
      refine r_iastE (pc := 161) (by assumption) hr_s dX8_divert_161 (by omega) (by omega) (by omega) ?_
      rw [hr_hr]
      refine r_aload_0 (pc := 162) dX8_divert_162 ?_
      refine gf_X8_13 (pc := 163) rfl (by assumption) dX8_divert_163 (by assumption) ?_
      refine r_sipush (pc := 166) dX8_divert_166 (by decide) ?_
      refine r_iload_4 (pc := 169) dX8_divert_169 ?_
      refine r_iconst (pc := 171) dX8_divert_171 ?_
      refine r_iadd (pc := 172) dX8_divert_172 ?_
      refine r_iastE (pc := 173) (by assumption) hr_s dX8_divert_173 (by omega) (by omega) (by omega) ?_
      rw [hr_hr]
      rw [show up (up (up (up mp (110 + 3 * mp 135) g) (111 + 3 * mp 135) f) (112 + 3 * mp 135) t) 135 (mp 135 + 1) = dvM mp g f t from rfl]
      refine r_aload_0 (pc := 174) dX8_divert_174 ?_
      have em2 : (hr h (b + 2) (dvM mp g f t)) (b + 2) = (dvM mp g f t) := hr_s
      have hT2 : TrM (dvM mp g f t) := TrM_c hT (fun j hj => dvM_e (by omega))
      have hR2 : RlM (dvM mp g f t) := RlM_dv hR hT (by omega) (by omega) (by omega) (by omega)
      have eb2 : (hr h (b + 2) (dvM mp g f t)) b = (h b) := hr_n (by omega)
      have g2 : Fr h (hr h (b + 2) (dvM mp g f t)) (fun x => x = b ∨ x = b + 2) := fun x hx => hr_n (by omega)
      have hwa2 : WaT ((hr h (b + 2) (dvM mp g f t)) (b + 7)) := by rw [g2 _ (by omega)]; exact hwa
      have hep2 : 1 ≤ (hr h (b + 2) (dvM mp g f t)) b 5 ∧ (hr h (b + 2) (dvM mp g f t)) b 5 < 2147483647 := by rw [eb2]; exact hep
      refine k_VV0 (pc := 175) c_X8_changed lk_X8_223 ⟨Nat.le_of_ble_eq_true rfl, Nat.le_of_ble_eq_true rfl⟩ ⟨rfl, rfl⟩ ⟨Nat.le_of_ble_eq_true rfl, Nat.le_of_ble_eq_true rfl⟩ (k := 8) rfl (by decide) (by assumption) dX8_divert_175 (Nat.le_of_ble_eq_true rfl) ?_
      refine ⟨_, _, rfl, hM, em2, hT2, hR2, hwa2, hep2, fun h_175 f_175 o_175 k_175 q_175 a_175 => ?_⟩
      have ch := Ch_of g2 eb2 em2 f_175 o_175 k_175 q_175 a_175
      refine r_iload_4 (pc := 178) dX8_divert_178 ?_
      refine r_iconst (pc := 180) dX8_divert_180 ?_
      refine r_iadd (pc := 181) dX8_divert_181 ?_
      refine r_iret (pc := 182) hret dX8_divert_182 rfl rfl rfl ?_
      have z := (hQ hc0).2 (fun ⟨i, i0, i1, i2⟩ => hno i i0 i1 i2)
      first | exact z.1 c_117 | exact z.2 c_117 h_175 ch
    · refine r_bipush (pc := 120) dX8_divert_120 (by decide) ?_
      refine r_iret (pc := 122) hret dX8_divert_122 rfl rfl rfl ?_
      have z := (hQ hc0).2 (fun ⟨i, i0, i1, i2⟩ => hno i i0 i1 i2)
      first | exact z.1 c_117 | exact z.2 c_117 h_175 ch
  have lp : ∀ (hc0 : (0 ≤ g ∧ g < 16) ∧ (10 ≤ f ∧ f ≤ 9 + mp 130) ∧ (10 ≤ t ∧ t ≤ 9 + mp 130) ∧ f ≠ t) (n_ : Nat) (i : Int), (mp 135 - i).toNat = n_ → (0 ≤ i ∧ i ≤ mp 135) → (∀ j, 0 ≤ j → j < i → ¬ (mp (110 + 3 * j) = g ∧ mp (111 + 3 * j) = f ∧ mp (112 + 3 * j) = t)) → St E mX8_divert 33 [some (.ref b), some (vI g), some (vI f), some (vI t), some (vI i)] [] (0, 0) N lay r h := by
    intro hc0 n_
    induction n_ using Nat.strongRecOn with
    | ind n_ ih =>
      intro i hn_ hi hno
      refine r_iload_4 (pc := 33) dX8_divert_33 ?_
      refine r_aload_0 (pc := 35) dX8_divert_35 ?_
      refine gf_X8_13 (pc := 36) rfl (by assumption) dX8_divert_36 (by assumption) ?_
      refine r_sipush (pc := 39) dX8_divert_39 (by decide) ?_
      refine r_ialdE (pc := 42) (by assumption) (by first | assumption | exact rfl) dX8_divert_42 (by omega) (by omega) (fun i_42 => ?_)
      refine r_icmp_ge (pc := 43) (tgt := 103) dX8_divert_43 (by decide) (by omega) (by omega) (fun c_43 => ?_) (fun c_43 => ?_)
      · exact aft hc0 (fun j j0 j1 => hno j j0 (by omega)) _
      · refine r_aload_0 (pc := 46) dX8_divert_46 ?_
        refine gf_X8_13 (pc := 47) rfl (by assumption) dX8_divert_47 (by assumption) ?_
        refine r_bipush (pc := 50) dX8_divert_50 (by decide) ?_
        refine r_iconst (pc := 52) dX8_divert_52 ?_
        refine r_iload_4 (pc := 53) dX8_divert_53 ?_
        refine r_imul (pc := 55) dX8_divert_55 ?_
        refine r_iadd (pc := 56) dX8_divert_56 ?_
        refine r_ialdE (pc := 57) (by assumption) (by first | assumption | exact rfl) dX8_divert_57 (by omega) (by omega) (fun i_57 => ?_)
        refine r_iload_1 (pc := 58) dX8_divert_58 ?_
        refine r_icmp_ne (pc := 59) (tgt := 97) dX8_divert_59 (by decide) (by omega) (by omega) (fun c_59 => ?_) (fun c_59 => ?_)
        · refine r_iinc_4 (pc := 97) dX8_divert_97 rfl ?_
          refine r_goto (pc := 100) (tgt := 33) dX8_divert_100 (by decide) ?_
          refine ih _ (by omega) (i + 1) rfl (by omega) (fun j j0 j1 z => ?_)
          by_cases e : j = i
          · subst e
            first | exact c_59 z.1 | exact c_75 z.2.1 | exact c_91 z.2.2
          · exact hno j j0 (by omega) z
        · refine r_aload_0 (pc := 62) dX8_divert_62 ?_
          refine gf_X8_13 (pc := 63) rfl (by assumption) dX8_divert_63 (by assumption) ?_
          refine r_bipush (pc := 66) dX8_divert_66 (by decide) ?_
          refine r_iconst (pc := 68) dX8_divert_68 ?_
          refine r_iload_4 (pc := 69) dX8_divert_69 ?_
          refine r_imul (pc := 71) dX8_divert_71 ?_
          refine r_iadd (pc := 72) dX8_divert_72 ?_
          refine r_ialdE (pc := 73) (by assumption) (by first | assumption | exact rfl) dX8_divert_73 (by omega) (by omega) (fun i_73 => ?_)
          refine r_iload_2 (pc := 74) dX8_divert_74 ?_
          refine r_icmp_ne (pc := 75) (tgt := 97) dX8_divert_75 (by decide) (by omega) (by omega) (fun c_75 => ?_) (fun c_75 => ?_)
          · refine r_iinc_4 (pc := 97) dX8_divert_97 rfl ?_
            refine r_goto (pc := 100) (tgt := 33) dX8_divert_100 (by decide) ?_
            refine ih _ (by omega) (i + 1) rfl (by omega) (fun j j0 j1 z => ?_)
            by_cases e : j = i
            · subst e
              first | exact c_59 z.1 | exact c_75 z.2.1 | exact c_91 z.2.2
            · exact hno j j0 (by omega) z
          · refine r_aload_0 (pc := 78) dX8_divert_78 ?_
            refine gf_X8_13 (pc := 79) rfl (by assumption) dX8_divert_79 (by assumption) ?_
            refine r_bipush (pc := 82) dX8_divert_82 (by decide) ?_
            refine r_iconst (pc := 84) dX8_divert_84 ?_
            refine r_iload_4 (pc := 85) dX8_divert_85 ?_
            refine r_imul (pc := 87) dX8_divert_87 ?_
            refine r_iadd (pc := 88) dX8_divert_88 ?_
            refine r_ialdE (pc := 89) (by assumption) (by first | assumption | exact rfl) dX8_divert_89 (by omega) (by omega) (fun i_89 => ?_)
            refine r_iload_3 (pc := 90) dX8_divert_90 ?_
            refine r_icmp_ne (pc := 91) (tgt := 97) dX8_divert_91 (by decide) (by omega) (by omega) (fun c_91 => ?_) (fun c_91 => ?_)
            · refine r_iinc_4 (pc := 97) dX8_divert_97 rfl ?_
              refine r_goto (pc := 100) (tgt := 33) dX8_divert_100 (by decide) ?_
              refine ih _ (by omega) (i + 1) rfl (by omega) (fun j j0 j1 z => ?_)
              by_cases e : j = i
              · subst e
                first | exact c_59 z.1 | exact c_75 z.2.1 | exact c_91 z.2.2
              · exact hno j j0 (by omega) z
            · refine r_bipush (pc := 94) dX8_divert_94 (by decide) ?_
              refine r_iret (pc := 96) hret dX8_divert_96 rfl rfl rfl ?_
              exact (hQ hc0).1 ⟨i, by omega, by omega, c_59, c_75, c_91⟩
  refine r_iload_1 (pc := 0) dX8_divert_0 ?_
  refine k_SI1 (pc := 1) c_X8_isGroup lk_X8_183 ⟨Nat.le_of_ble_eq_true rfl, Nat.le_of_ble_eq_true rfl⟩ ⟨rfl, rfl⟩ ⟨Nat.le_of_ble_eq_true rfl, Nat.le_of_ble_eq_true rfl⟩ dX8_divert_1 (Nat.le_of_ble_eq_true rfl) ?_
  refine ⟨_, rfl, by omega, ?_⟩
  refine r_ifeq_b (pc := 4) (tgt := 28) dX8_divert_4 (by decide) (fun c_4 => ?_) (fun c_4 => ?_)
  · refine r_iconst (pc := 28) dX8_divert_28 ?_
    refine r_iret (pc := 29) hret dX8_divert_29 rfl rfl rfl ?_
    first | exact hB (fun z => c_4 z.1) | exact hB (fun z => c_12 z.2.1) | exact hB (fun z => c_20 z.2.2.1) | exact hB (fun z => z.2.2.2 c_25)
  · refine r_aload_0 (pc := 7) dX8_divert_7 ?_
    refine r_iload_2 (pc := 8) dX8_divert_8 ?_
    refine k_VI1 (pc := 9) c_X8_isDisk lk_X8_147 ⟨Nat.le_of_ble_eq_true rfl, Nat.le_of_ble_eq_true rfl⟩ ⟨rfl, rfl⟩ ⟨Nat.le_of_ble_eq_true rfl, Nat.le_of_ble_eq_true rfl⟩ (k := 8) rfl (by decide) (by assumption) dX8_divert_9 (Nat.le_of_ble_eq_true rfl) ?_
    refine ⟨_, _, _, rfl, by assumption, by first | assumption | exact rfl, by omega, by omega, ?_⟩
    refine r_ifeq_b (pc := 12) (tgt := 28) dX8_divert_12 (by decide) (fun c_12 => ?_) (fun c_12 => ?_)
    · refine r_iconst (pc := 28) dX8_divert_28 ?_
      refine r_iret (pc := 29) hret dX8_divert_29 rfl rfl rfl ?_
      first | exact hB (fun z => c_4 z.1) | exact hB (fun z => c_12 z.2.1) | exact hB (fun z => c_20 z.2.2.1) | exact hB (fun z => z.2.2.2 c_25)
    · refine r_aload_0 (pc := 15) dX8_divert_15 ?_
      refine r_iload_3 (pc := 16) dX8_divert_16 ?_
      refine k_VI1 (pc := 17) c_X8_isDisk lk_X8_147 ⟨Nat.le_of_ble_eq_true rfl, Nat.le_of_ble_eq_true rfl⟩ ⟨rfl, rfl⟩ ⟨Nat.le_of_ble_eq_true rfl, Nat.le_of_ble_eq_true rfl⟩ (k := 8) rfl (by decide) (by assumption) dX8_divert_17 (Nat.le_of_ble_eq_true rfl) ?_
      refine ⟨_, _, _, rfl, by assumption, by first | assumption | exact rfl, by omega, by omega, ?_⟩
      refine r_ifeq_b (pc := 20) (tgt := 28) dX8_divert_20 (by decide) (fun c_20 => ?_) (fun c_20 => ?_)
      · refine r_iconst (pc := 28) dX8_divert_28 ?_
        refine r_iret (pc := 29) hret dX8_divert_29 rfl rfl rfl ?_
        first | exact hB (fun z => c_4 z.1) | exact hB (fun z => c_12 z.2.1) | exact hB (fun z => c_20 z.2.2.1) | exact hB (fun z => z.2.2.2 c_25)
      · refine r_iload_2 (pc := 23) dX8_divert_23 ?_
        refine r_iload_3 (pc := 24) dX8_divert_24 ?_
        refine r_icmp_ne (pc := 25) (tgt := 30) dX8_divert_25 (by decide) (by omega) (by omega) (fun c_25 => ?_) (fun c_25 => ?_)
        · refine r_iconst (pc := 30) dX8_divert_30 ?_
          refine r_istore_4 (pc := 31) dX8_divert_31 rfl ?_
          exact lp ⟨c_4, c_12, c_20, c_25⟩ _ 0 rfl (by omega) (fun j j0 j1 => by omega)
        · refine r_iconst (pc := 28) dX8_divert_28 ?_
          refine r_iret (pc := 29) hret dX8_divert_29 rfl rfl rfl ?_
          first | exact hB (fun z => c_4 z.1) | exact hB (fun z => c_12 z.2.1) | exact hB (fun z => c_20 z.2.2.1) | exact hB (fun z => z.2.2.2 c_25)

