/-! PLANS: copies of plans, counts -/
/-- the plan at p in h2 is a copy of the plan at q in h -/
def CpP (h h2 : HpT) (p q : Nat) : Prop := (∀ j, 4 ≤ j → j < 9 → h2 p j = h q j) ∧ (∀ j, 0 ≤ j → j < 3 → h2 (p + 1) j = h (q + 1) j) ∧ (∀ j, 0 ≤ j → j < 22 → h2 (p + 2) j = h (q + 2) j) ∧ (∀ j, 0 ≤ j → j < 22 → h2 (p + 3) j = h (q + 3) j) ∧ (∀ j, 0 ≤ j → j < 1 → h2 (p + 4) j = h (q + 4) j) ∧ (∀ j, 0 ≤ j → j < 6 → h2 (p + 5) j = h (q + 5) j) ∧ (∀ j, 0 ≤ j → j < 6 → h2 (p + 6) j = h (q + 6) j) ∧ (∀ j, 0 ≤ j → j < 6 → h2 (p + 7) j = h (q + 7) j) ∧ (∀ j, 0 ≤ j → j < 6 → h2 (p + 8) j = h (q + 8) j) ∧ (∀ j, 0 ≤ j → j < 22 → h2 (p + 9) j = h (q + 9) j) ∧ (∀ j, 0 ≤ j → j < 22 → h2 (p + 10) j = h (q + 10) j) ∧ (∀ j, 0 ≤ j → j < 64 → h2 (p + 11) j = h (q + 11) j) ∧ (∀ j, 0 ≤ j → j < 64 → h2 (p + 12) j = h (q + 12) j) ∧ (∀ j, 0 ≤ j → j < 16 → h2 (p + 13) j = h (q + 13) j)
theorem CpP.tr {h h2 : HpT} {p q : Nat} {mp : Int → Int} (hC : CpP h h2 p q) (hT : TrM mp) (x : PTr h q mp) : PTr h2 p mp := by
  obtain ⟨c0, c1, c2, c3, c4, c5, c6, c7, c8, c9, c10, c11, c12, c13⟩ := hC
  obtain ⟨⟨n0, n1, n2⟩, up1, up2, uw, u0, uh⟩ := x
  obtain ⟨t1, t2, t3, t4, t5, t6, t7⟩ := hT
  refine ⟨⟨by rw [c1 0 (by omega) (by omega), n0], by rw [c1 1 (by omega) (by omega), n1], by rw [c1 2 (by omega) (by omega), n2]⟩, fun n q0 q1 => ?_, fun n q0 q1 => ?_, fun n q0 q1 => ?_, ?_, fun n q0 q1 => ?_⟩
  · rw [c2 n (by omega) (by omega)]; exact up1 n q0 q1
  · rw [c2 n (by omega) (by omega)]; exact up2 n q0 q1
  · rw [c3 n (by omega) (by omega)]; exact uw n q0 q1
  · rw [c2 0 (by omega) (by omega)]; exact u0
  · rw [c2 n (by omega) (by omega)]; exact uh n q0 q1
theorem CpP.wt {h h2 : HpT} {p q : Nat} {mp : Int → Int} (hC : CpP h h2 p q) (x : PWt h q mp) : PWt h2 p mp := by
  obtain ⟨c0, c1, c2, c3, c4, c5, c6, c7, c8, c9, c10, c11, c12, c13⟩ := hC
  intro n n0 n1
  rw [c3 n (by omega) (by omega)]; exact x n n0 n1
theorem CpP.rl {h h2 : HpT} {p q : Nat} {mp : Int → Int} (hC : CpP h h2 p q) (hT : TrM mp) (hR : RlM mp) (x : PRl h q mp) : PRl h2 p mp := by
  obtain ⟨c0, c1, c2, c3, c4, c5, c6, c7, c8, c9, c10, c11, c12, c13⟩ := hC
  obtain ⟨⟨rl5, rl6, rl7, rl8⟩, rfu, rca, rre, rnu, rdv⟩ := x
  have t3 := hT.2.2.1
  have r5 := hR.2.2.2.2.1
  refine ⟨⟨by rw [c0 5 (by omega) (by omega), rl5], by rw [c0 6 (by omega) (by omega), rl6], by rw [c0 7 (by omega) (by omega), rl7], by rw [c0 8 (by omega) (by omega), rl8]⟩, by rw [c0 4 (by omega) (by omega)]; exact rfu, fun n q0 q1 => ?_, fun n q0 q1 => ?_, by rw [c4 0 (by omega) (by omega), rnu], fun n q0 q1 => ?_⟩
  · rw [c9 n (by omega) (by omega)]; exact rca n q0 q1
  · rw [c10 n (by omega) (by omega)]; exact rre n q0 q1
  · rw [c5 n (by omega) (by omega), c6 n (by omega) (by omega), c7 n (by omega) (by omega)]; exact rdv n q0 q1
theorem CpP.st {h h2 : HpT} {p q : Nat} {mp : Int → Int} (hC : CpP h h2 p q) (hR : RlM mp) (x : PSt h q mp) : PSt h2 p mp := by
  obtain ⟨c0, c1, c2, c3, c4, c5, c6, c7, c8, c9, c10, c11, c12, c13⟩ := hC
  obtain ⟨x1, x2, x3, x4⟩ := x
  have r5 := hR.2.2.2.2.1
  refine ⟨fun n q0 q1 => ?_, fun n q0 q1 => ?_, fun n q0 q1 => ?_, fun n q0 q1 => ?_⟩
  · rw [c11 n q0 q1]; exact x1 n q0 q1
  · rw [c12 n q0 q1]; exact x2 n q0 q1
  · rw [c13 n q0 q1]; exact x3 n q0 q1
  · rw [c8 n q0 (by omega)]; exact x4 n q0 q1
theorem dX3_copyFrom_0 : decode cX3_copyFrom 0 = .ok (.aload_n 0, 1) := by decide +kernel
theorem dX3_copyFrom_1 : decode cX3_copyFrom 1 = .ok (.getfield 12, 3) := by decide +kernel
theorem dX3_copyFrom_4 : decode cX3_copyFrom 4 = .ok (.aload_n 1, 1) := by decide +kernel
theorem dX3_copyFrom_5 : decode cX3_copyFrom 5 = .ok (.getfield 12, 3) := by decide +kernel
theorem dX3_copyFrom_8 : decode cX3_copyFrom 8 = .ok (.invokevirtual 58, 3) := by decide +kernel
theorem dX3_copyFrom_11 : decode cX3_copyFrom 11 = .ok (.aload_n 0, 1) := by decide +kernel
theorem dX3_copyFrom_12 : decode cX3_copyFrom 12 = .ok (.getfield 21, 3) := by decide +kernel
theorem dX3_copyFrom_15 : decode cX3_copyFrom 15 = .ok (.aload_n 1, 1) := by decide +kernel
theorem dX3_copyFrom_16 : decode cX3_copyFrom 16 = .ok (.getfield 21, 3) := by decide +kernel
theorem dX3_copyFrom_19 : decode cX3_copyFrom 19 = .ok (.invokevirtual 62, 3) := by decide +kernel
theorem dX3_copyFrom_22 : decode cX3_copyFrom 22 = .ok (.aload_n 1, 1) := by decide +kernel
theorem dX3_copyFrom_23 : decode cX3_copyFrom 23 = .ok (.getfield 25, 3) := by decide +kernel
theorem dX3_copyFrom_26 : decode cX3_copyFrom 26 = .ok (.iconst 0, 1) := by decide +kernel
theorem dX3_copyFrom_27 : decode cX3_copyFrom 27 = .ok (.aload_n 0, 1) := by decide +kernel
theorem dX3_copyFrom_28 : decode cX3_copyFrom 28 = .ok (.getfield 25, 3) := by decide +kernel
theorem dX3_copyFrom_31 : decode cX3_copyFrom 31 = .ok (.iconst 0, 1) := by decide +kernel
theorem dX3_copyFrom_32 : decode cX3_copyFrom 32 = .ok (.bipush 22, 2) := by decide +kernel
theorem dX3_copyFrom_34 : decode cX3_copyFrom 34 = .ok (.invokestatic 65, 3) := by decide +kernel
theorem dX3_copyFrom_37 : decode cX3_copyFrom 37 = .ok (.aload_n 1, 1) := by decide +kernel
theorem dX3_copyFrom_38 : decode cX3_copyFrom 38 = .ok (.getfield 29, 3) := by decide +kernel
theorem dX3_copyFrom_41 : decode cX3_copyFrom 41 = .ok (.iconst 0, 1) := by decide +kernel
theorem dX3_copyFrom_42 : decode cX3_copyFrom 42 = .ok (.aload_n 0, 1) := by decide +kernel
theorem dX3_copyFrom_43 : decode cX3_copyFrom 43 = .ok (.getfield 29, 3) := by decide +kernel
theorem dX3_copyFrom_46 : decode cX3_copyFrom 46 = .ok (.iconst 0, 1) := by decide +kernel
theorem dX3_copyFrom_47 : decode cX3_copyFrom 47 = .ok (.bipush 22, 2) := by decide +kernel
theorem dX3_copyFrom_49 : decode cX3_copyFrom 49 = .ok (.invokestatic 65, 3) := by decide +kernel
theorem dX3_copyFrom_52 : decode cX3_copyFrom 52 = .ok (.aload_n 0, 1) := by decide +kernel
theorem dX3_copyFrom_53 : decode cX3_copyFrom 53 = .ok (.aload_n 1, 1) := by decide +kernel
theorem dX3_copyFrom_54 : decode cX3_copyFrom 54 = .ok (.getfield 48, 3) := by decide +kernel
theorem dX3_copyFrom_57 : decode cX3_copyFrom 57 = .ok (.putfield 48, 3) := by decide +kernel
theorem dX3_copyFrom_60 : decode cX3_copyFrom 60 = .ok (.aload_n 0, 1) := by decide +kernel
theorem dX3_copyFrom_61 : decode cX3_copyFrom 61 = .ok (.aload_n 1, 1) := by decide +kernel
theorem dX3_copyFrom_62 : decode cX3_copyFrom 62 = .ok (.getfield 71, 3) := by decide +kernel
theorem dX3_copyFrom_65 : decode cX3_copyFrom 65 = .ok (.aload_n 1, 1) := by decide +kernel
theorem dX3_copyFrom_66 : decode cX3_copyFrom 66 = .ok (.getfield 74, 3) := by decide +kernel
theorem dX3_copyFrom_69 : decode cX3_copyFrom 69 = .ok (.aload_n 1, 1) := by decide +kernel
theorem dX3_copyFrom_70 : decode cX3_copyFrom 70 = .ok (.getfield 77, 3) := by decide +kernel
theorem dX3_copyFrom_73 : decode cX3_copyFrom 73 = .ok (.invokevirtual 51, 3) := by decide +kernel
theorem dX3_copyFrom_76 : decode cX3_copyFrom 76 = .ok (.aload_n 0, 1) := by decide +kernel
theorem dX3_copyFrom_77 : decode cX3_copyFrom 77 = .ok (.aload_n 1, 1) := by decide +kernel
theorem dX3_copyFrom_78 : decode cX3_copyFrom 78 = .ok (.getfield 55, 3) := by decide +kernel
theorem dX3_copyFrom_81 : decode cX3_copyFrom 81 = .ok (.putfield 55, 3) := by decide +kernel
theorem dX3_copyFrom_84 : decode cX3_copyFrom 84 = .ok (.aload_n 1, 1) := by decide +kernel
theorem dX3_copyFrom_85 : decode cX3_copyFrom 85 = .ok (.getfield 32, 3) := by decide +kernel
theorem dX3_copyFrom_88 : decode cX3_copyFrom 88 = .ok (.iconst 0, 1) := by decide +kernel
theorem dX3_copyFrom_89 : decode cX3_copyFrom 89 = .ok (.aload_n 0, 1) := by decide +kernel
theorem dX3_copyFrom_90 : decode cX3_copyFrom 90 = .ok (.getfield 32, 3) := by decide +kernel
theorem dX3_copyFrom_93 : decode cX3_copyFrom 93 = .ok (.iconst 0, 1) := by decide +kernel
theorem dX3_copyFrom_94 : decode cX3_copyFrom 94 = .ok (.bipush 64, 2) := by decide +kernel
theorem dX3_copyFrom_96 : decode cX3_copyFrom 96 = .ok (.invokestatic 65, 3) := by decide +kernel
theorem dX3_copyFrom_99 : decode cX3_copyFrom 99 = .ok (.aload_n 1, 1) := by decide +kernel
theorem dX3_copyFrom_100 : decode cX3_copyFrom 100 = .ok (.getfield 35, 3) := by decide +kernel
theorem dX3_copyFrom_103 : decode cX3_copyFrom 103 = .ok (.iconst 0, 1) := by decide +kernel
theorem dX3_copyFrom_104 : decode cX3_copyFrom 104 = .ok (.aload_n 0, 1) := by decide +kernel
theorem dX3_copyFrom_105 : decode cX3_copyFrom 105 = .ok (.getfield 35, 3) := by decide +kernel
theorem dX3_copyFrom_108 : decode cX3_copyFrom 108 = .ok (.iconst 0, 1) := by decide +kernel
theorem dX3_copyFrom_109 : decode cX3_copyFrom 109 = .ok (.bipush 64, 2) := by decide +kernel
theorem dX3_copyFrom_111 : decode cX3_copyFrom 111 = .ok (.invokestatic 65, 3) := by decide +kernel
theorem dX3_copyFrom_114 : decode cX3_copyFrom 114 = .ok (.aload_n 1, 1) := by decide +kernel
theorem dX3_copyFrom_115 : decode cX3_copyFrom 115 = .ok (.getfield 38, 3) := by decide +kernel
theorem dX3_copyFrom_118 : decode cX3_copyFrom 118 = .ok (.iconst 0, 1) := by decide +kernel
theorem dX3_copyFrom_119 : decode cX3_copyFrom 119 = .ok (.aload_n 0, 1) := by decide +kernel
theorem dX3_copyFrom_120 : decode cX3_copyFrom 120 = .ok (.getfield 38, 3) := by decide +kernel
theorem dX3_copyFrom_123 : decode cX3_copyFrom 123 = .ok (.iconst 0, 1) := by decide +kernel
theorem dX3_copyFrom_124 : decode cX3_copyFrom 124 = .ok (.bipush 16, 2) := by decide +kernel
theorem dX3_copyFrom_126 : decode cX3_copyFrom 126 = .ok (.invokestatic 65, 3) := by decide +kernel
theorem dX3_copyFrom_129 : decode cX3_copyFrom 129 = .ok (.return_, 1) := by decide +kernel
set_option maxHeartbeats 4000000 in
set_option maxRecDepth 20000 in
theorem c_X3_copyFrom : ConV mX3_copyFrom (fun args N lay r h Q => ∃ (p q : Nat), args = [.ref p, .ref q] ∧ PlAt lay r p ∧ PlAt lay r q ∧ (p = q ∨ (p + 14 ≤ q ∨ q + 14 ≤ p)) ∧ ∀ h2, Fr h h2 (fun x => p ≤ x ∧ x < p + 14) → CpP h h2 p q → Q N lay r h2) := by
  refine ConV.of (by decide) (by rintro _ N lay r h Q ⟨p, q, rfl, hA, hA2, hD, hQ⟩; exact ⟨rfl, Nat.le_of_ble_eq_true rfl⟩) ?_
  rintro E _ N lay r h Q ⟨p, q, rfl, hA, hA2, hD, hQ⟩ hret
  obtain ⟨pl0, pl1, pl2, pl3, pl4, pl5, pl6, pl7, pl8, pl9, pl10, pl11, pl12, pl13, pr0, pr1, pr2, pr3, pr9, pr10, pr11, qr3, qr4, vr1, vr2, vr3, vr4⟩ := id hA
  obtain ⟨xl0, xl1, xl2, xl3, xl4, xl5, xl6, xl7, xl8, xl9, xl10, xl11, xl12, xl13, xr0, xr1, xr2, xr3, xr9, xr10, xr11, yr3, yr4, wr1, wr2, wr3, wr4⟩ := id hA2
  show St E mX3_copyFrom 0 [some (.ref p), some (.ref q)] [] (0, 0) N lay r h
  refine r_aload_0 (pc := 0) dX3_copyFrom_0 ?_
  refine gf_X3_12 (pc := 1) rfl (by assumption) dX3_copyFrom_1 (by assumption) ?_
  refine r_aload_1 (pc := 4) dX3_copyFrom_4 ?_
  refine gf_X3_12 (pc := 5) rfl (by assumption) dX3_copyFrom_5 (by assumption) ?_
  refine k_VV1 (pc := 8) c_X6_copyFrom lk_X3_58 ⟨Nat.le_of_ble_eq_true rfl, Nat.le_of_ble_eq_true rfl⟩ ⟨rfl, rfl⟩ ⟨Nat.le_of_ble_eq_true rfl, Nat.le_of_ble_eq_true rfl⟩ (k := 6) rfl (by decide) (by assumption) dX3_copyFrom_8 (Nat.le_of_ble_eq_true rfl) ?_
  refine ⟨_, _, rfl, hA, hA2, hD, fun h_8 f_8 a_8 b_8 c_8 => ?_⟩
  refine r_aload_0 (pc := 11) dX3_copyFrom_11 ?_
  refine gf_X3_21 (pc := 12) rfl (by assumption) dX3_copyFrom_12 (by assumption) ?_
  refine r_aload_1 (pc := 15) dX3_copyFrom_15 ?_
  refine gf_X3_21 (pc := 16) rfl (by assumption) dX3_copyFrom_16 (by assumption) ?_
  refine k_VV1 (pc := 19) c_X1_copyFrom lk_X3_62 ⟨Nat.le_of_ble_eq_true rfl, Nat.le_of_ble_eq_true rfl⟩ ⟨rfl, rfl⟩ ⟨Nat.le_of_ble_eq_true rfl, Nat.le_of_ble_eq_true rfl⟩ (k := 1) rfl (by decide) (by assumption) dX3_copyFrom_19 (Nat.le_of_ble_eq_true rfl) ?_
  refine ⟨_, _, rfl, hA, hA2, hD, fun h_19 f_19 a_19 b_19 c_19 d_19 e_19 => ?_⟩
  refine r_aload_1 (pc := 22) dX3_copyFrom_22 ?_
  refine gf_X3_25 (pc := 23) rfl (by assumption) dX3_copyFrom_23 (by assumption) ?_
  refine r_iconst (pc := 26) dX3_copyFrom_26 ?_
  refine r_aload_0 (pc := 27) dX3_copyFrom_27 ?_
  refine gf_X3_25 (pc := 28) rfl (by assumption) dX3_copyFrom_28 (by assumption) ?_
  refine r_iconst (pc := 31) dX3_copyFrom_31 ?_
  refine r_bipush (pc := 32) dX3_copyFrom_32 (by decide) ?_
  refine r_acp (pc := 34) (n := 22) rfl (inT 512 (by decide +kernel) rfl) dX3_copyFrom_34 (by assumption) (by assumption) (Nat.le_of_ble_eq_true rfl) (Nat.le_of_ble_eq_true rfl) (by decide) (Nat.le_of_ble_eq_true rfl) (Nat.le_of_ble_eq_true rfl) ?_
  generalize e2 : hr h_19 (p + 9) (cpR (h_19 (q + 9)) (h_19 (p + 9)) 22) = H2
  have f2 : ∀ x, x ≠ (p + 9) → H2 x = h_19 x := fun x hx => by rw [← e2, hr_n hx]
  have v2 : H2 (p + 9) = (cpR (h_19 (q + 9)) (h_19 (p + 9)) 22) := by rw [← e2, hr_s]
  clear e2
  refine r_aload_1 (pc := 37) dX3_copyFrom_37 ?_
  refine gf_X3_29 (pc := 38) rfl (by assumption) dX3_copyFrom_38 (by assumption) ?_
  refine r_iconst (pc := 41) dX3_copyFrom_41 ?_
  refine r_aload_0 (pc := 42) dX3_copyFrom_42 ?_
  refine gf_X3_29 (pc := 43) rfl (by assumption) dX3_copyFrom_43 (by assumption) ?_
  refine r_iconst (pc := 46) dX3_copyFrom_46 ?_
  refine r_bipush (pc := 47) dX3_copyFrom_47 (by decide) ?_
  refine r_acp (pc := 49) (n := 22) rfl (inT 512 (by decide +kernel) rfl) dX3_copyFrom_49 (by assumption) (by assumption) (Nat.le_of_ble_eq_true rfl) (Nat.le_of_ble_eq_true rfl) (by decide) (Nat.le_of_ble_eq_true rfl) (Nat.le_of_ble_eq_true rfl) ?_
  generalize e3 : hr H2 (p + 10) (cpR (H2 (q + 10)) (H2 (p + 10)) 22) = H3
  have f3 : ∀ x, x ≠ (p + 10) → H3 x = H2 x := fun x hx => by rw [← e3, hr_n hx]
  have v3 : H3 (p + 10) = (cpR (H2 (q + 10)) (H2 (p + 10)) 22) := by rw [← e3, hr_s]
  clear e3
  refine r_aload_0 (pc := 52) dX3_copyFrom_52 ?_
  refine r_aload_1 (pc := 53) dX3_copyFrom_53 ?_
  refine gf_X3_48 (pc := 54) rfl (by assumption) dX3_copyFrom_54 (fun i_54 => ?_)
  refine pf_X3_48 (pc := 57) rfl (by assumption) dX3_copyFrom_57 (by omega) ?_
  generalize e4 : hr H3 p (up (H3 p) 4 (H3 q 4)) = H4
  have f4 : ∀ x, x ≠ p → H4 x = H3 x := fun x hx => by rw [← e4, hr_n hx]
  have v4 : H4 p = (up (H3 p) 4 (H3 q 4)) := by rw [← e4, hr_s]
  clear e4
  refine r_aload_0 (pc := 60) dX3_copyFrom_60 ?_
  refine r_aload_1 (pc := 61) dX3_copyFrom_61 ?_
  refine gf_X3_71 (pc := 62) rfl (by assumption) dX3_copyFrom_62 (fun i_62 => ?_)
  refine r_aload_1 (pc := 65) dX3_copyFrom_65 ?_
  refine gf_X3_74 (pc := 66) rfl (by assumption) dX3_copyFrom_66 (fun i_66 => ?_)
  refine r_aload_1 (pc := 69) dX3_copyFrom_69 ?_
  refine gf_X3_77 (pc := 70) rfl (by assumption) dX3_copyFrom_70 (fun i_70 => ?_)
  refine k_VV3 (pc := 73) c_X3_setRule lk_X3_51 ⟨Nat.le_of_ble_eq_true rfl, Nat.le_of_ble_eq_true rfl⟩ ⟨rfl, rfl⟩ ⟨Nat.le_of_ble_eq_true rfl, Nat.le_of_ble_eq_true rfl⟩ (k := 3) rfl (by decide) (by assumption) dX3_copyFrom_73 (Nat.le_of_ble_eq_true rfl) ?_
  refine ⟨_, _, _, _, _, rfl, by assumption, by omega, by omega, by omega, ?_⟩
  generalize e5 : hr H4 p (up (up (up (H4 p) 5 (H4 q 5)) 6 (H4 q 6)) 7 (H4 q 7)) = H5
  have f5 : ∀ x, x ≠ p → H5 x = H4 x := fun x hx => by rw [← e5, hr_n hx]
  have v5 : H5 p = (up (up (up (H4 p) 5 (H4 q 5)) 6 (H4 q 6)) 7 (H4 q 7)) := by rw [← e5, hr_s]
  clear e5
  refine r_aload_0 (pc := 76) dX3_copyFrom_76 ?_
  refine r_aload_1 (pc := 77) dX3_copyFrom_77 ?_
  refine gf_X3_55 (pc := 78) rfl (by assumption) dX3_copyFrom_78 (fun i_78 => ?_)
  refine pf_X3_55 (pc := 81) rfl (by assumption) dX3_copyFrom_81 (by omega) ?_
  generalize e6 : hr H5 p (up (H5 p) 8 (H5 q 8)) = H6
  have f6 : ∀ x, x ≠ p → H6 x = H5 x := fun x hx => by rw [← e6, hr_n hx]
  have v6 : H6 p = (up (H5 p) 8 (H5 q 8)) := by rw [← e6, hr_s]
  clear e6
  refine r_aload_1 (pc := 84) dX3_copyFrom_84 ?_
  refine gf_X3_32 (pc := 85) rfl (by assumption) dX3_copyFrom_85 (by assumption) ?_
  refine r_iconst (pc := 88) dX3_copyFrom_88 ?_
  refine r_aload_0 (pc := 89) dX3_copyFrom_89 ?_
  refine gf_X3_32 (pc := 90) rfl (by assumption) dX3_copyFrom_90 (by assumption) ?_
  refine r_iconst (pc := 93) dX3_copyFrom_93 ?_
  refine r_bipush (pc := 94) dX3_copyFrom_94 (by decide) ?_
  refine r_acp (pc := 96) (n := 64) rfl (inT 512 (by decide +kernel) rfl) dX3_copyFrom_96 (by assumption) (by assumption) (Nat.le_of_ble_eq_true rfl) (Nat.le_of_ble_eq_true rfl) (by decide) (Nat.le_of_ble_eq_true rfl) (Nat.le_of_ble_eq_true rfl) ?_
  generalize e7 : hr H6 (p + 11) (cpR (H6 (q + 11)) (H6 (p + 11)) 64) = H7
  have f7 : ∀ x, x ≠ (p + 11) → H7 x = H6 x := fun x hx => by rw [← e7, hr_n hx]
  have v7 : H7 (p + 11) = (cpR (H6 (q + 11)) (H6 (p + 11)) 64) := by rw [← e7, hr_s]
  clear e7
  refine r_aload_1 (pc := 99) dX3_copyFrom_99 ?_
  refine gf_X3_35 (pc := 100) rfl (by assumption) dX3_copyFrom_100 (by assumption) ?_
  refine r_iconst (pc := 103) dX3_copyFrom_103 ?_
  refine r_aload_0 (pc := 104) dX3_copyFrom_104 ?_
  refine gf_X3_35 (pc := 105) rfl (by assumption) dX3_copyFrom_105 (by assumption) ?_
  refine r_iconst (pc := 108) dX3_copyFrom_108 ?_
  refine r_bipush (pc := 109) dX3_copyFrom_109 (by decide) ?_
  refine r_acp (pc := 111) (n := 64) rfl (inT 512 (by decide +kernel) rfl) dX3_copyFrom_111 (by assumption) (by assumption) (Nat.le_of_ble_eq_true rfl) (Nat.le_of_ble_eq_true rfl) (by decide) (Nat.le_of_ble_eq_true rfl) (Nat.le_of_ble_eq_true rfl) ?_
  generalize e8 : hr H7 (p + 12) (cpR (H7 (q + 12)) (H7 (p + 12)) 64) = H8
  have f8 : ∀ x, x ≠ (p + 12) → H8 x = H7 x := fun x hx => by rw [← e8, hr_n hx]
  have v8 : H8 (p + 12) = (cpR (H7 (q + 12)) (H7 (p + 12)) 64) := by rw [← e8, hr_s]
  clear e8
  refine r_aload_1 (pc := 114) dX3_copyFrom_114 ?_
  refine gf_X3_38 (pc := 115) rfl (by assumption) dX3_copyFrom_115 (by assumption) ?_
  refine r_iconst (pc := 118) dX3_copyFrom_118 ?_
  refine r_aload_0 (pc := 119) dX3_copyFrom_119 ?_
  refine gf_X3_38 (pc := 120) rfl (by assumption) dX3_copyFrom_120 (by assumption) ?_
  refine r_iconst (pc := 123) dX3_copyFrom_123 ?_
  refine r_bipush (pc := 124) dX3_copyFrom_124 (by decide) ?_
  refine r_acp (pc := 126) (n := 16) rfl (inT 512 (by decide +kernel) rfl) dX3_copyFrom_126 (by assumption) (by assumption) (Nat.le_of_ble_eq_true rfl) (Nat.le_of_ble_eq_true rfl) (by decide) (Nat.le_of_ble_eq_true rfl) (Nat.le_of_ble_eq_true rfl) ?_
  generalize e9 : hr H8 (p + 13) (cpR (H8 (q + 13)) (H8 (p + 13)) 16) = H9
  have f9 : ∀ x, x ≠ (p + 13) → H9 x = H8 x := fun x hx => by rw [← e9, hr_n hx]
  have v9 : H9 (p + 13) = (cpR (H8 (q + 13)) (H8 (p + 13)) 16) := by rw [← e9, hr_s]
  clear e9
  refine r_ret (pc := 129) hret dX3_copyFrom_129 rfl rfl rfl ?_
  have g1 : ∀ x, ¬ (x = p + 1 ∨ x = p + 2 ∨ x = p + 3 ∨ x = p + 4 ∨ x = p + 5 ∨ x = p + 6 ∨ x = p + 7 ∨ x = p + 8) → h_19 x = h x := fun x hx => (f_19 x (by omega)).trans (f_8 x (by omega))
  have q0 : H3 q = h q := by rw [f3 q (by omega), f2 q (by omega), g1 q (by omega)]
  have q4 : ∀ j, j ≠ 4 → H4 q j = h q j := fun j hj => by
    by_cases e : q = p
    · subst e; rw [v4, up_n hj, q0]
    · rw [f4 q e, q0]
  have q5 : H5 q 8 = h q 8 := by
    by_cases e : q = p
    · subst e; rw [v5, up_n (by omega), up_n (by omega), up_n (by omega), q4 8 (by omega)]
    · rw [f5 q e, q4 8 (by omega)]
  have P6 : ∀ j, 4 ≤ j → j < 9 → H6 p j = h q j := fun j j0 j1 => by
    rw [v6]
    rcases (show j = 8 ∨ j = 7 ∨ j = 6 ∨ j = 5 ∨ j = 4 by omega) with rfl | rfl | rfl | rfl | rfl
    · rw [up_s, q5]
    · rw [up_n (by omega), v5, up_s, q4 7 (by omega)]
    · rw [up_n (by omega), v5, up_n (by omega), up_s, q4 6 (by omega)]
    · rw [up_n (by omega), v5, up_n (by omega), up_n (by omega), up_s, q4 5 (by omega)]
    · rw [up_n (by omega), v5, up_n (by omega), up_n (by omega), up_n (by omega), v4, up_s, q0]
  have z9 : ∀ x, ¬ (x = p ∨ x = p + 9 ∨ x = p + 10 ∨ x = p + 11 ∨ x = p + 12 ∨ x = p + 13) → H9 x = h_19 x := fun x hx => by rw [f9 x (by omega), f8 x (by omega), f7 x (by omega), f6 x (by omega), f5 x (by omega), f4 x (by omega), f3 x (by omega), f2 x (by omega)]
  have s2 : h_19 (q + 9) = h (q + 9) := g1 _ (by omega)
  have s3 : H2 (q + 10) = h (q + 10) := (f2 _ (by omega)).trans (g1 _ (by omega))
  have z6 : ∀ x, ¬ (x = p ∨ x = p + 9 ∨ x = p + 10) → H6 x = h_19 x := fun x hx => by rw [f6 x (by omega), f5 x (by omega), f4 x (by omega), f3 x (by omega), f2 x (by omega)]
  have s7 : H6 (q + 11) = h (q + 11) := (z6 _ (by omega)).trans (g1 _ (by omega))
  have s8 : H7 (q + 12) = h (q + 12) := (f7 _ (by omega)).trans ((z6 _ (by omega)).trans (g1 _ (by omega)))
  have s9 : H8 (q + 13) = h (q + 13) := (f8 _ (by omega)).trans ((f7 _ (by omega)).trans ((z6 _ (by omega)).trans (g1 _ (by omega))))
  refine hQ H9 (fun x hx => (z9 x (by omega)).trans (g1 x (by omega))) ⟨fun j j0 j1 => ?_, fun j j0 j1 => ?_, fun j j0 j1 => ?_, fun j j0 j1 => ?_, fun j j0 j1 => ?_, fun j j0 j1 => ?_, fun j j0 j1 => ?_, fun j j0 j1 => ?_, fun j j0 j1 => ?_, fun j j0 j1 => ?_, fun j j0 j1 => ?_, fun j j0 j1 => ?_, fun j j0 j1 => ?_, fun j j0 j1 => ?_⟩
  · rw [f9 _ (by omega), f8 _ (by omega), f7 _ (by omega)]; exact P6 j j0 j1
  · rw [z9 _ (by omega), f_19 _ (by omega)]; exact a_8 j j0 j1
  · rw [z9 _ (by omega), f_19 _ (by omega)]; exact b_8 j j0 j1
  · rw [z9 _ (by omega), f_19 _ (by omega)]; exact c_8 j j0 j1
  · rw [z9 _ (by omega), show j = 0 by omega, a_19, f_8 _ (by omega)]
  · rw [z9 _ (by omega), b_19 j j0 j1, f_8 _ (by omega)]
  · rw [z9 _ (by omega), c_19 j j0 j1, f_8 _ (by omega)]
  · rw [z9 _ (by omega), d_19 j j0 j1, f_8 _ (by omega)]
  · rw [z9 _ (by omega), e_19 j j0 j1, f_8 _ (by omega)]
  · rw [f9 _ (by omega), f8 _ (by omega), f7 _ (by omega), f6 _ (by omega), f5 _ (by omega), f4 _ (by omega), f3 _ (by omega), v2, cpR_t (by omega), s2]
  · rw [f9 _ (by omega), f8 _ (by omega), f7 _ (by omega), f6 _ (by omega), f5 _ (by omega), f4 _ (by omega), v3, cpR_t (by omega), s3]
  · rw [f9 _ (by omega), f8 _ (by omega), v7, cpR_t (by omega), s7]
  · rw [f9 _ (by omega), v8, cpR_t (by omega), s8]
  · rw [v9, cpR_t (by omega), s9]

theorem dX3_takesPart_0 : decode cX3_takesPart 0 = .ok (.aload_n 0, 1) := by decide +kernel
theorem dX3_takesPart_1 : decode cX3_takesPart 1 = .ok (.getfield 12, 3) := by decide +kernel
theorem dX3_takesPart_4 : decode cX3_takesPart 4 = .ok (.getfield 145, 3) := by decide +kernel
theorem dX3_takesPart_7 : decode cX3_takesPart 7 = .ok (.iload_n 1, 1) := by decide +kernel
theorem dX3_takesPart_8 : decode cX3_takesPart 8 = .ok (.iaload, 1) := by decide +kernel
theorem dX3_takesPart_9 : decode cX3_takesPart 9 = .ok (.ifCond .le 24, 3) := by decide +kernel
theorem dX3_takesPart_12 : decode cX3_takesPart 12 = .ok (.aload_n 0, 1) := by decide +kernel
theorem dX3_takesPart_13 : decode cX3_takesPart 13 = .ok (.getfield 29, 3) := by decide +kernel
theorem dX3_takesPart_16 : decode cX3_takesPart 16 = .ok (.iload_n 1, 1) := by decide +kernel
theorem dX3_takesPart_17 : decode cX3_takesPart 17 = .ok (.iaload, 1) := by decide +kernel
theorem dX3_takesPart_18 : decode cX3_takesPart 18 = .ok (.ifCond .le 15, 3) := by decide +kernel
theorem dX3_takesPart_21 : decode cX3_takesPart 21 = .ok (.aload_n 0, 1) := by decide +kernel
theorem dX3_takesPart_22 : decode cX3_takesPart 22 = .ok (.iload_n 1, 1) := by decide +kernel
theorem dX3_takesPart_23 : decode cX3_takesPart 23 = .ok (.invokevirtual 114, 3) := by decide +kernel
theorem dX3_takesPart_26 : decode cX3_takesPart 26 = .ok (.ifCond .ne 7, 3) := by decide +kernel
theorem dX3_takesPart_29 : decode cX3_takesPart 29 = .ok (.iconst 1, 1) := by decide +kernel
theorem dX3_takesPart_30 : decode cX3_takesPart 30 = .ok (.goto 4, 3) := by decide +kernel
theorem dX3_takesPart_33 : decode cX3_takesPart 33 = .ok (.iconst 0, 1) := by decide +kernel
theorem dX3_takesPart_34 : decode cX3_takesPart 34 = .ok (.ireturn, 1) := by decide +kernel
set_option maxHeartbeats 4000000 in
set_option maxRecDepth 20000 in
theorem c_X3_takesPart : ConI mX3_takesPart (fun args N lay r h Q => ∃ (p : Nat) (mp : Int → Int) (d : Int), args = [.ref p, vI d] ∧ PlAt lay r p ∧ TrM mp ∧ RlM mp ∧ PTr h p mp ∧ PRl h p mp ∧ (10 ≤ d ∧ d < 10 + mp 130) ∧ Q (bI (tp mp d = true)) N lay r h) := by
  refine ConI.of (by decide) (by rintro _ N lay r h Q ⟨p, mp, d, rfl, hA, hT, hR, hN, hL, hd, hQ⟩; exact ⟨rfl, Nat.le_of_ble_eq_true rfl⟩) ?_
  rintro E _ N lay r h Q ⟨p, mp, d, rfl, hA, hT, hR, hN, hL, hd, hQ⟩ hret
  obtain ⟨pl0, pl1, pl2, pl3, pl4, pl5, pl6, pl7, pl8, pl9, pl10, pl11, pl12, pl13, pr0, pr1, pr2, pr3, pr9, pr10, pr11, qr3, qr4, vr1, vr2, vr3, vr4⟩ := id hA
  obtain ⟨⟨n0, n1, n2⟩, up1, up2, uw, u0, uh⟩ := id hN
  obtain ⟨t1, t2, t3, t4, t5, t6, t7⟩ := id hT
  obtain ⟨⟨rl5, rl6, rl7, rl8⟩, rfu, rca, rre, rnu, rdv⟩ := id hL
  obtain ⟨r1, r2, r3, r4, r5, r6, r7⟩ := id hR
  have ew := uw d hd.1 hd.2
  have er := rre d hd.1 hd.2
  have x6 := r6 d hd.1 hd.2
  show St E mX3_takesPart 0 [some (.ref p), some (vI d)] [] (0, 0) N lay r h
  refine r_aload_0 (pc := 0) dX3_takesPart_0 ?_
  refine gf_X3_12 (pc := 1) rfl (by assumption) dX3_takesPart_1 (by assumption) ?_
  refine gf_X3_145 (pc := 4) rfl (by assumption) dX3_takesPart_4 (by assumption) ?_
  refine r_iload_1 (pc := 7) dX3_takesPart_7 ?_
  refine r_ialdE (pc := 8) (by assumption) (by first | assumption | exact rfl) dX3_takesPart_8 (by omega) (by omega) (fun i_8 => ?_)
  rw [ew] at i_8 ⊢
  refine r_if_le (pc := 9) (tgt := 33) dX3_takesPart_9 (by decide) (by omega) (fun c_9 => ?_) (fun c_9 => ?_)
  · refine r_iconst (pc := 33) dX3_takesPart_33 ?_
    refine r_zret (pc := 34) hret dX3_takesPart_34 rfl rfl rfl (by first | exact Or.inl rfl | exact Or.inr rfl | exact bI_01 | omega) ?_
    first
    | (have k9 : ¬ (0 < mp (22 + d)) := by omega
       rw [bI_f (fun z => k9 (tp_iff.mp z).1)] at hQ; exact hQ)
    | (have k9 : ¬ (0 < mp (66 + d)) := by omega
       rw [bI_f (fun z => k9 (tp_iff.mp z).2.1)] at hQ; exact hQ)
    | (have k9 : mp (88 + d) = 1 := c_26
       rw [bI_f (fun z => by have := (tp_iff.mp z).2.2; omega)] at hQ; exact hQ)
    | (have k9 : ¬ mp (88 + d) = 1 := c_26
       rw [bI_t (tp_iff.mpr ⟨by omega, by omega, by omega⟩)] at hQ; exact hQ)
  · refine r_aload_0 (pc := 12) dX3_takesPart_12 ?_
    refine gf_X3_29 (pc := 13) rfl (by assumption) dX3_takesPart_13 (by assumption) ?_
    refine r_iload_1 (pc := 16) dX3_takesPart_16 ?_
    refine r_ialdE (pc := 17) (by assumption) (by first | assumption | exact rfl) dX3_takesPart_17 (by omega) (by omega) (fun i_17 => ?_)
    rw [er] at i_17 ⊢
    refine r_if_le (pc := 18) (tgt := 33) dX3_takesPart_18 (by decide) (by omega) (fun c_18 => ?_) (fun c_18 => ?_)
    · refine r_iconst (pc := 33) dX3_takesPart_33 ?_
      refine r_zret (pc := 34) hret dX3_takesPart_34 rfl rfl rfl (by first | exact Or.inl rfl | exact Or.inr rfl | exact bI_01 | omega) ?_
      first
      | (have k9 : ¬ (0 < mp (22 + d)) := by omega
         rw [bI_f (fun z => k9 (tp_iff.mp z).1)] at hQ; exact hQ)
      | (have k9 : ¬ (0 < mp (66 + d)) := by omega
         rw [bI_f (fun z => k9 (tp_iff.mp z).2.1)] at hQ; exact hQ)
      | (have k9 : mp (88 + d) = 1 := c_26
         rw [bI_f (fun z => by have := (tp_iff.mp z).2.2; omega)] at hQ; exact hQ)
      | (have k9 : ¬ mp (88 + d) = 1 := c_26
         rw [bI_t (tp_iff.mpr ⟨by omega, by omega, by omega⟩)] at hQ; exact hQ)
    · refine r_aload_0 (pc := 21) dX3_takesPart_21 ?_
      refine r_iload_1 (pc := 22) dX3_takesPart_22 ?_
      refine k_VI1 (pc := 23) c_X3_isFull lk_X3_114 ⟨Nat.le_of_ble_eq_true rfl, Nat.le_of_ble_eq_true rfl⟩ ⟨rfl, rfl⟩ ⟨Nat.le_of_ble_eq_true rfl, Nat.le_of_ble_eq_true rfl⟩ (k := 3) rfl (by decide) (by assumption) dX3_takesPart_23 (Nat.le_of_ble_eq_true rfl) ?_
      refine ⟨_, _, _, rfl, by assumption, by assumption, by assumption, by assumption, by assumption, by omega, ?_⟩
      refine r_ifne_b (pc := 26) (tgt := 33) dX3_takesPart_26 (by decide) (fun c_26 => ?_) (fun c_26 => ?_)
      · refine r_iconst (pc := 33) dX3_takesPart_33 ?_
        refine r_zret (pc := 34) hret dX3_takesPart_34 rfl rfl rfl (by first | exact Or.inl rfl | exact Or.inr rfl | exact bI_01 | omega) ?_
        first
        | (have k9 : ¬ (0 < mp (22 + d)) := by omega
           rw [bI_f (fun z => k9 (tp_iff.mp z).1)] at hQ; exact hQ)
        | (have k9 : ¬ (0 < mp (66 + d)) := by omega
           rw [bI_f (fun z => k9 (tp_iff.mp z).2.1)] at hQ; exact hQ)
        | (have k9 : mp (88 + d) = 1 := c_26
           rw [bI_f (fun z => by have := (tp_iff.mp z).2.2; omega)] at hQ; exact hQ)
        | (have k9 : ¬ mp (88 + d) = 1 := c_26
           rw [bI_t (tp_iff.mpr ⟨by omega, by omega, by omega⟩)] at hQ; exact hQ)
      · refine r_iconst (pc := 29) dX3_takesPart_29 ?_
        refine r_goto (pc := 30) (tgt := 34) dX3_takesPart_30 (by decide) ?_
        refine r_zret (pc := 34) hret dX3_takesPart_34 rfl rfl rfl (by first | exact Or.inl rfl | exact Or.inr rfl | exact bI_01 | omega) ?_
        first
        | (have k9 : ¬ (0 < mp (22 + d)) := by omega
           rw [bI_f (fun z => k9 (tp_iff.mp z).1)] at hQ; exact hQ)
        | (have k9 : ¬ (0 < mp (66 + d)) := by omega
           rw [bI_f (fun z => k9 (tp_iff.mp z).2.1)] at hQ; exact hQ)
        | (have k9 : mp (88 + d) = 1 := c_26
           rw [bI_f (fun z => by have := (tp_iff.mp z).2.2; omega)] at hQ; exact hQ)
        | (have k9 : ¬ mp (88 + d) = 1 := c_26
           rw [bI_t (tp_iff.mpr ⟨by omega, by omega, by omega⟩)] at hQ; exact hQ)

theorem dX3_countPairs_0 : decode cX3_countPairs 0 = .ok (.iconst 0, 1) := by decide +kernel
theorem dX3_countPairs_1 : decode cX3_countPairs 1 = .ok (.istore_n 2, 1) := by decide +kernel
theorem dX3_countPairs_2 : decode cX3_countPairs 2 = .ok (.iconst 0, 1) := by decide +kernel
theorem dX3_countPairs_3 : decode cX3_countPairs 3 = .ok (.istore_n 3, 1) := by decide +kernel
theorem dX3_countPairs_4 : decode cX3_countPairs 4 = .ok (.iload_n 3, 1) := by decide +kernel
theorem dX3_countPairs_5 : decode cX3_countPairs 5 = .ok (.bipush 16, 2) := by decide +kernel
theorem dX3_countPairs_7 : decode cX3_countPairs 7 = .ok (.if_icmp .ge 26, 3) := by decide +kernel
theorem dX3_countPairs_10 : decode cX3_countPairs 10 = .ok (.aload_n 0, 1) := by decide +kernel
theorem dX3_countPairs_11 : decode cX3_countPairs 11 = .ok (.getfield 38, 3) := by decide +kernel
theorem dX3_countPairs_14 : decode cX3_countPairs 14 = .ok (.iload_n 3, 1) := by decide +kernel
theorem dX3_countPairs_15 : decode cX3_countPairs 15 = .ok (.iaload, 1) := by decide +kernel
theorem dX3_countPairs_16 : decode cX3_countPairs 16 = .ok (.iload_n 1, 1) := by decide +kernel
theorem dX3_countPairs_17 : decode cX3_countPairs 17 = .ok (.invokestatic 88, 3) := by decide +kernel
theorem dX3_countPairs_20 : decode cX3_countPairs 20 = .ok (.iand, 1) := by decide +kernel
theorem dX3_countPairs_21 : decode cX3_countPairs 21 = .ok (.ifCond .eq 6, 3) := by decide +kernel
theorem dX3_countPairs_24 : decode cX3_countPairs 24 = .ok (.iinc 2 1, 3) := by decide +kernel
theorem dX3_countPairs_27 : decode cX3_countPairs 27 = .ok (.iinc 3 1, 3) := by decide +kernel
theorem dX3_countPairs_30 : decode cX3_countPairs 30 = .ok (.goto (-26), 3) := by decide +kernel
theorem dX3_countPairs_33 : decode cX3_countPairs 33 = .ok (.iload_n 2, 1) := by decide +kernel
theorem dX3_countPairs_34 : decode cX3_countPairs 34 = .ok (.ireturn, 1) := by decide +kernel
set_option maxHeartbeats 4000000 in
set_option maxRecDepth 20000 in
theorem c_X3_countPairs : ConI mX3_countPairs (fun args N lay r h Q => ∃ (p m : Nat) (F : Int → Int) (d : Int), args = [.ref p, vI d] ∧ lay p = (4, m) ∧ lay (p + 13) = (10, 16) ∧ r p 11 = some (p + 13) ∧ FdI F ∧ (∀ g, 0 ≤ g → g < 16 → h (p + 13) g = pb F g) ∧ (10 ≤ d ∧ d < 22) ∧ Q (gof F d) N lay r h) := by
  refine ConI.of (by decide) (by rintro _ N lay r h Q ⟨p, m, F, d, rfl, hl, hl2, hr2, hF, hpl, hd, hQ⟩; exact ⟨rfl, Nat.le_of_ble_eq_true rfl⟩) ?_
  rintro E _ N lay r h Q ⟨p, m, F, d, rfl, hl, hl2, hr2, hF, hpl, hd, hQ⟩ hret
  show St E mX3_countPairs 0 [some (.ref p), some (vI d), none, none] [] (0, 0) N lay r h
  have lp : ∀ (n_ : Nat) (g : Int) (s : Int), (16 - g).toNat = n_ → (0 ≤ g ∧ g ≤ 16) → (s = sm (fun g => bI (hasB F g d = true)) g.toNat) → St E mX3_countPairs 4 [some (.ref p), some (vI d), some (vI s), some (vI g)] [] (0, 0) N lay r h := by
    intro  n_
    induction n_ using Nat.strongRecOn with
    | ind n_ ih =>
      intro g s hn_ hg hs
      have pbb := fun z => pb_bit (d := d) hF hg.1 z hd
      refine r_iload_3 (pc := 4) dX3_countPairs_4 ?_
      refine r_bipush (pc := 5) dX3_countPairs_5 (by decide) ?_
      refine r_icmp_ge (pc := 7) (tgt := 33) dX3_countPairs_7 (by decide) (by omega) (by omega) (fun c_7 => ?_) (fun c_7 => ?_)
      · refine r_iload_2 (pc := 33) dX3_countPairs_33 ?_
        refine r_iret (pc := 34) hret dX3_countPairs_34 rfl rfl rfl ?_
        have hg9 : g = 16 := by omega
        subst hg9
        rw [hs]
        exact hQ
      · refine r_aload_0 (pc := 10) dX3_countPairs_10 ?_
        refine gf_X3_38 (pc := 11) rfl (by assumption) dX3_countPairs_11 (by assumption) ?_
        refine r_iload_3 (pc := 14) dX3_countPairs_14 ?_
        refine r_ialdE (pc := 15) (by assumption) (by first | assumption | exact rfl) dX3_countPairs_15 (by omega) (by omega) (fun i_15 => ?_)
        rw [hpl g hg.1 (by omega)] at i_15 ⊢
        refine r_iload_1 (pc := 16) dX3_countPairs_16 ?_
        refine k_SNI1 (pc := 17) c_X7_bitOf lk_X3_88 ⟨Nat.le_of_ble_eq_true rfl, Nat.le_of_ble_eq_true rfl⟩ ⟨rfl, rfl⟩ ⟨Nat.le_of_ble_eq_true rfl, Nat.le_of_ble_eq_true rfl⟩ dX3_countPairs_17 (Nat.le_of_ble_eq_true rfl) ?_
        refine ⟨_, rfl, fun i_17 => ?_⟩
        refine r_iand (pc := 20) dX3_countPairs_20 (fun i_20 => ?_)
        refine r_if_eq (pc := 21) (tgt := 27) dX3_countPairs_21 (by decide) (by omega) (fun c_21 => ?_) (fun c_21 => ?_)
        · refine r_iinc_3 (pc := 27) dX3_countPairs_27 rfl ?_
          refine r_goto (pc := 30) (tgt := 4) dX3_countPairs_30 (by decide) ?_
          first
          | (have k9 : iA (pb F g) (iSl 1 (d - 10)) = 0 := c_21
             refine ih _ (by omega) (g + 1) _ rfl (by omega) ?_
             rw [sm_z hg.1, bI_f (fun z => (pbb (by omega)).mpr z k9), hs]
             omega)
          | (have k9 : ¬ iA (pb F g) (iSl 1 (d - 10)) = 0 := c_21
             refine ih _ (by omega) (g + 1) _ rfl (by omega) ?_
             rw [sm_z hg.1, bI_t ((pbb (by omega)).mp k9), hs])
        · refine r_iinc_2 (pc := 24) dX3_countPairs_24 rfl ?_
          refine r_iinc_3 (pc := 27) dX3_countPairs_27 rfl ?_
          refine r_goto (pc := 30) (tgt := 4) dX3_countPairs_30 (by decide) ?_
          first
          | (have k9 : iA (pb F g) (iSl 1 (d - 10)) = 0 := c_21
             refine ih _ (by omega) (g + 1) _ rfl (by omega) ?_
             rw [sm_z hg.1, bI_f (fun z => (pbb (by omega)).mpr z k9), hs]
             omega)
          | (have k9 : ¬ iA (pb F g) (iSl 1 (d - 10)) = 0 := c_21
             refine ih _ (by omega) (g + 1) _ rfl (by omega) ?_
             rw [sm_z hg.1, bI_t ((pbb (by omega)).mp k9), hs])
  refine r_iconst (pc := 0) dX3_countPairs_0 ?_
  refine r_istore_2 (pc := 1) dX3_countPairs_1 rfl ?_
  refine r_iconst (pc := 2) dX3_countPairs_2 ?_
  refine r_istore_3 (pc := 3) dX3_countPairs_3 rfl ?_
  exact lp _ 0 0 rfl (by omega) rfl

theorem spk_s (mp F : Int → Int) (k : Nat) : spk mp F (k + 1) = if tp mp (10 + (k : Int)) = true then ((if (spk mp F k).1 < gof F (10 + (k : Int)) then gof F (10 + (k : Int)) else (spk mp F k).1), (if gof F (10 + (k : Int)) < (spk mp F k).2 then gof F (10 + (k : Int)) else (spk mp F k).2)) else spk mp F k := rfl
def SpI (s : Int × Int) (a b : Int) : Prop := (s = (-1, 17) ∧ a = 0 ∧ b = 16) ∨ (s = (a, b) ∧ 0 ≤ b ∧ b ≤ a ∧ a ≤ 16)
theorem SpI.step {mp F : Int → Int} {k : Nat} {a b : Int} (h : SpI (spk mp F k) a b) (ht : tp mp (10 + (k : Int)) = true) : SpI (spk mp F (k + 1)) (if a < gof F (10 + (k : Int)) then gof F (10 + (k : Int)) else a) (if gof F (10 + (k : Int)) < b then gof F (10 + (k : Int)) else b) := by
  have gr := gof_r F (10 + (k : Int))
  rw [spk_s, if_pos ht]
  rcases h with ⟨h1, rfl, rfl⟩ | ⟨h1, h2, h3, h4⟩
  · rw [h1]
    refine Or.inr ⟨?_, ?_, ?_, ?_⟩
    · dsimp only
      rw [if_pos (by omega), if_pos (by omega)]
      congr 1
      · split <;> omega
      · split <;> omega
    · split <;> omega
    · split <;> split <;> omega
    · split <;> omega
  · rw [h1]
    refine Or.inr ⟨rfl, ?_, ?_, ?_⟩
    · split <;> omega
    · split <;> split <;> omega
    · split <;> omega
theorem SpI.fin {mp F : Int → Int} {a b : Int} (h : SpI (spk mp F (mp 130).toNat) a b) : (if 0 < a - b then a - b else 0) = spr mp F := by
  unfold spr
  rcases h with ⟨h1, rfl, rfl⟩ | ⟨h1, h2, h3, h4⟩
  · rw [h1]; rfl
  · rw [h1]
    show (if 0 < a - b then a - b else 0) = if a < 0 then 0 else a - b
    rw [if_neg (show ¬ a < 0 by omega)]
    split <;> omega
theorem SpI.r {s : Int × Int} {a b : Int} (h : SpI s a b) : (0 ≤ a ∧ a ≤ 16) ∧ (0 ≤ b ∧ b ≤ 16) := by
  rcases h with ⟨h1, rfl, rfl⟩ | ⟨h1, h2, h3, h4⟩ <;> omega
theorem dX3_spreadOfPairs_0 : decode cX3_spreadOfPairs 0 = .ok (.iconst 0, 1) := by decide +kernel
theorem dX3_spreadOfPairs_1 : decode cX3_spreadOfPairs 1 = .ok (.istore_n 1, 1) := by decide +kernel
theorem dX3_spreadOfPairs_2 : decode cX3_spreadOfPairs 2 = .ok (.bipush 16, 2) := by decide +kernel
theorem dX3_spreadOfPairs_4 : decode cX3_spreadOfPairs 4 = .ok (.istore_n 2, 1) := by decide +kernel
theorem dX3_spreadOfPairs_5 : decode cX3_spreadOfPairs 5 = .ok (.bipush 10, 2) := by decide +kernel
theorem dX3_spreadOfPairs_7 : decode cX3_spreadOfPairs 7 = .ok (.istore_n 3, 1) := by decide +kernel
theorem dX3_spreadOfPairs_8 : decode cX3_spreadOfPairs 8 = .ok (.iload_n 3, 1) := by decide +kernel
theorem dX3_spreadOfPairs_9 : decode cX3_spreadOfPairs 9 = .ok (.aload_n 0, 1) := by decide +kernel
theorem dX3_spreadOfPairs_10 : decode cX3_spreadOfPairs 10 = .ok (.getfield 12, 3) := by decide +kernel
theorem dX3_spreadOfPairs_13 : decode cX3_spreadOfPairs 13 = .ok (.invokevirtual 84, 3) := by decide +kernel
theorem dX3_spreadOfPairs_16 : decode cX3_spreadOfPairs 16 = .ok (.if_icmp .ge 38, 3) := by decide +kernel
theorem dX3_spreadOfPairs_19 : decode cX3_spreadOfPairs 19 = .ok (.aload_n 0, 1) := by decide +kernel
theorem dX3_spreadOfPairs_20 : decode cX3_spreadOfPairs 20 = .ok (.iload_n 3, 1) := by decide +kernel
theorem dX3_spreadOfPairs_21 : decode cX3_spreadOfPairs 21 = .ok (.invokevirtual 148, 3) := by decide +kernel
theorem dX3_spreadOfPairs_24 : decode cX3_spreadOfPairs 24 = .ok (.ifCond .eq 24, 3) := by decide +kernel
theorem dX3_spreadOfPairs_27 : decode cX3_spreadOfPairs 27 = .ok (.aload_n 0, 1) := by decide +kernel
theorem dX3_spreadOfPairs_28 : decode cX3_spreadOfPairs 28 = .ok (.iload_n 3, 1) := by decide +kernel
theorem dX3_spreadOfPairs_29 : decode cX3_spreadOfPairs 29 = .ok (.invokevirtual 151, 3) := by decide +kernel
theorem dX3_spreadOfPairs_32 : decode cX3_spreadOfPairs 32 = .ok (.istore 4, 2) := by decide +kernel
theorem dX3_spreadOfPairs_34 : decode cX3_spreadOfPairs 34 = .ok (.iload_n 1, 1) := by decide +kernel
theorem dX3_spreadOfPairs_35 : decode cX3_spreadOfPairs 35 = .ok (.iload 4, 2) := by decide +kernel
theorem dX3_spreadOfPairs_37 : decode cX3_spreadOfPairs 37 = .ok (.invokestatic 154, 3) := by decide +kernel
theorem dX3_spreadOfPairs_40 : decode cX3_spreadOfPairs 40 = .ok (.istore_n 1, 1) := by decide +kernel
theorem dX3_spreadOfPairs_41 : decode cX3_spreadOfPairs 41 = .ok (.iload_n 2, 1) := by decide +kernel
theorem dX3_spreadOfPairs_42 : decode cX3_spreadOfPairs 42 = .ok (.iload 4, 2) := by decide +kernel
theorem dX3_spreadOfPairs_44 : decode cX3_spreadOfPairs 44 = .ok (.invokestatic 160, 3) := by decide +kernel
theorem dX3_spreadOfPairs_47 : decode cX3_spreadOfPairs 47 = .ok (.istore_n 2, 1) := by decide +kernel
theorem dX3_spreadOfPairs_48 : decode cX3_spreadOfPairs 48 = .ok (.iinc 3 1, 3) := by decide +kernel
theorem dX3_spreadOfPairs_51 : decode cX3_spreadOfPairs 51 = .ok (.goto (-43), 3) := by decide +kernel
theorem dX3_spreadOfPairs_54 : decode cX3_spreadOfPairs 54 = .ok (.iconst 0, 1) := by decide +kernel
theorem dX3_spreadOfPairs_55 : decode cX3_spreadOfPairs 55 = .ok (.iload_n 1, 1) := by decide +kernel
theorem dX3_spreadOfPairs_56 : decode cX3_spreadOfPairs 56 = .ok (.iload_n 2, 1) := by decide +kernel
theorem dX3_spreadOfPairs_57 : decode cX3_spreadOfPairs 57 = .ok (.isub, 1) := by decide +kernel
theorem dX3_spreadOfPairs_58 : decode cX3_spreadOfPairs 58 = .ok (.invokestatic 154, 3) := by decide +kernel
theorem dX3_spreadOfPairs_61 : decode cX3_spreadOfPairs 61 = .ok (.ireturn, 1) := by decide +kernel
set_option maxHeartbeats 4000000 in
set_option maxRecDepth 20000 in
theorem c_X3_spreadOfPairs : ConI mX3_spreadOfPairs (fun args N lay r h Q => ∃ (p : Nat) (mp F : Int → Int), args = [.ref p] ∧ PlAt lay r p ∧ TrM mp ∧ RlM mp ∧ PTr h p mp ∧ PRl h p mp ∧ FdI F ∧ (∀ g, 0 ≤ g → g < 16 → h (p + 13) g = pb F g) ∧ Q (spr mp F) N lay r h) := by
  refine ConI.of (by decide) (by rintro _ N lay r h Q ⟨p, mp, F, rfl, hA, hT, hR, hN, hL, hF, hpl, hQ⟩; exact ⟨rfl, Nat.le_of_ble_eq_true rfl⟩) ?_
  rintro E _ N lay r h Q ⟨p, mp, F, rfl, hA, hT, hR, hN, hL, hF, hpl, hQ⟩ hret
  obtain ⟨pl0, pl1, pl2, pl3, pl4, pl5, pl6, pl7, pl8, pl9, pl10, pl11, pl12, pl13, pr0, pr1, pr2, pr3, pr9, pr10, pr11, qr3, qr4, vr1, vr2, vr3, vr4⟩ := id hA
  obtain ⟨⟨n0, n1, n2⟩, up1, up2, uw, u0, uh⟩ := id hN
  obtain ⟨t1, t2, t3, t4, t5, t6, t7⟩ := id hT
  show St E mX3_spreadOfPairs 0 [some (.ref p), none, none, none, none] [] (0, 0) N lay r h
  have lp : ∀ (n_ : Nat) (d : Int) (a : Int) (b : Int) (x4 : Option Value), (22 - d).toNat = n_ → (10 ≤ d ∧ d ≤ 10 + mp 130) → (SpI (spk mp F (d - 10).toNat) a b) → St E mX3_spreadOfPairs 8 [some (.ref p), some (vI a), some (vI b), some (vI d), x4] [] (0, 0) N lay r h := by
    intro  n_
    induction n_ using Nat.strongRecOn with
    | ind n_ ih =>
      intro d a b x4 hn_ hd hs
      obtain ⟨k, rfl⟩ : ∃ k : Nat, d = 10 + k := ⟨(d - 10).toNat, by omega⟩
      rw [show (10 + (k : Int) - 10).toNat = k by omega] at hs
      have sr := hs.r
      have gr := gof_r F (10 + (k : Int))
      refine r_iload_3 (pc := 8) dX3_spreadOfPairs_8 ?_
      refine r_aload_0 (pc := 9) dX3_spreadOfPairs_9 ?_
      refine gf_X3_12 (pc := 10) rfl (by assumption) dX3_spreadOfPairs_10 (by assumption) ?_
      refine k_VI0 (pc := 13) c_X6_endOfDisks lk_X3_84 ⟨Nat.le_of_ble_eq_true rfl, Nat.le_of_ble_eq_true rfl⟩ ⟨rfl, rfl⟩ ⟨Nat.le_of_ble_eq_true rfl, Nat.le_of_ble_eq_true rfl⟩ (k := 6) rfl (by decide) (by assumption) dX3_spreadOfPairs_13 (Nat.le_of_ble_eq_true rfl) ?_
      refine ⟨_, _, rfl, by assumption, fun i_13 => ?_⟩
      refine r_icmp_ge (pc := 16) (tgt := 54) dX3_spreadOfPairs_16 (by decide) (by omega) (by omega) (fun c_16 => ?_) (fun c_16 => ?_)
      · refine r_iconst (pc := 54) dX3_spreadOfPairs_54 ?_
        refine r_iload_1 (pc := 55) dX3_spreadOfPairs_55 ?_
        refine r_iload_2 (pc := 56) dX3_spreadOfPairs_56 ?_
        refine r_isub (pc := 57) dX3_spreadOfPairs_57 ?_
        refine r_max (pc := 58) (inT 746 (by decide +kernel) rfl) dX3_spreadOfPairs_58 (by omega) (by omega) (Nat.le_of_ble_eq_true rfl) (Nat.le_of_ble_eq_true rfl) ⟨(Nat.le_of_ble_eq_true rfl), (Nat.le_of_ble_eq_true rfl)⟩ ?_
        refine r_iret (pc := 61) hret dX3_spreadOfPairs_61 rfl rfl rfl ?_
        have hk9 : (mp 130).toNat = k := by omega
        rw [← hk9] at hs
        rw [← hs.fin] at hQ
        exact hQ
      · refine r_aload_0 (pc := 19) dX3_spreadOfPairs_19 ?_
        refine r_iload_3 (pc := 20) dX3_spreadOfPairs_20 ?_
        refine k_VI1 (pc := 21) c_X3_takesPart lk_X3_148 ⟨Nat.le_of_ble_eq_true rfl, Nat.le_of_ble_eq_true rfl⟩ ⟨rfl, rfl⟩ ⟨Nat.le_of_ble_eq_true rfl, Nat.le_of_ble_eq_true rfl⟩ (k := 3) rfl (by decide) (by assumption) dX3_spreadOfPairs_21 (Nat.le_of_ble_eq_true rfl) ?_
        refine ⟨_, _, _, rfl, by assumption, by assumption, by assumption, by assumption, by assumption, by omega, ?_⟩
        refine r_ifeq_b (pc := 24) (tgt := 48) dX3_spreadOfPairs_24 (by decide) (fun c_24 => ?_) (fun c_24 => ?_)
        · refine r_iinc_3 (pc := 48) dX3_spreadOfPairs_48 rfl ?_
          refine r_goto (pc := 51) (tgt := 8) dX3_spreadOfPairs_51 (by decide) ?_
          first
          | (have k9 : ¬ tp mp (10 + (k : Int)) = true := c_24
             refine ih _ (by omega) (10 + (k : Int) + 1) _ _ _ rfl (by omega) ?_
             rw [show (10 + (k : Int) + 1 - 10).toNat = k + 1 by omega, spk_s, if_neg k9]
             exact hs)
          | (have k9 : tp mp (10 + (k : Int)) = true := c_24
             refine ih _ (by omega) (10 + (k : Int) + 1) _ _ _ rfl (by omega) ?_
             rw [show (10 + (k : Int) + 1 - 10).toNat = k + 1 by omega]
             exact hs.step k9)
        · refine r_aload_0 (pc := 27) dX3_spreadOfPairs_27 ?_
          refine r_iload_3 (pc := 28) dX3_spreadOfPairs_28 ?_
          refine k_VI1 (pc := 29) c_X3_countPairs lk_X3_151 ⟨Nat.le_of_ble_eq_true rfl, Nat.le_of_ble_eq_true rfl⟩ ⟨rfl, rfl⟩ ⟨Nat.le_of_ble_eq_true rfl, Nat.le_of_ble_eq_true rfl⟩ (k := 3) rfl (by decide) (by assumption) dX3_spreadOfPairs_29 (Nat.le_of_ble_eq_true rfl) ?_
          refine ⟨_, _, _, _, rfl, by assumption, by assumption, by assumption, by assumption, by assumption, by omega, ?_⟩
          refine r_istore_4 (pc := 32) dX3_spreadOfPairs_32 rfl ?_
          refine r_iload_1 (pc := 34) dX3_spreadOfPairs_34 ?_
          refine r_iload_4 (pc := 35) dX3_spreadOfPairs_35 ?_
          refine r_max (pc := 37) (inT 746 (by decide +kernel) rfl) dX3_spreadOfPairs_37 (by omega) (by omega) (Nat.le_of_ble_eq_true rfl) (Nat.le_of_ble_eq_true rfl) ⟨(Nat.le_of_ble_eq_true rfl), (Nat.le_of_ble_eq_true rfl)⟩ ?_
          refine r_istore_1 (pc := 40) dX3_spreadOfPairs_40 rfl ?_
          refine r_iload_2 (pc := 41) dX3_spreadOfPairs_41 ?_
          refine r_iload_4 (pc := 42) dX3_spreadOfPairs_42 ?_
          refine r_min (pc := 44) (inT 749 (by decide +kernel) rfl) dX3_spreadOfPairs_44 (by omega) (by omega) (Nat.le_of_ble_eq_true rfl) (Nat.le_of_ble_eq_true rfl) ⟨(Nat.le_of_ble_eq_true rfl), (Nat.le_of_ble_eq_true rfl)⟩ ?_
          refine r_istore_2 (pc := 47) dX3_spreadOfPairs_47 rfl ?_
          refine r_iinc_3 (pc := 48) dX3_spreadOfPairs_48 rfl ?_
          refine r_goto (pc := 51) (tgt := 8) dX3_spreadOfPairs_51 (by decide) ?_
          first
          | (have k9 : ¬ tp mp (10 + (k : Int)) = true := c_24
             refine ih _ (by omega) (10 + (k : Int) + 1) _ _ _ rfl (by omega) ?_
             rw [show (10 + (k : Int) + 1 - 10).toNat = k + 1 by omega, spk_s, if_neg k9]
             exact hs)
          | (have k9 : tp mp (10 + (k : Int)) = true := c_24
             refine ih _ (by omega) (10 + (k : Int) + 1) _ _ _ rfl (by omega) ?_
             rw [show (10 + (k : Int) + 1 - 10).toNat = k + 1 by omega]
             exact hs.step k9)
  refine r_iconst (pc := 0) dX3_spreadOfPairs_0 ?_
  refine r_istore_1 (pc := 1) dX3_spreadOfPairs_1 rfl ?_
  refine r_bipush (pc := 2) dX3_spreadOfPairs_2 (by decide) ?_
  refine r_istore_2 (pc := 4) dX3_spreadOfPairs_4 rfl ?_
  refine r_bipush (pc := 5) dX3_spreadOfPairs_5 (by decide) ?_
  refine r_istore_3 (pc := 7) dX3_spreadOfPairs_7 rfl ?_
  exact lp _ 10 0 16 _ rfl (by omega) (Or.inl ⟨rfl, rfl, rfl⟩)

theorem dX3_hasSameCopies_0 : decode cX3_hasSameCopies 0 = .ok (.iconst 0, 1) := by decide +kernel
theorem dX3_hasSameCopies_1 : decode cX3_hasSameCopies 1 = .ok (.istore_n 3, 1) := by decide +kernel
theorem dX3_hasSameCopies_2 : decode cX3_hasSameCopies 2 = .ok (.iload_n 3, 1) := by decide +kernel
theorem dX3_hasSameCopies_3 : decode cX3_hasSameCopies 3 = .ok (.iconst 4, 1) := by decide +kernel
theorem dX3_hasSameCopies_4 : decode cX3_hasSameCopies 4 = .ok (.if_icmp .ge 26, 3) := by decide +kernel
theorem dX3_hasSameCopies_7 : decode cX3_hasSameCopies 7 = .ok (.aload_n 0, 1) := by decide +kernel
theorem dX3_hasSameCopies_8 : decode cX3_hasSameCopies 8 = .ok (.iload_n 2, 1) := by decide +kernel
theorem dX3_hasSameCopies_9 : decode cX3_hasSameCopies 9 = .ok (.iload_n 3, 1) := by decide +kernel
theorem dX3_hasSameCopies_10 : decode cX3_hasSameCopies 10 = .ok (.invokevirtual 163, 3) := by decide +kernel
theorem dX3_hasSameCopies_13 : decode cX3_hasSameCopies 13 = .ok (.aload_n 1, 1) := by decide +kernel
theorem dX3_hasSameCopies_14 : decode cX3_hasSameCopies 14 = .ok (.iload_n 2, 1) := by decide +kernel
theorem dX3_hasSameCopies_15 : decode cX3_hasSameCopies 15 = .ok (.iload_n 3, 1) := by decide +kernel
theorem dX3_hasSameCopies_16 : decode cX3_hasSameCopies 16 = .ok (.invokevirtual 163, 3) := by decide +kernel
theorem dX3_hasSameCopies_19 : decode cX3_hasSameCopies 19 = .ok (.if_icmp .eq 5, 3) := by decide +kernel
theorem dX3_hasSameCopies_22 : decode cX3_hasSameCopies 22 = .ok (.iconst 0, 1) := by decide +kernel
theorem dX3_hasSameCopies_23 : decode cX3_hasSameCopies 23 = .ok (.ireturn, 1) := by decide +kernel
theorem dX3_hasSameCopies_24 : decode cX3_hasSameCopies 24 = .ok (.iinc 3 1, 3) := by decide +kernel
theorem dX3_hasSameCopies_27 : decode cX3_hasSameCopies 27 = .ok (.goto (-25), 3) := by decide +kernel
theorem dX3_hasSameCopies_30 : decode cX3_hasSameCopies 30 = .ok (.iconst 1, 1) := by decide +kernel
theorem dX3_hasSameCopies_31 : decode cX3_hasSameCopies 31 = .ok (.ireturn, 1) := by decide +kernel
set_option maxHeartbeats 4000000 in
set_option maxRecDepth 20000 in
theorem c_X3_hasSameCopies : ConI mX3_hasSameCopies (fun args N lay r h Q => ∃ (p q : Nat) (g : Int), args = [.ref p, .ref q, vI g] ∧ PlAt lay r p ∧ PlAt lay r q ∧ (0 ≤ g ∧ g < 16) ∧ Q (bI (alq (h (p + 11)) (h (q + 11)) g 4 = true)) N lay r h) := by
  refine ConI.of (by decide) (by rintro _ N lay r h Q ⟨p, q, g, rfl, hA, hA2, hg, hQ⟩; exact ⟨rfl, Nat.le_of_ble_eq_true rfl⟩) ?_
  rintro E _ N lay r h Q ⟨p, q, g, rfl, hA, hA2, hg, hQ⟩ hret
  obtain ⟨pl0, pl1, pl2, pl3, pl4, pl5, pl6, pl7, pl8, pl9, pl10, pl11, pl12, pl13, pr0, pr1, pr2, pr3, pr9, pr10, pr11, qr3, qr4, vr1, vr2, vr3, vr4⟩ := id hA
  obtain ⟨xl0, xl1, xl2, xl3, xl4, xl5, xl6, xl7, xl8, xl9, xl10, xl11, xl12, xl13, xr0, xr1, xr2, xr3, xr9, xr10, xr11, yr3, yr4, wr1, wr2, wr3, wr4⟩ := id hA2
  show St E mX3_hasSameCopies 0 [some (.ref p), some (.ref q), some (vI g), none] [] (0, 0) N lay r h
  have lp : ∀ (n_ : Nat) (c : Int), (4 - c).toNat = n_ → (0 ≤ c ∧ c ≤ 4) → (alq (h (p + 11)) (h (q + 11)) g c.toNat = true) → St E mX3_hasSameCopies 2 [some (.ref p), some (.ref q), some (vI g), some (vI c)] [] (0, 0) N lay r h := by
    intro  n_
    induction n_ using Nat.strongRecOn with
    | ind n_ ih =>
      intro c hn_ hc ha
      obtain ⟨k, rfl⟩ : ∃ k : Nat, c = k := ⟨c.toNat, by omega⟩
      rw [show ((k : Int)).toNat = k by omega] at ha
      refine r_iload_3 (pc := 2) dX3_hasSameCopies_2 ?_
      refine r_iconst (pc := 3) dX3_hasSameCopies_3 ?_
      refine r_icmp_ge (pc := 4) (tgt := 30) dX3_hasSameCopies_4 (by decide) (by omega) (by omega) (fun c_4 => ?_) (fun c_4 => ?_)
      · refine r_iconst (pc := 30) dX3_hasSameCopies_30 ?_
        refine r_zret (pc := 31) hret dX3_hasSameCopies_31 rfl rfl rfl (by first | exact Or.inl rfl | exact Or.inr rfl | exact bI_01 | omega) ?_
        first
        | (have k9 : k = 4 := by omega
           subst k9
           rw [bI_t ha] at hQ
           exact hQ)
        | (have k9 : ¬ h (p + 11) (4 * g + (k : Int)) = h (q + 11) (4 * g + (k : Int)) := c_19
           have k8 : ∀ n, k + 1 + n ≤ 4 → ¬ alq (h (p + 11)) (h (q + 11)) g (k + 1 + n) = true := by
             intro n
             induction n with
             | zero => intro _ z; exact k9 (alq_2 z)
             | succ n ihn => intro hn z; exact ihn (by omega) (alq_1 z)
           have k7 := k8 (3 - k) (by omega)
           rw [show k + 1 + (3 - k) = 4 by omega] at k7
           rw [bI_f k7] at hQ
           exact hQ)
      · refine r_aload_0 (pc := 7) dX3_hasSameCopies_7 ?_
        refine r_iload_2 (pc := 8) dX3_hasSameCopies_8 ?_
        refine r_iload_3 (pc := 9) dX3_hasSameCopies_9 ?_
        refine k_VI2 (pc := 10) c_X3_copyOf lk_X3_163 ⟨Nat.le_of_ble_eq_true rfl, Nat.le_of_ble_eq_true rfl⟩ ⟨rfl, rfl⟩ ⟨Nat.le_of_ble_eq_true rfl, Nat.le_of_ble_eq_true rfl⟩ (k := 3) rfl (by decide) (by assumption) dX3_hasSameCopies_10 (Nat.le_of_ble_eq_true rfl) ?_
        refine ⟨_, _, _, _, rfl, by assumption, by assumption, by assumption, by omega, by omega, fun i_10 => ?_⟩
        refine r_aload_1 (pc := 13) dX3_hasSameCopies_13 ?_
        refine r_iload_2 (pc := 14) dX3_hasSameCopies_14 ?_
        refine r_iload_3 (pc := 15) dX3_hasSameCopies_15 ?_
        refine k_VI2 (pc := 16) c_X3_copyOf lk_X3_163 ⟨Nat.le_of_ble_eq_true rfl, Nat.le_of_ble_eq_true rfl⟩ ⟨rfl, rfl⟩ ⟨Nat.le_of_ble_eq_true rfl, Nat.le_of_ble_eq_true rfl⟩ (k := 3) rfl (by decide) (by assumption) dX3_hasSameCopies_16 (Nat.le_of_ble_eq_true rfl) ?_
        refine ⟨_, _, _, _, rfl, by assumption, by assumption, by assumption, by omega, by omega, fun i_16 => ?_⟩
        refine r_icmp_eq (pc := 19) (tgt := 24) dX3_hasSameCopies_19 (by decide) (by omega) (by omega) (fun c_19 => ?_) (fun c_19 => ?_)
        · refine r_iinc_3 (pc := 24) dX3_hasSameCopies_24 rfl ?_
          refine r_goto (pc := 27) (tgt := 2) dX3_hasSameCopies_27 (by decide) ?_
          exact ih _ (by omega) ((k : Int) + 1) rfl (by omega) (by rw [show ((k : Int) + 1).toNat = k + 1 by omega]; exact alq_3 ha c_19)
        · refine r_iconst (pc := 22) dX3_hasSameCopies_22 ?_
          refine r_zret (pc := 23) hret dX3_hasSameCopies_23 rfl rfl rfl (by first | exact Or.inl rfl | exact Or.inr rfl | exact bI_01 | omega) ?_
          first
          | (have k9 : k = 4 := by omega
             subst k9
             rw [bI_t ha] at hQ
             exact hQ)
          | (have k9 : ¬ h (p + 11) (4 * g + (k : Int)) = h (q + 11) (4 * g + (k : Int)) := c_19
             have k8 : ∀ n, k + 1 + n ≤ 4 → ¬ alq (h (p + 11)) (h (q + 11)) g (k + 1 + n) = true := by
               intro n
               induction n with
               | zero => intro _ z; exact k9 (alq_2 z)
               | succ n ihn => intro hn z; exact ihn (by omega) (alq_1 z)
             have k7 := k8 (3 - k) (by omega)
             rw [show k + 1 + (3 - k) = 4 by omega] at k7
             rw [bI_f k7] at hQ
             exact hQ)
  refine r_iconst (pc := 0) dX3_hasSameCopies_0 ?_
  refine r_istore_3 (pc := 1) dX3_hasSameCopies_1 rfl ?_
  exact lp _ 0 rfl (by omega) rfl

