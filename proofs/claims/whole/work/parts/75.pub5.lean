/-! THE CLASS: trials: would, least, weights, even -/
theorem PTr_w {h : HpT} {p : Nat} {mp : Int → Int} {d w : Int} (hT : TrM mp) (hN : PTr h p mp) (hd : 10 ≤ d ∧ d < 10 + mp 130) : PTr (hr h (p + 3) (up (h (p + 3)) d w)) p (up mp (22 + d) w) := by
  obtain ⟨⟨n0, n1, n2⟩, up1, up2, uw, u0, uh⟩ := hN
  obtain ⟨t1, t2, t3, t4, t5, t6, t7⟩ := hT
  have e : ∀ j, j ≠ 22 + d → up mp (22 + d) w j = mp j := fun j hj => up_n hj
  have e8 := e 128 (by omega)
  have e9 := e 129 (by omega)
  have e0 := e 130 (by omega)
  refine ⟨⟨by rw [hr_n (by omega), e8]; exact n0, by rw [hr_n (by omega), e9]; exact n1, by rw [hr_n (by omega), e0]; exact n2⟩, fun n q0 q1 => ?_, fun n q0 q1 => ?_, fun n q0 q1 => ?_, by rw [hr_n (by omega)]; exact u0, fun n q0 q1 => by rw [hr_n (by omega)]; exact uh n q0 (by omega)⟩
  · rw [hr_n (by omega), e _ (by omega)]; exact up1 n q0 (by omega)
  · rw [hr_n (by omega), e _ (by omega)]; exact up2 n q0 (by omega)
  · rw [hr_s]
    by_cases z : n = d
    · rw [z, up_s, up_s]
    · rw [up_n z, e _ (by omega)]; exact uw n q0 (by omega)
theorem PRl_w {h : HpT} {p : Nat} {mp f : Int → Int} {d w : Int} (hT : TrM mp) (hR : RlM mp) (hL : PRl h p mp) (hd : 10 ≤ d ∧ d < 22) : PRl (hr h (p + 3) f) p (up mp (22 + d) w) :=
  (hL.of (hr_n (by omega)) (hr_n (by omega)) (hr_n (by omega)) (hr_n (by omega)) (hr_n (by omega)) (hr_n (by omega)) (hr_n (by omega)) : PRl (hr h (p + 3) f) p mp).cg (fun j j0 j1 _ _ => up_n (by omega)) hT.2.2.1 hR.2.2.2.2.1
theorem dX7_would_0 : decode cX7_would 0 = .ok (.aload_n 0, 1) := by decide +kernel
theorem dX7_would_1 : decode cX7_would 1 = .ok (.getfield 51, 3) := by decide +kernel
theorem dX7_would_4 : decode cX7_would 4 = .ok (.getfield 84, 3) := by decide +kernel
theorem dX7_would_7 : decode cX7_would 7 = .ok (.iload_n 1, 1) := by decide +kernel
theorem dX7_would_8 : decode cX7_would 8 = .ok (.invokevirtual 97, 3) := by decide +kernel
theorem dX7_would_11 : decode cX7_would 11 = .ok (.ifCond .eq 19, 3) := by decide +kernel
theorem dX7_would_14 : decode cX7_would 14 = .ok (.iload_n 2, 1) := by decide +kernel
theorem dX7_would_15 : decode cX7_would 15 = .ok (.invokestatic 144, 3) := by decide +kernel
theorem dX7_would_18 : decode cX7_would 18 = .ok (.ifCond .eq 12, 3) := by decide +kernel
theorem dX7_would_21 : decode cX7_would 21 = .ok (.iload_n 3, 1) := by decide +kernel
theorem dX7_would_22 : decode cX7_would 22 = .ok (.ifCond .lt 8, 3) := by decide +kernel
theorem dX7_would_25 : decode cX7_would 25 = .ok (.iload_n 3, 1) := by decide +kernel
theorem dX7_would_26 : decode cX7_would 26 = .ok (.iconst 2, 1) := by decide +kernel
theorem dX7_would_27 : decode cX7_would 27 = .ok (.if_icmp .le 5, 3) := by decide +kernel
theorem dX7_would_30 : decode cX7_would 30 = .ok (.iconst (-1), 1) := by decide +kernel
theorem dX7_would_31 : decode cX7_would 31 = .ok (.ireturn, 1) := by decide +kernel
theorem dX7_would_32 : decode cX7_would 32 = .ok (.aload_n 0, 1) := by decide +kernel
theorem dX7_would_33 : decode cX7_would 33 = .ok (.getfield 51, 3) := by decide +kernel
theorem dX7_would_36 : decode cX7_would 36 = .ok (.getfield 84, 3) := by decide +kernel
theorem dX7_would_39 : decode cX7_would 39 = .ok (.iconst 0, 1) := by decide +kernel
theorem dX7_would_40 : decode cX7_would 40 = .ok (.invokevirtual 256, 3) := by decide +kernel
theorem dX7_would_43 : decode cX7_would 43 = .ok (.istore 4, 2) := by decide +kernel
theorem dX7_would_45 : decode cX7_would 45 = .ok (.iload_n 3, 1) := by decide +kernel
theorem dX7_would_46 : decode cX7_would 46 = .ok (.iconst 1, 1) := by decide +kernel
theorem dX7_would_47 : decode cX7_would 47 = .ok (.if_icmp .ne 12, 3) := by decide +kernel
theorem dX7_would_50 : decode cX7_would 50 = .ok (.iload_n 1, 1) := by decide +kernel
theorem dX7_would_51 : decode cX7_would 51 = .ok (.invokestatic 161, 3) := by decide +kernel
theorem dX7_would_54 : decode cX7_would 54 = .ok (.istore 4, 2) := by decide +kernel
theorem dX7_would_56 : decode cX7_would 56 = .ok (.goto 31, 3) := by decide +kernel
theorem dX7_would_59 : decode cX7_would 59 = .ok (.iload_n 3, 1) := by decide +kernel
theorem dX7_would_60 : decode cX7_would 60 = .ok (.iconst 2, 1) := by decide +kernel
theorem dX7_would_61 : decode cX7_would 61 = .ok (.if_icmp .ne 26, 3) := by decide +kernel
theorem dX7_would_64 : decode cX7_would 64 = .ok (.aload_n 0, 1) := by decide +kernel
theorem dX7_would_65 : decode cX7_would 65 = .ok (.getfield 51, 3) := by decide +kernel
theorem dX7_would_68 : decode cX7_would 68 = .ok (.getfield 84, 3) := by decide +kernel
theorem dX7_would_71 : decode cX7_would 71 = .ok (.aload_n 0, 1) := by decide +kernel
theorem dX7_would_72 : decode cX7_would 72 = .ok (.getfield 51, 3) := by decide +kernel
theorem dX7_would_75 : decode cX7_would 75 = .ok (.getfield 84, 3) := by decide +kernel
theorem dX7_would_78 : decode cX7_would 78 = .ok (.iload_n 1, 1) := by decide +kernel
theorem dX7_would_79 : decode cX7_would 79 = .ok (.invokevirtual 272, 3) := by decide +kernel
theorem dX7_would_82 : decode cX7_would 82 = .ok (.invokevirtual 256, 3) := by decide +kernel
theorem dX7_would_85 : decode cX7_would 85 = .ok (.istore 4, 2) := by decide +kernel
theorem dX7_would_87 : decode cX7_would 87 = .ok (.aload_n 0, 1) := by decide +kernel
theorem dX7_would_88 : decode cX7_would 88 = .ok (.getfield 30, 3) := by decide +kernel
theorem dX7_would_91 : decode cX7_would 91 = .ok (.aload_n 0, 1) := by decide +kernel
theorem dX7_would_92 : decode cX7_would 92 = .ok (.getfield 51, 3) := by decide +kernel
theorem dX7_would_95 : decode cX7_would 95 = .ok (.invokevirtual 275, 3) := by decide +kernel
theorem dX7_would_98 : decode cX7_would 98 = .ok (.aload_n 0, 1) := by decide +kernel
theorem dX7_would_99 : decode cX7_would 99 = .ok (.getfield 30, 3) := by decide +kernel
theorem dX7_would_102 : decode cX7_would 102 = .ok (.getfield 84, 3) := by decide +kernel
theorem dX7_would_105 : decode cX7_would 105 = .ok (.getfield 100, 3) := by decide +kernel
theorem dX7_would_108 : decode cX7_would 108 = .ok (.iload_n 1, 1) := by decide +kernel
theorem dX7_would_109 : decode cX7_would 109 = .ok (.iload_n 2, 1) := by decide +kernel
theorem dX7_would_110 : decode cX7_would 110 = .ok (.iastore, 1) := by decide +kernel
theorem dX7_would_111 : decode cX7_would 111 = .ok (.aload_n 0, 1) := by decide +kernel
theorem dX7_would_112 : decode cX7_would 112 = .ok (.getfield 30, 3) := by decide +kernel
theorem dX7_would_115 : decode cX7_would 115 = .ok (.aload_n 0, 1) := by decide +kernel
theorem dX7_would_116 : decode cX7_would 116 = .ok (.getfield 19, 3) := by decide +kernel
theorem dX7_would_119 : decode cX7_would 119 = .ok (.invokevirtual 74, 3) := by decide +kernel
theorem dX7_would_122 : decode cX7_would 122 = .ok (.iconst 0, 1) := by decide +kernel
theorem dX7_would_123 : decode cX7_would 123 = .ok (.istore 5, 2) := by decide +kernel
theorem dX7_would_125 : decode cX7_would 125 = .ok (.iconst 0, 1) := by decide +kernel
theorem dX7_would_126 : decode cX7_would 126 = .ok (.istore 6, 2) := by decide +kernel
theorem dX7_would_128 : decode cX7_would 128 = .ok (.iload 6, 2) := by decide +kernel
theorem dX7_would_130 : decode cX7_would 130 = .ok (.bipush 16, 2) := by decide +kernel
theorem dX7_would_132 : decode cX7_would 132 = .ok (.if_icmp .ge 43, 3) := by decide +kernel
theorem dX7_would_135 : decode cX7_would 135 = .ok (.iload 5, 2) := by decide +kernel
theorem dX7_would_137 : decode cX7_would 137 = .ok (.aload_n 0, 1) := by decide +kernel
theorem dX7_would_138 : decode cX7_would 138 = .ok (.getfield 30, 3) := by decide +kernel
theorem dX7_would_141 : decode cX7_would 141 = .ok (.getfield 259, 3) := by decide +kernel
theorem dX7_would_144 : decode cX7_would 144 = .ok (.iload 6, 2) := by decide +kernel
theorem dX7_would_146 : decode cX7_would 146 = .ok (.iaload, 1) := by decide +kernel
theorem dX7_would_147 : decode cX7_would 147 = .ok (.aload_n 0, 1) := by decide +kernel
theorem dX7_would_148 : decode cX7_would 148 = .ok (.getfield 51, 3) := by decide +kernel
theorem dX7_would_151 : decode cX7_would 151 = .ok (.getfield 259, 3) := by decide +kernel
theorem dX7_would_154 : decode cX7_would 154 = .ok (.iload 6, 2) := by decide +kernel
theorem dX7_would_156 : decode cX7_would 156 = .ok (.iaload, 1) := by decide +kernel
theorem dX7_would_157 : decode cX7_would 157 = .ok (.iconst (-1), 1) := by decide +kernel
theorem dX7_would_158 : decode cX7_would 158 = .ok (.ixor, 1) := by decide +kernel
theorem dX7_would_159 : decode cX7_would 159 = .ok (.iand, 1) := by decide +kernel
theorem dX7_would_160 : decode cX7_would 160 = .ok (.iload 4, 2) := by decide +kernel
theorem dX7_would_162 : decode cX7_would 162 = .ok (.iand, 1) := by decide +kernel
theorem dX7_would_163 : decode cX7_would 163 = .ok (.invokestatic 167, 3) := by decide +kernel
theorem dX7_would_166 : decode cX7_would 166 = .ok (.iadd, 1) := by decide +kernel
theorem dX7_would_167 : decode cX7_would 167 = .ok (.istore 5, 2) := by decide +kernel
theorem dX7_would_169 : decode cX7_would 169 = .ok (.iinc 6 1, 3) := by decide +kernel
theorem dX7_would_172 : decode cX7_would 172 = .ok (.goto (-44), 3) := by decide +kernel
theorem dX7_would_175 : decode cX7_would 175 = .ok (.iload 5, 2) := by decide +kernel
theorem dX7_would_177 : decode cX7_would 177 = .ok (.ireturn, 1) := by decide +kernel
set_option maxHeartbeats 4000000 in
set_option maxRecDepth 20000 in
theorem c_X7_would : ConI mX7_would (fun args N lay r h Q => ∃ (c : Nat) (q : Int → Nat) (n : Int) (tx : Int → Int) (ep : Int) (km : Int → Int → Int) (mp F : Int → Int) (ux : Int) (sz ho : Int → Int) (sn : Int) (row : Int → Int) (d w p : Int), args = [.ref c, vI d, vI w, vI p] ∧ CI lay r h c q n tx ep km mp F ux sz ho sn row ∧ (-2147483648 ≤ d ∧ d < 2147483648) ∧ (-2147483648 ≤ w ∧ w < 2147483648) ∧ (-2147483648 ≤ p ∧ p < 2147483648) ∧ (¬ ((10 ≤ d ∧ d ≤ 9 + mp 130) ∧ (0 ≤ w ∧ w ≤ 40) ∧ (0 ≤ p ∧ p ≤ 2)) → Q (-1) N lay r h) ∧ (((10 ≤ d ∧ d ≤ 9 + mp 130) ∧ (0 ≤ w ∧ w ≤ 40) ∧ (0 ≤ p ∧ p ≤ 2)) → ∀ h2, Fr h h2 (fun x => c ≤ x ∧ x < c + 101) → CI lay r h2 c q n tx ep km mp F ux sz ho sn row → Q (wd mp F (plr (up mp (22 + d) w)) p d) N lay r h2)) := by
  refine ConI.of (by decide) (by rintro _ N lay r h Q ⟨c, q, n, tx, ep, km, mp, F, ux, sz, ho, sn, row, d, w, p, rfl, hI, h_d, h_w, h_p, hB, hQ⟩; exact ⟨rfl, Nat.le_of_ble_eq_true rfl⟩) ?_
  rintro E _ N lay r h Q ⟨c, q, n, tx, ep, km, mp, F, ux, sz, ho, sn, row, d, w, p, rfl, hI, h_d, h_w, h_p, hB, hQ⟩ hret
  obtain ⟨hC, hLt, ⟨hCT, htx⟩, hSK, ⟨he8, hep⟩, hkm, ⟨hk0, h130⟩, hF0, ⟨hDa, hMk, hsz⟩, ⟨hOb, hSe⟩⟩ := id hI
  obtain ⟨cl0, cl6, ⟨cr0, cr1, cr2, cr3, cr4, cr5, cr6⟩, cT, cS, cP, cD, cE, cO⟩ := id hC
  obtain ⟨lr7, lr6, lpl, lrg, ldj⟩ := id hLt
  have hP0 := hkm 0 (by omega) (by omega) (by omega)
  rw [hk0] at hP0
  obtain ⟨hT, hR, hN, hW, hL, hPS⟩ := id hP0
  have hA := lpl 0 (by omega) (by omega)
  have q0r := lrg 0 (by omega) (by omega)
  obtain ⟨pl0, pl1, pl2, pl3, pl4, pl5, pl6, pl7, pl8, pl9, pl10, pl11, pl12, pl13, pr0, pr1, pr2, pr3, pr9, pr10, pr11, qr3, qr4, vr1, vr2, vr3, vr4⟩ := id hA
  obtain ⟨⟨n0, n1, n2⟩, up1, up2, uw, u0, uh⟩ := id hN
  obtain ⟨t1, t2, t3, t4, t5, t6, t7⟩ := id hT
  have hFI : FdI F := fun j j0 j1 => by rw [← hF0 j j0 j1]; exact FdI_plr hT hR j j0 j1
  have hp1 : ∀ j, 0 ≤ j → j < 64 → h (q 0 + 11) j = F j := fun j j0 j1 => (hPS.1 j j0 j1).trans (hF0 j j0 j1)
  have hp2 : ∀ g, 0 ≤ g → g < 16 → h (q 0 + 13) g = pb F g := fun g g0 g1 => (hPS.2.2.1 g g0 g1).trans (pb_c ⟨g0, g1⟩ hF0)
  obtain ⟨tl0, tl1, tl2, tl3, tl4, tl5, tl6, tl7, tl8, tl9, tl10, tl11, tl12, tl13, tr0, tr1, tr2, tr3, tr9, tr10, tr11, sr3, sr4, ur1, ur2, ur3, ur4⟩ := id cP
  have sl0 : lay (c + 4) = (5, 0) := cS.1
  show St E mX7_would 0 [some (.ref c), some (vI d), some (vI w), some (vI p), none, none, none] [] (0, 0) N lay r h
  have lp : ∀ (hk : HpT) (cm : Int) (TM : TrM (up mp (22 + d) w)) (RM : RlM (up mp (22 + d) w)) (hcm : Ms cm) (hin : ∀ t, 10 ≤ t ∧ t < 10 + mp 130 → (tb cm (t - 10).toNat = true ↔ (p = 0 ∨ (p = 1 ∧ t = d) ∨ (p = 2 ∧ bel mp t (mp (mp d)))))) (hpk : ∀ g, 0 ≤ g → g < 16 → hk (c + 7 + 13) g = pb (plr (up mp (22 + d) w)) g) (hf : Fr h hk (fun x => (c + 7 ≤ x ∧ x < c + 21) ∨ x = c + 5)) (hk3 : StK (hk (c + 4 + 1))) (gd : (10 ≤ d ∧ d ≤ 9 + mp 130) ∧ (0 ≤ w ∧ w ≤ 40) ∧ (0 ≤ p ∧ p ≤ 2)) (n_ : Nat) (g : Int) (s : Int), (16 - g).toNat = n_ → (0 ≤ g ∧ g ≤ 16) → (s = sm (fun g => sm (wdF mp F (plr (up mp (22 + d) w)) p d g) 4) g.toNat) → St E mX7_would 128 [some (.ref c), some (vI d), some (vI w), some (vI p), some (vI cm), some (vI s), some (vI g)] [] (0, 0) N lay r hk := by
    intro hk cm TM RM hcm hin hpk hf hk3 gd n_
    induction n_ using Nat.strongRecOn with
    | ind n_ ih =>
      intro g s hn_ hg hs
      refine r_iload_6 (pc := 128) dX7_would_128 ?_
      refine r_bipush (pc := 130) dX7_would_130 (by decide) ?_
      refine r_icmp_ge (pc := 132) (tgt := 175) dX7_would_132 (by decide) (by omega) (by omega) (fun c_132 => ?_) (fun c_132 => ?_)
      · refine r_iload_5 (pc := 175) dX7_would_175 ?_
        refine r_iret (pc := 177) hret dX7_would_177 rfl rfl rfl ?_
        have g9 : g = 16 := by omega
        subst g9
        rw [hs]
        exact hQ gd hk (fun x hx => hf x (by omega)) (hI.t (fun x x0 x1 hx => hf x (by omega)) (by rw [hf _ (by omega)]) hk3)
      · have hTI : FdI (plr (up mp (22 + d) w)) := FdI_plr TM RM
        have m1 := pb_M hTI (g := g) (by omega)
        have m2 := pb_M hFI (g := g) (by omega)
        have m3 := Ms_An m1 m2
        have m4 := Ms_A m3 hcm
        have m5 : 0 ≤ iA (iA (pb (plr (up mp (22 + d) w)) g) (iX (pb F g) (-1))) cm ∧ iA (iA (pb (plr (up mp (22 + d) w)) g) (iX (pb F g) (-1))) cm < 4096 := m4
        refine r_iload_5 (pc := 135) dX7_would_135 ?_
        refine r_aload_0 (pc := 137) dX7_would_137 ?_
        refine gf_X7_30 (pc := 138) rfl (by assumption) dX7_would_138 (by assumption) ?_
        refine gf_X7_259 (pc := 141) rfl (by assumption) dX7_would_141 (by assumption) ?_
        refine r_iload_6 (pc := 144) dX7_would_144 ?_
        refine r_ialdE (pc := 146) (by assumption) rfl dX7_would_146 (by omega) (by omega) (fun i_146 => ?_)
        rw [hpk g (by omega) (by omega)] at i_146 ⊢
        refine r_aload_0 (pc := 147) dX7_would_147 ?_
        refine gf_X7_51 (pc := 148) rfl (by assumption) dX7_would_148 (by assumption) ?_
        refine gf_X7_259 (pc := 151) rfl (by assumption) dX7_would_151 (by assumption) ?_
        refine r_iload_6 (pc := 154) dX7_would_154 ?_
        refine r_ialdE (pc := 156) (by assumption) (hf _ (by omega)) dX7_would_156 (by omega) (by omega) (fun i_156 => ?_)
        rw [hp2 g (by omega) (by omega)] at i_156 ⊢
        refine r_iconst (pc := 157) dX7_would_157 ?_
        refine r_ixor (pc := 158) dX7_would_158 (fun i_158 => ?_)
        refine r_iand (pc := 159) dX7_would_159 (fun i_159 => ?_)
        refine r_iload_4 (pc := 160) dX7_would_160 ?_
        refine r_iand (pc := 162) dX7_would_162 (fun i_162 => ?_)
        refine k_SI1 (pc := 163) c_J6_bitCount_0f7a4 lk_X7_167 ⟨Nat.le_of_ble_eq_true rfl, Nat.le_of_ble_eq_true rfl⟩ ⟨rfl, rfl⟩ ⟨Nat.le_of_ble_eq_true rfl, Nat.le_of_ble_eq_true rfl⟩ dX7_would_163 (Nat.le_of_ble_eq_true rfl) ?_
        refine ⟨_, rfl, by omega, ?_⟩
        refine r_iadd (pc := 166) dX7_would_166 ?_
        refine r_istore_5 (pc := 167) dX7_would_167 rfl ?_
        refine r_iinc_6 (pc := 169) dX7_would_169 rfl ?_
        refine r_goto (pc := 172) (tgt := 128) dX7_would_172 (by decide) ?_
        have e9 : bts (iA (iA (pb (plr (up mp (22 + d) w)) g) (iX (pb F g) (-1))) cm) = sm (wdF mp F (plr (up mp (22 + d) w)) p d g) 4 := by
          rw [cnt4 (P := fun t => !hasB F g t && tb cm (t - 10).toNat) hTI (by omega) (FDs_plr g) m4 (fun k hk => by
            rw [tb_A m3.b hcm.b, tb_An m1.b m2.b, tb_pb (hTI.g (by omega) (by omega)), tb_pb (hFI.g (by omega) (by omega)), show (10 + (k : Int) - 10).toNat = k by omega]
            simp only [Bool.and_eq_true, Bool.not_eq_true']
            exact ⟨fun z => ⟨z.1.1, z.1.2, z.2⟩, fun z => ⟨⟨z.1, z.2.1⟩, z.2.2⟩⟩)]
          refine sm_c (fun k hk => ?_)
          have pr := plr_r TM RM (4 * g + (k : Int))
          rw [up_n (show (130 : Int) ≠ 22 + d by omega)] at pr
          unfold wdF
          have iff9 : (0 ≤ plr (up mp (22 + d) w) (4 * g + (k : Int)) ∧ (!hasB F g (plr (up mp (22 + d) w) (4 * g + (k : Int))) && tb cm (plr (up mp (22 + d) w) (4 * g + (k : Int)) - 10).toNat) = true) ↔ (0 ≤ plr (up mp (22 + d) w) (4 * g + (k : Int)) ∧ ¬ hasB F g (plr (up mp (22 + d) w) (4 * g + (k : Int))) = true ∧ (p = 0 ∨ (p = 1 ∧ plr (up mp (22 + d) w) (4 * g + (k : Int)) = d) ∨ (p = 2 ∧ bel mp (plr (up mp (22 + d) w) (4 * g + (k : Int))) (mp (mp d))))) := by
            rw [Bool.and_eq_true, Bool.not_eq_true', Bool.not_eq_true]
            constructor
            · rintro ⟨z1, z2, z3⟩; exact ⟨z1, z2, (hin _ (by omega)).mp z3⟩
            · rintro ⟨z1, z2, z3⟩; exact ⟨z1, z2, (hin _ (by omega)).mpr z3⟩
          by_cases z : 0 ≤ plr (up mp (22 + d) w) (4 * g + (k : Int)) ∧ (!hasB F g (plr (up mp (22 + d) w) (4 * g + (k : Int))) && tb cm (plr (up mp (22 + d) w) (4 * g + (k : Int)) - 10).toNat) = true
          · rw [bI_t z, bI_t (iff9.mp z)]
          · rw [bI_f z, bI_f (fun y => z (iff9.mpr y))]
        exact ih _ (by omega) (g + 1) _ rfl (by omega) (by rw [sm_z hg.1, ← e9, hs])
  have K87 : ∀ cm, Ms cm → (∀ t, 10 ≤ t ∧ t < 10 + mp 130 → (tb cm (t - 10).toNat = true ↔ (p = 0 ∨ (p = 1 ∧ t = d) ∨ (p = 2 ∧ bel mp t (mp (mp d)))))) → (10 ≤ d ∧ d ≤ 9 + mp 130) ∧ (0 ≤ w ∧ w ≤ 40) ∧ (0 ≤ p ∧ p ≤ 2) → St E mX7_would 87 [some (.ref c), some (vI d), some (vI w), some (vI p), some (vI cm), none, none] [] (0, 0) N lay r h := by
    intro cm hcm hin gd
    have TM : TrM (up mp (22 + d) w) := TrM_w hT (by omega) gd.2.1
    have RM : RlM (up mp (22 + d) w) := RlM_w hR (by omega)
    refine r_aload_0 (pc := 87) dX7_would_87 ?_
    refine gf_X7_30 (pc := 88) rfl (by assumption) dX7_would_88 (by assumption) ?_
    refine r_aload_0 (pc := 91) dX7_would_91 ?_
    refine gf_X7_51 (pc := 92) rfl (by assumption) dX7_would_92 (by assumption) ?_
    refine k_VV1 (pc := 95) c_X3_copyFrom lk_X7_275 ⟨Nat.le_of_ble_eq_true rfl, Nat.le_of_ble_eq_true rfl⟩ ⟨rfl, rfl⟩ ⟨Nat.le_of_ble_eq_true rfl, Nat.le_of_ble_eq_true rfl⟩ (k := 3) rfl (by decide) (by assumption) dX7_would_95 (Nat.le_of_ble_eq_true rfl) ?_
    refine ⟨_, _, rfl, cP, hA, (by omega), fun h_95 f_95 a_95 => ?_⟩
    have T0 : PTr h_95 (c + 7) mp := a_95.tr hT hN
    have L0 : PRl h_95 (c + 7) mp := a_95.rl hT hR hL
    refine r_aload_0 (pc := 98) dX7_would_98 ?_
    refine gf_X7_30 (pc := 99) rfl (by assumption) dX7_would_99 (by assumption) ?_
    refine gf_X7_84 (pc := 102) rfl (by assumption) dX7_would_102 (by assumption) ?_
    refine gf_X7_100 (pc := 105) rfl (by assumption) dX7_would_105 (by assumption) ?_
    refine r_iload_1 (pc := 108) dX7_would_108 ?_
    refine r_iload_2 (pc := 109) dX7_would_109 ?_
    refine r_iastE (pc := 110) (by assumption) rfl dX7_would_110 (by omega) (by omega) (by omega) ?_
    have T1 := PTr_w (w := w) hT T0 (d := d) (by omega)
    have L1 := PRl_w (w := w) (f := up (h_95 (c + 7 + 3)) d w) hT hR L0 (d := d) (by omega)
    have SK1 : StK (hr h_95 (c + 7 + 3) (up (h_95 (c + 7 + 3)) d w) (c + 4 + 1)) := by rw [hr_n (by omega), f_95 _ (by omega)]; exact hSK
    refine r_aload_0 (pc := 111) dX7_would_111 ?_
    refine gf_X7_30 (pc := 112) rfl (by assumption) dX7_would_112 (by assumption) ?_
    refine r_aload_0 (pc := 115) dX7_would_115 ?_
    refine gf_X7_19 (pc := 116) rfl (by assumption) dX7_would_116 (by assumption) ?_
    refine k_VV1 (pc := 119) c_X3_settleAll lk_X7_74 ⟨Nat.le_of_ble_eq_true rfl, Nat.le_of_ble_eq_true rfl⟩ ⟨rfl, rfl⟩ ⟨Nat.le_of_ble_eq_true rfl, Nat.le_of_ble_eq_true rfl⟩ (k := 3) rfl (by decide) (by assumption) dX7_would_119 (Nat.le_of_ble_eq_true rfl) ?_
    refine ⟨_, _, _, rfl, cP, cS, by omega, TM, RM, T1, L1, SK1, fun h_119 f_119 t_119 w_119 l_119 s_119 k_119 => ?_⟩
    refine r_iconst (pc := 122) dX7_would_122 ?_
    refine r_istore_5 (pc := 123) dX7_would_123 rfl ?_
    refine r_iconst (pc := 125) dX7_would_125 ?_
    refine r_istore_6 (pc := 126) dX7_would_126 rfl ?_
    exact lp h_119 cm TM RM hcm hin s_119.2.2.1 (fun x hx => by rw [f_119 x (by omega), hr_n (by omega)]; exact f_95 x (by omega)) k_119 gd _ 0 0 rfl (by omega) rfl
  refine r_aload_0 (pc := 0) dX7_would_0 ?_
  refine gf_X7_51 (pc := 1) rfl (by assumption) dX7_would_1 (by assumption) ?_
  refine gf_X7_84 (pc := 4) rfl (by assumption) dX7_would_4 (by assumption) ?_
  refine r_iload_1 (pc := 7) dX7_would_7 ?_
  refine k_VI1 (pc := 8) c_X6_isDisk lk_X7_97 ⟨Nat.le_of_ble_eq_true rfl, Nat.le_of_ble_eq_true rfl⟩ ⟨rfl, rfl⟩ ⟨Nat.le_of_ble_eq_true rfl, Nat.le_of_ble_eq_true rfl⟩ (k := 6) rfl (by decide) (by assumption) dX7_would_8 (Nat.le_of_ble_eq_true rfl) ?_
  refine ⟨_, _, _, rfl, by assumption, by omega, by omega, ?_⟩
  refine r_ifeq_b (pc := 11) (tgt := 30) dX7_would_11 (by decide) (fun c_11 => ?_) (fun c_11 => ?_)
  · refine r_iconst (pc := 30) dX7_would_30 ?_
    refine r_iret (pc := 31) hret dX7_would_31 rfl rfl rfl ?_
    exact hB (by omega)
  · refine r_iload_2 (pc := 14) dX7_would_14 ?_
    refine k_SI1 (pc := 15) c_X7_isWeight lk_X7_144 ⟨Nat.le_of_ble_eq_true rfl, Nat.le_of_ble_eq_true rfl⟩ ⟨rfl, rfl⟩ ⟨Nat.le_of_ble_eq_true rfl, Nat.le_of_ble_eq_true rfl⟩ dX7_would_15 (Nat.le_of_ble_eq_true rfl) ?_
    refine ⟨_, rfl, by omega, ?_⟩
    refine r_ifeq_b (pc := 18) (tgt := 30) dX7_would_18 (by decide) (fun c_18 => ?_) (fun c_18 => ?_)
    · refine r_iconst (pc := 30) dX7_would_30 ?_
      refine r_iret (pc := 31) hret dX7_would_31 rfl rfl rfl ?_
      exact hB (by omega)
    · refine r_iload_3 (pc := 21) dX7_would_21 ?_
      refine r_if_lt (pc := 22) (tgt := 30) dX7_would_22 (by decide) (by omega) (fun c_22 => ?_) (fun c_22 => ?_)
      · refine r_iconst (pc := 30) dX7_would_30 ?_
        refine r_iret (pc := 31) hret dX7_would_31 rfl rfl rfl ?_
        exact hB (by omega)
      · refine r_iload_3 (pc := 25) dX7_would_25 ?_
        refine r_iconst (pc := 26) dX7_would_26 ?_
        refine r_icmp_le (pc := 27) (tgt := 32) dX7_would_27 (by decide) (by omega) (by omega) (fun c_27 => ?_) (fun c_27 => ?_)
        · have ed := up2 d (by omega) (by omega)
          have q6 := t6 d (by omega) (by omega)
          have eh := up1 (mp d) (by omega) (by omega)
          have q5 := t5 (mp d) (by omega) (by omega)
          have da := dwm_b (mp := mp) (n := 0) (mp 130).toNat (by omega)
          have db := dwm_b (mp := mp) (n := mp (mp d)) (mp 130).toNat (by omega)
          refine r_aload_0 (pc := 32) dX7_would_32 ?_
          refine gf_X7_51 (pc := 33) rfl (by assumption) dX7_would_33 (by assumption) ?_
          refine gf_X7_84 (pc := 36) rfl (by assumption) dX7_would_36 (by assumption) ?_
          refine r_iconst (pc := 39) dX7_would_39 ?_
          refine k_VI1 (pc := 40) c_X6_disksWithin lk_X7_256 ⟨Nat.le_of_ble_eq_true rfl, Nat.le_of_ble_eq_true rfl⟩ ⟨rfl, rfl⟩ ⟨Nat.le_of_ble_eq_true rfl, Nat.le_of_ble_eq_true rfl⟩ (k := 6) rfl (by decide) (by assumption) dX7_would_40 (Nat.le_of_ble_eq_true rfl) ?_
          refine ⟨_, mp, _, rfl, hA.tr, hN.no, hN.up, hT, by omega, ?_⟩
          refine r_istore_4 (pc := 43) dX7_would_43 rfl ?_
          refine r_iload_3 (pc := 45) dX7_would_45 ?_
          refine r_iconst (pc := 46) dX7_would_46 ?_
          refine r_icmp_ne (pc := 47) (tgt := 59) dX7_would_47 (by decide) (by omega) (by omega) (fun c_47 => ?_) (fun c_47 => ?_)
          · refine r_iload_3 (pc := 59) dX7_would_59 ?_
            refine r_iconst (pc := 60) dX7_would_60 ?_
            refine r_icmp_ne (pc := 61) (tgt := 87) dX7_would_61 (by decide) (by omega) (by omega) (fun c_61 => ?_) (fun c_61 => ?_)
            · first
              | (have k9 : p = 1 := by omega
                 exact K87 _ (Ms_S (by omega)) (fun t ht => by
                   rw [tb_S (by omega) (by omega), decide_eq_true_iff]
                   constructor
                   · intro z; exact Or.inr (Or.inl ⟨by omega, by omega⟩)
                   · rintro (z | z | z)
                     · omega
                     · omega
                     · omega) ⟨by omega, by omega, by omega⟩)
              | (have k9 : p = 2 := by omega
                 exact K87 _ db.1 (fun t ht => by
                   rw [db.2, show 10 + (((t - 10).toNat : Nat) : Int) = t by omega]
                   constructor
                   · intro z; exact Or.inr (Or.inr ⟨by omega, z.2⟩)
                   · rintro (z | z | z)
                     · omega
                     · omega
                     · exact ⟨by omega, z.2⟩) ⟨by omega, by omega, by omega⟩)
              | (have k9 : p = 0 := by omega
                 exact K87 _ da.1 (fun t ht => by
                   rw [da.2]
                   constructor
                   · intro _; exact Or.inl (by omega)
                   · intro _; exact ⟨by omega, Or.inl rfl⟩) ⟨by omega, by omega, by omega⟩)
            · refine r_aload_0 (pc := 64) dX7_would_64 ?_
              refine gf_X7_51 (pc := 65) rfl (by assumption) dX7_would_65 (by assumption) ?_
              refine gf_X7_84 (pc := 68) rfl (by assumption) dX7_would_68 (by assumption) ?_
              refine r_aload_0 (pc := 71) dX7_would_71 ?_
              refine gf_X7_51 (pc := 72) rfl (by assumption) dX7_would_72 (by assumption) ?_
              refine gf_X7_84 (pc := 75) rfl (by assumption) dX7_would_75 (by assumption) ?_
              refine r_iload_1 (pc := 78) dX7_would_78 ?_
              refine k_VI1 (pc := 79) c_X6_hallOf lk_X7_272 ⟨Nat.le_of_ble_eq_true rfl, Nat.le_of_ble_eq_true rfl⟩ ⟨rfl, rfl⟩ ⟨Nat.le_of_ble_eq_true rfl, Nat.le_of_ble_eq_true rfl⟩ (k := 6) rfl (by decide) (by assumption) dX7_would_79 (Nat.le_of_ble_eq_true rfl) ?_
              refine ⟨_, _, rfl, hA.tr, by omega, (by show 0 ≤ h (q 0 + 2) d ∧ h (q 0 + 2) d < 22; rw [ed]; omega), fun i_79 => ?_⟩
              rw [show h (q 0 + 1 + 1) (h (q 0 + 1 + 1) d) = mp (mp d) by show h (q 0 + 2) (h (q 0 + 2) d) = _; rw [ed]; exact eh]
              refine k_VI1 (pc := 82) c_X6_disksWithin lk_X7_256 ⟨Nat.le_of_ble_eq_true rfl, Nat.le_of_ble_eq_true rfl⟩ ⟨rfl, rfl⟩ ⟨Nat.le_of_ble_eq_true rfl, Nat.le_of_ble_eq_true rfl⟩ (k := 6) rfl (by decide) (by assumption) dX7_would_82 (Nat.le_of_ble_eq_true rfl) ?_
              refine ⟨_, mp, _, rfl, hA.tr, hN.no, hN.up, hT, by omega, ?_⟩
              refine r_istore_4 (pc := 85) dX7_would_85 rfl ?_
              first
              | (have k9 : p = 1 := by omega
                 exact K87 _ (Ms_S (by omega)) (fun t ht => by
                   rw [tb_S (by omega) (by omega), decide_eq_true_iff]
                   constructor
                   · intro z; exact Or.inr (Or.inl ⟨by omega, by omega⟩)
                   · rintro (z | z | z)
                     · omega
                     · omega
                     · omega) ⟨by omega, by omega, by omega⟩)
              | (have k9 : p = 2 := by omega
                 exact K87 _ db.1 (fun t ht => by
                   rw [db.2, show 10 + (((t - 10).toNat : Nat) : Int) = t by omega]
                   constructor
                   · intro z; exact Or.inr (Or.inr ⟨by omega, z.2⟩)
                   · rintro (z | z | z)
                     · omega
                     · omega
                     · exact ⟨by omega, z.2⟩) ⟨by omega, by omega, by omega⟩)
              | (have k9 : p = 0 := by omega
                 exact K87 _ da.1 (fun t ht => by
                   rw [da.2]
                   constructor
                   · intro _; exact Or.inl (by omega)
                   · intro _; exact ⟨by omega, Or.inl rfl⟩) ⟨by omega, by omega, by omega⟩)
          · refine r_iload_1 (pc := 50) dX7_would_50 ?_
            refine k_SI1 (pc := 51) c_X7_bitOf lk_X7_161 ⟨Nat.le_of_ble_eq_true rfl, Nat.le_of_ble_eq_true rfl⟩ ⟨rfl, rfl⟩ ⟨Nat.le_of_ble_eq_true rfl, Nat.le_of_ble_eq_true rfl⟩ dX7_would_51 (Nat.le_of_ble_eq_true rfl) ?_
            refine ⟨_, rfl, fun i_51 => ?_⟩
            refine r_istore_4 (pc := 54) dX7_would_54 rfl ?_
            refine r_goto (pc := 56) (tgt := 87) dX7_would_56 (by decide) ?_
            first
            | (have k9 : p = 1 := by omega
               exact K87 _ (Ms_S (by omega)) (fun t ht => by
                 rw [tb_S (by omega) (by omega), decide_eq_true_iff]
                 constructor
                 · intro z; exact Or.inr (Or.inl ⟨by omega, by omega⟩)
                 · rintro (z | z | z)
                   · omega
                   · omega
                   · omega) ⟨by omega, by omega, by omega⟩)
            | (have k9 : p = 2 := by omega
               exact K87 _ db.1 (fun t ht => by
                 rw [db.2, show 10 + (((t - 10).toNat : Nat) : Int) = t by omega]
                 constructor
                 · intro z; exact Or.inr (Or.inr ⟨by omega, z.2⟩)
                 · rintro (z | z | z)
                   · omega
                   · omega
                   · exact ⟨by omega, z.2⟩) ⟨by omega, by omega, by omega⟩)
            | (have k9 : p = 0 := by omega
               exact K87 _ da.1 (fun t ht => by
                 rw [da.2]
                 constructor
                 · intro _; exact Or.inl (by omega)
                 · intro _; exact ⟨by omega, Or.inl rfl⟩) ⟨by omega, by omega, by omega⟩)
        · refine r_iconst (pc := 30) dX7_would_30 ?_
          refine r_iret (pc := 31) hret dX7_would_31 rfl rfl rfl ?_
          exact hB (by omega)

theorem dX7_least_0 : decode cX7_least 0 = .ok (.aload_n 0, 1) := by decide +kernel
theorem dX7_least_1 : decode cX7_least 1 = .ok (.getfield 51, 3) := by decide +kernel
theorem dX7_least_4 : decode cX7_least 4 = .ok (.getfield 84, 3) := by decide +kernel
theorem dX7_least_7 : decode cX7_least 7 = .ok (.iload_n 1, 1) := by decide +kernel
theorem dX7_least_8 : decode cX7_least 8 = .ok (.invokevirtual 97, 3) := by decide +kernel
theorem dX7_least_11 : decode cX7_least 11 = .ok (.ifCond .eq 14, 3) := by decide +kernel
theorem dX7_least_14 : decode cX7_least 14 = .ok (.iload_n 2, 1) := by decide +kernel
theorem dX7_least_15 : decode cX7_least 15 = .ok (.iconst 1, 1) := by decide +kernel
theorem dX7_least_16 : decode cX7_least 16 = .ok (.if_icmp .lt 9, 3) := by decide +kernel
theorem dX7_least_19 : decode cX7_least 19 = .ok (.iload_n 2, 1) := by decide +kernel
theorem dX7_least_20 : decode cX7_least 20 = .ok (.bipush 16, 2) := by decide +kernel
theorem dX7_least_22 : decode cX7_least 22 = .ok (.if_icmp .le 5, 3) := by decide +kernel
theorem dX7_least_25 : decode cX7_least 25 = .ok (.iconst (-1), 1) := by decide +kernel
theorem dX7_least_26 : decode cX7_least 26 = .ok (.ireturn, 1) := by decide +kernel
theorem dX7_least_27 : decode cX7_least 27 = .ok (.aload_n 0, 1) := by decide +kernel
theorem dX7_least_28 : decode cX7_least 28 = .ok (.getfield 30, 3) := by decide +kernel
theorem dX7_least_31 : decode cX7_least 31 = .ok (.aload_n 0, 1) := by decide +kernel
theorem dX7_least_32 : decode cX7_least 32 = .ok (.getfield 51, 3) := by decide +kernel
theorem dX7_least_35 : decode cX7_least 35 = .ok (.invokevirtual 275, 3) := by decide +kernel
theorem dX7_least_38 : decode cX7_least 38 = .ok (.iconst 0, 1) := by decide +kernel
theorem dX7_least_39 : decode cX7_least 39 = .ok (.istore_n 3, 1) := by decide +kernel
theorem dX7_least_40 : decode cX7_least 40 = .ok (.iload_n 3, 1) := by decide +kernel
theorem dX7_least_41 : decode cX7_least 41 = .ok (.bipush 40, 2) := by decide +kernel
theorem dX7_least_43 : decode cX7_least 43 = .ok (.if_icmp .gt 47, 3) := by decide +kernel
theorem dX7_least_46 : decode cX7_least 46 = .ok (.aload_n 0, 1) := by decide +kernel
theorem dX7_least_47 : decode cX7_least 47 = .ok (.getfield 30, 3) := by decide +kernel
theorem dX7_least_50 : decode cX7_least 50 = .ok (.getfield 84, 3) := by decide +kernel
theorem dX7_least_53 : decode cX7_least 53 = .ok (.getfield 100, 3) := by decide +kernel
theorem dX7_least_56 : decode cX7_least 56 = .ok (.iload_n 1, 1) := by decide +kernel
theorem dX7_least_57 : decode cX7_least 57 = .ok (.iload_n 3, 1) := by decide +kernel
theorem dX7_least_58 : decode cX7_least 58 = .ok (.iastore, 1) := by decide +kernel
theorem dX7_least_59 : decode cX7_least 59 = .ok (.aload_n 0, 1) := by decide +kernel
theorem dX7_least_60 : decode cX7_least 60 = .ok (.getfield 30, 3) := by decide +kernel
theorem dX7_least_63 : decode cX7_least 63 = .ok (.aload_n 0, 1) := by decide +kernel
theorem dX7_least_64 : decode cX7_least 64 = .ok (.getfield 19, 3) := by decide +kernel
theorem dX7_least_67 : decode cX7_least 67 = .ok (.invokevirtual 74, 3) := by decide +kernel
theorem dX7_least_70 : decode cX7_least 70 = .ok (.aload_n 0, 1) := by decide +kernel
theorem dX7_least_71 : decode cX7_least 71 = .ok (.getfield 30, 3) := by decide +kernel
theorem dX7_least_74 : decode cX7_least 74 = .ok (.iload_n 1, 1) := by decide +kernel
theorem dX7_least_75 : decode cX7_least 75 = .ok (.invokevirtual 278, 3) := by decide +kernel
theorem dX7_least_78 : decode cX7_least 78 = .ok (.iload_n 2, 1) := by decide +kernel
theorem dX7_least_79 : decode cX7_least 79 = .ok (.if_icmp .lt 5, 3) := by decide +kernel
theorem dX7_least_82 : decode cX7_least 82 = .ok (.iload_n 3, 1) := by decide +kernel
theorem dX7_least_83 : decode cX7_least 83 = .ok (.ireturn, 1) := by decide +kernel
theorem dX7_least_84 : decode cX7_least 84 = .ok (.iinc 3 1, 3) := by decide +kernel
theorem dX7_least_87 : decode cX7_least 87 = .ok (.goto (-47), 3) := by decide +kernel
theorem dX7_least_90 : decode cX7_least 90 = .ok (.bipush (-4), 2) := by decide +kernel
theorem dX7_least_92 : decode cX7_least 92 = .ok (.ireturn, 1) := by decide +kernel
set_option maxHeartbeats 4000000 in
set_option maxRecDepth 20000 in
theorem c_X7_least : ConI mX7_least (fun args N lay r h Q => ∃ (c : Nat) (q : Int → Nat) (n : Int) (tx : Int → Int) (ep : Int) (km : Int → Int → Int) (mp F : Int → Int) (ux : Int) (sz ho : Int → Int) (sn : Int) (row : Int → Int) (d m : Int), args = [.ref c, vI d, vI m] ∧ CI lay r h c q n tx ep km mp F ux sz ho sn row ∧ (-2147483648 ≤ d ∧ d < 2147483648) ∧ (-2147483648 ≤ m ∧ m < 2147483648) ∧ (¬ ((10 ≤ d ∧ d ≤ 9 + mp 130) ∧ (1 ≤ m ∧ m ≤ 16)) → Q (-1) N lay r h) ∧ (((10 ≤ d ∧ d ≤ 9 + mp 130) ∧ (1 ≤ m ∧ m ≤ 16)) → ∀ h2, Fr h h2 (fun x => c ≤ x ∧ x < c + 101) → CI lay r h2 c q n tx ep km mp F ux sz ho sn row → Q (lsk mp d m 41) N lay r h2)) := by
  refine ConI.of (by decide) (by rintro _ N lay r h Q ⟨c, q, n, tx, ep, km, mp, F, ux, sz, ho, sn, row, d, m, rfl, hI, h_d, h_m, hB, hQ⟩; exact ⟨rfl, Nat.le_of_ble_eq_true rfl⟩) ?_
  rintro E _ N lay r h Q ⟨c, q, n, tx, ep, km, mp, F, ux, sz, ho, sn, row, d, m, rfl, hI, h_d, h_m, hB, hQ⟩ hret
  obtain ⟨hC, hLt, ⟨hCT, htx⟩, hSK, ⟨he8, hep⟩, hkm, ⟨hk0, h130⟩, hF0, ⟨hDa, hMk, hsz⟩, ⟨hOb, hSe⟩⟩ := id hI
  obtain ⟨cl0, cl6, ⟨cr0, cr1, cr2, cr3, cr4, cr5, cr6⟩, cT, cS, cP, cD, cE, cO⟩ := id hC
  obtain ⟨lr7, lr6, lpl, lrg, ldj⟩ := id hLt
  have hP0 := hkm 0 (by omega) (by omega) (by omega)
  rw [hk0] at hP0
  obtain ⟨hT, hR, hN, hW, hL, hPS⟩ := id hP0
  have hA := lpl 0 (by omega) (by omega)
  have q0r := lrg 0 (by omega) (by omega)
  obtain ⟨pl0, pl1, pl2, pl3, pl4, pl5, pl6, pl7, pl8, pl9, pl10, pl11, pl12, pl13, pr0, pr1, pr2, pr3, pr9, pr10, pr11, qr3, qr4, vr1, vr2, vr3, vr4⟩ := id hA
  obtain ⟨⟨n0, n1, n2⟩, up1, up2, uw, u0, uh⟩ := id hN
  obtain ⟨t1, t2, t3, t4, t5, t6, t7⟩ := id hT
  obtain ⟨tl0, tl1, tl2, tl3, tl4, tl5, tl6, tl7, tl8, tl9, tl10, tl11, tl12, tl13, tr0, tr1, tr2, tr3, tr9, tr10, tr11, sr3, sr4, ur1, ur2, ur3, ur4⟩ := id cP
  have sl0 : lay (c + 4) = (5, 0) := cS.1
  show St E mX7_least 0 [some (.ref c), some (vI d), some (vI m), none] [] (0, 0) N lay r h
  have lp : ∀ (hd : 10 ≤ d ∧ d < 10 + mp 130) (hm : 1 ≤ m ∧ m ≤ 16) (n_ : Nat) (w : Int) (v : Int) (hk : HpT), (41 - w).toNat = n_ → (0 ≤ w ∧ w ≤ 41) → (0 ≤ v ∧ v ≤ 40) → (lsk mp d m w.toNat = -4) → (Fr h hk (fun x => (c + 7 ≤ x ∧ x < c + 21) ∨ x = c + 5)) → (PTr hk (c + 7) (up mp (22 + d) v)) → (PRl hk (c + 7) (up mp (22 + d) v)) → (StK (hk (c + 4 + 1))) → St E mX7_least 40 [some (.ref c), some (vI d), some (vI m), some (vI w)] [] (0, 0) N lay r hk := by
    intro hd hm n_
    induction n_ using Nat.strongRecOn with
    | ind n_ ih =>
      intro w v hk hn_ hw hv hl hf TR RL hk3
      have TV := TrM_w (w := v) hT hd hv
      have RV := RlM_w (w := v) hR (d := d) (by omega)
      have gr := gof_r (plr (up mp (22 + d) w)) d
      refine r_iload_3 (pc := 40) dX7_least_40 ?_
      refine r_bipush (pc := 41) dX7_least_41 (by decide) ?_
      refine r_icmp_gt (pc := 43) (tgt := 90) dX7_least_43 (by decide) (by omega) (by omega) (fun c_43 => ?_) (fun c_43 => ?_)
      · refine r_bipush (pc := 90) dX7_least_90 (by decide) ?_
        refine r_iret (pc := 92) hret dX7_least_92 rfl rfl rfl ?_
        first
        | (have k9 : w = 41 := by omega
           subst k9
           have q9 := hQ ⟨by omega, hm⟩ hk (fun x hx => hf x (by omega)) (hI.t (fun x x0 x1 hx => hf x (by omega)) (by rw [hf _ (by omega)]) hk3)
           rw [show lsk mp d m 41 = -4 from hl] at q9
           exact q9)
        | (have k9 : m ≤ gof (plr (up mp (22 + d) w)) d := by omega
           have e1 : lsk mp d m (w.toNat + 1) = w := by rw [lsk_s, show ((w.toNat : Nat) : Int) = w by omega, if_pos ⟨by omega, k9⟩]
           have e2 := lsk_st mp d m (w.toNat + 1) (by omega) (40 - w.toNat)
           rw [show w.toNat + 1 + (40 - w.toNat) = 41 by omega, e1] at e2
           have q9 := hQ ⟨by omega, hm⟩ h_67 (fun x hx => by rw [f_67 x (by omega), hr_n (by omega)]; exact hf x (by omega)) (hI.t (fun x x0 x1 hx => by rw [f_67 x (by omega), hr_n (by omega)]; exact hf x (by omega)) (by rw [f_67 _ (by omega), hr_n (by omega), hf _ (by omega)]) k_67)
           rw [e2] at q9
           exact q9)
      · have TM := TrM_w (w := w) hT hd (by omega)
        have RM := RlM_w (w := w) hR (d := d) (by omega)
        refine r_aload_0 (pc := 46) dX7_least_46 ?_
        refine gf_X7_30 (pc := 47) rfl (by assumption) dX7_least_47 (by assumption) ?_
        refine gf_X7_84 (pc := 50) rfl (by assumption) dX7_least_50 (by assumption) ?_
        refine gf_X7_100 (pc := 53) rfl (by assumption) dX7_least_53 (by assumption) ?_
        refine r_iload_1 (pc := 56) dX7_least_56 ?_
        refine r_iload_3 (pc := 57) dX7_least_57 ?_
        refine r_iastE (pc := 58) (by assumption) rfl dX7_least_58 (by omega) (by omega) (by omega) ?_
        have T1 := PTr_w (w := w) TV TR (d := d) (by rw [up_n (by omega)]; omega)
        have L1 := PRl_w (w := w) (f := up (hk (c + 7 + 3)) d w) TV RV RL (d := d) (by omega)
        rw [up_up] at T1 L1
        have SK1 : StK (hr hk (c + 7 + 3) (up (hk (c + 7 + 3)) d w) (c + 4 + 1)) := by rw [hr_n (by omega)]; exact hk3
        refine r_aload_0 (pc := 59) dX7_least_59 ?_
        refine gf_X7_30 (pc := 60) rfl (by assumption) dX7_least_60 (by assumption) ?_
        refine r_aload_0 (pc := 63) dX7_least_63 ?_
        refine gf_X7_19 (pc := 64) rfl (by assumption) dX7_least_64 (by assumption) ?_
        refine k_VV1 (pc := 67) c_X3_settleAll lk_X7_74 ⟨Nat.le_of_ble_eq_true rfl, Nat.le_of_ble_eq_true rfl⟩ ⟨rfl, rfl⟩ ⟨Nat.le_of_ble_eq_true rfl, Nat.le_of_ble_eq_true rfl⟩ (k := 3) rfl (by decide) (by assumption) dX7_least_67 (Nat.le_of_ble_eq_true rfl) ?_
        refine ⟨_, _, _, rfl, cP, cS, by omega, TM, RM, T1, L1, SK1, fun h_67 f_67 t_67 w_67 l_67 s_67 k_67 => ?_⟩
        refine r_aload_0 (pc := 70) dX7_least_70 ?_
        refine gf_X7_30 (pc := 71) rfl (by assumption) dX7_least_71 (by assumption) ?_
        refine r_iload_1 (pc := 74) dX7_least_74 ?_
        refine k_VI1 (pc := 75) c_X3_countPairs lk_X7_278 ⟨Nat.le_of_ble_eq_true rfl, Nat.le_of_ble_eq_true rfl⟩ ⟨rfl, rfl⟩ ⟨Nat.le_of_ble_eq_true rfl, Nat.le_of_ble_eq_true rfl⟩ (k := 3) rfl (by decide) (by assumption) dX7_least_75 (Nat.le_of_ble_eq_true rfl) ?_
        refine ⟨_, _, plr (up mp (22 + d) w), _, rfl, tl0, tl13, tr11, FdI_plr TM RM, s_67.2.2.1, by omega, ?_⟩
        refine r_iload_2 (pc := 78) dX7_least_78 ?_
        refine r_icmp_lt (pc := 79) (tgt := 84) dX7_least_79 (by decide) (by omega) (by omega) (fun c_79 => ?_) (fun c_79 => ?_)
        · refine r_iinc_3 (pc := 84) dX7_least_84 rfl ?_
          refine r_goto (pc := 87) (tgt := 40) dX7_least_87 (by decide) ?_
          refine ih _ (by omega) (w + 1) w h_67 rfl (by omega) (by omega) ?_ (fun x hx => by rw [f_67 x (by omega), hr_n (by omega)]; exact hf x hx) t_67 l_67 k_67
          rw [show (w + 1).toNat = w.toNat + 1 by omega, lsk_s, show ((w.toNat : Nat) : Int) = w by omega, if_neg (fun z => by have := z.2; omega)]
          exact hl
        · refine r_iload_3 (pc := 82) dX7_least_82 ?_
          refine r_iret (pc := 83) hret dX7_least_83 rfl rfl rfl ?_
          first
          | (have k9 : w = 41 := by omega
             subst k9
             have q9 := hQ ⟨by omega, hm⟩ hk (fun x hx => hf x (by omega)) (hI.t (fun x x0 x1 hx => hf x (by omega)) (by rw [hf _ (by omega)]) hk3)
             rw [show lsk mp d m 41 = -4 from hl] at q9
             exact q9)
          | (have k9 : m ≤ gof (plr (up mp (22 + d) w)) d := by omega
             have e1 : lsk mp d m (w.toNat + 1) = w := by rw [lsk_s, show ((w.toNat : Nat) : Int) = w by omega, if_pos ⟨by omega, k9⟩]
             have e2 := lsk_st mp d m (w.toNat + 1) (by omega) (40 - w.toNat)
             rw [show w.toNat + 1 + (40 - w.toNat) = 41 by omega, e1] at e2
             have q9 := hQ ⟨by omega, hm⟩ h_67 (fun x hx => by rw [f_67 x (by omega), hr_n (by omega)]; exact hf x (by omega)) (hI.t (fun x x0 x1 hx => by rw [f_67 x (by omega), hr_n (by omega)]; exact hf x (by omega)) (by rw [f_67 _ (by omega), hr_n (by omega), hf _ (by omega)]) k_67)
             rw [e2] at q9
             exact q9)
  refine r_aload_0 (pc := 0) dX7_least_0 ?_
  refine gf_X7_51 (pc := 1) rfl (by assumption) dX7_least_1 (by assumption) ?_
  refine gf_X7_84 (pc := 4) rfl (by assumption) dX7_least_4 (by assumption) ?_
  refine r_iload_1 (pc := 7) dX7_least_7 ?_
  refine k_VI1 (pc := 8) c_X6_isDisk lk_X7_97 ⟨Nat.le_of_ble_eq_true rfl, Nat.le_of_ble_eq_true rfl⟩ ⟨rfl, rfl⟩ ⟨Nat.le_of_ble_eq_true rfl, Nat.le_of_ble_eq_true rfl⟩ (k := 6) rfl (by decide) (by assumption) dX7_least_8 (Nat.le_of_ble_eq_true rfl) ?_
  refine ⟨_, _, _, rfl, by assumption, by omega, by omega, ?_⟩
  refine r_ifeq_b (pc := 11) (tgt := 25) dX7_least_11 (by decide) (fun c_11 => ?_) (fun c_11 => ?_)
  · refine r_iconst (pc := 25) dX7_least_25 ?_
    refine r_iret (pc := 26) hret dX7_least_26 rfl rfl rfl ?_
    exact hB (by omega)
  · refine r_iload_2 (pc := 14) dX7_least_14 ?_
    refine r_iconst (pc := 15) dX7_least_15 ?_
    refine r_icmp_lt (pc := 16) (tgt := 25) dX7_least_16 (by decide) (by omega) (by omega) (fun c_16 => ?_) (fun c_16 => ?_)
    · refine r_iconst (pc := 25) dX7_least_25 ?_
      refine r_iret (pc := 26) hret dX7_least_26 rfl rfl rfl ?_
      exact hB (by omega)
    · refine r_iload_2 (pc := 19) dX7_least_19 ?_
      refine r_bipush (pc := 20) dX7_least_20 (by decide) ?_
      refine r_icmp_le (pc := 22) (tgt := 27) dX7_least_22 (by decide) (by omega) (by omega) (fun c_22 => ?_) (fun c_22 => ?_)
      · refine r_aload_0 (pc := 27) dX7_least_27 ?_
        refine gf_X7_30 (pc := 28) rfl (by assumption) dX7_least_28 (by assumption) ?_
        refine r_aload_0 (pc := 31) dX7_least_31 ?_
        refine gf_X7_51 (pc := 32) rfl (by assumption) dX7_least_32 (by assumption) ?_
        refine k_VV1 (pc := 35) c_X3_copyFrom lk_X7_275 ⟨Nat.le_of_ble_eq_true rfl, Nat.le_of_ble_eq_true rfl⟩ ⟨rfl, rfl⟩ ⟨Nat.le_of_ble_eq_true rfl, Nat.le_of_ble_eq_true rfl⟩ (k := 3) rfl (by decide) (by assumption) dX7_least_35 (Nat.le_of_ble_eq_true rfl) ?_
        refine ⟨_, _, rfl, cP, hA, (by omega), fun h_35 f_35 a_35 => ?_⟩
        have T0 : PTr h_35 (c + 7) mp := a_35.tr hT hN
        have L0 : PRl h_35 (c + 7) mp := a_35.rl hT hR hL
        refine r_iconst (pc := 38) dX7_least_38 ?_
        refine r_istore_3 (pc := 39) dX7_least_39 rfl ?_
        have q7 := t7 d (by omega) (by omega)
        exact lp (by omega) (by omega) _ 0 (mp (22 + d)) h_35 rfl (by omega) (by omega) rfl (fun x hx => f_35 x (by omega)) (by rw [up_id]; exact T0) (by rw [up_id]; exact L0) (by rw [f_35 _ (by omega)]; exact hSK)
      · refine r_iconst (pc := 25) dX7_least_25 ?_
        refine r_iret (pc := 26) hret dX7_least_26 rfl rfl rfl ?_
        exact hB (by omega)

theorem wgk_s4 (mp row : Int → Int) (d : Int) (sn k : Nat) : wgk mp row d sn (k + 1) = if alk (plr (up mp (22 + d) k)) row sn = true then ((wgk mp row d sn k).1 + 1, (if (wgk mp row d sn k).2.1 < 0 then (k : Int) else (wgk mp row d sn k).2.1), (k : Int)) else wgk mp row d sn k := rfl
theorem wgk_r4 (mp row : Int → Int) (d : Int) (sn : Nat) : ∀ k : Nat, (0 ≤ (wgk mp row d sn k).1 ∧ (wgk mp row d sn k).1 ≤ k) ∧ ((wgk mp row d sn k).2.1 = -4 ∨ (0 ≤ (wgk mp row d sn k).2.1 ∧ (wgk mp row d sn k).2.1 < k)) ∧ ((wgk mp row d sn k).2.2 = -4 ∨ (0 ≤ (wgk mp row d sn k).2.2 ∧ (wgk mp row d sn k).2.2 < k))
  | 0 => ⟨⟨Int.le_refl 0, Int.le_refl 0⟩, Or.inl rfl, Or.inl rfl⟩
  | k + 1 => by
    have ih := wgk_r4 mp row d sn k
    rw [wgk_s4]
    split
    · dsimp only
      refine ⟨by omega, ?_, by omega⟩
      split <;> omega
    · omega
theorem dX7_weights_0 : decode cX7_weights 0 = .ok (.aload_n 0, 1) := by decide +kernel
theorem dX7_weights_1 : decode cX7_weights 1 = .ok (.getfield 51, 3) := by decide +kernel
theorem dX7_weights_4 : decode cX7_weights 4 = .ok (.getfield 84, 3) := by decide +kernel
theorem dX7_weights_7 : decode cX7_weights 7 = .ok (.iload_n 1, 1) := by decide +kernel
theorem dX7_weights_8 : decode cX7_weights 8 = .ok (.invokevirtual 97, 3) := by decide +kernel
theorem dX7_weights_11 : decode cX7_weights 11 = .ok (.ifCond .eq 12, 3) := by decide +kernel
theorem dX7_weights_14 : decode cX7_weights 14 = .ok (.iload_n 2, 1) := by decide +kernel
theorem dX7_weights_15 : decode cX7_weights 15 = .ok (.ifCond .lt 8, 3) := by decide +kernel
theorem dX7_weights_18 : decode cX7_weights 18 = .ok (.iload_n 2, 1) := by decide +kernel
theorem dX7_weights_19 : decode cX7_weights 19 = .ok (.iconst 2, 1) := by decide +kernel
theorem dX7_weights_20 : decode cX7_weights 20 = .ok (.if_icmp .le 5, 3) := by decide +kernel
theorem dX7_weights_23 : decode cX7_weights 23 = .ok (.iconst (-1), 1) := by decide +kernel
theorem dX7_weights_24 : decode cX7_weights 24 = .ok (.ireturn, 1) := by decide +kernel
theorem dX7_weights_25 : decode cX7_weights 25 = .ok (.iconst 0, 1) := by decide +kernel
theorem dX7_weights_26 : decode cX7_weights 26 = .ok (.istore_n 3, 1) := by decide +kernel
theorem dX7_weights_27 : decode cX7_weights 27 = .ok (.bipush (-4), 2) := by decide +kernel
theorem dX7_weights_29 : decode cX7_weights 29 = .ok (.istore 4, 2) := by decide +kernel
theorem dX7_weights_31 : decode cX7_weights 31 = .ok (.bipush (-4), 2) := by decide +kernel
theorem dX7_weights_33 : decode cX7_weights 33 = .ok (.istore 5, 2) := by decide +kernel
theorem dX7_weights_35 : decode cX7_weights 35 = .ok (.aload_n 0, 1) := by decide +kernel
theorem dX7_weights_36 : decode cX7_weights 36 = .ok (.getfield 30, 3) := by decide +kernel
theorem dX7_weights_39 : decode cX7_weights 39 = .ok (.aload_n 0, 1) := by decide +kernel
theorem dX7_weights_40 : decode cX7_weights 40 = .ok (.getfield 51, 3) := by decide +kernel
theorem dX7_weights_43 : decode cX7_weights 43 = .ok (.invokevirtual 275, 3) := by decide +kernel
theorem dX7_weights_46 : decode cX7_weights 46 = .ok (.iconst 0, 1) := by decide +kernel
theorem dX7_weights_47 : decode cX7_weights 47 = .ok (.istore 6, 2) := by decide +kernel
theorem dX7_weights_49 : decode cX7_weights 49 = .ok (.iload 6, 2) := by decide +kernel
theorem dX7_weights_51 : decode cX7_weights 51 = .ok (.bipush 40, 2) := by decide +kernel
theorem dX7_weights_53 : decode cX7_weights 53 = .ok (.if_icmp .gt 74, 3) := by decide +kernel
theorem dX7_weights_56 : decode cX7_weights 56 = .ok (.aload_n 0, 1) := by decide +kernel
theorem dX7_weights_57 : decode cX7_weights 57 = .ok (.getfield 30, 3) := by decide +kernel
theorem dX7_weights_60 : decode cX7_weights 60 = .ok (.getfield 84, 3) := by decide +kernel
theorem dX7_weights_63 : decode cX7_weights 63 = .ok (.getfield 100, 3) := by decide +kernel
theorem dX7_weights_66 : decode cX7_weights 66 = .ok (.iload_n 1, 1) := by decide +kernel
theorem dX7_weights_67 : decode cX7_weights 67 = .ok (.iload 6, 2) := by decide +kernel
theorem dX7_weights_69 : decode cX7_weights 69 = .ok (.iastore, 1) := by decide +kernel
theorem dX7_weights_70 : decode cX7_weights 70 = .ok (.aload_n 0, 1) := by decide +kernel
theorem dX7_weights_71 : decode cX7_weights 71 = .ok (.getfield 30, 3) := by decide +kernel
theorem dX7_weights_74 : decode cX7_weights 74 = .ok (.getfield 84, 3) := by decide +kernel
theorem dX7_weights_77 : decode cX7_weights 77 = .ok (.invokevirtual 320, 3) := by decide +kernel
theorem dX7_weights_80 : decode cX7_weights 80 = .ok (.aload_n 0, 1) := by decide +kernel
theorem dX7_weights_81 : decode cX7_weights 81 = .ok (.getfield 47, 3) := by decide +kernel
theorem dX7_weights_84 : decode cX7_weights 84 = .ok (.aload_n 0, 1) := by decide +kernel
theorem dX7_weights_85 : decode cX7_weights 85 = .ok (.getfield 30, 3) := by decide +kernel
theorem dX7_weights_88 : decode cX7_weights 88 = .ok (.aload_n 0, 1) := by decide +kernel
theorem dX7_weights_89 : decode cX7_weights 89 = .ok (.getfield 19, 3) := by decide +kernel
theorem dX7_weights_92 : decode cX7_weights 92 = .ok (.invokevirtual 323, 3) := by decide +kernel
theorem dX7_weights_95 : decode cX7_weights 95 = .ok (.ifCond .eq 26, 3) := by decide +kernel
theorem dX7_weights_98 : decode cX7_weights 98 = .ok (.iinc 3 1, 3) := by decide +kernel
theorem dX7_weights_101 : decode cX7_weights 101 = .ok (.iload 4, 2) := by decide +kernel
theorem dX7_weights_103 : decode cX7_weights 103 = .ok (.bipush (-4), 2) := by decide +kernel
theorem dX7_weights_105 : decode cX7_weights 105 = .ok (.if_icmp .ne 8, 3) := by decide +kernel
theorem dX7_weights_108 : decode cX7_weights 108 = .ok (.iload 6, 2) := by decide +kernel
theorem dX7_weights_110 : decode cX7_weights 110 = .ok (.goto 5, 3) := by decide +kernel
theorem dX7_weights_113 : decode cX7_weights 113 = .ok (.iload 4, 2) := by decide +kernel
theorem dX7_weights_115 : decode cX7_weights 115 = .ok (.istore 4, 2) := by decide +kernel
theorem dX7_weights_117 : decode cX7_weights 117 = .ok (.iload 6, 2) := by decide +kernel
theorem dX7_weights_119 : decode cX7_weights 119 = .ok (.istore 5, 2) := by decide +kernel
theorem dX7_weights_121 : decode cX7_weights 121 = .ok (.iinc 6 1, 3) := by decide +kernel
theorem dX7_weights_124 : decode cX7_weights 124 = .ok (.goto (-75), 3) := by decide +kernel
theorem dX7_weights_127 : decode cX7_weights 127 = .ok (.iload_n 2, 1) := by decide +kernel
theorem dX7_weights_128 : decode cX7_weights 128 = .ok (.ifCond .ne 7, 3) := by decide +kernel
theorem dX7_weights_131 : decode cX7_weights 131 = .ok (.iload_n 3, 1) := by decide +kernel
theorem dX7_weights_132 : decode cX7_weights 132 = .ok (.goto 15, 3) := by decide +kernel
theorem dX7_weights_135 : decode cX7_weights 135 = .ok (.iload_n 2, 1) := by decide +kernel
theorem dX7_weights_136 : decode cX7_weights 136 = .ok (.iconst 1, 1) := by decide +kernel
theorem dX7_weights_137 : decode cX7_weights 137 = .ok (.if_icmp .ne 8, 3) := by decide +kernel
theorem dX7_weights_140 : decode cX7_weights 140 = .ok (.iload 4, 2) := by decide +kernel
theorem dX7_weights_142 : decode cX7_weights 142 = .ok (.goto 5, 3) := by decide +kernel
theorem dX7_weights_145 : decode cX7_weights 145 = .ok (.iload 5, 2) := by decide +kernel
theorem dX7_weights_147 : decode cX7_weights 147 = .ok (.ireturn, 1) := by decide +kernel
set_option maxHeartbeats 4000000 in
set_option maxRecDepth 20000 in
theorem c_X7_weights : ConI mX7_weights (fun args N lay r h Q => ∃ (c : Nat) (q : Int → Nat) (n : Int) (tx : Int → Int) (ep : Int) (km : Int → Int → Int) (mp F : Int → Int) (ux : Int) (sz ho : Int → Int) (sn : Int) (row : Int → Int) (d p : Int), args = [.ref c, vI d, vI p] ∧ CI lay r h c q n tx ep km mp F ux sz ho sn row ∧ (-2147483648 ≤ d ∧ d < 2147483648) ∧ (-2147483648 ≤ p ∧ p < 2147483648) ∧ (¬ ((10 ≤ d ∧ d ≤ 9 + mp 130) ∧ (0 ≤ p ∧ p ≤ 2)) → Q (-1) N lay r h) ∧ (((10 ≤ d ∧ d ≤ 9 + mp 130) ∧ (0 ≤ p ∧ p ≤ 2)) → ∀ h2, Fr h h2 (fun x => c ≤ x ∧ x < c + 101) → CI lay r h2 c q n tx ep km mp F ux sz ho sn row → (p = 0 → Q (wgk mp row d sn.toNat 41).1 N lay r h2) ∧ (p = 1 → Q (wgk mp row d sn.toNat 41).2.1 N lay r h2) ∧ (p = 2 → Q (wgk mp row d sn.toNat 41).2.2 N lay r h2))) := by
  refine ConI.of (by decide) (by rintro _ N lay r h Q ⟨c, q, n, tx, ep, km, mp, F, ux, sz, ho, sn, row, d, p, rfl, hI, h_d, h_p, hB, hQ⟩; exact ⟨rfl, Nat.le_of_ble_eq_true rfl⟩) ?_
  rintro E _ N lay r h Q ⟨c, q, n, tx, ep, km, mp, F, ux, sz, ho, sn, row, d, p, rfl, hI, h_d, h_p, hB, hQ⟩ hret
  obtain ⟨hC, hLt, ⟨hCT, htx⟩, hSK, ⟨he8, hep⟩, hkm, ⟨hk0, h130⟩, hF0, ⟨hDa, hMk, hsz⟩, ⟨hOb, hSe⟩⟩ := id hI
  obtain ⟨cl0, cl6, ⟨cr0, cr1, cr2, cr3, cr4, cr5, cr6⟩, cT, cS, cP, cD, cE, cO⟩ := id hC
  obtain ⟨lr7, lr6, lpl, lrg, ldj⟩ := id hLt
  have hP0 := hkm 0 (by omega) (by omega) (by omega)
  rw [hk0] at hP0
  obtain ⟨hT, hR, hN, hW, hL, hPS⟩ := id hP0
  have hA := lpl 0 (by omega) (by omega)
  have q0r := lrg 0 (by omega) (by omega)
  obtain ⟨pl0, pl1, pl2, pl3, pl4, pl5, pl6, pl7, pl8, pl9, pl10, pl11, pl12, pl13, pr0, pr1, pr2, pr3, pr9, pr10, pr11, qr3, qr4, vr1, vr2, vr3, vr4⟩ := id hA
  obtain ⟨⟨n0, n1, n2⟩, up1, up2, uw, u0, uh⟩ := id hN
  obtain ⟨t1, t2, t3, t4, t5, t6, t7⟩ := id hT
  obtain ⟨tl0, tl1, tl2, tl3, tl4, tl5, tl6, tl7, tl8, tl9, tl10, tl11, tl12, tl13, tr0, tr1, tr2, tr3, tr9, tr10, tr11, sr3, sr4, ur1, ur2, ur3, ur4⟩ := id cP
  have sl0 : lay (c + 4) = (5, 0) := cS.1
  obtain ⟨ol0, ol1, ol2, ol3, or1, or2, or3⟩ := id cO
  obtain ⟨b0, b1⟩ := id hOb
  show St E mX7_weights 0 [some (.ref c), some (vI d), some (vI p), none, none, none, none] [] (0, 0) N lay r h
  have lp : ∀ (hd : 10 ≤ d ∧ d < 10 + mp 130) (hp : 0 ≤ p ∧ p ≤ 2) (n_ : Nat) (w : Int) (v : Int) (hk : HpT) (ct : Int) (sm_ : Int) (gt : Int), (41 - w).toNat = n_ → (0 ≤ w ∧ w ≤ 41) → (0 ≤ v ∧ v ≤ 40) → (ct = (wgk mp row d sn.toNat w.toNat).1) → (sm_ = (wgk mp row d sn.toNat w.toNat).2.1) → (gt = (wgk mp row d sn.toNat w.toNat).2.2) → (Fr h hk (fun x => (c + 7 ≤ x ∧ x < c + 21) ∨ x = c + 5)) → (PTr hk (c + 7) (up mp (22 + d) v)) → (PRl hk (c + 7) (up mp (22 + d) v)) → (StK (hk (c + 4 + 1))) → St E mX7_weights 49 [some (.ref c), some (vI d), some (vI p), some (vI ct), some (vI sm_), some (vI gt), some (vI w)] [] (0, 0) N lay r hk := by
    intro hd hp n_
    induction n_ using Nat.strongRecOn with
    | ind n_ ih =>
      intro w v hk ct sm_ gt hn_ hw hv h1 h2 h3 hf TR RL hk3
      have TV := TrM_w (w := v) hT hd hv
      have RV := RlM_w (w := v) hR (d := d) (by omega)
      have wr := wgk_r4 mp row d sn.toNat w.toNat
      refine r_iload_6 (pc := 49) dX7_weights_49 ?_
      refine r_bipush (pc := 51) dX7_weights_51 (by decide) ?_
      refine r_icmp_gt (pc := 53) (tgt := 127) dX7_weights_53 (by decide) (by omega) (by omega) (fun c_53 => ?_) (fun c_53 => ?_)
      · refine r_iload_2 (pc := 127) dX7_weights_127 ?_
        refine r_if_ne (pc := 128) (tgt := 135) dX7_weights_128 (by decide) (by omega) (fun c_128 => ?_) (fun c_128 => ?_)
        · refine r_iload_2 (pc := 135) dX7_weights_135 ?_
          refine r_iconst (pc := 136) dX7_weights_136 ?_
          refine r_icmp_ne (pc := 137) (tgt := 145) dX7_weights_137 (by decide) (by omega) (by omega) (fun c_137 => ?_) (fun c_137 => ?_)
          · refine r_iload_5 (pc := 145) dX7_weights_145 ?_
            refine r_iret (pc := 147) hret dX7_weights_147 rfl rfl rfl ?_
            have k9 : w = 41 := by omega
            subst k9
            have q9 := hQ ⟨by omega, hp⟩ hk (fun x hx => hf x (by omega)) (hI.t (fun x x0 x1 hx => hf x (by omega)) (by rw [hf _ (by omega)]) hk3)
            first
            | (have k8 : p = 0 := by omega
               rw [h1]; exact q9.1 k8)
            | (have k8 : p = 1 := by omega
               rw [h2]; exact q9.2.1 k8)
            | (have k8 : p = 2 := by omega
               rw [h3]; exact q9.2.2 k8)
          · refine r_iload_4 (pc := 140) dX7_weights_140 ?_
            refine r_goto (pc := 142) (tgt := 147) dX7_weights_142 (by decide) ?_
            refine r_iret (pc := 147) hret dX7_weights_147 rfl rfl rfl ?_
            have k9 : w = 41 := by omega
            subst k9
            have q9 := hQ ⟨by omega, hp⟩ hk (fun x hx => hf x (by omega)) (hI.t (fun x x0 x1 hx => hf x (by omega)) (by rw [hf _ (by omega)]) hk3)
            first
            | (have k8 : p = 0 := by omega
               rw [h1]; exact q9.1 k8)
            | (have k8 : p = 1 := by omega
               rw [h2]; exact q9.2.1 k8)
            | (have k8 : p = 2 := by omega
               rw [h3]; exact q9.2.2 k8)
        · refine r_iload_3 (pc := 131) dX7_weights_131 ?_
          refine r_goto (pc := 132) (tgt := 147) dX7_weights_132 (by decide) ?_
          refine r_iret (pc := 147) hret dX7_weights_147 rfl rfl rfl ?_
          have k9 : w = 41 := by omega
          subst k9
          have q9 := hQ ⟨by omega, hp⟩ hk (fun x hx => hf x (by omega)) (hI.t (fun x x0 x1 hx => hf x (by omega)) (by rw [hf _ (by omega)]) hk3)
          first
          | (have k8 : p = 0 := by omega
             rw [h1]; exact q9.1 k8)
          | (have k8 : p = 1 := by omega
             rw [h2]; exact q9.2.1 k8)
          | (have k8 : p = 2 := by omega
             rw [h3]; exact q9.2.2 k8)
      · have TM := TrM_w (w := w) hT hd (by omega)
        have RM := RlM_w (w := w) hR (d := d) (by omega)
        refine r_aload_0 (pc := 56) dX7_weights_56 ?_
        refine gf_X7_30 (pc := 57) rfl (by assumption) dX7_weights_57 (by assumption) ?_
        refine gf_X7_84 (pc := 60) rfl (by assumption) dX7_weights_60 (by assumption) ?_
        refine gf_X7_100 (pc := 63) rfl (by assumption) dX7_weights_63 (by assumption) ?_
        refine r_iload_1 (pc := 66) dX7_weights_66 ?_
        refine r_iload_6 (pc := 67) dX7_weights_67 ?_
        refine r_iastE (pc := 69) (by assumption) rfl dX7_weights_69 (by omega) (by omega) (by omega) ?_
        have T1 := PTr_w (w := w) TV TR (d := d) (by rw [up_n (by omega)]; omega)
        have L1 := PRl_w (w := w) (f := up (hk (c + 7 + 3)) d w) TV RV RL (d := d) (by omega)
        rw [up_up] at T1 L1
        have SK1 : StK (hr hk (c + 7 + 3) (up (hk (c + 7 + 3)) d w) (c + 4 + 1)) := by rw [hr_n (by omega)]; exact hk3
        refine r_aload_0 (pc := 70) dX7_weights_70 ?_
        refine gf_X7_30 (pc := 71) rfl (by assumption) dX7_weights_71 (by assumption) ?_
        refine gf_X7_84 (pc := 74) rfl (by assumption) dX7_weights_74 (by assumption) ?_
        refine k_VV0 (pc := 77) c_X6_sumWeights lk_X7_320 ⟨Nat.le_of_ble_eq_true rfl, Nat.le_of_ble_eq_true rfl⟩ ⟨rfl, rfl⟩ ⟨Nat.le_of_ble_eq_true rfl, Nat.le_of_ble_eq_true rfl⟩ (k := 6) rfl (by decide) (by assumption) dX7_weights_77 (Nat.le_of_ble_eq_true rfl) ?_
        refine ⟨_, up mp (22 + d) w, rfl, cP, TM, T1, fun f_77 a_77 b_77 => ?_⟩
        have T2 : PTr (hr (hr hk (c + 7 + 3) (up (hk (c + 7 + 3)) d w)) (c + 7 + 3) f_77) (c + 7) (up mp (22 + d) w) := by
          obtain ⟨y1, y2, y3, y4, y5, y6⟩ := T1
          refine ⟨by rw [hr_n (by omega)]; exact y1, by rw [hr_n (by omega)]; exact y2, by rw [hr_n (by omega)]; exact y3, fun x x0 x1 => by rw [hr_s, b_77 x x0]; exact y4 x x0 x1, by rw [hr_n (by omega)]; exact y5, by rw [hr_n (by omega)]; exact y6⟩
        have L2 : PRl (hr (hr hk (c + 7 + 3) (up (hk (c + 7 + 3)) d w)) (c + 7 + 3) f_77) (c + 7) (up mp (22 + d) w) := L1.of (hr_n (by omega)) (hr_n (by omega)) (hr_n (by omega)) (hr_n (by omega)) (hr_n (by omega)) (hr_n (by omega)) (hr_n (by omega))
        have W2 : PWt (hr (hr hk (c + 7 + 3) (up (hk (c + 7 + 3)) d w)) (c + 7 + 3) f_77) (c + 7) (up mp (22 + d) w) := fun x x0 x1 => by rw [hr_s]; exact a_77 x x0 x1
        have SK2 : StK ((hr (hr hk (c + 7 + 3) (up (hk (c + 7 + 3)) d w)) (c + 7 + 3) f_77) (c + 4 + 1)) := by rw [hr_n (by omega)]; exact SK1
        have OB2 : ObS (hr (hr hk (c + 7 + 3) (up (hk (c + 7 + 3)) d w)) (c + 7 + 3) f_77) (c + 27) sn row := hOb.of (by rw [hr_n (by omega), hr_n (by omega)]; exact hf _ (by omega)) (by rw [hr_n (by omega), hr_n (by omega)]; exact hf _ (by omega)) (by rw [hr_n (by omega), hr_n (by omega)]; exact hf _ (by omega)) (by rw [hr_n (by omega), hr_n (by omega)]; exact hf _ (by omega))
        refine r_aload_0 (pc := 80) dX7_weights_80 ?_
        refine gf_X7_47 (pc := 81) rfl (by assumption) dX7_weights_81 (by assumption) ?_
        refine r_aload_0 (pc := 84) dX7_weights_84 ?_
        refine gf_X7_30 (pc := 85) rfl (by assumption) dX7_weights_85 (by assumption) ?_
        refine r_aload_0 (pc := 88) dX7_weights_88 ?_
        refine gf_X7_19 (pc := 89) rfl (by assumption) dX7_weights_89 (by assumption) ?_
        refine k_VI2 (pc := 92) c_X2_areTrueIn lk_X7_323 ⟨Nat.le_of_ble_eq_true rfl, Nat.le_of_ble_eq_true rfl⟩ ⟨rfl, rfl⟩ ⟨Nat.le_of_ble_eq_true rfl, Nat.le_of_ble_eq_true rfl⟩ (k := 2) rfl (by decide) (by assumption) dX7_weights_92 (Nat.le_of_ble_eq_true rfl) ?_
        refine ⟨_, _, up mp (22 + d) w, _, sn, row, rfl, cO, cP, cS, by omega, TM, RM, T2, L2, W2, SK2, by omega, OB2, hSe, fun h_92 f_92 k_92 => ?_⟩
        refine r_ifeq_b (pc := 95) (tgt := 121) dX7_weights_95 (by decide) (fun c_95 => ?_) (fun c_95 => ?_)
        · refine r_iinc_6 (pc := 121) dX7_weights_121 rfl ?_
          refine r_goto (pc := 124) (tgt := 49) dX7_weights_124 (by decide) ?_
          have e1 := wgk_s4 mp row d sn.toNat w.toNat
          rw [show ((w.toNat : Nat) : Int) = w by omega] at e1
          have fk : ∀ x, ¬ ((c + 7 ≤ x ∧ x < c + 21) ∨ x = c + 5) → h_92 x = h x := fun x hx => by rw [f_92 x (by omega), hr_n (by omega), hr_n (by omega)]; exact hf x hx
          have T3 : PTr h_92 (c + 7) (up mp (22 + d) w) := T2.of (f_92 _ (by omega)) (f_92 _ (by omega)) (f_92 _ (by omega))
          have L3 : PRl h_92 (c + 7) (up mp (22 + d) w) := L2.of (f_92 _ (by omega)) (f_92 _ (by omega)) (f_92 _ (by omega)) (f_92 _ (by omega)) (f_92 _ (by omega)) (f_92 _ (by omega)) (f_92 _ (by omega))
          first
          | (have k9 : ¬ alk (plr (up mp (22 + d) w)) row sn.toNat = true := c_95
             rw [if_neg k9] at e1
             exact ih _ (by omega) (w + 1) w h_92 _ _ _ rfl (by omega) (by omega) (by rw [show (w + 1).toNat = w.toNat + 1 by omega, e1]; exact h1) (by rw [show (w + 1).toNat = w.toNat + 1 by omega, e1]; exact h2) (by rw [show (w + 1).toNat = w.toNat + 1 by omega, e1]; exact h3) fk T3 L3 k_92)
          | (have k9 : alk (plr (up mp (22 + d) w)) row sn.toNat = true := c_95
             rw [if_pos k9] at e1
             first
             | (have k8 : sm_ = -4 := c_105
                exact ih _ (by omega) (w + 1) w h_92 _ _ _ rfl (by omega) (by omega) (by rw [show (w + 1).toNat = w.toNat + 1 by omega, e1, h1]) (by rw [show (w + 1).toNat = w.toNat + 1 by omega, e1]; dsimp only; rw [if_pos (by omega)]) (by rw [show (w + 1).toNat = w.toNat + 1 by omega, e1]) fk T3 L3 k_92)
             | (have k8 : ¬ sm_ = -4 := c_105
                exact ih _ (by omega) (w + 1) w h_92 _ _ _ rfl (by omega) (by omega) (by rw [show (w + 1).toNat = w.toNat + 1 by omega, e1, h1]) (by rw [show (w + 1).toNat = w.toNat + 1 by omega, e1]; dsimp only; rw [if_neg (by omega)]; exact h2) (by rw [show (w + 1).toNat = w.toNat + 1 by omega, e1]) fk T3 L3 k_92))
        · refine r_iinc_3 (pc := 98) dX7_weights_98 rfl ?_
          refine r_iload_4 (pc := 101) dX7_weights_101 ?_
          refine r_bipush (pc := 103) dX7_weights_103 (by decide) ?_
          refine r_icmp_ne (pc := 105) (tgt := 113) dX7_weights_105 (by decide) (by omega) (by omega) (fun c_105 => ?_) (fun c_105 => ?_)
          · refine r_iload_4 (pc := 113) dX7_weights_113 ?_
            refine r_istore_4 (pc := 115) dX7_weights_115 rfl ?_
            refine r_iload_6 (pc := 117) dX7_weights_117 ?_
            refine r_istore_5 (pc := 119) dX7_weights_119 rfl ?_
            refine r_iinc_6 (pc := 121) dX7_weights_121 rfl ?_
            refine r_goto (pc := 124) (tgt := 49) dX7_weights_124 (by decide) ?_
            have e1 := wgk_s4 mp row d sn.toNat w.toNat
            rw [show ((w.toNat : Nat) : Int) = w by omega] at e1
            have fk : ∀ x, ¬ ((c + 7 ≤ x ∧ x < c + 21) ∨ x = c + 5) → h_92 x = h x := fun x hx => by rw [f_92 x (by omega), hr_n (by omega), hr_n (by omega)]; exact hf x hx
            have T3 : PTr h_92 (c + 7) (up mp (22 + d) w) := T2.of (f_92 _ (by omega)) (f_92 _ (by omega)) (f_92 _ (by omega))
            have L3 : PRl h_92 (c + 7) (up mp (22 + d) w) := L2.of (f_92 _ (by omega)) (f_92 _ (by omega)) (f_92 _ (by omega)) (f_92 _ (by omega)) (f_92 _ (by omega)) (f_92 _ (by omega)) (f_92 _ (by omega))
            first
            | (have k9 : ¬ alk (plr (up mp (22 + d) w)) row sn.toNat = true := c_95
               rw [if_neg k9] at e1
               exact ih _ (by omega) (w + 1) w h_92 _ _ _ rfl (by omega) (by omega) (by rw [show (w + 1).toNat = w.toNat + 1 by omega, e1]; exact h1) (by rw [show (w + 1).toNat = w.toNat + 1 by omega, e1]; exact h2) (by rw [show (w + 1).toNat = w.toNat + 1 by omega, e1]; exact h3) fk T3 L3 k_92)
            | (have k9 : alk (plr (up mp (22 + d) w)) row sn.toNat = true := c_95
               rw [if_pos k9] at e1
               first
               | (have k8 : sm_ = -4 := c_105
                  exact ih _ (by omega) (w + 1) w h_92 _ _ _ rfl (by omega) (by omega) (by rw [show (w + 1).toNat = w.toNat + 1 by omega, e1, h1]) (by rw [show (w + 1).toNat = w.toNat + 1 by omega, e1]; dsimp only; rw [if_pos (by omega)]) (by rw [show (w + 1).toNat = w.toNat + 1 by omega, e1]) fk T3 L3 k_92)
               | (have k8 : ¬ sm_ = -4 := c_105
                  exact ih _ (by omega) (w + 1) w h_92 _ _ _ rfl (by omega) (by omega) (by rw [show (w + 1).toNat = w.toNat + 1 by omega, e1, h1]) (by rw [show (w + 1).toNat = w.toNat + 1 by omega, e1]; dsimp only; rw [if_neg (by omega)]; exact h2) (by rw [show (w + 1).toNat = w.toNat + 1 by omega, e1]) fk T3 L3 k_92))
          · refine r_iload_6 (pc := 108) dX7_weights_108 ?_
            refine r_goto (pc := 110) (tgt := 115) dX7_weights_110 (by decide) ?_
            refine r_istore_4 (pc := 115) dX7_weights_115 rfl ?_
            refine r_iload_6 (pc := 117) dX7_weights_117 ?_
            refine r_istore_5 (pc := 119) dX7_weights_119 rfl ?_
            refine r_iinc_6 (pc := 121) dX7_weights_121 rfl ?_
            refine r_goto (pc := 124) (tgt := 49) dX7_weights_124 (by decide) ?_
            have e1 := wgk_s4 mp row d sn.toNat w.toNat
            rw [show ((w.toNat : Nat) : Int) = w by omega] at e1
            have fk : ∀ x, ¬ ((c + 7 ≤ x ∧ x < c + 21) ∨ x = c + 5) → h_92 x = h x := fun x hx => by rw [f_92 x (by omega), hr_n (by omega), hr_n (by omega)]; exact hf x hx
            have T3 : PTr h_92 (c + 7) (up mp (22 + d) w) := T2.of (f_92 _ (by omega)) (f_92 _ (by omega)) (f_92 _ (by omega))
            have L3 : PRl h_92 (c + 7) (up mp (22 + d) w) := L2.of (f_92 _ (by omega)) (f_92 _ (by omega)) (f_92 _ (by omega)) (f_92 _ (by omega)) (f_92 _ (by omega)) (f_92 _ (by omega)) (f_92 _ (by omega))
            first
            | (have k9 : ¬ alk (plr (up mp (22 + d) w)) row sn.toNat = true := c_95
               rw [if_neg k9] at e1
               exact ih _ (by omega) (w + 1) w h_92 _ _ _ rfl (by omega) (by omega) (by rw [show (w + 1).toNat = w.toNat + 1 by omega, e1]; exact h1) (by rw [show (w + 1).toNat = w.toNat + 1 by omega, e1]; exact h2) (by rw [show (w + 1).toNat = w.toNat + 1 by omega, e1]; exact h3) fk T3 L3 k_92)
            | (have k9 : alk (plr (up mp (22 + d) w)) row sn.toNat = true := c_95
               rw [if_pos k9] at e1
               first
               | (have k8 : sm_ = -4 := c_105
                  exact ih _ (by omega) (w + 1) w h_92 _ _ _ rfl (by omega) (by omega) (by rw [show (w + 1).toNat = w.toNat + 1 by omega, e1, h1]) (by rw [show (w + 1).toNat = w.toNat + 1 by omega, e1]; dsimp only; rw [if_pos (by omega)]) (by rw [show (w + 1).toNat = w.toNat + 1 by omega, e1]) fk T3 L3 k_92)
               | (have k8 : ¬ sm_ = -4 := c_105
                  exact ih _ (by omega) (w + 1) w h_92 _ _ _ rfl (by omega) (by omega) (by rw [show (w + 1).toNat = w.toNat + 1 by omega, e1, h1]) (by rw [show (w + 1).toNat = w.toNat + 1 by omega, e1]; dsimp only; rw [if_neg (by omega)]; exact h2) (by rw [show (w + 1).toNat = w.toNat + 1 by omega, e1]) fk T3 L3 k_92))
  refine r_aload_0 (pc := 0) dX7_weights_0 ?_
  refine gf_X7_51 (pc := 1) rfl (by assumption) dX7_weights_1 (by assumption) ?_
  refine gf_X7_84 (pc := 4) rfl (by assumption) dX7_weights_4 (by assumption) ?_
  refine r_iload_1 (pc := 7) dX7_weights_7 ?_
  refine k_VI1 (pc := 8) c_X6_isDisk lk_X7_97 ⟨Nat.le_of_ble_eq_true rfl, Nat.le_of_ble_eq_true rfl⟩ ⟨rfl, rfl⟩ ⟨Nat.le_of_ble_eq_true rfl, Nat.le_of_ble_eq_true rfl⟩ (k := 6) rfl (by decide) (by assumption) dX7_weights_8 (Nat.le_of_ble_eq_true rfl) ?_
  refine ⟨_, _, _, rfl, by assumption, by omega, by omega, ?_⟩
  refine r_ifeq_b (pc := 11) (tgt := 23) dX7_weights_11 (by decide) (fun c_11 => ?_) (fun c_11 => ?_)
  · refine r_iconst (pc := 23) dX7_weights_23 ?_
    refine r_iret (pc := 24) hret dX7_weights_24 rfl rfl rfl ?_
    exact hB (by omega)
  · refine r_iload_2 (pc := 14) dX7_weights_14 ?_
    refine r_if_lt (pc := 15) (tgt := 23) dX7_weights_15 (by decide) (by omega) (fun c_15 => ?_) (fun c_15 => ?_)
    · refine r_iconst (pc := 23) dX7_weights_23 ?_
      refine r_iret (pc := 24) hret dX7_weights_24 rfl rfl rfl ?_
      exact hB (by omega)
    · refine r_iload_2 (pc := 18) dX7_weights_18 ?_
      refine r_iconst (pc := 19) dX7_weights_19 ?_
      refine r_icmp_le (pc := 20) (tgt := 25) dX7_weights_20 (by decide) (by omega) (by omega) (fun c_20 => ?_) (fun c_20 => ?_)
      · refine r_iconst (pc := 25) dX7_weights_25 ?_
        refine r_istore_3 (pc := 26) dX7_weights_26 rfl ?_
        refine r_bipush (pc := 27) dX7_weights_27 (by decide) ?_
        refine r_istore_4 (pc := 29) dX7_weights_29 rfl ?_
        refine r_bipush (pc := 31) dX7_weights_31 (by decide) ?_
        refine r_istore_5 (pc := 33) dX7_weights_33 rfl ?_
        refine r_aload_0 (pc := 35) dX7_weights_35 ?_
        refine gf_X7_30 (pc := 36) rfl (by assumption) dX7_weights_36 (by assumption) ?_
        refine r_aload_0 (pc := 39) dX7_weights_39 ?_
        refine gf_X7_51 (pc := 40) rfl (by assumption) dX7_weights_40 (by assumption) ?_
        refine k_VV1 (pc := 43) c_X3_copyFrom lk_X7_275 ⟨Nat.le_of_ble_eq_true rfl, Nat.le_of_ble_eq_true rfl⟩ ⟨rfl, rfl⟩ ⟨Nat.le_of_ble_eq_true rfl, Nat.le_of_ble_eq_true rfl⟩ (k := 3) rfl (by decide) (by assumption) dX7_weights_43 (Nat.le_of_ble_eq_true rfl) ?_
        refine ⟨_, _, rfl, cP, hA, (by omega), fun h_43 f_43 a_43 => ?_⟩
        have T0 : PTr h_43 (c + 7) mp := a_43.tr hT hN
        have L0 : PRl h_43 (c + 7) mp := a_43.rl hT hR hL
        refine r_iconst (pc := 46) dX7_weights_46 ?_
        refine r_istore_6 (pc := 47) dX7_weights_47 rfl ?_
        have q7 := t7 d (by omega) (by omega)
        exact lp (by omega) (by omega) _ 0 (mp (22 + d)) h_43 _ _ _ rfl (by omega) (by omega) rfl rfl rfl (fun x hx => f_43 x (by omega)) (by rw [up_id]; exact T0) (by rw [up_id]; exact L0) (by rw [f_43 _ (by omega)]; exact hSK)
      · refine r_iconst (pc := 23) dX7_weights_23 ?_
        refine r_iret (pc := 24) hret dX7_weights_24 rfl rfl rfl ?_
        exact hB (by omega)

