/-! THE CLASS: even, storm -/
theorem spr_r17 (mp F : Int → Int) : -17 ≤ spr mp F ∧ spr mp F ≤ 16 := by
  have := spk_r mp F (mp 130).toNat
  unfold spr
  split <;> omega
theorem spk_w {mp F : Int → Int} {d w : Int} (hd : 10 ≤ d ∧ d < 22) (h : 0 < mp (22 + d) ∧ 0 < w) : ∀ k : Nat, k ≤ 12 → spk (up mp (22 + d) w) F k = spk mp F k
  | 0, _ => rfl
  | k + 1, hk => by
    rw [spk_s, spk_s, spk_w hd h k (by omega)]
    have e : tp (up mp (22 + d) w) (10 + (k : Int)) = tp mp (10 + (k : Int)) := by
      rw [Bool.eq_iff_iff, tp_iff, tp_iff, up_n (show 66 + (10 + (k : Int)) ≠ 22 + d by omega), up_n (show 88 + (10 + (k : Int)) ≠ 22 + d by omega)]
      by_cases z : 10 + (k : Int) = d
      · rw [z, up_s]
        constructor
        · rintro ⟨_, y⟩; exact ⟨h.1, y⟩
        · rintro ⟨_, y⟩; exact ⟨h.2, y⟩
      · rw [up_n (by omega)]
    rw [e]
theorem spr_w {mp F : Int → Int} {d w : Int} (hd : 10 ≤ d ∧ d < 22) (h : 0 < mp (22 + d) ∧ 0 < w) (hT : TrM mp) : spr (up mp (22 + d) w) F = spr mp F := by
  have t3 := hT.2.2.1
  unfold spr
  rw [up_n (show (130 : Int) ≠ 22 + d by omega), spk_w hd h _ (by omega)]
theorem dX7_even_0 : decode cX7_even 0 = .ok (.iload_n 1, 1) := by decide +kernel
theorem dX7_even_1 : decode cX7_even 1 = .ok (.ifCond .lt 8, 3) := by decide +kernel
theorem dX7_even_4 : decode cX7_even 4 = .ok (.iload_n 1, 1) := by decide +kernel
theorem dX7_even_5 : decode cX7_even 5 = .ok (.iconst 2, 1) := by decide +kernel
theorem dX7_even_6 : decode cX7_even 6 = .ok (.if_icmp .le 5, 3) := by decide +kernel
theorem dX7_even_9 : decode cX7_even 9 = .ok (.iconst (-1), 1) := by decide +kernel
theorem dX7_even_10 : decode cX7_even 10 = .ok (.ireturn, 1) := by decide +kernel
theorem dX7_even_11 : decode cX7_even 11 = .ok (.bipush (-4), 2) := by decide +kernel
theorem dX7_even_13 : decode cX7_even 13 = .ok (.istore_n 2, 1) := by decide +kernel
theorem dX7_even_14 : decode cX7_even 14 = .ok (.bipush (-4), 2) := by decide +kernel
theorem dX7_even_16 : decode cX7_even 16 = .ok (.istore_n 3, 1) := by decide +kernel
theorem dX7_even_17 : decode cX7_even 17 = .ok (.aload_n 0, 1) := by decide +kernel
theorem dX7_even_18 : decode cX7_even 18 = .ok (.getfield 51, 3) := by decide +kernel
theorem dX7_even_21 : decode cX7_even 21 = .ok (.invokevirtual 262, 3) := by decide +kernel
theorem dX7_even_24 : decode cX7_even 24 = .ok (.istore 4, 2) := by decide +kernel
theorem dX7_even_26 : decode cX7_even 26 = .ok (.aload_n 0, 1) := by decide +kernel
theorem dX7_even_27 : decode cX7_even 27 = .ok (.getfield 30, 3) := by decide +kernel
theorem dX7_even_30 : decode cX7_even 30 = .ok (.aload_n 0, 1) := by decide +kernel
theorem dX7_even_31 : decode cX7_even 31 = .ok (.getfield 51, 3) := by decide +kernel
theorem dX7_even_34 : decode cX7_even 34 = .ok (.invokevirtual 275, 3) := by decide +kernel
theorem dX7_even_37 : decode cX7_even 37 = .ok (.bipush 10, 2) := by decide +kernel
theorem dX7_even_39 : decode cX7_even 39 = .ok (.istore 5, 2) := by decide +kernel
theorem dX7_even_41 : decode cX7_even 41 = .ok (.iload 5, 2) := by decide +kernel
theorem dX7_even_43 : decode cX7_even 43 = .ok (.aload_n 0, 1) := by decide +kernel
theorem dX7_even_44 : decode cX7_even 44 = .ok (.getfield 51, 3) := by decide +kernel
theorem dX7_even_47 : decode cX7_even 47 = .ok (.getfield 84, 3) := by decide +kernel
theorem dX7_even_50 : decode cX7_even 50 = .ok (.invokevirtual 151, 3) := by decide +kernel
theorem dX7_even_53 : decode cX7_even 53 = .ok (.if_icmp .ge 140, 3) := by decide +kernel
theorem dX7_even_56 : decode cX7_even 56 = .ok (.aload_n 0, 1) := by decide +kernel
theorem dX7_even_57 : decode cX7_even 57 = .ok (.getfield 51, 3) := by decide +kernel
theorem dX7_even_60 : decode cX7_even 60 = .ok (.getfield 84, 3) := by decide +kernel
theorem dX7_even_63 : decode cX7_even 63 = .ok (.getfield 100, 3) := by decide +kernel
theorem dX7_even_66 : decode cX7_even 66 = .ok (.iload 5, 2) := by decide +kernel
theorem dX7_even_68 : decode cX7_even 68 = .ok (.iaload, 1) := by decide +kernel
theorem dX7_even_69 : decode cX7_even 69 = .ok (.istore 6, 2) := by decide +kernel
theorem dX7_even_71 : decode cX7_even 71 = .ok (.iload 6, 2) := by decide +kernel
theorem dX7_even_73 : decode cX7_even 73 = .ok (.iconst 1, 1) := by decide +kernel
theorem dX7_even_74 : decode cX7_even 74 = .ok (.iadd, 1) := by decide +kernel
theorem dX7_even_75 : decode cX7_even 75 = .ok (.istore 7, 2) := by decide +kernel
theorem dX7_even_77 : decode cX7_even 77 = .ok (.iload 7, 2) := by decide +kernel
theorem dX7_even_79 : decode cX7_even 79 = .ok (.iload 6, 2) := by decide +kernel
theorem dX7_even_81 : decode cX7_even 81 = .ok (.iconst 1, 1) := by decide +kernel
theorem dX7_even_82 : decode cX7_even 82 = .ok (.isub, 1) := by decide +kernel
theorem dX7_even_83 : decode cX7_even 83 = .ok (.if_icmp .lt 89, 3) := by decide +kernel
theorem dX7_even_86 : decode cX7_even 86 = .ok (.iload 7, 2) := by decide +kernel
theorem dX7_even_88 : decode cX7_even 88 = .ok (.iconst 1, 1) := by decide +kernel
theorem dX7_even_89 : decode cX7_even 89 = .ok (.if_icmp .lt 77, 3) := by decide +kernel
theorem dX7_even_92 : decode cX7_even 92 = .ok (.iload 7, 2) := by decide +kernel
theorem dX7_even_94 : decode cX7_even 94 = .ok (.bipush 40, 2) := by decide +kernel
theorem dX7_even_96 : decode cX7_even 96 = .ok (.if_icmp .gt 70, 3) := by decide +kernel
theorem dX7_even_99 : decode cX7_even 99 = .ok (.aload_n 0, 1) := by decide +kernel
theorem dX7_even_100 : decode cX7_even 100 = .ok (.getfield 51, 3) := by decide +kernel
theorem dX7_even_103 : decode cX7_even 103 = .ok (.iload 5, 2) := by decide +kernel
theorem dX7_even_105 : decode cX7_even 105 = .ok (.invokevirtual 281, 3) := by decide +kernel
theorem dX7_even_108 : decode cX7_even 108 = .ok (.ifCond .ne 6, 3) := by decide +kernel
theorem dX7_even_111 : decode cX7_even 111 = .ok (.goto 55, 3) := by decide +kernel
theorem dX7_even_114 : decode cX7_even 114 = .ok (.aload_n 0, 1) := by decide +kernel
theorem dX7_even_115 : decode cX7_even 115 = .ok (.getfield 30, 3) := by decide +kernel
theorem dX7_even_118 : decode cX7_even 118 = .ok (.getfield 84, 3) := by decide +kernel
theorem dX7_even_121 : decode cX7_even 121 = .ok (.getfield 100, 3) := by decide +kernel
theorem dX7_even_124 : decode cX7_even 124 = .ok (.iload 5, 2) := by decide +kernel
theorem dX7_even_126 : decode cX7_even 126 = .ok (.iload 7, 2) := by decide +kernel
theorem dX7_even_128 : decode cX7_even 128 = .ok (.iastore, 1) := by decide +kernel
theorem dX7_even_129 : decode cX7_even 129 = .ok (.aload_n 0, 1) := by decide +kernel
theorem dX7_even_130 : decode cX7_even 130 = .ok (.getfield 30, 3) := by decide +kernel
theorem dX7_even_133 : decode cX7_even 133 = .ok (.aload_n 0, 1) := by decide +kernel
theorem dX7_even_134 : decode cX7_even 134 = .ok (.getfield 19, 3) := by decide +kernel
theorem dX7_even_137 : decode cX7_even 137 = .ok (.invokevirtual 74, 3) := by decide +kernel
theorem dX7_even_140 : decode cX7_even 140 = .ok (.aload_n 0, 1) := by decide +kernel
theorem dX7_even_141 : decode cX7_even 141 = .ok (.getfield 30, 3) := by decide +kernel
theorem dX7_even_144 : decode cX7_even 144 = .ok (.invokevirtual 262, 3) := by decide +kernel
theorem dX7_even_147 : decode cX7_even 147 = .ok (.istore 8, 2) := by decide +kernel
theorem dX7_even_149 : decode cX7_even 149 = .ok (.iload 8, 2) := by decide +kernel
theorem dX7_even_151 : decode cX7_even 151 = .ok (.iload 4, 2) := by decide +kernel
theorem dX7_even_153 : decode cX7_even 153 = .ok (.if_icmp .ge 13, 3) := by decide +kernel
theorem dX7_even_156 : decode cX7_even 156 = .ok (.iload 5, 2) := by decide +kernel
theorem dX7_even_158 : decode cX7_even 158 = .ok (.istore_n 2, 1) := by decide +kernel
theorem dX7_even_159 : decode cX7_even 159 = .ok (.iload 7, 2) := by decide +kernel
theorem dX7_even_161 : decode cX7_even 161 = .ok (.istore_n 3, 1) := by decide +kernel
theorem dX7_even_162 : decode cX7_even 162 = .ok (.iload 8, 2) := by decide +kernel
theorem dX7_even_164 : decode cX7_even 164 = .ok (.istore 4, 2) := by decide +kernel
theorem dX7_even_166 : decode cX7_even 166 = .ok (.iinc 7 (-2), 3) := by decide +kernel
theorem dX7_even_169 : decode cX7_even 169 = .ok (.goto (-92), 3) := by decide +kernel
theorem dX7_even_172 : decode cX7_even 172 = .ok (.aload_n 0, 1) := by decide +kernel
theorem dX7_even_173 : decode cX7_even 173 = .ok (.getfield 30, 3) := by decide +kernel
theorem dX7_even_176 : decode cX7_even 176 = .ok (.getfield 84, 3) := by decide +kernel
theorem dX7_even_179 : decode cX7_even 179 = .ok (.getfield 100, 3) := by decide +kernel
theorem dX7_even_182 : decode cX7_even 182 = .ok (.iload 5, 2) := by decide +kernel
theorem dX7_even_184 : decode cX7_even 184 = .ok (.iload 6, 2) := by decide +kernel
theorem dX7_even_186 : decode cX7_even 186 = .ok (.iastore, 1) := by decide +kernel
theorem dX7_even_187 : decode cX7_even 187 = .ok (.iinc 5 1, 3) := by decide +kernel
theorem dX7_even_190 : decode cX7_even 190 = .ok (.goto (-149), 3) := by decide +kernel
theorem dX7_even_193 : decode cX7_even 193 = .ok (.iload_n 2, 1) := by decide +kernel
theorem dX7_even_194 : decode cX7_even 194 = .ok (.bipush (-4), 2) := by decide +kernel
theorem dX7_even_196 : decode cX7_even 196 = .ok (.if_icmp .ne 6, 3) := by decide +kernel
theorem dX7_even_199 : decode cX7_even 199 = .ok (.bipush (-4), 2) := by decide +kernel
theorem dX7_even_201 : decode cX7_even 201 = .ok (.ireturn, 1) := by decide +kernel
theorem dX7_even_202 : decode cX7_even 202 = .ok (.iload_n 1, 1) := by decide +kernel
theorem dX7_even_203 : decode cX7_even 203 = .ok (.ifCond .ne 7, 3) := by decide +kernel
theorem dX7_even_206 : decode cX7_even 206 = .ok (.iload_n 2, 1) := by decide +kernel
theorem dX7_even_207 : decode cX7_even 207 = .ok (.goto 14, 3) := by decide +kernel
theorem dX7_even_210 : decode cX7_even 210 = .ok (.iload_n 1, 1) := by decide +kernel
theorem dX7_even_211 : decode cX7_even 211 = .ok (.iconst 1, 1) := by decide +kernel
theorem dX7_even_212 : decode cX7_even 212 = .ok (.if_icmp .ne 7, 3) := by decide +kernel
theorem dX7_even_215 : decode cX7_even 215 = .ok (.iload_n 3, 1) := by decide +kernel
theorem dX7_even_216 : decode cX7_even 216 = .ok (.goto 5, 3) := by decide +kernel
theorem dX7_even_219 : decode cX7_even 219 = .ok (.iload 4, 2) := by decide +kernel
theorem dX7_even_221 : decode cX7_even 221 = .ok (.ireturn, 1) := by decide +kernel
set_option maxHeartbeats 4000000 in
set_option maxRecDepth 20000 in
theorem c_X7_even : ConI mX7_even (fun args N lay r h Q => ∃ (c : Nat) (q : Int → Nat) (n : Int) (tx : Int → Int) (ep : Int) (km : Int → Int → Int) (mp F : Int → Int) (ux : Int) (sz ho : Int → Int) (sn : Int) (row : Int → Int) (p : Int), args = [.ref c, vI p] ∧ CI lay r h c q n tx ep km mp F ux sz ho sn row ∧ (-2147483648 ≤ p ∧ p < 2147483648) ∧ (¬ (0 ≤ p ∧ p ≤ 2) → Q (-1) N lay r h) ∧ ((0 ≤ p ∧ p ≤ 2) → ∀ h2, Fr h h2 (fun x => c ≤ x ∧ x < c + 101) → CI lay r h2 c q n tx ep km mp F ux sz ho sn row → ((evk mp (spr mp F) (mp 130).toNat).2.1 < 0 → Q (-4) N lay r h2) ∧ (0 ≤ (evk mp (spr mp F) (mp 130).toNat).2.1 → (p = 0 → Q (evk mp (spr mp F) (mp 130).toNat).2.1 N lay r h2) ∧ (p = 1 → Q (evk mp (spr mp F) (mp 130).toNat).2.2 N lay r h2) ∧ (p = 2 → Q (evk mp (spr mp F) (mp 130).toNat).1 N lay r h2)))) := by
  refine ConI.of (by decide) (by rintro _ N lay r h Q ⟨c, q, n, tx, ep, km, mp, F, ux, sz, ho, sn, row, p, rfl, hI, h_p, hB, hQ⟩; exact ⟨rfl, Nat.le_of_ble_eq_true rfl⟩) ?_
  rintro E _ N lay r h Q ⟨c, q, n, tx, ep, km, mp, F, ux, sz, ho, sn, row, p, rfl, hI, h_p, hB, hQ⟩ hret
  obtain ⟨hC, hLt, ⟨hCT, htx⟩, hSK, ⟨he8, hep⟩, hkm, ⟨hk0, h130⟩, hF0, ⟨hDa, hMk, hsz⟩, ⟨hOb, hSe⟩⟩ := id hI
  obtain ⟨cl0, cl6, ⟨cr0, cr1, cr2, cr3, cr4, cr5, cr6⟩, cT, cS, cP, cD, cE, cO⟩ := id hC
  obtain ⟨lr7, lr6, lpl, lrg, ldj⟩ := id hLt
  have hP0 := hkm 0 (by omega) (by omega) (by omega)
  rw [hk0] at hP0
  obtain ⟨hT, hR, hN, hW, hL, hPS⟩ := id hP0
  have hA := lpl 0 (by omega) (by omega)
  have q0r := lrg 0 (by omega) (by omega)
  obtain ⟨pl0, pl1, pl2, pl3, pl4, pl5, pl6, pl7, pl8, pl9, pl10, pl11, pl12, pl13, pr0, pr1, pr2, pr3, pr9, pr10, pr11, qr3, qr4, vr1, vr2, vr3, vr4⟩ := id hA
  obtain ⟨⟨n0, n1, n2⟩, up1, up2, uw, u0, uh⟩ := id hN
  obtain ⟨t1, t2, t3, t4, t5, t6, t7⟩ := id hT
  have hFI : FdI F := fun j j0 j1 => by rw [← hF0 j j0 j1]; exact FdI_plr hT hR j j0 j1
  have hp1 : ∀ j, 0 ≤ j → j < 64 → h (q 0 + 11) j = F j := fun j j0 j1 => (hPS.1 j j0 j1).trans (hF0 j j0 j1)
  have hp2 : ∀ g, 0 ≤ g → g < 16 → h (q 0 + 13) g = pb F g := fun g g0 g1 => (hPS.2.2.1 g g0 g1).trans (pb_c ⟨g0, g1⟩ hF0)
  obtain ⟨tl0, tl1, tl2, tl3, tl4, tl5, tl6, tl7, tl8, tl9, tl10, tl11, tl12, tl13, tr0, tr1, tr2, tr3, tr9, tr10, tr11, sr3, sr4, ur1, ur2, ur3, ur4⟩ := id cP
  have sl0 : lay (c + 4) = (5, 0) := cS.1
  show St E mX7_even 0 [some (.ref c), some (vI p), none, none, none, none, none, none, none] [] (0, 0) N lay r h
  have inn : ∀ (d : Int) (s0 : Int) (hd : 10 ≤ d ∧ d < 10 + mp 130) (K : ∀ (S : Int × Int × Int) (bd bw bs w : Int) (hk : HpT) (x8 : Option Value), S = ev1 mp d ((mp (22 + d)) + -1) (ev1 mp d ((mp (22 + d)) + 1) (evk mp s0 (d - 10).toNat)) → (bs = S.1 ∧ bd = S.2.1) → (bd ≠ -4 → bw = S.2.2) → ((-17 ≤ bs ∧ bs ≤ 16) ∧ (bd = -4 ∨ (10 ≤ bd ∧ bd < 22))) → Fr h hk (fun x => (c + 7 ≤ x ∧ x < c + 21) ∨ x = c + 5) → PTr hk (c + 7) mp → PRl hk (c + 7) mp → StK (hk (c + 4 + 1)) → St E mX7_even 187 [some (.ref c), some (vI p), some (vI bd), some (vI bw), some (vI bs), some (vI d), some (vI (mp (22 + d))), some (vI w), x8] [] (0, 0) N lay r hk) (n_ : Nat) (w : Int) (S : Int × Int × Int) (bd : Int) (bw : Int) (bs : Int) (hk : HpT) (v : Int) (x8 : Option Value), (w - mp (22 + d) + 4).toNat = n_ → (0 ≤ v ∧ v ≤ 40) → ((w = (mp (22 + d)) + 1 ∧ S = (evk mp s0 (d - 10).toNat)) ∨ (w = (mp (22 + d)) - 1 ∧ S = ev1 mp d ((mp (22 + d)) + 1) (evk mp s0 (d - 10).toNat)) ∨ (w = (mp (22 + d)) - 3 ∧ S = ev1 mp d ((mp (22 + d)) + -1) (ev1 mp d ((mp (22 + d)) + 1) (evk mp s0 (d - 10).toNat)))) → (bs = S.1 ∧ bd = S.2.1) → (bd ≠ -4 → bw = S.2.2) → ((-17 ≤ bs ∧ bs ≤ 16) ∧ (bd = -4 ∨ (10 ≤ bd ∧ bd < 22))) → (Fr h hk (fun x => (c + 7 ≤ x ∧ x < c + 21) ∨ x = c + 5)) → (PTr hk (c + 7) (up mp (22 + d) v)) → (PRl hk (c + 7) (up mp (22 + d) v)) → (StK (hk (c + 4 + 1))) → St E mX7_even 77 [some (.ref c), some (vI p), some (vI bd), some (vI bw), some (vI bs), some (vI d), some (vI (mp (22 + d))), some (vI w), x8] [] (0, 0) N lay r hk := by
    intro d s0 hd K n_
    induction n_ using Nat.strongRecOn with
    | ind n_ ih =>
      intro w S bd bw bs hk v x8 hn_ hv hws hS hbw hbr hf TR RL hk3
      have TV := TrM_w (w := v) hT hd hv
      have RV := RlM_w (w := v) hR (d := d) (by omega)
      have NK : PTr hk (q 0) mp := hN.of (hf _ (by omega)) (hf _ (by omega)) (hf _ (by omega))
      have LK : PRl hk (q 0) mp := hL.of (hf _ (by omega)) (hf _ (by omega)) (hf _ (by omega)) (hf _ (by omega)) (hf _ (by omega)) (hf _ (by omega)) (hf _ (by omega))
      have q7 := t7 d hd.1 hd.2
      have sr9 := spr_r17 mp (plr (up mp (22 + d) w))
      refine r_iload_7 (pc := 77) dX7_even_77 ?_
      refine r_iload_6 (pc := 79) dX7_even_79 ?_
      refine r_iconst (pc := 81) dX7_even_81 ?_
      refine r_isub (pc := 82) dX7_even_82 ?_
      refine r_icmp_lt (pc := 83) (tgt := 172) dX7_even_83 (by decide) (by omega) (by omega) (fun c_83 => ?_) (fun c_83 => ?_)
      · refine r_aload_0 (pc := 172) dX7_even_172 ?_
        refine gf_X7_30 (pc := 173) rfl (by assumption) dX7_even_173 (by assumption) ?_
        refine gf_X7_84 (pc := 176) rfl (by assumption) dX7_even_176 (by assumption) ?_
        refine gf_X7_100 (pc := 179) rfl (by assumption) dX7_even_179 (by assumption) ?_
        refine r_iload_5 (pc := 182) dX7_even_182 ?_
        refine r_iload_6 (pc := 184) dX7_even_184 ?_
        refine r_iastE (pc := 186) (by assumption) rfl dX7_even_186 (by omega) (by omega) (by omega) ?_
        have T1 := PTr_w (w := mp (22 + d)) TV TR (d := d) (by rw [up_n (by omega)]; omega)
        have L1 := PRl_w (w := mp (22 + d)) (f := up (hk (c + 7 + 3)) d (mp (22 + d))) TV RV RL (d := d) (by omega)
        rw [up_up, up_id] at T1 L1
        refine K S bd bw bs w _ _ ?_ hS hbw hbr (fun x hx => by rw [hr_n (by omega)]; exact hf x hx) T1 L1 (by rw [hr_n (by omega)]; exact hk3)
        rcases hws with ⟨y1, y2⟩ | ⟨y1, y2⟩ | ⟨y1, y2⟩
        · omega
        · omega
        · exact y2
      · refine r_iload_7 (pc := 86) dX7_even_86 ?_
        refine r_iconst (pc := 88) dX7_even_88 ?_
        refine r_icmp_lt (pc := 89) (tgt := 166) dX7_even_89 (by decide) (by omega) (by omega) (fun c_89 => ?_) (fun c_89 => ?_)
        · refine r_iinc_7 (pc := 166) dX7_even_166 rfl ?_
          refine r_goto (pc := 169) (tgt := 77) dX7_even_169 (by decide) ?_
          first
          | (have k9 : ¬ (1 ≤ w ∧ w ≤ 40) := by omega
             have e9 : ev1 mp d w S = S := if_neg (fun z => k9 z.2.1)
             refine ih _ (by omega) (w + -2) S bd bw bs hk v _ rfl hv ?_ hS hbw hbr hf TR RL hk3
             rcases hws with ⟨y1, y2⟩ | ⟨y1, y2⟩ | ⟨y1, y2⟩
             · exact Or.inr (Or.inl ⟨by omega, by rw [← y2, show mp (22 + d) + 1 = w by omega, e9]⟩)
             · exact Or.inr (Or.inr ⟨by omega, by rw [← y2, show mp (22 + d) + -1 = w by omega, e9]⟩)
             · omega)
          | (have k9 : ¬ tp mp d = true := c_108
             have e9 : ev1 mp d w S = S := if_neg (fun z => k9 z.1)
             refine ih _ (by omega) (w + -2) S bd bw bs hk v _ rfl hv ?_ hS hbw hbr hf TR RL hk3
             rcases hws with ⟨y1, y2⟩ | ⟨y1, y2⟩ | ⟨y1, y2⟩
             · exact Or.inr (Or.inl ⟨by omega, by rw [← y2, show mp (22 + d) + 1 = w by omega, e9]⟩)
             · exact Or.inr (Or.inr ⟨by omega, by rw [← y2, show mp (22 + d) + -1 = w by omega, e9]⟩)
             · omega)
          | (have k9 : bs ≤ spr mp (plr (up mp (22 + d) w)) := c_153
             have e9 : ev1 mp d w S = S := if_neg (fun z => by have := z.2.2; omega)
             refine ih _ (by omega) (w + -2) S bd bw bs h_137 w _ rfl (by omega) ?_ hS hbw hbr (fun x hx => by rw [f_137 x (by omega), hr_n (by omega)]; exact hf x hx) t_137 l_137 k_137
             rcases hws with ⟨y1, y2⟩ | ⟨y1, y2⟩ | ⟨y1, y2⟩
             · exact Or.inr (Or.inl ⟨by omega, by rw [← y2, show mp (22 + d) + 1 = w by omega, e9]⟩)
             · exact Or.inr (Or.inr ⟨by omega, by rw [← y2, show mp (22 + d) + -1 = w by omega, e9]⟩)
             · omega)
          | (have k9 : spr mp (plr (up mp (22 + d) w)) < bs := by omega
             have e9 : ev1 mp d w S = (spr mp (plr (up mp (22 + d) w)), d, w) := if_pos ⟨c_108, by omega, by omega⟩
             refine ih _ (by omega) (w + -2) (spr mp (plr (up mp (22 + d) w)), d, w) d w (spr mp (plr (up mp (22 + d) w))) h_137 w _ rfl (by omega) ?_ ⟨rfl, rfl⟩ (fun _ => rfl) (by omega) (fun x hx => by rw [f_137 x (by omega), hr_n (by omega)]; exact hf x hx) t_137 l_137 k_137
             rcases hws with ⟨y1, y2⟩ | ⟨y1, y2⟩ | ⟨y1, y2⟩
             · exact Or.inr (Or.inl ⟨by omega, by rw [← y2, show mp (22 + d) + 1 = w by omega, e9]⟩)
             · exact Or.inr (Or.inr ⟨by omega, by rw [← y2, show mp (22 + d) + -1 = w by omega, e9]⟩)
             · omega)
        · refine r_iload_7 (pc := 92) dX7_even_92 ?_
          refine r_bipush (pc := 94) dX7_even_94 (by decide) ?_
          refine r_icmp_gt (pc := 96) (tgt := 166) dX7_even_96 (by decide) (by omega) (by omega) (fun c_96 => ?_) (fun c_96 => ?_)
          · refine r_iinc_7 (pc := 166) dX7_even_166 rfl ?_
            refine r_goto (pc := 169) (tgt := 77) dX7_even_169 (by decide) ?_
            first
            | (have k9 : ¬ (1 ≤ w ∧ w ≤ 40) := by omega
               have e9 : ev1 mp d w S = S := if_neg (fun z => k9 z.2.1)
               refine ih _ (by omega) (w + -2) S bd bw bs hk v _ rfl hv ?_ hS hbw hbr hf TR RL hk3
               rcases hws with ⟨y1, y2⟩ | ⟨y1, y2⟩ | ⟨y1, y2⟩
               · exact Or.inr (Or.inl ⟨by omega, by rw [← y2, show mp (22 + d) + 1 = w by omega, e9]⟩)
               · exact Or.inr (Or.inr ⟨by omega, by rw [← y2, show mp (22 + d) + -1 = w by omega, e9]⟩)
               · omega)
            | (have k9 : ¬ tp mp d = true := c_108
               have e9 : ev1 mp d w S = S := if_neg (fun z => k9 z.1)
               refine ih _ (by omega) (w + -2) S bd bw bs hk v _ rfl hv ?_ hS hbw hbr hf TR RL hk3
               rcases hws with ⟨y1, y2⟩ | ⟨y1, y2⟩ | ⟨y1, y2⟩
               · exact Or.inr (Or.inl ⟨by omega, by rw [← y2, show mp (22 + d) + 1 = w by omega, e9]⟩)
               · exact Or.inr (Or.inr ⟨by omega, by rw [← y2, show mp (22 + d) + -1 = w by omega, e9]⟩)
               · omega)
            | (have k9 : bs ≤ spr mp (plr (up mp (22 + d) w)) := c_153
               have e9 : ev1 mp d w S = S := if_neg (fun z => by have := z.2.2; omega)
               refine ih _ (by omega) (w + -2) S bd bw bs h_137 w _ rfl (by omega) ?_ hS hbw hbr (fun x hx => by rw [f_137 x (by omega), hr_n (by omega)]; exact hf x hx) t_137 l_137 k_137
               rcases hws with ⟨y1, y2⟩ | ⟨y1, y2⟩ | ⟨y1, y2⟩
               · exact Or.inr (Or.inl ⟨by omega, by rw [← y2, show mp (22 + d) + 1 = w by omega, e9]⟩)
               · exact Or.inr (Or.inr ⟨by omega, by rw [← y2, show mp (22 + d) + -1 = w by omega, e9]⟩)
               · omega)
            | (have k9 : spr mp (plr (up mp (22 + d) w)) < bs := by omega
               have e9 : ev1 mp d w S = (spr mp (plr (up mp (22 + d) w)), d, w) := if_pos ⟨c_108, by omega, by omega⟩
               refine ih _ (by omega) (w + -2) (spr mp (plr (up mp (22 + d) w)), d, w) d w (spr mp (plr (up mp (22 + d) w))) h_137 w _ rfl (by omega) ?_ ⟨rfl, rfl⟩ (fun _ => rfl) (by omega) (fun x hx => by rw [f_137 x (by omega), hr_n (by omega)]; exact hf x hx) t_137 l_137 k_137
               rcases hws with ⟨y1, y2⟩ | ⟨y1, y2⟩ | ⟨y1, y2⟩
               · exact Or.inr (Or.inl ⟨by omega, by rw [← y2, show mp (22 + d) + 1 = w by omega, e9]⟩)
               · exact Or.inr (Or.inr ⟨by omega, by rw [← y2, show mp (22 + d) + -1 = w by omega, e9]⟩)
               · omega)
          · refine r_aload_0 (pc := 99) dX7_even_99 ?_
            refine gf_X7_51 (pc := 100) rfl (by assumption) dX7_even_100 (by assumption) ?_
            refine r_iload_5 (pc := 103) dX7_even_103 ?_
            refine k_VI1 (pc := 105) c_X3_takesPart lk_X7_281 ⟨Nat.le_of_ble_eq_true rfl, Nat.le_of_ble_eq_true rfl⟩ ⟨rfl, rfl⟩ ⟨Nat.le_of_ble_eq_true rfl, Nat.le_of_ble_eq_true rfl⟩ (k := 3) rfl (by decide) (by assumption) dX7_even_105 (Nat.le_of_ble_eq_true rfl) ?_
            refine ⟨_, mp, _, rfl, hA, hT, hR, NK, LK, by omega, ?_⟩
            refine r_ifne_b (pc := 108) (tgt := 114) dX7_even_108 (by decide) (fun c_108 => ?_) (fun c_108 => ?_)
            · refine r_aload_0 (pc := 114) dX7_even_114 ?_
              refine gf_X7_30 (pc := 115) rfl (by assumption) dX7_even_115 (by assumption) ?_
              refine gf_X7_84 (pc := 118) rfl (by assumption) dX7_even_118 (by assumption) ?_
              refine gf_X7_100 (pc := 121) rfl (by assumption) dX7_even_121 (by assumption) ?_
              refine r_iload_5 (pc := 124) dX7_even_124 ?_
              refine r_iload_7 (pc := 126) dX7_even_126 ?_
              refine r_iastE (pc := 128) (by assumption) rfl dX7_even_128 (by omega) (by omega) (by omega) ?_
              have TM := TrM_w (w := w) hT hd (by omega)
              have RM := RlM_w (w := w) hR (d := d) (by omega)
              have T1 := PTr_w (w := w) TV TR (d := d) (by rw [up_n (by omega)]; omega)
              have L1 := PRl_w (w := w) (f := up (hk (c + 7 + 3)) d w) TV RV RL (d := d) (by omega)
              rw [up_up] at T1 L1
              have SK1 : StK (hr hk (c + 7 + 3) (up (hk (c + 7 + 3)) d w) (c + 4 + 1)) := by rw [hr_n (by omega)]; exact hk3
              refine r_aload_0 (pc := 129) dX7_even_129 ?_
              refine gf_X7_30 (pc := 130) rfl (by assumption) dX7_even_130 (by assumption) ?_
              refine r_aload_0 (pc := 133) dX7_even_133 ?_
              refine gf_X7_19 (pc := 134) rfl (by assumption) dX7_even_134 (by assumption) ?_
              refine k_VV1 (pc := 137) c_X3_settleAll lk_X7_74 ⟨Nat.le_of_ble_eq_true rfl, Nat.le_of_ble_eq_true rfl⟩ ⟨rfl, rfl⟩ ⟨Nat.le_of_ble_eq_true rfl, Nat.le_of_ble_eq_true rfl⟩ (k := 3) rfl (by decide) (by assumption) dX7_even_137 (Nat.le_of_ble_eq_true rfl) ?_
              refine ⟨_, up mp (22 + d) w, _, rfl, cP, cS, by omega, TM, RM, T1, L1, SK1, fun h_137 f_137 t_137 w_137 l_137 s_137 k_137 => ?_⟩
              refine r_aload_0 (pc := 140) dX7_even_140 ?_
              refine gf_X7_30 (pc := 141) rfl (by assumption) dX7_even_141 (by assumption) ?_
              refine k_VI0 (pc := 144) c_X3_spreadOfPairs lk_X7_262 ⟨Nat.le_of_ble_eq_true rfl, Nat.le_of_ble_eq_true rfl⟩ ⟨rfl, rfl⟩ ⟨Nat.le_of_ble_eq_true rfl, Nat.le_of_ble_eq_true rfl⟩ (k := 3) rfl (by decide) (by assumption) dX7_even_144 (Nat.le_of_ble_eq_true rfl) ?_
              refine ⟨_, up mp (22 + d) w, plr (up mp (22 + d) w), rfl, cP, TM, RM, t_137, l_137, FdI_plr TM RM, s_137.2.2.1, ?_⟩
              have tpd := (tp_iff.mp c_108).1
              rw [spr_w (by omega) ⟨tpd, by omega⟩ hT]
              refine r_istore_8 (pc := 147) dX7_even_147 rfl ?_
              refine r_iload_8 (pc := 149) dX7_even_149 ?_
              refine r_iload_4 (pc := 151) dX7_even_151 ?_
              refine r_icmp_ge (pc := 153) (tgt := 166) dX7_even_153 (by decide) (by omega) (by omega) (fun c_153 => ?_) (fun c_153 => ?_)
              · refine r_iinc_7 (pc := 166) dX7_even_166 rfl ?_
                refine r_goto (pc := 169) (tgt := 77) dX7_even_169 (by decide) ?_
                first
                | (have k9 : ¬ (1 ≤ w ∧ w ≤ 40) := by omega
                   have e9 : ev1 mp d w S = S := if_neg (fun z => k9 z.2.1)
                   refine ih _ (by omega) (w + -2) S bd bw bs hk v _ rfl hv ?_ hS hbw hbr hf TR RL hk3
                   rcases hws with ⟨y1, y2⟩ | ⟨y1, y2⟩ | ⟨y1, y2⟩
                   · exact Or.inr (Or.inl ⟨by omega, by rw [← y2, show mp (22 + d) + 1 = w by omega, e9]⟩)
                   · exact Or.inr (Or.inr ⟨by omega, by rw [← y2, show mp (22 + d) + -1 = w by omega, e9]⟩)
                   · omega)
                | (have k9 : ¬ tp mp d = true := c_108
                   have e9 : ev1 mp d w S = S := if_neg (fun z => k9 z.1)
                   refine ih _ (by omega) (w + -2) S bd bw bs hk v _ rfl hv ?_ hS hbw hbr hf TR RL hk3
                   rcases hws with ⟨y1, y2⟩ | ⟨y1, y2⟩ | ⟨y1, y2⟩
                   · exact Or.inr (Or.inl ⟨by omega, by rw [← y2, show mp (22 + d) + 1 = w by omega, e9]⟩)
                   · exact Or.inr (Or.inr ⟨by omega, by rw [← y2, show mp (22 + d) + -1 = w by omega, e9]⟩)
                   · omega)
                | (have k9 : bs ≤ spr mp (plr (up mp (22 + d) w)) := c_153
                   have e9 : ev1 mp d w S = S := if_neg (fun z => by have := z.2.2; omega)
                   refine ih _ (by omega) (w + -2) S bd bw bs h_137 w _ rfl (by omega) ?_ hS hbw hbr (fun x hx => by rw [f_137 x (by omega), hr_n (by omega)]; exact hf x hx) t_137 l_137 k_137
                   rcases hws with ⟨y1, y2⟩ | ⟨y1, y2⟩ | ⟨y1, y2⟩
                   · exact Or.inr (Or.inl ⟨by omega, by rw [← y2, show mp (22 + d) + 1 = w by omega, e9]⟩)
                   · exact Or.inr (Or.inr ⟨by omega, by rw [← y2, show mp (22 + d) + -1 = w by omega, e9]⟩)
                   · omega)
                | (have k9 : spr mp (plr (up mp (22 + d) w)) < bs := by omega
                   have e9 : ev1 mp d w S = (spr mp (plr (up mp (22 + d) w)), d, w) := if_pos ⟨c_108, by omega, by omega⟩
                   refine ih _ (by omega) (w + -2) (spr mp (plr (up mp (22 + d) w)), d, w) d w (spr mp (plr (up mp (22 + d) w))) h_137 w _ rfl (by omega) ?_ ⟨rfl, rfl⟩ (fun _ => rfl) (by omega) (fun x hx => by rw [f_137 x (by omega), hr_n (by omega)]; exact hf x hx) t_137 l_137 k_137
                   rcases hws with ⟨y1, y2⟩ | ⟨y1, y2⟩ | ⟨y1, y2⟩
                   · exact Or.inr (Or.inl ⟨by omega, by rw [← y2, show mp (22 + d) + 1 = w by omega, e9]⟩)
                   · exact Or.inr (Or.inr ⟨by omega, by rw [← y2, show mp (22 + d) + -1 = w by omega, e9]⟩)
                   · omega)
              · refine r_iload_5 (pc := 156) dX7_even_156 ?_
                refine r_istore_2 (pc := 158) dX7_even_158 rfl ?_
                refine r_iload_7 (pc := 159) dX7_even_159 ?_
                refine r_istore_3 (pc := 161) dX7_even_161 rfl ?_
                refine r_iload_8 (pc := 162) dX7_even_162 ?_
                refine r_istore_4 (pc := 164) dX7_even_164 rfl ?_
                refine r_iinc_7 (pc := 166) dX7_even_166 rfl ?_
                refine r_goto (pc := 169) (tgt := 77) dX7_even_169 (by decide) ?_
                first
                | (have k9 : ¬ (1 ≤ w ∧ w ≤ 40) := by omega
                   have e9 : ev1 mp d w S = S := if_neg (fun z => k9 z.2.1)
                   refine ih _ (by omega) (w + -2) S bd bw bs hk v _ rfl hv ?_ hS hbw hbr hf TR RL hk3
                   rcases hws with ⟨y1, y2⟩ | ⟨y1, y2⟩ | ⟨y1, y2⟩
                   · exact Or.inr (Or.inl ⟨by omega, by rw [← y2, show mp (22 + d) + 1 = w by omega, e9]⟩)
                   · exact Or.inr (Or.inr ⟨by omega, by rw [← y2, show mp (22 + d) + -1 = w by omega, e9]⟩)
                   · omega)
                | (have k9 : ¬ tp mp d = true := c_108
                   have e9 : ev1 mp d w S = S := if_neg (fun z => k9 z.1)
                   refine ih _ (by omega) (w + -2) S bd bw bs hk v _ rfl hv ?_ hS hbw hbr hf TR RL hk3
                   rcases hws with ⟨y1, y2⟩ | ⟨y1, y2⟩ | ⟨y1, y2⟩
                   · exact Or.inr (Or.inl ⟨by omega, by rw [← y2, show mp (22 + d) + 1 = w by omega, e9]⟩)
                   · exact Or.inr (Or.inr ⟨by omega, by rw [← y2, show mp (22 + d) + -1 = w by omega, e9]⟩)
                   · omega)
                | (have k9 : bs ≤ spr mp (plr (up mp (22 + d) w)) := c_153
                   have e9 : ev1 mp d w S = S := if_neg (fun z => by have := z.2.2; omega)
                   refine ih _ (by omega) (w + -2) S bd bw bs h_137 w _ rfl (by omega) ?_ hS hbw hbr (fun x hx => by rw [f_137 x (by omega), hr_n (by omega)]; exact hf x hx) t_137 l_137 k_137
                   rcases hws with ⟨y1, y2⟩ | ⟨y1, y2⟩ | ⟨y1, y2⟩
                   · exact Or.inr (Or.inl ⟨by omega, by rw [← y2, show mp (22 + d) + 1 = w by omega, e9]⟩)
                   · exact Or.inr (Or.inr ⟨by omega, by rw [← y2, show mp (22 + d) + -1 = w by omega, e9]⟩)
                   · omega)
                | (have k9 : spr mp (plr (up mp (22 + d) w)) < bs := by omega
                   have e9 : ev1 mp d w S = (spr mp (plr (up mp (22 + d) w)), d, w) := if_pos ⟨c_108, by omega, by omega⟩
                   refine ih _ (by omega) (w + -2) (spr mp (plr (up mp (22 + d) w)), d, w) d w (spr mp (plr (up mp (22 + d) w))) h_137 w _ rfl (by omega) ?_ ⟨rfl, rfl⟩ (fun _ => rfl) (by omega) (fun x hx => by rw [f_137 x (by omega), hr_n (by omega)]; exact hf x hx) t_137 l_137 k_137
                   rcases hws with ⟨y1, y2⟩ | ⟨y1, y2⟩ | ⟨y1, y2⟩
                   · exact Or.inr (Or.inl ⟨by omega, by rw [← y2, show mp (22 + d) + 1 = w by omega, e9]⟩)
                   · exact Or.inr (Or.inr ⟨by omega, by rw [← y2, show mp (22 + d) + -1 = w by omega, e9]⟩)
                   · omega)
            · refine r_goto (pc := 111) (tgt := 166) dX7_even_111 (by decide) ?_
              refine r_iinc_7 (pc := 166) dX7_even_166 rfl ?_
              refine r_goto (pc := 169) (tgt := 77) dX7_even_169 (by decide) ?_
              first
              | (have k9 : ¬ (1 ≤ w ∧ w ≤ 40) := by omega
                 have e9 : ev1 mp d w S = S := if_neg (fun z => k9 z.2.1)
                 refine ih _ (by omega) (w + -2) S bd bw bs hk v _ rfl hv ?_ hS hbw hbr hf TR RL hk3
                 rcases hws with ⟨y1, y2⟩ | ⟨y1, y2⟩ | ⟨y1, y2⟩
                 · exact Or.inr (Or.inl ⟨by omega, by rw [← y2, show mp (22 + d) + 1 = w by omega, e9]⟩)
                 · exact Or.inr (Or.inr ⟨by omega, by rw [← y2, show mp (22 + d) + -1 = w by omega, e9]⟩)
                 · omega)
              | (have k9 : ¬ tp mp d = true := c_108
                 have e9 : ev1 mp d w S = S := if_neg (fun z => k9 z.1)
                 refine ih _ (by omega) (w + -2) S bd bw bs hk v _ rfl hv ?_ hS hbw hbr hf TR RL hk3
                 rcases hws with ⟨y1, y2⟩ | ⟨y1, y2⟩ | ⟨y1, y2⟩
                 · exact Or.inr (Or.inl ⟨by omega, by rw [← y2, show mp (22 + d) + 1 = w by omega, e9]⟩)
                 · exact Or.inr (Or.inr ⟨by omega, by rw [← y2, show mp (22 + d) + -1 = w by omega, e9]⟩)
                 · omega)
              | (have k9 : bs ≤ spr mp (plr (up mp (22 + d) w)) := c_153
                 have e9 : ev1 mp d w S = S := if_neg (fun z => by have := z.2.2; omega)
                 refine ih _ (by omega) (w + -2) S bd bw bs h_137 w _ rfl (by omega) ?_ hS hbw hbr (fun x hx => by rw [f_137 x (by omega), hr_n (by omega)]; exact hf x hx) t_137 l_137 k_137
                 rcases hws with ⟨y1, y2⟩ | ⟨y1, y2⟩ | ⟨y1, y2⟩
                 · exact Or.inr (Or.inl ⟨by omega, by rw [← y2, show mp (22 + d) + 1 = w by omega, e9]⟩)
                 · exact Or.inr (Or.inr ⟨by omega, by rw [← y2, show mp (22 + d) + -1 = w by omega, e9]⟩)
                 · omega)
              | (have k9 : spr mp (plr (up mp (22 + d) w)) < bs := by omega
                 have e9 : ev1 mp d w S = (spr mp (plr (up mp (22 + d) w)), d, w) := if_pos ⟨c_108, by omega, by omega⟩
                 refine ih _ (by omega) (w + -2) (spr mp (plr (up mp (22 + d) w)), d, w) d w (spr mp (plr (up mp (22 + d) w))) h_137 w _ rfl (by omega) ?_ ⟨rfl, rfl⟩ (fun _ => rfl) (by omega) (fun x hx => by rw [f_137 x (by omega), hr_n (by omega)]; exact hf x hx) t_137 l_137 k_137
                 rcases hws with ⟨y1, y2⟩ | ⟨y1, y2⟩ | ⟨y1, y2⟩
                 · exact Or.inr (Or.inl ⟨by omega, by rw [← y2, show mp (22 + d) + 1 = w by omega, e9]⟩)
                 · exact Or.inr (Or.inr ⟨by omega, by rw [← y2, show mp (22 + d) + -1 = w by omega, e9]⟩)
                 · omega)
  have lp : ∀ (s0 : Int) (hs0 : s0 = spr mp F) (hp : 0 ≤ p ∧ p ≤ 2) (n_ : Nat) (d : Int) (S : Int × Int × Int) (bd : Int) (bw : Int) (bs : Int) (hk : HpT) (x6 : Option Value) (x7 : Option Value) (x8 : Option Value), (22 - d).toNat = n_ → (10 ≤ d ∧ d ≤ 10 + mp 130) → (S = (evk mp s0 (d - 10).toNat) ∧ bs = S.1 ∧ bd = S.2.1) → (bd ≠ -4 → bw = S.2.2) → ((-17 ≤ bs ∧ bs ≤ 16) ∧ (bd = -4 ∨ (10 ≤ bd ∧ bd < 22))) → (Fr h hk (fun x => (c + 7 ≤ x ∧ x < c + 21) ∨ x = c + 5)) → (PTr hk (c + 7) mp) → (PRl hk (c + 7) mp) → (StK (hk (c + 4 + 1))) → St E mX7_even 41 [some (.ref c), some (vI p), some (vI bd), some (vI bw), some (vI bs), some (vI d), x6, x7, x8] [] (0, 0) N lay r hk := by
    intro s0 hs0 hp n_
    induction n_ using Nat.strongRecOn with
    | ind n_ ih =>
      intro d S bd bw bs hk x6 x7 x8 hn_ hd hS hbw hbr hf TR RL hk3
      obtain ⟨k, rfl⟩ : ∃ k : Nat, d = 10 + k := ⟨(d - 10).toNat, by omega⟩
      rw [show (10 + (k : Int) - 10).toNat = k by omega] at hS
      have en : hk (q 0 + 1) 2 = mp 130 := by rw [hf _ (by omega)]; exact n2
      have e1 : evk mp s0 (k + 1) = ev1 mp (10 + (k : Int)) (mp (22 + (10 + (k : Int))) + -1) (ev1 mp (10 + (k : Int)) (mp (22 + (10 + (k : Int))) + 1) (evk mp s0 k)) := rfl
      refine r_iload_5 (pc := 41) dX7_even_41 ?_
      refine r_aload_0 (pc := 43) dX7_even_43 ?_
      refine gf_X7_51 (pc := 44) rfl (by assumption) dX7_even_44 (by assumption) ?_
      refine gf_X7_84 (pc := 47) rfl (by assumption) dX7_even_47 (by assumption) ?_
      refine k_VI0 (pc := 50) c_X6_endOfDisks lk_X7_151 ⟨Nat.le_of_ble_eq_true rfl, Nat.le_of_ble_eq_true rfl⟩ ⟨rfl, rfl⟩ ⟨Nat.le_of_ble_eq_true rfl, Nat.le_of_ble_eq_true rfl⟩ (k := 6) rfl (by decide) (by assumption) dX7_even_50 (Nat.le_of_ble_eq_true rfl) ?_
      refine ⟨_, _, rfl, by assumption, fun i_50 => ?_⟩
      refine r_icmp_ge (pc := 53) (tgt := 193) dX7_even_53 (by decide) (by omega) (by omega) (fun c_53 => ?_) (fun c_53 => ?_)
      · refine r_iload_2 (pc := 193) dX7_even_193 ?_
        refine r_bipush (pc := 194) dX7_even_194 (by decide) ?_
        refine r_icmp_ne (pc := 196) (tgt := 202) dX7_even_196 (by decide) (by omega) (by omega) (fun c_196 => ?_) (fun c_196 => ?_)
        · refine r_iload_1 (pc := 202) dX7_even_202 ?_
          refine r_if_ne (pc := 203) (tgt := 210) dX7_even_203 (by decide) (by omega) (fun c_203 => ?_) (fun c_203 => ?_)
          · refine r_iload_1 (pc := 210) dX7_even_210 ?_
            refine r_iconst (pc := 211) dX7_even_211 ?_
            refine r_icmp_ne (pc := 212) (tgt := 219) dX7_even_212 (by decide) (by omega) (by omega) (fun c_212 => ?_) (fun c_212 => ?_)
            · refine r_iload_4 (pc := 219) dX7_even_219 ?_
              refine r_iret (pc := 221) hret dX7_even_221 rfl rfl rfl ?_
              have k9 : (mp 130).toNat = k := by omega
              have q9 := hQ hp hk (fun x hx => hf x (by omega)) (hI.t (fun x x0 x1 hx => hf x (by omega)) (by rw [hf _ (by omega)]) hk3)
              rw [k9, ← hs0, ← hS.1] at q9
              obtain ⟨z1, z2, z3⟩ := hS
              first
              | (have k8 : bd = -4 := by omega
                 exact q9.1 (by omega))
              | (have k8 : p = 0 := by omega
                 have y9 := (q9.2 (by omega)).1 k8
                 rw [← z3] at y9; exact y9)
              | (have k8 : p = 1 := by omega
                 have y9 := (q9.2 (by omega)).2.1 k8
                 rw [← hbw (by omega)] at y9; exact y9)
              | (have k8 : p = 2 := by omega
                 have y9 := (q9.2 (by omega)).2.2 k8
                 rw [← z2] at y9; exact y9)
            · refine r_iload_3 (pc := 215) dX7_even_215 ?_
              refine r_goto (pc := 216) (tgt := 221) dX7_even_216 (by decide) ?_
              refine r_iret (pc := 221) hret dX7_even_221 rfl rfl rfl ?_
              have k9 : (mp 130).toNat = k := by omega
              have q9 := hQ hp hk (fun x hx => hf x (by omega)) (hI.t (fun x x0 x1 hx => hf x (by omega)) (by rw [hf _ (by omega)]) hk3)
              rw [k9, ← hs0, ← hS.1] at q9
              obtain ⟨z1, z2, z3⟩ := hS
              first
              | (have k8 : bd = -4 := by omega
                 exact q9.1 (by omega))
              | (have k8 : p = 0 := by omega
                 have y9 := (q9.2 (by omega)).1 k8
                 rw [← z3] at y9; exact y9)
              | (have k8 : p = 1 := by omega
                 have y9 := (q9.2 (by omega)).2.1 k8
                 rw [← hbw (by omega)] at y9; exact y9)
              | (have k8 : p = 2 := by omega
                 have y9 := (q9.2 (by omega)).2.2 k8
                 rw [← z2] at y9; exact y9)
          · refine r_iload_2 (pc := 206) dX7_even_206 ?_
            refine r_goto (pc := 207) (tgt := 221) dX7_even_207 (by decide) ?_
            refine r_iret (pc := 221) hret dX7_even_221 rfl rfl rfl ?_
            have k9 : (mp 130).toNat = k := by omega
            have q9 := hQ hp hk (fun x hx => hf x (by omega)) (hI.t (fun x x0 x1 hx => hf x (by omega)) (by rw [hf _ (by omega)]) hk3)
            rw [k9, ← hs0, ← hS.1] at q9
            obtain ⟨z1, z2, z3⟩ := hS
            first
            | (have k8 : bd = -4 := by omega
               exact q9.1 (by omega))
            | (have k8 : p = 0 := by omega
               have y9 := (q9.2 (by omega)).1 k8
               rw [← z3] at y9; exact y9)
            | (have k8 : p = 1 := by omega
               have y9 := (q9.2 (by omega)).2.1 k8
               rw [← hbw (by omega)] at y9; exact y9)
            | (have k8 : p = 2 := by omega
               have y9 := (q9.2 (by omega)).2.2 k8
               rw [← z2] at y9; exact y9)
        · refine r_bipush (pc := 199) dX7_even_199 (by decide) ?_
          refine r_iret (pc := 201) hret dX7_even_201 rfl rfl rfl ?_
          have k9 : (mp 130).toNat = k := by omega
          have q9 := hQ hp hk (fun x hx => hf x (by omega)) (hI.t (fun x x0 x1 hx => hf x (by omega)) (by rw [hf _ (by omega)]) hk3)
          rw [k9, ← hs0, ← hS.1] at q9
          obtain ⟨z1, z2, z3⟩ := hS
          first
          | (have k8 : bd = -4 := by omega
             exact q9.1 (by omega))
          | (have k8 : p = 0 := by omega
             have y9 := (q9.2 (by omega)).1 k8
             rw [← z3] at y9; exact y9)
          | (have k8 : p = 1 := by omega
             have y9 := (q9.2 (by omega)).2.1 k8
             rw [← hbw (by omega)] at y9; exact y9)
          | (have k8 : p = 2 := by omega
             have y9 := (q9.2 (by omega)).2.2 k8
             rw [← z2] at y9; exact y9)
      · refine r_aload_0 (pc := 56) dX7_even_56 ?_
        refine gf_X7_51 (pc := 57) rfl (by assumption) dX7_even_57 (by assumption) ?_
        refine gf_X7_84 (pc := 60) rfl (by assumption) dX7_even_60 (by assumption) ?_
        refine gf_X7_100 (pc := 63) rfl (by assumption) dX7_even_63 (by assumption) ?_
        refine r_iload_5 (pc := 66) dX7_even_66 ?_
        refine r_ialdE (pc := 68) (by assumption) (hf _ (by omega)) dX7_even_68 (by omega) (by omega) (fun i_68 => ?_)
        rw [uw _ (by omega) (by omega)] at i_68 ⊢
        refine r_istore_6 (pc := 69) dX7_even_69 rfl ?_
        refine r_iload_6 (pc := 71) dX7_even_71 ?_
        refine r_iconst (pc := 73) dX7_even_73 ?_
        refine r_iadd (pc := 74) dX7_even_74 ?_
        refine r_istore_7 (pc := 75) dX7_even_75 rfl ?_
        have q7 := t7 (10 + (k : Int)) (by omega) (by omega)
        refine inn (10 + (k : Int)) s0 (by omega) (fun S2 bd2 bw2 bs2 w2 hk2 y8 g1 g2 g3 g4 g5 g6 g7 g8 => ?_) _ (mp (22 + (10 + (k : Int))) + 1) S bd bw bs hk (mp (22 + (10 + (k : Int)))) _ rfl q7 (Or.inl ⟨rfl, by rw [show (10 + (k : Int) - 10).toNat = k by omega]; exact hS.1⟩) hS.2 hbw hbr hf (by rw [up_id]; exact TR) (by rw [up_id]; exact RL) hk3
        refine r_iinc_5 (pc := 187) dX7_even_187 rfl ?_
        refine r_goto (pc := 190) (tgt := 41) dX7_even_190 (by decide) ?_
        rw [show (10 + (k : Int) - 10).toNat = k by omega] at g1
        exact ih _ (by omega) (10 + (k : Int) + 1) S2 _ _ _ hk2 _ _ _ rfl (by omega) ⟨by rw [show (10 + (k : Int) + 1 - 10).toNat = k + 1 by omega, e1]; exact g1, g2⟩ g3 g4 g5 g6 g7 g8
  refine r_iload_1 (pc := 0) dX7_even_0 ?_
  refine r_if_lt (pc := 1) (tgt := 9) dX7_even_1 (by decide) (by omega) (fun c_1 => ?_) (fun c_1 => ?_)
  · refine r_iconst (pc := 9) dX7_even_9 ?_
    refine r_iret (pc := 10) hret dX7_even_10 rfl rfl rfl ?_
    exact hB (by omega)
  · refine r_iload_1 (pc := 4) dX7_even_4 ?_
    refine r_iconst (pc := 5) dX7_even_5 ?_
    refine r_icmp_le (pc := 6) (tgt := 11) dX7_even_6 (by decide) (by omega) (by omega) (fun c_6 => ?_) (fun c_6 => ?_)
    · refine r_bipush (pc := 11) dX7_even_11 (by decide) ?_
      refine r_istore_2 (pc := 13) dX7_even_13 rfl ?_
      refine r_bipush (pc := 14) dX7_even_14 (by decide) ?_
      refine r_istore_3 (pc := 16) dX7_even_16 rfl ?_
      refine r_aload_0 (pc := 17) dX7_even_17 ?_
      refine gf_X7_51 (pc := 18) rfl (by assumption) dX7_even_18 (by assumption) ?_
      refine k_VI0 (pc := 21) c_X3_spreadOfPairs lk_X7_262 ⟨Nat.le_of_ble_eq_true rfl, Nat.le_of_ble_eq_true rfl⟩ ⟨rfl, rfl⟩ ⟨Nat.le_of_ble_eq_true rfl, Nat.le_of_ble_eq_true rfl⟩ (k := 3) rfl (by decide) (by assumption) dX7_even_21 (Nat.le_of_ble_eq_true rfl) ?_
      refine ⟨_, mp, F, rfl, hA, hT, hR, hN, hL, hFI, hp2, ?_⟩
      refine r_istore_4 (pc := 24) dX7_even_24 rfl ?_
      refine r_aload_0 (pc := 26) dX7_even_26 ?_
      refine gf_X7_30 (pc := 27) rfl (by assumption) dX7_even_27 (by assumption) ?_
      refine r_aload_0 (pc := 30) dX7_even_30 ?_
      refine gf_X7_51 (pc := 31) rfl (by assumption) dX7_even_31 (by assumption) ?_
      refine k_VV1 (pc := 34) c_X3_copyFrom lk_X7_275 ⟨Nat.le_of_ble_eq_true rfl, Nat.le_of_ble_eq_true rfl⟩ ⟨rfl, rfl⟩ ⟨Nat.le_of_ble_eq_true rfl, Nat.le_of_ble_eq_true rfl⟩ (k := 3) rfl (by decide) (by assumption) dX7_even_34 (Nat.le_of_ble_eq_true rfl) ?_
      refine ⟨_, _, rfl, cP, hA, (by omega), fun h_34 f_34 a_34 => ?_⟩
      have T0 : PTr h_34 (c + 7) mp := a_34.tr hT hN
      have L0 : PRl h_34 (c + 7) mp := a_34.rl hT hR hL
      refine r_bipush (pc := 37) dX7_even_37 (by decide) ?_
      refine r_istore_5 (pc := 39) dX7_even_39 rfl ?_
      have sr9 := spr_r17 mp F
      exact lp (spr mp F) rfl (by omega) _ 10 (spr mp F, -4, 0) (-4) (-4) (spr mp F) h_34 none none none rfl (by omega) ⟨rfl, rfl, rfl⟩ (fun z => absurd rfl z) ⟨by omega, Or.inl rfl⟩ (fun x hx => f_34 x (by omega)) T0 L0 (by rw [f_34 _ (by omega)]; exact hSK)
    · refine r_iconst (pc := 9) dX7_even_9 ?_
      refine r_iret (pc := 10) hret dX7_even_10 rfl rfl rfl ?_
      exact hB (by omega)

theorem dX7_storm_0 : decode cX7_storm 0 = .ok (.iload_n 1, 1) := by decide +kernel
theorem dX7_storm_1 : decode cX7_storm 1 = .ok (.ifCond .lt 30, 3) := by decide +kernel
theorem dX7_storm_4 : decode cX7_storm 4 = .ok (.iload_n 1, 1) := by decide +kernel
theorem dX7_storm_5 : decode cX7_storm 5 = .ok (.sipush 9999, 3) := by decide +kernel
theorem dX7_storm_8 : decode cX7_storm 8 = .ok (.if_icmp .gt 23, 3) := by decide +kernel
theorem dX7_storm_11 : decode cX7_storm 11 = .ok (.iload_n 2, 1) := by decide +kernel
theorem dX7_storm_12 : decode cX7_storm 12 = .ok (.iconst 1, 1) := by decide +kernel
theorem dX7_storm_13 : decode cX7_storm 13 = .ok (.if_icmp .lt 18, 3) := by decide +kernel
theorem dX7_storm_16 : decode cX7_storm 16 = .ok (.iload_n 2, 1) := by decide +kernel
theorem dX7_storm_17 : decode cX7_storm 17 = .ok (.bipush 30, 2) := by decide +kernel
theorem dX7_storm_19 : decode cX7_storm 19 = .ok (.if_icmp .gt 12, 3) := by decide +kernel
theorem dX7_storm_22 : decode cX7_storm 22 = .ok (.iload_n 3, 1) := by decide +kernel
theorem dX7_storm_23 : decode cX7_storm 23 = .ok (.ifCond .lt 8, 3) := by decide +kernel
theorem dX7_storm_26 : decode cX7_storm 26 = .ok (.iload_n 3, 1) := by decide +kernel
theorem dX7_storm_27 : decode cX7_storm 27 = .ok (.iconst 2, 1) := by decide +kernel
theorem dX7_storm_28 : decode cX7_storm 28 = .ok (.if_icmp .le 5, 3) := by decide +kernel
theorem dX7_storm_31 : decode cX7_storm 31 = .ok (.iconst (-1), 1) := by decide +kernel
theorem dX7_storm_32 : decode cX7_storm 32 = .ok (.ireturn, 1) := by decide +kernel
theorem dX7_storm_33 : decode cX7_storm 33 = .ok (.aload_n 0, 1) := by decide +kernel
theorem dX7_storm_34 : decode cX7_storm 34 = .ok (.getfield 41, 3) := by decide +kernel
theorem dX7_storm_37 : decode cX7_storm 37 = .ok (.aload_n 0, 1) := by decide +kernel
theorem dX7_storm_38 : decode cX7_storm 38 = .ok (.getfield 37, 3) := by decide +kernel
theorem dX7_storm_41 : decode cX7_storm 41 = .ok (.invokevirtual 300, 3) := by decide +kernel
theorem dX7_storm_44 : decode cX7_storm 44 = .ok (.iconst 0, 1) := by decide +kernel
theorem dX7_storm_45 : decode cX7_storm 45 = .ok (.istore 4, 2) := by decide +kernel
theorem dX7_storm_47 : decode cX7_storm 47 = .ok (.iconst 0, 1) := by decide +kernel
theorem dX7_storm_48 : decode cX7_storm 48 = .ok (.istore 5, 2) := by decide +kernel
theorem dX7_storm_50 : decode cX7_storm 50 = .ok (.iload 5, 2) := by decide +kernel
theorem dX7_storm_52 : decode cX7_storm 52 = .ok (.iload_n 2, 1) := by decide +kernel
theorem dX7_storm_53 : decode cX7_storm 53 = .ok (.if_icmp .ge 65, 3) := by decide +kernel
theorem dX7_storm_56 : decode cX7_storm 56 = .ok (.ldc2_w 303, 3) := by decide +kernel
theorem dX7_storm_59 : decode cX7_storm 59 = .ok (.iload_n 1, 1) := by decide +kernel
theorem dX7_storm_60 : decode cX7_storm 60 = .ok (.i2l, 1) := by decide +kernel
theorem dX7_storm_61 : decode cX7_storm 61 = .ok (.lmul, 1) := by decide +kernel
theorem dX7_storm_62 : decode cX7_storm 62 = .ok (.ldc2_w 305, 3) := by decide +kernel
theorem dX7_storm_65 : decode cX7_storm 65 = .ok (.iload 5, 2) := by decide +kernel
theorem dX7_storm_67 : decode cX7_storm 67 = .ok (.i2l, 1) := by decide +kernel
theorem dX7_storm_68 : decode cX7_storm 68 = .ok (.lmul, 1) := by decide +kernel
theorem dX7_storm_69 : decode cX7_storm 69 = .ok (.ladd, 1) := by decide +kernel
theorem dX7_storm_70 : decode cX7_storm 70 = .ok (.lconst 1, 1) := by decide +kernel
theorem dX7_storm_71 : decode cX7_storm 71 = .ok (.ladd, 1) := by decide +kernel
theorem dX7_storm_72 : decode cX7_storm 72 = .ok (.lstore 6, 2) := by decide +kernel
theorem dX7_storm_74 : decode cX7_storm 74 = .ok (.aload_n 0, 1) := by decide +kernel
theorem dX7_storm_75 : decode cX7_storm 75 = .ok (.getfield 41, 3) := by decide +kernel
theorem dX7_storm_78 : decode cX7_storm 78 = .ok (.aload_n 0, 1) := by decide +kernel
theorem dX7_storm_79 : decode cX7_storm 79 = .ok (.getfield 51, 3) := by decide +kernel
theorem dX7_storm_82 : decode cX7_storm 82 = .ok (.lload 6, 2) := by decide +kernel
theorem dX7_storm_84 : decode cX7_storm 84 = .ok (.lload 6, 2) := by decide +kernel
theorem dX7_storm_86 : decode cX7_storm 86 = .ok (.lmul, 1) := by decide +kernel
theorem dX7_storm_87 : decode cX7_storm 87 = .ok (.ldc2_w 307, 3) := by decide +kernel
theorem dX7_storm_90 : decode cX7_storm 90 = .ok (.lrem, 1) := by decide +kernel
theorem dX7_storm_91 : decode cX7_storm 91 = .ok (.l2i, 1) := by decide +kernel
theorem dX7_storm_92 : decode cX7_storm 92 = .ok (.invokevirtual 309, 3) := by decide +kernel
theorem dX7_storm_95 : decode cX7_storm 95 = .ok (.iload 4, 2) := by decide +kernel
theorem dX7_storm_97 : decode cX7_storm 97 = .ok (.aload_n 0, 1) := by decide +kernel
theorem dX7_storm_98 : decode cX7_storm 98 = .ok (.getfield 41, 3) := by decide +kernel
theorem dX7_storm_101 : decode cX7_storm 101 = .ok (.aload_n 0, 1) := by decide +kernel
theorem dX7_storm_102 : decode cX7_storm 102 = .ok (.getfield 51, 3) := by decide +kernel
theorem dX7_storm_105 : decode cX7_storm 105 = .ok (.iconst 2, 1) := by decide +kernel
theorem dX7_storm_106 : decode cX7_storm 106 = .ok (.invokevirtual 290, 3) := by decide +kernel
theorem dX7_storm_109 : decode cX7_storm 109 = .ok (.iadd, 1) := by decide +kernel
theorem dX7_storm_110 : decode cX7_storm 110 = .ok (.istore 4, 2) := by decide +kernel
theorem dX7_storm_112 : decode cX7_storm 112 = .ok (.iinc 5 1, 3) := by decide +kernel
theorem dX7_storm_115 : decode cX7_storm 115 = .ok (.goto (-65), 3) := by decide +kernel
theorem dX7_storm_118 : decode cX7_storm 118 = .ok (.iload_n 3, 1) := by decide +kernel
theorem dX7_storm_119 : decode cX7_storm 119 = .ok (.lookupswitch 36 #[(0, 25), (1, 33)], 25) := by decide +kernel
theorem dX7_storm_144 : decode cX7_storm 144 = .ok (.aload_n 0, 1) := by decide +kernel
theorem dX7_storm_145 : decode cX7_storm 145 = .ok (.getfield 41, 3) := by decide +kernel
theorem dX7_storm_148 : decode cX7_storm 148 = .ok (.invokevirtual 313, 3) := by decide +kernel
theorem dX7_storm_151 : decode cX7_storm 151 = .ok (.ireturn, 1) := by decide +kernel
theorem dX7_storm_152 : decode cX7_storm 152 = .ok (.iload 4, 2) := by decide +kernel
theorem dX7_storm_154 : decode cX7_storm 154 = .ok (.ireturn, 1) := by decide +kernel
theorem dX7_storm_155 : decode cX7_storm 155 = .ok (.aload_n 0, 1) := by decide +kernel
theorem dX7_storm_156 : decode cX7_storm 156 = .ok (.getfield 41, 3) := by decide +kernel
theorem dX7_storm_159 : decode cX7_storm 159 = .ok (.getfield 284, 3) := by decide +kernel
theorem dX7_storm_162 : decode cX7_storm 162 = .ok (.invokestatic 167, 3) := by decide +kernel
theorem dX7_storm_165 : decode cX7_storm 165 = .ok (.ireturn, 1) := by decide +kernel
set_option maxHeartbeats 4000000 in
set_option maxRecDepth 20000 in
theorem c_X7_storm : ConI mX7_storm (fun args N lay r h Q => ∃ (c : Nat) (q : Int → Nat) (n : Int) (tx : Int → Int) (ep : Int) (km : Int → Int → Int) (mp F : Int → Int) (ux : Int) (sz ho : Int → Int) (sn : Int) (row : Int → Int) (k m p : Int), args = [.ref c, vI k, vI m, vI p] ∧ CI lay r h c q n tx ep km mp F ux sz ho sn row ∧ (-2147483648 ≤ k ∧ k < 2147483648) ∧ (-2147483648 ≤ m ∧ m < 2147483648) ∧ (-2147483648 ≤ p ∧ p < 2147483648) ∧ (¬ ((0 ≤ k ∧ k ≤ 9999) ∧ (1 ≤ m ∧ m ≤ 30) ∧ (0 ≤ p ∧ p ≤ 2)) → Q (-1) N lay r h) ∧ (((0 ≤ k ∧ k ≤ 9999) ∧ (1 ≤ m ∧ m ≤ 30) ∧ (0 ≤ p ∧ p ≤ 2)) → ∀ h2, Fr h h2 (fun x => c ≤ x ∧ x < c + 101) → CI lay r h2 c q n tx ep km mp F ux sz ho sn row → (p = 0 → Q (sm (fun g => bI ((stm mp F sz ho ux k m.toNat).1 g = 0)) 16) N lay r h2) ∧ (p = 1 → Q (stm mp F sz ho ux k m.toNat).2.2 N lay r h2) ∧ (p = 2 → Q (bts (stm mp F sz ho ux k m.toNat).2.1) N lay r h2))) := by
  refine ConI.of (by decide) (by rintro _ N lay r h Q ⟨c, q, n, tx, ep, km, mp, F, ux, sz, ho, sn, row, k, m, p, rfl, hI, h_k, h_m, h_p, hB, hQ⟩; exact ⟨rfl, Nat.le_of_ble_eq_true rfl⟩) ?_
  rintro E _ N lay r h Q ⟨c, q, n, tx, ep, km, mp, F, ux, sz, ho, sn, row, k, m, p, rfl, hI, h_k, h_m, h_p, hB, hQ⟩ hret
  obtain ⟨hC, hLt, ⟨hCT, htx⟩, hSK, ⟨he8, hep⟩, hkm, ⟨hk0, h130⟩, hF0, ⟨hDa, hMk, hsz⟩, ⟨hOb, hSe⟩⟩ := id hI
  obtain ⟨cl0, cl6, ⟨cr0, cr1, cr2, cr3, cr4, cr5, cr6⟩, cT, cS, cP, cD, cE, cO⟩ := id hC
  obtain ⟨lr7, lr6, lpl, lrg, ldj⟩ := id hLt
  have hP0 := hkm 0 (by omega) (by omega) (by omega)
  rw [hk0] at hP0
  obtain ⟨hT, hR, hN, hW, hL, hPS⟩ := id hP0
  have hA := lpl 0 (by omega) (by omega)
  have q0r := lrg 0 (by omega) (by omega)
  obtain ⟨pl0, pl1, pl2, pl3, pl4, pl5, pl6, pl7, pl8, pl9, pl10, pl11, pl12, pl13, pr0, pr1, pr2, pr3, pr9, pr10, pr11, qr3, qr4, vr1, vr2, vr3, vr4⟩ := id hA
  obtain ⟨⟨n0, n1, n2⟩, up1, up2, uw, u0, uh⟩ := id hN
  obtain ⟨t1, t2, t3, t4, t5, t6, t7⟩ := id hT
  have hFI : FdI F := fun j j0 j1 => by rw [← hF0 j j0 j1]; exact FdI_plr hT hR j j0 j1
  have hp1 : ∀ j, 0 ≤ j → j < 64 → h (q 0 + 11) j = F j := fun j j0 j1 => (hPS.1 j j0 j1).trans (hF0 j j0 j1)
  have hp2 : ∀ g, 0 ≤ g → g < 16 → h (q 0 + 13) g = pb F g := fun g g0 g1 => (hPS.2.2.1 g g0 g1).trans (pb_c ⟨g0, g1⟩ hF0)
  obtain ⟨el0, el1, el2, er1, er2⟩ := id cE
  have dl0 : lay (c + 21) = (1, 0) := cD.1
  show St E mX7_storm 0 [some (.ref c), some (vI k), some (vI m), some (vI p), none, none, none, none] [] (0, 0) N lay r h
  have lp : ∀ (hk0_ : 0 ≤ k ∧ k ≤ 9999) (hm0_ : 1 ≤ m ∧ m ≤ 30) (hp : 0 ≤ p ∧ p ≤ 2) (n_ : Nat) (i : Int) (hs : Int → Int) (us : Int) (ct : Int) (hk : HpT) (x6 : Option Value) (x7 : Option Value), (30 - i).toNat = n_ → (0 ≤ i ∧ i ≤ m) → ((hs, us, ct) = stm mp F sz ho ux k i.toNat) → (0 ≤ ct ∧ ct ≤ 2 * i) → (Fr h hk (fun x => x = c + 24 ∨ x = c + 25 ∨ x = c + 26)) → (DaS hk (c + 24) us sz hs) → (MkI us hs) → St E mX7_storm 50 [some (.ref c), some (vI k), some (vI m), some (vI p), some (vI ct), some (vI i), x6, x7] [] (0, 0) N lay r hk := by
    intro hk0_ hm0_ hp n_
    induction n_ using Nat.strongRecOn with
    | ind n_ ih =>
      intro i hs us ct hk x6 x7 hn_ hi hst hct hf hda MK
      obtain ⟨j, rfl⟩ : ∃ j : Nat, i = j := ⟨i.toNat, by omega⟩
      rw [show ((j : Int)).toNat = j by omega] at hst
      have DK := hda
      have mu : 0 ≤ us ∧ us < 4096 := MK.1
      have nk : hk (q 0 + 1) 2 = mp 130 := by rw [hf _ (by omega)]; exact n2
      have y9 := y2_r (y := 7919 * k + 6151 * (j : Int) + 1) (by omega) (by omega)
      have e1 : stm mp F sz ho ux k (j + 1) = ((tix F (sta mp (svv k j) ((stm mp F sz ho ux k j).1, (stm mp F sz ho ux k j).2.1)).2 sz (sta mp (svv k j) ((stm mp F sz ho ux k j).1, (stm mp F sz ho ux k j).2.1)).1 2).1, (sta mp (svv k j) ((stm mp F sz ho ux k j).1, (stm mp F sz ho ux k j).2.1)).2, (stm mp F sz ho ux k j).2.2 + (tix F (sta mp (svv k j) ((stm mp F sz ho ux k j).1, (stm mp F sz ho ux k j).2.1)).2 sz (sta mp (svv k j) ((stm mp F sz ho ux k j).1, (stm mp F sz ho ux k j).2.1)).1 2).2) := rfl
      rw [← hst] at e1
      dsimp only at e1
      refine r_iload_5 (pc := 50) dX7_storm_50 ?_
      refine r_iload_2 (pc := 52) dX7_storm_52 ?_
      refine r_icmp_ge (pc := 53) (tgt := 118) dX7_storm_53 (by decide) (by omega) (by omega) (fun c_53 => ?_) (fun c_53 => ?_)
      · refine r_iload_3 (pc := 118) dX7_storm_118 ?_
        rcases (show p = 0 ∨ p = 1 ∨ p = 2 by omega) with rfl | rfl | rfl
        · refine r_lookup (pc := 119) (off := 25) (tgt := 144) dX7_storm_119 (by omega) (by decide) rfl (by decide) ?_
          refine r_aload_0 (pc := 144) dX7_storm_144 ?_
          refine gf_X7_41 (pc := 145) rfl (by assumption) dX7_storm_145 (by assumption) ?_
          refine k_VI0 (pc := 148) c_X0_countLost lk_X7_313 ⟨Nat.le_of_ble_eq_true rfl, Nat.le_of_ble_eq_true rfl⟩ ⟨rfl, rfl⟩ ⟨Nat.le_of_ble_eq_true rfl, Nat.le_of_ble_eq_true rfl⟩ (k := 0) rfl (by decide) (by assumption) dX7_storm_148 (Nat.le_of_ble_eq_true rfl) ?_
          refine ⟨_, us, sz, hs, rfl, cE, DK, MK, ?_⟩
          refine r_iret (pc := 151) hret dX7_storm_151 rfl rfl rfl ?_
          have k9 : j = m.toNat := by omega
          have q9 := hQ ⟨hk0_, hm0_, by omega⟩ hk (fun x hx => hf x (by omega)) (hI.t (fun x x0 x1 hx => hf x (by omega)) (by rw [hf _ (by omega)]) (by rw [hf _ (by omega)]; exact hSK))
          rw [← k9, ← hst] at q9
          exact q9.1 rfl
        · refine r_lookup (pc := 119) (off := 33) (tgt := 152) dX7_storm_119 (by omega) (by decide) rfl (by decide) ?_
          refine r_iload_4 (pc := 152) dX7_storm_152 ?_
          refine r_iret (pc := 154) hret dX7_storm_154 rfl rfl rfl ?_
          have k9 : j = m.toNat := by omega
          have q9 := hQ ⟨hk0_, hm0_, by omega⟩ hk (fun x hx => hf x (by omega)) (hI.t (fun x x0 x1 hx => hf x (by omega)) (by rw [hf _ (by omega)]) (by rw [hf _ (by omega)]; exact hSK))
          rw [← k9, ← hst] at q9
          exact q9.2.1 rfl
        · refine r_lookup (pc := 119) (off := 36) (tgt := 155) dX7_storm_119 (by omega) (by decide) rfl (by decide) ?_
          refine r_aload_0 (pc := 155) dX7_storm_155 ?_
          refine gf_X7_41 (pc := 156) rfl (by assumption) dX7_storm_156 (by assumption) ?_
          refine gf_X7_284 (pc := 159) rfl (by assumption) dX7_storm_159 (fun i_159 => ?_)
          rw [DK.1] at i_159 ⊢
          refine k_SI1 (pc := 162) c_J6_bitCount_0f7a4 lk_X7_167 ⟨Nat.le_of_ble_eq_true rfl, Nat.le_of_ble_eq_true rfl⟩ ⟨rfl, rfl⟩ ⟨Nat.le_of_ble_eq_true rfl, Nat.le_of_ble_eq_true rfl⟩ dX7_storm_162 (Nat.le_of_ble_eq_true rfl) ?_
          refine ⟨_, rfl, by omega, ?_⟩
          refine r_iret (pc := 165) hret dX7_storm_165 rfl rfl rfl ?_
          have k9 : j = m.toNat := by omega
          have q9 := hQ ⟨hk0_, hm0_, by omega⟩ hk (fun x hx => hf x (by omega)) (hI.t (fun x x0 x1 hx => hf x (by omega)) (by rw [hf _ (by omega)]) (by rw [hf _ (by omega)]; exact hSK))
          rw [← k9, ← hst] at q9
          exact q9.2.2 rfl
      · refine r_ldc2 (pc := 56) (v := 7919) (z := 7919) dX7_storm_56 (w_cL 862 (by decide +kernel)) (by decide) ?_
        refine r_iload_1 (pc := 59) dX7_storm_59 ?_
        refine r_i2l (pc := 60) dX7_storm_60 (by omega) ?_
        refine r_lmul (pc := 61) dX7_storm_61 ?_
        refine r_ldc2 (pc := 62) (v := 6151) (z := 6151) dX7_storm_62 (w_cL 863 (by decide +kernel)) (by decide) ?_
        refine r_iload_5 (pc := 65) dX7_storm_65 ?_
        refine r_i2l (pc := 67) dX7_storm_67 (by omega) ?_
        refine r_lmul (pc := 68) dX7_storm_68 ?_
        refine r_ladd (pc := 69) dX7_storm_69 ?_
        refine r_lconst (pc := 70) (z := 1) dX7_storm_70 (by decide) ?_
        refine r_ladd (pc := 71) dX7_storm_71 ?_
        refine r_lstore_6 (pc := 72) dX7_storm_72 rfl ?_
        refine r_aload_0 (pc := 74) dX7_storm_74 ?_
        refine gf_X7_41 (pc := 75) rfl (by assumption) dX7_storm_75 (by assumption) ?_
        refine r_aload_0 (pc := 78) dX7_storm_78 ?_
        refine gf_X7_51 (pc := 79) rfl (by assumption) dX7_storm_79 (by assumption) ?_
        refine r_lload_6 (pc := 82) dX7_storm_82 ?_
        refine r_lload_6 (pc := 84) dX7_storm_84 ?_
        refine r_lmul (pc := 86) dX7_storm_86 ?_
        refine r_ldc2 (pc := 87) (v := 65521) (z := 65521) dX7_storm_87 (w_cL 864 (by decide +kernel)) (by decide) ?_
        refine r_lrem (pc := 90) dX7_storm_90 y9 (by omega) ?_
        refine r_l2i (pc := 91) dX7_storm_91 ?_
        refine k_VV2 (pc := 92) c_X0_strike lk_X7_309 ⟨Nat.le_of_ble_eq_true rfl, Nat.le_of_ble_eq_true rfl⟩ ⟨rfl, rfl⟩ ⟨Nat.le_of_ble_eq_true rfl, Nat.le_of_ble_eq_true rfl⟩ (k := 0) rfl (by decide) (by assumption) dX7_storm_92 (Nat.le_of_ble_eq_true rfl) ?_
        refine ⟨_, us, sz, hs, _, _, _, mp, svv k j, rfl, cE, DK, MK, pl0, pr0, pl1, nk, by omega, svv_r k j, fun h_92 f_92 a_92 => ?_⟩
        have MK2 : MkI (sta mp (svv k j) (hs, us)).2 (sta mp (svv k j) (hs, us)).1 := sta_M MK (by omega)
        have P1 : ∀ x, 0 ≤ x → x < 64 → h_92 (q 0 + 11) x = F x := fun x x0 x1 => by rw [f_92 _ (by omega), hf _ (by omega)]; exact hp1 x x0 x1
        have P2 : ∀ x, 0 ≤ x → x < 16 → h_92 (q 0 + 13) x = pb F x := fun x x0 x1 => by rw [f_92 _ (by omega), hf _ (by omega)]; exact hp2 x x0 x1
        refine r_iload_4 (pc := 95) dX7_storm_95 ?_
        refine r_aload_0 (pc := 97) dX7_storm_97 ?_
        refine gf_X7_41 (pc := 98) rfl (by assumption) dX7_storm_98 (by assumption) ?_
        refine r_aload_0 (pc := 101) dX7_storm_101 ?_
        refine gf_X7_51 (pc := 102) rfl (by assumption) dX7_storm_102 (by assumption) ?_
        refine r_iconst (pc := 105) dX7_storm_105 ?_
        refine k_VI2 (pc := 106) c_X0_makeTick lk_X7_290 ⟨Nat.le_of_ble_eq_true rfl, Nat.le_of_ble_eq_true rfl⟩ ⟨rfl, rfl⟩ ⟨Nat.le_of_ble_eq_true rfl, Nat.le_of_ble_eq_true rfl⟩ (k := 0) rfl (by decide) (by assumption) dX7_storm_106 (Nat.le_of_ble_eq_true rfl) ?_
        refine ⟨_, _, sz, _, _, _, F, _, rfl, cE, a_92, MK2, pl0, pl11, pl13, pr9, pr11, hFI, P1, P2, by omega, hsz, by omega, fun f_106 a_106 => ?_⟩
        refine r_iadd (pc := 109) dX7_storm_109 ?_
        refine r_istore_4 (pc := 110) dX7_storm_110 rfl ?_
        refine r_iinc_5 (pc := 112) dX7_storm_112 rfl ?_
        refine r_goto (pc := 115) (tgt := 50) dX7_storm_115 (by decide) ?_
        have c9 := tkk_c (F := F) (ux := (sta mp (svv k j) (hs, us)).2) (sz := sz) (ho := (sta mp (svv k j) (hs, us)).1) 2
        refine ih _ (by omega) ((j : Int) + 1) (tix F (sta mp (svv k j) (hs, us)).2 sz (sta mp (svv k j) (hs, us)).1 2).1 (sta mp (svv k j) (hs, us)).2 _ _ _ _ rfl (by omega) (by rw [show ((j : Int) + 1).toNat = j + 1 by omega, e1]; rfl) ?_ (fun x hx => by rw [hr_n (by omega), f_92 x (by omega)]; exact hf x hx) ⟨by rw [hr_n (by omega)]; exact a_92.1, fun g g0 g1 => by rw [hr_n (by omega)]; exact a_92.2.1 g g0 g1, fun g g0 g1 => by rw [hr_s]; exact a_106 g g0 g1⟩ (tix_M hFI MK2 2)
        have c8 : (tix F (sta mp (svv k j) (hs, us)).2 sz (sta mp (svv k j) (hs, us)).1 (Int.toNat 2)).2 = (tkk F (sta mp (svv k j) (hs, us)).2 sz (sta mp (svv k j) (hs, us)).1 2).2 := rfl
        rw [c8]
        omega
  refine r_iload_1 (pc := 0) dX7_storm_0 ?_
  refine r_if_lt (pc := 1) (tgt := 31) dX7_storm_1 (by decide) (by omega) (fun c_1 => ?_) (fun c_1 => ?_)
  · refine r_iconst (pc := 31) dX7_storm_31 ?_
    refine r_iret (pc := 32) hret dX7_storm_32 rfl rfl rfl ?_
    exact hB (by omega)
  · refine r_iload_1 (pc := 4) dX7_storm_4 ?_
    refine r_sipush (pc := 5) dX7_storm_5 (by decide) ?_
    refine r_icmp_gt (pc := 8) (tgt := 31) dX7_storm_8 (by decide) (by omega) (by omega) (fun c_8 => ?_) (fun c_8 => ?_)
    · refine r_iconst (pc := 31) dX7_storm_31 ?_
      refine r_iret (pc := 32) hret dX7_storm_32 rfl rfl rfl ?_
      exact hB (by omega)
    · refine r_iload_2 (pc := 11) dX7_storm_11 ?_
      refine r_iconst (pc := 12) dX7_storm_12 ?_
      refine r_icmp_lt (pc := 13) (tgt := 31) dX7_storm_13 (by decide) (by omega) (by omega) (fun c_13 => ?_) (fun c_13 => ?_)
      · refine r_iconst (pc := 31) dX7_storm_31 ?_
        refine r_iret (pc := 32) hret dX7_storm_32 rfl rfl rfl ?_
        exact hB (by omega)
      · refine r_iload_2 (pc := 16) dX7_storm_16 ?_
        refine r_bipush (pc := 17) dX7_storm_17 (by decide) ?_
        refine r_icmp_gt (pc := 19) (tgt := 31) dX7_storm_19 (by decide) (by omega) (by omega) (fun c_19 => ?_) (fun c_19 => ?_)
        · refine r_iconst (pc := 31) dX7_storm_31 ?_
          refine r_iret (pc := 32) hret dX7_storm_32 rfl rfl rfl ?_
          exact hB (by omega)
        · refine r_iload_3 (pc := 22) dX7_storm_22 ?_
          refine r_if_lt (pc := 23) (tgt := 31) dX7_storm_23 (by decide) (by omega) (fun c_23 => ?_) (fun c_23 => ?_)
          · refine r_iconst (pc := 31) dX7_storm_31 ?_
            refine r_iret (pc := 32) hret dX7_storm_32 rfl rfl rfl ?_
            exact hB (by omega)
          · refine r_iload_3 (pc := 26) dX7_storm_26 ?_
            refine r_iconst (pc := 27) dX7_storm_27 ?_
            refine r_icmp_le (pc := 28) (tgt := 33) dX7_storm_28 (by decide) (by omega) (by omega) (fun c_28 => ?_) (fun c_28 => ?_)
            · refine r_aload_0 (pc := 33) dX7_storm_33 ?_
              refine gf_X7_41 (pc := 34) rfl (by assumption) dX7_storm_34 (by assumption) ?_
              refine r_aload_0 (pc := 37) dX7_storm_37 ?_
              refine gf_X7_37 (pc := 38) rfl (by assumption) dX7_storm_38 (by assumption) ?_
              refine k_VV1 (pc := 41) c_X0_copyFrom lk_X7_300 ⟨Nat.le_of_ble_eq_true rfl, Nat.le_of_ble_eq_true rfl⟩ ⟨rfl, rfl⟩ ⟨Nat.le_of_ble_eq_true rfl, Nat.le_of_ble_eq_true rfl⟩ (k := 0) rfl (by decide) (by assumption) dX7_storm_41 (Nat.le_of_ble_eq_true rfl) ?_
              refine ⟨_, _, ux, sz, ho, rfl, cE, cD, by omega, hDa, fun h_41 f_41 a_41 => ?_⟩
              refine r_iconst (pc := 44) dX7_storm_44 ?_
              refine r_istore_4 (pc := 45) dX7_storm_45 rfl ?_
              refine r_iconst (pc := 47) dX7_storm_47 ?_
              refine r_istore_5 (pc := 48) dX7_storm_48 rfl ?_
              exact lp (by omega) (by omega) (by omega) _ 0 ho ux 0 h_41 none none rfl (by omega) rfl (by omega) (fun x hx => f_41 x (by omega)) a_41 hMk
            · refine r_iconst (pc := 31) dX7_storm_31 ?_
              refine r_iret (pc := 32) hret dX7_storm_32 rfl rfl rfl ?_
              exact hB (by omega)

