/-! THE CLASS: changes of the map -/
theorem CI.ch {lay : LyT} {r r2 : RfT} {h h2 : HpT} {c : Nat} {q : Int → Nat} {n : Int} {tx : Int → Int} {ep : Int} {km : Int → Int → Int} {mp F M : Int → Int} {ux ux' : Int} {sz ho : Int → Int} {sn : Int} {row : Int → Int} (hI : CI lay r h c q n tx ep km mp F ux sz ho sn row) (hC2 : CAt lay r2 c) (hLt2 : LtAt lay r2 c (qN q)) (e : ∀ x, c ≤ x → x < c + 101 → ¬ (x = c ∨ x = c + 5 ∨ x = c + 21 ∨ (q 4 ≤ x ∧ x < q 4 + 14)) → h2 x = h x) (e8 : h2 c 8 = ep + 1) (hep2 : ep + 1 < 2147483647) (hS2 : StK (h2 (c + 4 + 1))) (hM : PMap h2 (q 4) M) (h1 : 1 ≤ M 130) (hD : DaS h2 (c + 21) ux' sz ho ∧ MkI ux' ho) : CI lay r2 h2 c (qN q) n tx (ep + 1) (kN km M) M (plr M) ux' sz ho sn row := by
  obtain ⟨hC, hLt, ⟨hCT, htx⟩, hSK, ⟨he8, hep⟩, hkm, ⟨hk0, h130⟩, hF0, ⟨hDa, hMk, hsz⟩, ⟨hOb, hSe⟩⟩ := id hI
  have lrg := hLt.2.2.2.1
  have ldj := hLt.2.2.2.2
  have g4 := lrg 4 (by omega) (by omega)
  refine ⟨hC2, hLt2, ⟨hCT.of (by rw [e _ (by omega) (by omega) (by omega)]) (e _ (by omega) (by omega) (by omega)), htx⟩, hS2, ⟨e8, by omega, hep2⟩, fun i i0 i1 i2 => ?_, ⟨rfl, h1⟩, fun _ _ _ => rfl, ⟨hD.1, hD.2, hsz⟩, ⟨hOb.of (e _ (by omega) (by omega) (by omega)) (e _ (by omega) (by omega) (by omega)) (e _ (by omega) (by omega) (by omega)) (e _ (by omega) (by omega) (by omega)), hSe⟩⟩
  unfold qN kN
  by_cases z : i = 0
  · rw [if_pos z, if_pos z]; exact hM
  · rw [if_neg z, if_neg z]
    have g1 := lrg (i - 1) (by omega) (by omega)
    have g2 := ldj (i - 1) 4 (by omega) (by omega) (by omega) (by omega) (by omega)
    exact (hkm (i - 1) (by omega) (by omega) (by omega)).of (fun x x0 x1 => e x (by omega) (by omega) (by omega))
theorem PRl_rw {h : HpT} {p : Nat} {mp : Int → Int} {d x : Int} (hT : TrM mp) (hR : RlM mp) (hL : PRl h p mp) (hd : 10 ≤ d ∧ d < 10 + mp 130) : PRl (hr h (p + 10) (up (h (p + 10)) d x)) p (up mp (66 + d) x) := by
  obtain ⟨⟨rl5, rl6, rl7, rl8⟩, rfu, rca, rre, rnu, rdv⟩ := hL
  have t3 := hT.2.2.1
  have r5 := hR.2.2.2.2.1
  have e : ∀ j, j ≠ 66 + d → up mp (66 + d) x j = mp j := fun j h1 => up_n h1
  have e0 := e 130 (by omega)
  have e5 := e 135 (by omega)
  refine ⟨⟨by rw [hr_n (by omega), e _ (by omega)]; exact rl5, by rw [hr_n (by omega), e _ (by omega)]; exact rl6, by rw [hr_n (by omega), e _ (by omega)]; exact rl7, by rw [hr_n (by omega), e _ (by omega)]; exact rl8⟩, ⟨by rw [hr_n (by omega)]; exact rfu.1, fun k => ?_⟩, fun d d0 d1 => ?_, fun y d0 d1 => ?_, by rw [hr_n (by omega), e5]; exact rnu, fun i i0 i1 => ?_⟩
  · rw [hr_n (by omega), rfu.2 k, e0]
    by_cases z : (k : Int) < mp 130
    · rw [e (88 + (10 + (k : Int))) (by omega)]
    · rw [decide_eq_false (fun y => z y.1), decide_eq_false (fun y => z y.1)]
  · rw [e0] at d1
    rw [hr_n (by omega), e _ (by omega)]; exact rca d d0 d1
  · rw [e0] at d1
    rw [hr_s]
    by_cases z : y = d
    · rw [z, up_s, up_s]
    · rw [up_n z, e _ (by omega)]; exact rre y d0 d1
  · rw [e5] at i1
    rw [hr_n (by omega), hr_n (by omega), hr_n (by omega), e _ (by omega), e _ (by omega), e _ (by omega)]; exact rdv i i0 i1
theorem PTr_mv {h : HpT} {p : Nat} {mp : Int → Int} {n x : Int} (hT : TrM mp) (hN : PTr h p mp) (hn : (4 ≤ n ∧ n < 4 + mp 129) ∨ (10 ≤ n ∧ n < 10 + mp 130)) : PTr (hr h (p + 2) (up (h (p + 2)) n x)) p (up mp n x) := by
  obtain ⟨⟨n0, n1, n2⟩, up1, up2, uw, u0, uh⟩ := hN
  obtain ⟨t1, t2, t3, t4, t5, t6, t7⟩ := hT
  have e : ∀ j, j ≠ n → up mp n x j = mp j := fun j hj => up_n hj
  have e8 := e 128 (by omega)
  have e9 := e 129 (by omega)
  have e0 := e 130 (by omega)
  refine ⟨⟨by rw [hr_n (by omega), e8]; exact n0, by rw [hr_n (by omega), e9]; exact n1, by rw [hr_n (by omega), e0]; exact n2⟩, fun m q0 q1 => ?_, fun m q0 q1 => ?_, fun m q0 q1 => ?_, ?_, fun m q0 q1 => ?_⟩
  · rw [hr_s]
    by_cases z : m = n
    · rw [z, up_s, up_s]
    · rw [up_n z, e _ z]; exact up1 m q0 (by omega)
  · rw [hr_s]
    by_cases z : m = n
    · rw [z, up_s, up_s]
    · rw [up_n z, e _ z]; exact up2 m q0 (by omega)
  · rw [hr_n (by omega), e _ (by omega)]; exact uw m q0 (by omega)
  · rw [hr_s, up_n (by omega)]; exact u0
  · rw [hr_s, up_n (by omega)]; exact uh m q0 (by omega)
theorem PRl_dv {h : HpT} {p : Nat} {mp : Int → Int} {g f t : Int} (hT : TrM mp) (hR : RlM mp) (hL : PRl h p mp) (h6 : mp 135 < 6) : PRl (hr (hr (hr (hr h (p + 5) (up (h (p + 5)) (h (p + 4) 0) g)) (p + 6) (up (h (p + 6)) (h (p + 4) 0) f)) (p + 7) (up (h (p + 7)) (h (p + 4) 0) t)) (p + 4) (up (h (p + 4)) 0 (h (p + 4) 0 + 1))) p (dvM mp g f t) := by
  obtain ⟨⟨rl5, rl6, rl7, rl8⟩, rfu, rca, rre, rnu, rdv⟩ := hL
  have t3 := hT.2.2.1
  have r5 := hR.2.2.2.2.1
  have e : ∀ j, j ≠ 135 → j ≠ 110 + 3 * mp 135 → j ≠ 111 + 3 * mp 135 → j ≠ 112 + 3 * mp 135 → dvM mp g f t j = mp j := fun j h1 h2 h3 h4 => by unfold dvM; rw [up_n h1, up_n h4, up_n h3, up_n h2]
  have e0 := e 130 (by omega) (by omega) (by omega) (by omega)
  have e5 : dvM mp g f t 135 = mp 135 + 1 := up_s
  refine ⟨⟨?_, ?_, ?_, ?_⟩, ⟨?_, fun k => ?_⟩, fun d d0 d1 => ?_, fun y d0 d1 => ?_, ?_, fun i i0 i1 => ?_⟩
  · rw [hr_n (by omega), hr_n (by omega), hr_n (by omega), hr_n (by omega), e _ (by omega) (by omega) (by omega) (by omega)]; exact rl5
  · rw [hr_n (by omega), hr_n (by omega), hr_n (by omega), hr_n (by omega), e _ (by omega) (by omega) (by omega) (by omega)]; exact rl6
  · rw [hr_n (by omega), hr_n (by omega), hr_n (by omega), hr_n (by omega), e _ (by omega) (by omega) (by omega) (by omega)]; exact rl7
  · rw [hr_n (by omega), hr_n (by omega), hr_n (by omega), hr_n (by omega), e _ (by omega) (by omega) (by omega) (by omega)]; exact rl8
  · rw [hr_n (by omega), hr_n (by omega), hr_n (by omega), hr_n (by omega)]; exact rfu.1
  · rw [hr_n (by omega), hr_n (by omega), hr_n (by omega), hr_n (by omega), rfu.2 k, e0]
    by_cases z : (k : Int) < mp 130
    · rw [e (88 + (10 + (k : Int))) (by omega) (by omega) (by omega) (by omega)]
    · rw [decide_eq_false (fun y => z y.1), decide_eq_false (fun y => z y.1)]
  · rw [e0] at d1
    rw [hr_n (by omega), hr_n (by omega), hr_n (by omega), hr_n (by omega), e _ (by omega) (by omega) (by omega) (by omega)]; exact rca d d0 d1
  · rw [e0] at d1
    rw [hr_n (by omega), hr_n (by omega), hr_n (by omega), hr_n (by omega), e _ (by omega) (by omega) (by omega) (by omega)]; exact rre y d0 d1
  · rw [hr_s, up_s, e5, rnu]
  · rw [e5] at i1
    rw [hr_n (by omega), hr_n (by omega), hr_n (by omega), hr_s, hr_n (by omega), hr_n (by omega), hr_s, hr_n (by omega), hr_s, rnu]
    by_cases z : i = mp 135
    · rw [z, up_s, up_s, up_s]
      unfold dvM
      exact ⟨by rw [up_n (by omega), up_n (by omega), up_n (by omega), up_s], by rw [up_n (by omega), up_n (by omega), up_s], by rw [up_n (by omega), up_s]⟩
    · rw [up_n z, up_n z, up_n z, e _ (by omega) (by omega) (by omega) (by omega), e _ (by omega) (by omega) (by omega) (by omega), e _ (by omega) (by omega) (by omega) (by omega)]; exact rdv i i0 (by omega)
theorem PRl_lf {h : HpT} {p : Nat} {mp : Int → Int} {i : Int} (hT : TrM mp) (hR : RlM mp) (hL : PRl h p mp) (hi : 0 ≤ i ∧ i < mp 135) : PRl (hr (hr (hr (hr h (p + 4) (up (h (p + 4)) 0 (h (p + 4) 0 - 1))) (p + 5) (shR (h (p + 5)) i (h (p + 4) 0 - 1))) (p + 6) (shR (h (p + 6)) i (h (p + 4) 0 - 1))) (p + 7) (shR (h (p + 7)) i (h (p + 4) 0 - 1))) p (lfR mp i (3 * (mp 135 - 1))) := by
  obtain ⟨⟨rl5, rl6, rl7, rl8⟩, rfu, rca, rre, rnu, rdv⟩ := hL
  have t3 := hT.2.2.1
  have r5 := hR.2.2.2.2.1
  have e : ∀ j, j ≠ 135 → ¬ (110 ≤ j ∧ j < 128) → lfR mp i (3 * (mp 135 - 1)) j = mp j := fun j h1 h2 => by unfold lfR; rw [if_neg (by omega), up_n h1]
  have e0 := e 130 (by omega) (by omega)
  have e5 : lfR mp i (3 * (mp 135 - 1)) 135 = mp 135 - 1 := by unfold lfR; rw [if_neg (by omega), up_s]
  refine ⟨⟨?_, ?_, ?_, ?_⟩, ⟨?_, fun k => ?_⟩, fun d d0 d1 => ?_, fun y d0 d1 => ?_, ?_, fun k k0 k1 => ?_⟩
  · rw [hr_n (by omega), hr_n (by omega), hr_n (by omega), hr_n (by omega), e _ (by omega) (by omega)]; exact rl5
  · rw [hr_n (by omega), hr_n (by omega), hr_n (by omega), hr_n (by omega), e _ (by omega) (by omega)]; exact rl6
  · rw [hr_n (by omega), hr_n (by omega), hr_n (by omega), hr_n (by omega), e _ (by omega) (by omega)]; exact rl7
  · rw [hr_n (by omega), hr_n (by omega), hr_n (by omega), hr_n (by omega), e _ (by omega) (by omega)]; exact rl8
  · rw [hr_n (by omega), hr_n (by omega), hr_n (by omega), hr_n (by omega)]; exact rfu.1
  · rw [hr_n (by omega), hr_n (by omega), hr_n (by omega), hr_n (by omega), rfu.2 k, e0]
    by_cases z : (k : Int) < mp 130
    · rw [e (88 + (10 + (k : Int))) (by omega) (by omega)]
    · rw [decide_eq_false (fun y => z y.1), decide_eq_false (fun y => z y.1)]
  · rw [e0] at d1
    rw [hr_n (by omega), hr_n (by omega), hr_n (by omega), hr_n (by omega), e _ (by omega) (by omega)]; exact rca d d0 d1
  · rw [e0] at d1
    rw [hr_n (by omega), hr_n (by omega), hr_n (by omega), hr_n (by omega), e _ (by omega) (by omega)]; exact rre y d0 d1
  · rw [hr_n (by omega), hr_n (by omega), hr_n (by omega), hr_s, up_s, e5, rnu]
  · rw [e5] at k1
    rw [hr_n (show p + 5 ≠ p + 7 by omega), hr_n (show p + 5 ≠ p + 6 by omega), hr_s, hr_n (show p + 6 ≠ p + 7 by omega), hr_s, hr_s, rnu]
    unfold shR lfR
    by_cases z : i ≤ k
    · have q1 := rdv (k + 1) (by omega) (by omega)
      rw [if_pos (by omega), if_pos (by omega), if_pos (by omega), if_pos (by omega), if_pos (by omega), if_pos (by omega), show 110 + 3 * k + 3 = 110 + 3 * (k + 1) by omega, show 111 + 3 * k + 3 = 111 + 3 * (k + 1) by omega, show 112 + 3 * k + 3 = 112 + 3 * (k + 1) by omega]
      exact q1
    · rw [if_neg (by omega), if_neg (by omega), if_neg (by omega), if_neg (by omega), if_neg (by omega), if_neg (by omega), up_n (by omega), up_n (by omega), up_n (by omega)]
      exact rdv k k0 (by omega)
theorem dX7_weigh_0 : decode cX7_weigh 0 = .ok (.aload_n 0, 1) := by decide +kernel
theorem dX7_weigh_1 : decode cX7_weigh 1 = .ok (.getfield 51, 3) := by decide +kernel
theorem dX7_weigh_4 : decode cX7_weigh 4 = .ok (.getfield 84, 3) := by decide +kernel
theorem dX7_weigh_7 : decode cX7_weigh 7 = .ok (.iload_n 1, 1) := by decide +kernel
theorem dX7_weigh_8 : decode cX7_weigh 8 = .ok (.invokevirtual 97, 3) := by decide +kernel
theorem dX7_weigh_11 : decode cX7_weigh 11 = .ok (.ifCond .eq 10, 3) := by decide +kernel
theorem dX7_weigh_14 : decode cX7_weigh 14 = .ok (.iload_n 2, 1) := by decide +kernel
theorem dX7_weigh_15 : decode cX7_weigh 15 = .ok (.invokestatic 144, 3) := by decide +kernel
theorem dX7_weigh_18 : decode cX7_weigh 18 = .ok (.ifCond .ne 5, 3) := by decide +kernel
theorem dX7_weigh_21 : decode cX7_weigh 21 = .ok (.iconst (-1), 1) := by decide +kernel
theorem dX7_weigh_22 : decode cX7_weigh 22 = .ok (.ireturn, 1) := by decide +kernel
theorem dX7_weigh_23 : decode cX7_weigh 23 = .ok (.aload_n 0, 1) := by decide +kernel
theorem dX7_weigh_24 : decode cX7_weigh 24 = .ok (.getfield 51, 3) := by decide +kernel
theorem dX7_weigh_27 : decode cX7_weigh 27 = .ok (.getfield 84, 3) := by decide +kernel
theorem dX7_weigh_30 : decode cX7_weigh 30 = .ok (.getfield 100, 3) := by decide +kernel
theorem dX7_weigh_33 : decode cX7_weigh 33 = .ok (.iload_n 1, 1) := by decide +kernel
theorem dX7_weigh_34 : decode cX7_weigh 34 = .ok (.iaload, 1) := by decide +kernel
theorem dX7_weigh_35 : decode cX7_weigh 35 = .ok (.istore_n 3, 1) := by decide +kernel
theorem dX7_weigh_36 : decode cX7_weigh 36 = .ok (.iload_n 3, 1) := by decide +kernel
theorem dX7_weigh_37 : decode cX7_weigh 37 = .ok (.iload_n 2, 1) := by decide +kernel
theorem dX7_weigh_38 : decode cX7_weigh 38 = .ok (.if_icmp .ne 6, 3) := by decide +kernel
theorem dX7_weigh_41 : decode cX7_weigh 41 = .ok (.bipush (-2), 2) := by decide +kernel
theorem dX7_weigh_43 : decode cX7_weigh 43 = .ok (.ireturn, 1) := by decide +kernel
theorem dX7_weigh_44 : decode cX7_weigh 44 = .ok (.aload_n 0, 1) := by decide +kernel
theorem dX7_weigh_45 : decode cX7_weigh 45 = .ok (.aload_n 0, 1) := by decide +kernel
theorem dX7_weigh_46 : decode cX7_weigh 46 = .ok (.getfield 51, 3) := by decide +kernel
theorem dX7_weigh_49 : decode cX7_weigh 49 = .ok (.invokevirtual 147, 3) := by decide +kernel
theorem dX7_weigh_52 : decode cX7_weigh 52 = .ok (.aload_n 0, 1) := by decide +kernel
theorem dX7_weigh_53 : decode cX7_weigh 53 = .ok (.getfield 51, 3) := by decide +kernel
theorem dX7_weigh_56 : decode cX7_weigh 56 = .ok (.getfield 84, 3) := by decide +kernel
theorem dX7_weigh_59 : decode cX7_weigh 59 = .ok (.getfield 100, 3) := by decide +kernel
theorem dX7_weigh_62 : decode cX7_weigh 62 = .ok (.iload_n 1, 1) := by decide +kernel
theorem dX7_weigh_63 : decode cX7_weigh 63 = .ok (.iload_n 2, 1) := by decide +kernel
theorem dX7_weigh_64 : decode cX7_weigh 64 = .ok (.iastore, 1) := by decide +kernel
theorem dX7_weigh_65 : decode cX7_weigh 65 = .ok (.aload_n 0, 1) := by decide +kernel
theorem dX7_weigh_66 : decode cX7_weigh 66 = .ok (.getfield 51, 3) := by decide +kernel
theorem dX7_weigh_69 : decode cX7_weigh 69 = .ok (.aload_n 0, 1) := by decide +kernel
theorem dX7_weigh_70 : decode cX7_weigh 70 = .ok (.getfield 19, 3) := by decide +kernel
theorem dX7_weigh_73 : decode cX7_weigh 73 = .ok (.invokevirtual 74, 3) := by decide +kernel
theorem dX7_weigh_76 : decode cX7_weigh 76 = .ok (.iload_n 3, 1) := by decide +kernel
theorem dX7_weigh_77 : decode cX7_weigh 77 = .ok (.ireturn, 1) := by decide +kernel
set_option maxHeartbeats 4000000 in
set_option maxRecDepth 20000 in
theorem c_X7_weigh : ConI mX7_weigh (fun args N lay r h Q => ∃ (c : Nat) (q : Int → Nat) (n : Int) (tx : Int → Int) (ep : Int) (km : Int → Int → Int) (mp F : Int → Int) (ux : Int) (sz ho : Int → Int) (sn : Int) (row : Int → Int) (d w : Int), args = [.ref c, vI d, vI w] ∧ CI lay r h c q n tx ep km mp F ux sz ho sn row ∧ ep < 2147483646 ∧ (-2147483648 ≤ d ∧ d < 2147483648) ∧ (-2147483648 ≤ w ∧ w < 2147483648) ∧ (¬ ((10 ≤ d ∧ d ≤ 9 + mp 130) ∧ (0 ≤ w ∧ w ≤ 40)) → Q (-1) N lay r h) ∧ (((10 ≤ d ∧ d ≤ 9 + mp 130) ∧ (0 ≤ w ∧ w ≤ 40)) → (mp (22 + d) = w → Q (-2) N lay r h) ∧ (mp (22 + d) ≠ w → ∀ (r2 : RfT) (h2 : HpT), FrR r r2 (fun x => x = c ∨ x = c + 6) → Fr h h2 (fun x => c ≤ x ∧ x < c + 101) → CI lay r2 h2 c (qN q) n tx (ep + 1) (kN km (up mp (22 + d) w)) (up mp (22 + d) w) (plr (up mp (22 + d) w)) ux sz ho sn row → Q (mp (22 + d)) N lay r2 h2))) := by
  refine ConI.of (by decide) (by rintro _ N lay r h Q ⟨c, q, n, tx, ep, km, mp, F, ux, sz, ho, sn, row, d, w, rfl, hI, hep9, h_d, h_w, hB, hQ⟩; exact ⟨rfl, Nat.le_of_ble_eq_true rfl⟩) ?_
  rintro E _ N lay r h Q ⟨c, q, n, tx, ep, km, mp, F, ux, sz, ho, sn, row, d, w, rfl, hI, hep9, h_d, h_w, hB, hQ⟩ hret
  obtain ⟨hC, hLt, ⟨hCT, htx⟩, hSK, ⟨he8, hep⟩, hkm, ⟨hk0, h130⟩, hF0, ⟨hDa, hMk, hsz⟩, ⟨hOb, hSe⟩⟩ := id hI
  obtain ⟨cl0, cl6, ⟨cr0, cr1, cr2, cr3, cr4, cr5, cr6⟩, cT, cS, cP, cD, cE, cO⟩ := id hC
  obtain ⟨lr7, lr6, lpl, lrg, ldj⟩ := id hLt
  have hP0 := hkm 0 (by omega) (by omega) (by omega)
  rw [hk0] at hP0
  obtain ⟨hT, hR, hN, hW, hL, hPS⟩ := id hP0
  have hA := lpl 0 (by omega) (by omega)
  have q0r := lrg 0 (by omega) (by omega)
  obtain ⟨pl0, pl1, pl2, pl3, pl4, pl5, pl6, pl7, pl8, pl9, pl10, pl11, pl12, pl13, pr0, pr1, pr2, pr3, pr9, pr10, pr11, qr3, qr4, vr1, vr2, vr3, vr4⟩ := id hA
  obtain ⟨⟨n0, n1, n2⟩, up1, up2, uw, u0, uh⟩ := id hN
  obtain ⟨t1, t2, t3, t4, t5, t6, t7⟩ := id hT
  show St E mX7_weigh 0 [some (.ref c), some (vI d), some (vI w), none] [] (0, 0) N lay r h
  refine r_aload_0 (pc := 0) dX7_weigh_0 ?_
  refine gf_X7_51 (pc := 1) rfl (by assumption) dX7_weigh_1 (by assumption) ?_
  refine gf_X7_84 (pc := 4) rfl (by assumption) dX7_weigh_4 (by assumption) ?_
  refine r_iload_1 (pc := 7) dX7_weigh_7 ?_
  refine k_VI1 (pc := 8) c_X6_isDisk lk_X7_97 ⟨Nat.le_of_ble_eq_true rfl, Nat.le_of_ble_eq_true rfl⟩ ⟨rfl, rfl⟩ ⟨Nat.le_of_ble_eq_true rfl, Nat.le_of_ble_eq_true rfl⟩ (k := 6) rfl (by decide) (by assumption) dX7_weigh_8 (Nat.le_of_ble_eq_true rfl) ?_
  refine ⟨_, _, _, rfl, by assumption, by omega, by omega, ?_⟩
  refine r_ifeq_b (pc := 11) (tgt := 21) dX7_weigh_11 (by decide) (fun c_11 => ?_) (fun c_11 => ?_)
  · refine r_iconst (pc := 21) dX7_weigh_21 ?_
    refine r_iret (pc := 22) hret dX7_weigh_22 rfl rfl rfl ?_
    first
    | exact hB (by omega)
    | exact (hQ (by omega)).1 (by omega)
    | (refine ((hQ (by omega)).2 (by omega)) r_49 h_73 fr_49 (fun x hx => by rw [f_73 x (by omega), hr_n (by omega)]; exact f_49 x (by omega)) (hI.ch hC2 hLt2 (fun x x0 x1 hx => by rw [f_73 x (by omega), hr_n (by omega)]; exact f_49 x (by omega)) (by rw [f_73 _ (by omega), hr_n (by omega)]; exact ec8) (by omega) k_73 ⟨TM, RM, t_73, w_73, l_73, s_73⟩ (by rw [up_n (by omega)]; exact h130) ⟨(show DaS h_73 (c + 21) ux sz ho from DA0.of (by rw [f_73 _ (by omega), hr_n (by omega)]) (by rw [f_73 _ (by omega), hr_n (by omega)]) (by rw [f_73 _ (by omega), hr_n (by omega)])), hMk⟩))
  · refine r_iload_2 (pc := 14) dX7_weigh_14 ?_
    refine k_SI1 (pc := 15) c_X7_isWeight lk_X7_144 ⟨Nat.le_of_ble_eq_true rfl, Nat.le_of_ble_eq_true rfl⟩ ⟨rfl, rfl⟩ ⟨Nat.le_of_ble_eq_true rfl, Nat.le_of_ble_eq_true rfl⟩ dX7_weigh_15 (Nat.le_of_ble_eq_true rfl) ?_
    refine ⟨_, rfl, by omega, ?_⟩
    refine r_ifne_b (pc := 18) (tgt := 23) dX7_weigh_18 (by decide) (fun c_18 => ?_) (fun c_18 => ?_)
    · refine r_aload_0 (pc := 23) dX7_weigh_23 ?_
      refine gf_X7_51 (pc := 24) rfl (by assumption) dX7_weigh_24 (by assumption) ?_
      refine gf_X7_84 (pc := 27) rfl (by assumption) dX7_weigh_27 (by assumption) ?_
      refine gf_X7_100 (pc := 30) rfl (by assumption) dX7_weigh_30 (by assumption) ?_
      refine r_iload_1 (pc := 33) dX7_weigh_33 ?_
      refine r_ialdE (pc := 34) (by assumption) (by first | assumption | exact rfl) dX7_weigh_34 (by omega) (by omega) (fun i_34 => ?_)
      rw [uw d (by omega) (by omega)] at i_34 ⊢
      refine r_istore_3 (pc := 35) dX7_weigh_35 rfl ?_
      refine r_iload_3 (pc := 36) dX7_weigh_36 ?_
      refine r_iload_2 (pc := 37) dX7_weigh_37 ?_
      refine r_icmp_ne (pc := 38) (tgt := 44) dX7_weigh_38 (by decide) (by omega) (by omega) (fun c_38 => ?_) (fun c_38 => ?_)
      · refine r_aload_0 (pc := 44) dX7_weigh_44 ?_
        refine r_aload_0 (pc := 45) dX7_weigh_45 ?_
        refine gf_X7_51 (pc := 46) rfl (by assumption) dX7_weigh_46 (by assumption) ?_
        refine k_VV1 (pc := 49) c_X7_beginEpoch lk_X7_147 ⟨Nat.le_of_ble_eq_true rfl, Nat.le_of_ble_eq_true rfl⟩ ⟨rfl, rfl⟩ ⟨Nat.le_of_ble_eq_true rfl, Nat.le_of_ble_eq_true rfl⟩ (k := 7) rfl (by decide) (by assumption) dX7_weigh_49 (Nat.le_of_ble_eq_true rfl) ?_
        refine ⟨_, _, q, 0, mp, rfl, hC, hLt, by omega, rfl, hP0, by omega, fun r_49 h_49 fr_49 hC2 hLt2 f_49 o_49 m_49 => ?_⟩
        have q4r := lrg 4 (by omega) (by omega)
        have lr7b : r_49 c 7 = some (q 4) := hLt2.1
        have hA4 : PlAt lay r_49 (q 4) := hLt2.2.2.1 0 (by omega) (by omega)
        obtain ⟨bl0, bl1, bl2, bl3, bl4, bl5, bl6, bl7, bl8, bl9, bl10, bl11, bl12, bl13, br0, br1, br2, br3, br9, br10, br11, cr3_, cr4_, wr1, wr2, wr3, wr4⟩ := id hA4
        obtain ⟨_, _, ⟨_, cr1b, _, _, cr4b, _, _⟩, _, cSb, _, cDb, _, _⟩ := id hC2
        have sl0 : lay (c + 4) = (5, 0) := cS.1
        have T0 : PTr h_49 (q 4) mp := m_49.2.2.1
        have L0 : PRl h_49 (q 4) mp := m_49.2.2.2.2.1
        have n4 := T0.1
        have SK0 : StK (h_49 (c + 4 + 1)) := by rw [f_49 _ (by omega)]; exact hSK
        have ec8 : h_49 c 8 = ep + 1 := by rw [o_49, up_s, he8]
        have ed0 : h_49 (c + 21) = h (c + 21) := f_49 _ (by omega)
        have DA0 : DaS h_49 (c + 21) ux sz ho := hDa.of (f_49 _ (by omega)) (f_49 _ (by omega)) (f_49 _ (by omega))
        refine r_aload_0 (pc := 52) dX7_weigh_52 ?_
        refine gf_X7_51 (pc := 53) rfl (by assumption) dX7_weigh_53 (by assumption) ?_
        refine gf_X7_84 (pc := 56) rfl (by assumption) dX7_weigh_56 (by assumption) ?_
        refine gf_X7_100 (pc := 59) rfl (by assumption) dX7_weigh_59 (by assumption) ?_
        refine r_iload_1 (pc := 62) dX7_weigh_62 ?_
        refine r_iload_2 (pc := 63) dX7_weigh_63 ?_
        refine r_iastE (pc := 64) (by assumption) rfl dX7_weigh_64 (by omega) (by omega) (by omega) ?_
        have TM : TrM (up mp (22 + d) w) := TrM_w hT (by omega) (by omega)
        have RM : RlM (up mp (22 + d) w) := RlM_w hR (by omega)
        have T1 : PTr (hr h_49 (q 4 + 3) (up (h_49 (q 4 + 3)) d w)) (q 4) (up mp (22 + d) w) := PTr_w hT T0 (by omega)
        have L1 : PRl (hr h_49 (q 4 + 3) (up (h_49 (q 4 + 3)) d w)) (q 4) (up mp (22 + d) w) := PRl_w hT hR L0 (by omega)
        have SK1 : StK ((hr h_49 (q 4 + 3) (up (h_49 (q 4 + 3)) d w)) (c + 4 + 1)) := by rw [hr_n (by omega)]; exact SK0
        refine r_aload_0 (pc := 65) dX7_weigh_65 ?_
        refine gf_X7_51 (pc := 66) rfl (by assumption) dX7_weigh_66 (by assumption) ?_
        refine r_aload_0 (pc := 69) dX7_weigh_69 ?_
        refine gf_X7_19 (pc := 70) rfl (by assumption) dX7_weigh_70 (by assumption) ?_
        refine k_VV1 (pc := 73) c_X3_settleAll lk_X7_74 ⟨Nat.le_of_ble_eq_true rfl, Nat.le_of_ble_eq_true rfl⟩ ⟨rfl, rfl⟩ ⟨Nat.le_of_ble_eq_true rfl, Nat.le_of_ble_eq_true rfl⟩ (k := 3) rfl (by decide) (by assumption) dX7_weigh_73 (Nat.le_of_ble_eq_true rfl) ?_
        refine ⟨_, _, _, rfl, hA4, cSb, by omega, TM, RM, T1, L1, SK1, fun h_73 f_73 t_73 w_73 l_73 s_73 k_73 => ?_⟩
        refine r_iload_3 (pc := 76) dX7_weigh_76 ?_
        refine r_iret (pc := 77) hret dX7_weigh_77 rfl rfl rfl ?_
        first
        | exact hB (by omega)
        | exact (hQ (by omega)).1 (by omega)
        | (refine ((hQ (by omega)).2 (by omega)) r_49 h_73 fr_49 (fun x hx => by rw [f_73 x (by omega), hr_n (by omega)]; exact f_49 x (by omega)) (hI.ch hC2 hLt2 (fun x x0 x1 hx => by rw [f_73 x (by omega), hr_n (by omega)]; exact f_49 x (by omega)) (by rw [f_73 _ (by omega), hr_n (by omega)]; exact ec8) (by omega) k_73 ⟨TM, RM, t_73, w_73, l_73, s_73⟩ (by rw [up_n (by omega)]; exact h130) ⟨(show DaS h_73 (c + 21) ux sz ho from DA0.of (by rw [f_73 _ (by omega), hr_n (by omega)]) (by rw [f_73 _ (by omega), hr_n (by omega)]) (by rw [f_73 _ (by omega), hr_n (by omega)])), hMk⟩))
      · refine r_bipush (pc := 41) dX7_weigh_41 (by decide) ?_
        refine r_iret (pc := 43) hret dX7_weigh_43 rfl rfl rfl ?_
        first
        | exact hB (by omega)
        | exact (hQ (by omega)).1 (by omega)
        | (refine ((hQ (by omega)).2 (by omega)) r_49 h_73 fr_49 (fun x hx => by rw [f_73 x (by omega), hr_n (by omega)]; exact f_49 x (by omega)) (hI.ch hC2 hLt2 (fun x x0 x1 hx => by rw [f_73 x (by omega), hr_n (by omega)]; exact f_49 x (by omega)) (by rw [f_73 _ (by omega), hr_n (by omega)]; exact ec8) (by omega) k_73 ⟨TM, RM, t_73, w_73, l_73, s_73⟩ (by rw [up_n (by omega)]; exact h130) ⟨(show DaS h_73 (c + 21) ux sz ho from DA0.of (by rw [f_73 _ (by omega), hr_n (by omega)]) (by rw [f_73 _ (by omega), hr_n (by omega)]) (by rw [f_73 _ (by omega), hr_n (by omega)])), hMk⟩))
    · refine r_iconst (pc := 21) dX7_weigh_21 ?_
      refine r_iret (pc := 22) hret dX7_weigh_22 rfl rfl rfl ?_
      first
      | exact hB (by omega)
      | exact (hQ (by omega)).1 (by omega)
      | (refine ((hQ (by omega)).2 (by omega)) r_49 h_73 fr_49 (fun x hx => by rw [f_73 x (by omega), hr_n (by omega)]; exact f_49 x (by omega)) (hI.ch hC2 hLt2 (fun x x0 x1 hx => by rw [f_73 x (by omega), hr_n (by omega)]; exact f_49 x (by omega)) (by rw [f_73 _ (by omega), hr_n (by omega)]; exact ec8) (by omega) k_73 ⟨TM, RM, t_73, w_73, l_73, s_73⟩ (by rw [up_n (by omega)]; exact h130) ⟨(show DaS h_73 (c + 21) ux sz ho from DA0.of (by rw [f_73 _ (by omega), hr_n (by omega)]) (by rw [f_73 _ (by omega), hr_n (by omega)]) (by rw [f_73 _ (by omega), hr_n (by omega)])), hMk⟩))

