/-! THE CLASS: refill, lay -/
/-- the disks whose load reaches their capacity -/
def LdM (x : Int) (mp ld : Int → Int) (K : Nat) : Prop := Ms x ∧ ∀ k : Nat, tb x k = true ↔ k < K ∧ mp (44 + (10 + (k : Int))) ≤ ld (10 + (k : Int))
theorem LdM_s {x : Int} {mp ld : Int → Int} {K : Nat} (h : LdM x mp ld K) (hK : K < 12) (hc : mp (44 + (10 + (K : Int))) ≤ ld (10 + (K : Int))) : LdM (iO x (iSl 1 (10 + (K : Int) - 10))) mp ld (K + 1) := by
  have s := Ms_S (d := 10 + (K : Int)) (by omega)
  refine ⟨Ms_O h.1 s, fun k => ?_⟩
  rw [tb_O h.1.b s.b, tb_S (by omega) (by omega), Bool.or_eq_true, h.2 k, decide_eq_true_iff]
  constructor
  · rintro (z | z)
    · exact ⟨by omega, z.2⟩
    · have : k = K := by omega
      subst this; exact ⟨by omega, hc⟩
  · intro z
    by_cases e : k = K
    · exact Or.inr (by omega)
    · exact Or.inl ⟨by omega, z.2⟩
theorem LdM_n {x : Int} {mp ld : Int → Int} {K : Nat} (h : LdM x mp ld K) (hc : ¬ mp (44 + (10 + (K : Int))) ≤ ld (10 + (K : Int))) : LdM x mp ld (K + 1) := by
  refine ⟨h.1, fun k => ?_⟩
  rw [h.2 k]
  constructor
  · intro z; exact ⟨by omega, z.2⟩
  · intro z
    by_cases e : k = K
    · subst e; exact absurd z.2 hc
    · exact ⟨by omega, z.2⟩
theorem rf_cnt {x f : Int} {mp ld : Int → Int} (hx : LdM x mp ld (mp 130).toNat) (hf : FuM f mp) (hT : TrM mp) (hR : RlM mp) : bts (iX x f) = sm (rfF mp ld) (mp 130).toNat := by
  have t3 := hT.2.2.1
  have r6 := hR.2.2.2.2.2.1
  have fm : Ms f := hf.1
  rw [bts_tb (X_12 hx.1 fm), sm_ext (a := (mp 130).toNat) 12 (by omega) (fun k k0 k1 => bI_f (fun z => by
    rw [tb_X hx.1.b fm.b] at z
    have a1 : ¬ tb x k.toNat = true := fun y => by have := ((hx.2 _).mp y).1; omega
    have a2 : ¬ tb f k.toNat = true := fun y => by rw [hf.2, decide_eq_true_iff] at y; omega
    simp [a1, a2] at z))]
  refine sm_c (fun k hk => ?_)
  have x6 := r6 (10 + (k : Int)) (by omega) (by omega)
  unfold rfF
  rw [tb_X hx.1.b fm.b, show ((k : Int)).toNat = k by omega]
  have a1 : tb x k = decide (mp (44 + (10 + (k : Int))) ≤ ld (10 + (k : Int))) := by
    rw [Bool.eq_iff_iff, hx.2 k, decide_eq_true_iff]
    exact ⟨fun z => z.2, fun z => ⟨hk, z⟩⟩
  have a2 : tb f k = decide (mp (88 + (10 + (k : Int))) = 1) := by
    rw [hf.2 k, Bool.eq_iff_iff, decide_eq_true_iff, decide_eq_true_iff]
    exact ⟨fun z => z.2, fun z => ⟨by omega, z⟩⟩
  rw [a1, a2]
  by_cases z1 : mp (44 + (10 + (k : Int))) ≤ ld (10 + (k : Int))
  · rw [bI_t z1]
    by_cases z2 : mp (88 + (10 + (k : Int))) = 1
    · rw [bI_f (by simp [z1, z2]), bI_f (by omega)]
    · rw [bI_t (by simp [z1, z2]), bI_t (by omega)]
  · rw [bI_f z1]
    by_cases z2 : mp (88 + (10 + (k : Int))) = 1
    · rw [bI_t (by simp [z1, z2]), bI_t (by omega)]
    · rw [bI_f (by simp [z1, z2]), bI_f (by omega)]
theorem PRl_rf {h : HpT} {p : Nat} {mp ld : Int → Int} {x : Int} (hT : TrM mp) (hR : RlM mp) (hL : PRl h p mp) (hx : LdM x mp ld (mp 130).toNat) : PRl (hr h p (up (h p) 4 x)) p (rfR mp ld (mp 130)) := by
  obtain ⟨⟨rl5, rl6, rl7, rl8⟩, rfu, rca, rre, rnu, rdv⟩ := hL
  have t3 := hT.2.2.1
  have r5 := hR.2.2.2.2.1
  have e : ∀ j, ¬ (98 ≤ j ∧ j < 110) → rfR mp ld (mp 130) j = mp j := fun j h1 => if_neg (by omega)
  have e0 := e 130 (by omega)
  have e5 := e 135 (by omega)
  refine ⟨⟨?_, ?_, ?_, ?_⟩, ⟨?_, fun k => ?_⟩, fun d d0 d1 => ?_, fun y d0 d1 => ?_, ?_, fun i i0 i1 => ?_⟩
  · rw [hr_s, up_n (by omega), e _ (by omega)]; exact rl5
  · rw [hr_s, up_n (by omega), e _ (by omega)]; exact rl6
  · rw [hr_s, up_n (by omega), e _ (by omega)]; exact rl7
  · rw [hr_s, up_n (by omega), e _ (by omega)]; exact rl8
  · rw [hr_s, up_s]; exact hx.1
  · rw [hr_s, up_s, e0, Bool.eq_iff_iff, hx.2 k, decide_eq_true_iff]
    by_cases z : (k : Int) < mp 130
    · have e9 : rfR mp ld (mp 130) (88 + (10 + (k : Int))) = bI (mp (44 + (10 + (k : Int))) ≤ ld (10 + (k : Int))) := by
        unfold rfR
        rw [if_pos (by omega), show 88 + (10 + (k : Int)) - 44 = 44 + (10 + (k : Int)) by omega, show 88 + (10 + (k : Int)) - 88 = 10 + (k : Int) by omega]
      rw [e9]
      constructor
      · intro y; exact ⟨z, bI_t y.2⟩
      · intro y; exact ⟨by omega, bI_1 y.2⟩
    · constructor
      · intro y; omega
      · intro y; omega
  · rw [e0] at d1
    rw [hr_n (by omega), e _ (by omega)]; exact rca d d0 d1
  · rw [e0] at d1
    rw [hr_n (by omega), e _ (by omega)]; exact rre y d0 d1
  · rw [hr_n (by omega), e5]; exact rnu
  · rw [e5] at i1
    rw [hr_n (by omega), hr_n (by omega), hr_n (by omega), e _ (by omega), e _ (by omega), e _ (by omega)]; exact rdv i i0 i1
theorem ldF_bP {ho sz : Int → Int} {d : Int} : sm (fun g => if bP (ho g) d = true then sz g else 0) 16 = ldF ho sz d := by
  unfold ldF
  refine sm_c (fun k hk => ?_)
  simp only [bP_iff]
theorem dX7_refill_0 : decode cX7_refill 0 = .ok (.iconst 0, 1) := by decide +kernel
theorem dX7_refill_1 : decode cX7_refill 1 = .ok (.istore_n 1, 1) := by decide +kernel
theorem dX7_refill_2 : decode cX7_refill 2 = .ok (.bipush 10, 2) := by decide +kernel
theorem dX7_refill_4 : decode cX7_refill 4 = .ok (.istore_n 2, 1) := by decide +kernel
theorem dX7_refill_5 : decode cX7_refill 5 = .ok (.iload_n 2, 1) := by decide +kernel
theorem dX7_refill_6 : decode cX7_refill 6 = .ok (.aload_n 0, 1) := by decide +kernel
theorem dX7_refill_7 : decode cX7_refill 7 = .ok (.getfield 51, 3) := by decide +kernel
theorem dX7_refill_10 : decode cX7_refill 10 = .ok (.getfield 84, 3) := by decide +kernel
theorem dX7_refill_13 : decode cX7_refill 13 = .ok (.invokevirtual 151, 3) := by decide +kernel
theorem dX7_refill_16 : decode cX7_refill 16 = .ok (.if_icmp .ge 43, 3) := by decide +kernel
theorem dX7_refill_19 : decode cX7_refill 19 = .ok (.aload_n 0, 1) := by decide +kernel
theorem dX7_refill_20 : decode cX7_refill 20 = .ok (.getfield 37, 3) := by decide +kernel
theorem dX7_refill_23 : decode cX7_refill 23 = .ok (.iload_n 2, 1) := by decide +kernel
theorem dX7_refill_24 : decode cX7_refill 24 = .ok (.aload_n 0, 1) := by decide +kernel
theorem dX7_refill_25 : decode cX7_refill 25 = .ok (.getfield 37, 3) := by decide +kernel
theorem dX7_refill_28 : decode cX7_refill 28 = .ok (.getfield 154, 3) := by decide +kernel
theorem dX7_refill_31 : decode cX7_refill 31 = .ok (.invokevirtual 157, 3) := by decide +kernel
theorem dX7_refill_34 : decode cX7_refill 34 = .ok (.aload_n 0, 1) := by decide +kernel
theorem dX7_refill_35 : decode cX7_refill 35 = .ok (.getfield 51, 3) := by decide +kernel
theorem dX7_refill_38 : decode cX7_refill 38 = .ok (.getfield 117, 3) := by decide +kernel
theorem dX7_refill_41 : decode cX7_refill 41 = .ok (.iload_n 2, 1) := by decide +kernel
theorem dX7_refill_42 : decode cX7_refill 42 = .ok (.iaload, 1) := by decide +kernel
theorem dX7_refill_43 : decode cX7_refill 43 = .ok (.if_icmp .lt 10, 3) := by decide +kernel
theorem dX7_refill_46 : decode cX7_refill 46 = .ok (.iload_n 1, 1) := by decide +kernel
theorem dX7_refill_47 : decode cX7_refill 47 = .ok (.iload_n 2, 1) := by decide +kernel
theorem dX7_refill_48 : decode cX7_refill 48 = .ok (.invokestatic 161, 3) := by decide +kernel
theorem dX7_refill_51 : decode cX7_refill 51 = .ok (.ior, 1) := by decide +kernel
theorem dX7_refill_52 : decode cX7_refill 52 = .ok (.istore_n 1, 1) := by decide +kernel
theorem dX7_refill_53 : decode cX7_refill 53 = .ok (.iinc 2 1, 3) := by decide +kernel
theorem dX7_refill_56 : decode cX7_refill 56 = .ok (.goto (-51), 3) := by decide +kernel
theorem dX7_refill_59 : decode cX7_refill 59 = .ok (.iload_n 1, 1) := by decide +kernel
theorem dX7_refill_60 : decode cX7_refill 60 = .ok (.aload_n 0, 1) := by decide +kernel
theorem dX7_refill_61 : decode cX7_refill 61 = .ok (.getfield 51, 3) := by decide +kernel
theorem dX7_refill_64 : decode cX7_refill 64 = .ok (.getfield 164, 3) := by decide +kernel
theorem dX7_refill_67 : decode cX7_refill 67 = .ok (.ixor, 1) := by decide +kernel
theorem dX7_refill_68 : decode cX7_refill 68 = .ok (.invokestatic 167, 3) := by decide +kernel
theorem dX7_refill_71 : decode cX7_refill 71 = .ok (.istore_n 2, 1) := by decide +kernel
theorem dX7_refill_72 : decode cX7_refill 72 = .ok (.iload_n 2, 1) := by decide +kernel
theorem dX7_refill_73 : decode cX7_refill 73 = .ok (.ifCond .ne 6, 3) := by decide +kernel
theorem dX7_refill_76 : decode cX7_refill 76 = .ok (.bipush (-2), 2) := by decide +kernel
theorem dX7_refill_78 : decode cX7_refill 78 = .ok (.ireturn, 1) := by decide +kernel
theorem dX7_refill_79 : decode cX7_refill 79 = .ok (.aload_n 0, 1) := by decide +kernel
theorem dX7_refill_80 : decode cX7_refill 80 = .ok (.aload_n 0, 1) := by decide +kernel
theorem dX7_refill_81 : decode cX7_refill 81 = .ok (.getfield 51, 3) := by decide +kernel
theorem dX7_refill_84 : decode cX7_refill 84 = .ok (.invokevirtual 147, 3) := by decide +kernel
theorem dX7_refill_87 : decode cX7_refill 87 = .ok (.aload_n 0, 1) := by decide +kernel
theorem dX7_refill_88 : decode cX7_refill 88 = .ok (.getfield 51, 3) := by decide +kernel
theorem dX7_refill_91 : decode cX7_refill 91 = .ok (.iload_n 1, 1) := by decide +kernel
theorem dX7_refill_92 : decode cX7_refill 92 = .ok (.putfield 164, 3) := by decide +kernel
theorem dX7_refill_95 : decode cX7_refill 95 = .ok (.aload_n 0, 1) := by decide +kernel
theorem dX7_refill_96 : decode cX7_refill 96 = .ok (.getfield 51, 3) := by decide +kernel
theorem dX7_refill_99 : decode cX7_refill 99 = .ok (.aload_n 0, 1) := by decide +kernel
theorem dX7_refill_100 : decode cX7_refill 100 = .ok (.getfield 19, 3) := by decide +kernel
theorem dX7_refill_103 : decode cX7_refill 103 = .ok (.invokevirtual 74, 3) := by decide +kernel
theorem dX7_refill_106 : decode cX7_refill 106 = .ok (.iload_n 2, 1) := by decide +kernel
theorem dX7_refill_107 : decode cX7_refill 107 = .ok (.ireturn, 1) := by decide +kernel
set_option maxHeartbeats 4000000 in
set_option maxRecDepth 20000 in
theorem c_X7_refill : ConI mX7_refill (fun args N lay r h Q => ∃ (c : Nat) (q : Int → Nat) (n : Int) (tx : Int → Int) (ep : Int) (km : Int → Int → Int) (mp F : Int → Int) (ux : Int) (sz ho : Int → Int) (sn : Int) (row : Int → Int), args = [.ref c] ∧ CI lay r h c q n tx ep km mp F ux sz ho sn row ∧ ep < 2147483646 ∧ ((sm (rfF mp (ldF ho sz)) (mp 130).toNat = 0 → Q (-2) N lay r h) ∧ (sm (rfF mp (ldF ho sz)) (mp 130).toNat ≠ 0 → ∀ (r2 : RfT) (h2 : HpT), FrR r r2 (fun x => x = c ∨ x = c + 6) → Fr h h2 (fun x => c ≤ x ∧ x < c + 101) → CI lay r2 h2 c (qN q) n tx (ep + 1) (kN km (rfR mp (ldF ho sz) (mp 130))) (rfR mp (ldF ho sz) (mp 130)) (plr (rfR mp (ldF ho sz) (mp 130))) ux sz ho sn row → Q (sm (rfF mp (ldF ho sz)) (mp 130).toNat) N lay r2 h2))) := by
  refine ConI.of (by decide) (by rintro _ N lay r h Q ⟨c, q, n, tx, ep, km, mp, F, ux, sz, ho, sn, row, rfl, hI, hep9, hQ⟩; exact ⟨rfl, Nat.le_of_ble_eq_true rfl⟩) ?_
  rintro E _ N lay r h Q ⟨c, q, n, tx, ep, km, mp, F, ux, sz, ho, sn, row, rfl, hI, hep9, hQ⟩ hret
  obtain ⟨hC, hLt, ⟨hCT, htx⟩, hSK, ⟨he8, hep⟩, hkm, ⟨hk0, h130⟩, hF0, ⟨hDa, hMk, hsz⟩, ⟨hOb, hSe⟩⟩ := id hI
  obtain ⟨cl0, cl6, ⟨cr0, cr1, cr2, cr3, cr4, cr5, cr6⟩, cT, cS, cP, cD, cE, cO⟩ := id hC
  obtain ⟨lr7, lr6, lpl, lrg, ldj⟩ := id hLt
  have hP0 := hkm 0 (by omega) (by omega) (by omega)
  rw [hk0] at hP0
  obtain ⟨hT, hR, hN, hW, hL, hPS⟩ := id hP0
  have hA := lpl 0 (by omega) (by omega)
  have q0r := lrg 0 (by omega) (by omega)
  obtain ⟨pl0, pl1, pl2, pl3, pl4, pl5, pl6, pl7, pl8, pl9, pl10, pl11, pl12, pl13, pr0, pr1, pr2, pr3, pr9, pr10, pr11, qr3, qr4, vr1, vr2, vr3, vr4⟩ := id hA
  obtain ⟨⟨n0, n1, n2⟩, up1, up2, uw, u0, uh⟩ := id hN
  obtain ⟨t1, t2, t3, t4, t5, t6, t7⟩ := id hT
  obtain ⟨⟨rl5, rl6, rl7, rl8⟩, rfu, rca, rre, rnu, rdv⟩ := id hL
  have r5 := hR.2.2.2.2.1
  obtain ⟨dl0, dl1, dl2, dr1, dr2⟩ := id cD
  obtain ⟨d0, d1, d2⟩ := id hDa
  show St E mX7_refill 0 [some (.ref c), none, none] [] (0, 0) N lay r h
  have lp : ∀ (n_ : Nat) (d : Int) (x : Int), (22 - d).toNat = n_ → (10 ≤ d ∧ d ≤ 10 + mp 130) → (LdM x mp (ldF ho sz) (d - 10).toNat) → St E mX7_refill 5 [some (.ref c), some (vI x), some (vI d)] [] (0, 0) N lay r h := by
    intro  n_
    induction n_ using Nat.strongRecOn with
    | ind n_ ih =>
      intro d x hn_ hd hx
      obtain ⟨k, rfl⟩ : ∃ k : Nat, d = 10 + k := ⟨(d - 10).toNat, by omega⟩
      rw [show (10 + (k : Int) - 10).toNat = k by omega] at hx
      have lr9 : 0 ≤ ldF ho sz (10 + (k : Int)) ∧ ldF ho sz (10 + (k : Int)) ≤ 16 * 9999 := by
        unfold ldF
        exact sm_r (n := 16) (fun g hg => by have := hsz g (by omega) (by omega); split <;> omega)
      refine r_iload_2 (pc := 5) dX7_refill_5 ?_
      refine r_aload_0 (pc := 6) dX7_refill_6 ?_
      refine gf_X7_51 (pc := 7) rfl (by assumption) dX7_refill_7 (by assumption) ?_
      refine gf_X7_84 (pc := 10) rfl (by assumption) dX7_refill_10 (by assumption) ?_
      refine k_VI0 (pc := 13) c_X6_endOfDisks lk_X7_151 ⟨Nat.le_of_ble_eq_true rfl, Nat.le_of_ble_eq_true rfl⟩ ⟨rfl, rfl⟩ ⟨Nat.le_of_ble_eq_true rfl, Nat.le_of_ble_eq_true rfl⟩ (k := 6) rfl (by decide) (by assumption) dX7_refill_13 (Nat.le_of_ble_eq_true rfl) ?_
      refine ⟨_, _, rfl, by assumption, fun i_13 => ?_⟩
      refine r_icmp_ge (pc := 16) (tgt := 59) dX7_refill_16 (by decide) (by omega) (by omega) (fun c_16 => ?_) (fun c_16 => ?_)
      · refine r_iload_1 (pc := 59) dX7_refill_59 ?_
        refine r_aload_0 (pc := 60) dX7_refill_60 ?_
        refine gf_X7_51 (pc := 61) rfl (by assumption) dX7_refill_61 (by assumption) ?_
        refine gf_X7_164 (pc := 64) rfl (by assumption) dX7_refill_64 (fun i_64 => ?_)
        refine r_ixor (pc := 67) dX7_refill_67 (fun i_67 => ?_)
        have k9 : (mp 130).toNat = k := by omega
        rw [← k9] at hx
        have fm : Ms (h (q 0) 4) := rfu.1
        have xr : 0 ≤ x ∧ x < 4096 := hx.1
        have xm : 0 ≤ iX x (h (q 0) 4) ∧ iX x (h (q 0) 4) < 4096 := X_12 hx.1 fm
        refine k_SI1 (pc := 68) c_J6_bitCount_0f7a4 lk_X7_167 ⟨Nat.le_of_ble_eq_true rfl, Nat.le_of_ble_eq_true rfl⟩ ⟨rfl, rfl⟩ ⟨Nat.le_of_ble_eq_true rfl, Nat.le_of_ble_eq_true rfl⟩ dX7_refill_68 (Nat.le_of_ble_eq_true rfl) ?_
        refine ⟨_, rfl, by omega, ?_⟩
        rw [rf_cnt hx rfu hT hR]
        have rr9 := sm_r (f := rfF mp (ldF ho sz)) (c := 1) (n := (mp 130).toNat) (fun g hg => bI_r)
        refine r_istore_2 (pc := 71) dX7_refill_71 rfl ?_
        refine r_iload_2 (pc := 72) dX7_refill_72 ?_
        refine r_if_ne (pc := 73) (tgt := 79) dX7_refill_73 (by decide) (by omega) (fun c_73 => ?_) (fun c_73 => ?_)
        · refine r_aload_0 (pc := 79) dX7_refill_79 ?_
          refine r_aload_0 (pc := 80) dX7_refill_80 ?_
          refine gf_X7_51 (pc := 81) rfl (by assumption) dX7_refill_81 (by assumption) ?_
          refine k_VV1 (pc := 84) c_X7_beginEpoch lk_X7_147 ⟨Nat.le_of_ble_eq_true rfl, Nat.le_of_ble_eq_true rfl⟩ ⟨rfl, rfl⟩ ⟨Nat.le_of_ble_eq_true rfl, Nat.le_of_ble_eq_true rfl⟩ (k := 7) rfl (by decide) (by assumption) dX7_refill_84 (Nat.le_of_ble_eq_true rfl) ?_
          refine ⟨_, _, q, 0, mp, rfl, hC, hLt, by omega, rfl, hP0, by omega, fun r_84 h_84 fr_84 hC2 hLt2 f_84 o_84 m_84 => ?_⟩
          have q4r := lrg 4 (by omega) (by omega)
          have lr7b : r_84 c 7 = some (q 4) := hLt2.1
          have hA4 : PlAt lay r_84 (q 4) := hLt2.2.2.1 0 (by omega) (by omega)
          obtain ⟨bl0, bl1, bl2, bl3, bl4, bl5, bl6, bl7, bl8, bl9, bl10, bl11, bl12, bl13, br0, br1, br2, br3, br9, br10, br11, cr3_, cr4_, wr1, wr2, wr3, wr4⟩ := id hA4
          obtain ⟨_, _, ⟨_, cr1b, _, _, cr4b, _, _⟩, _, cSb, _, cDb, _, _⟩ := id hC2
          have sl0 : lay (c + 4) = (5, 0) := cS.1
          have T0 : PTr h_84 (q 4) mp := m_84.2.2.1
          have L0 : PRl h_84 (q 4) mp := m_84.2.2.2.2.1
          have n4 := T0.1
          have SK0 : StK (h_84 (c + 4 + 1)) := by rw [f_84 _ (by omega)]; exact hSK
          have ec8 : h_84 c 8 = ep + 1 := by rw [o_84, up_s, he8]
          have ed0 : h_84 (c + 21) = h (c + 21) := f_84 _ (by omega)
          have DA0 : DaS h_84 (c + 21) ux sz ho := hDa.of (f_84 _ (by omega)) (f_84 _ (by omega)) (f_84 _ (by omega))
          refine r_aload_0 (pc := 87) dX7_refill_87 ?_
          refine gf_X7_51 (pc := 88) rfl (by assumption) dX7_refill_88 (by assumption) ?_
          refine r_iload_1 (pc := 91) dX7_refill_91 ?_
          refine pf_X7_164 (pc := 92) rfl (by assumption) dX7_refill_92 (by omega) ?_
          have TM : TrM (rfR mp (ldF ho sz) (mp 130)) := TrM_c hT (fun j hj => if_neg (by omega))
          have RM : RlM (rfR mp (ldF ho sz) (mp 130)) := RlM_rf hR hT
          have T1 : PTr (hr h_84 (q 4) (up (h_84 (q 4)) 4 x)) (q 4) (rfR mp (ldF ho sz) (mp 130)) := (T0.of (hr_n (by omega)) (hr_n (by omega)) (hr_n (by omega)) : PTr (hr h_84 (q 4) (up (h_84 (q 4)) 4 x)) (q 4) mp).cg (fun j j0 j1 => if_neg (by omega)) hT
          have L1 : PRl (hr h_84 (q 4) (up (h_84 (q 4)) 4 x)) (q 4) (rfR mp (ldF ho sz) (mp 130)) := PRl_rf hT hR L0 hx
          have SK1 : StK ((hr h_84 (q 4) (up (h_84 (q 4)) 4 x)) (c + 4 + 1)) := by rw [hr_n (by omega)]; exact SK0
          refine r_aload_0 (pc := 95) dX7_refill_95 ?_
          refine gf_X7_51 (pc := 96) rfl (by assumption) dX7_refill_96 (by assumption) ?_
          refine r_aload_0 (pc := 99) dX7_refill_99 ?_
          refine gf_X7_19 (pc := 100) rfl (by assumption) dX7_refill_100 (by assumption) ?_
          refine k_VV1 (pc := 103) c_X3_settleAll lk_X7_74 ⟨Nat.le_of_ble_eq_true rfl, Nat.le_of_ble_eq_true rfl⟩ ⟨rfl, rfl⟩ ⟨Nat.le_of_ble_eq_true rfl, Nat.le_of_ble_eq_true rfl⟩ (k := 3) rfl (by decide) (by assumption) dX7_refill_103 (Nat.le_of_ble_eq_true rfl) ?_
          refine ⟨_, _, _, rfl, hA4, cSb, by omega, TM, RM, T1, L1, SK1, fun h_103 f_103 t_103 w_103 l_103 s_103 k_103 => ?_⟩
          refine r_iload_2 (pc := 106) dX7_refill_106 ?_
          refine r_iret (pc := 107) hret dX7_refill_107 rfl rfl rfl ?_
          first
          | exact hQ.1 c_73
          | (refine (hQ.2 c_73) r_84 h_103 fr_84 (fun x hx => by rw [f_103 x (by omega), hr_n (by omega)]; exact f_84 x (by omega)) (hI.ch hC2 hLt2 (fun x x0 x1 hx => by rw [f_103 x (by omega), hr_n (by omega)]; exact f_84 x (by omega)) (by rw [f_103 _ (by omega), hr_n (by omega)]; exact ec8) (by omega) k_103 ⟨TM, RM, t_103, w_103, l_103, s_103⟩ (by rw [show (rfR mp (ldF ho sz) (mp 130)) 130 = mp 130 from if_neg (by omega)]; exact h130) ⟨(show DaS h_103 (c + 21) ux sz ho from DA0.of (by rw [f_103 _ (by omega), hr_n (by omega)]) (by rw [f_103 _ (by omega), hr_n (by omega)]) (by rw [f_103 _ (by omega), hr_n (by omega)])), hMk⟩))
        · refine r_bipush (pc := 76) dX7_refill_76 (by decide) ?_
          refine r_iret (pc := 78) hret dX7_refill_78 rfl rfl rfl ?_
          first
          | exact hQ.1 c_73
          | (refine (hQ.2 c_73) r_84 h_103 fr_84 (fun x hx => by rw [f_103 x (by omega), hr_n (by omega)]; exact f_84 x (by omega)) (hI.ch hC2 hLt2 (fun x x0 x1 hx => by rw [f_103 x (by omega), hr_n (by omega)]; exact f_84 x (by omega)) (by rw [f_103 _ (by omega), hr_n (by omega)]; exact ec8) (by omega) k_103 ⟨TM, RM, t_103, w_103, l_103, s_103⟩ (by rw [show (rfR mp (ldF ho sz) (mp 130)) 130 = mp 130 from if_neg (by omega)]; exact h130) ⟨(show DaS h_103 (c + 21) ux sz ho from DA0.of (by rw [f_103 _ (by omega), hr_n (by omega)]) (by rw [f_103 _ (by omega), hr_n (by omega)]) (by rw [f_103 _ (by omega), hr_n (by omega)])), hMk⟩))
      · refine r_aload_0 (pc := 19) dX7_refill_19 ?_
        refine gf_X7_37 (pc := 20) rfl (by assumption) dX7_refill_20 (by assumption) ?_
        refine r_iload_2 (pc := 23) dX7_refill_23 ?_
        refine r_aload_0 (pc := 24) dX7_refill_24 ?_
        refine gf_X7_37 (pc := 25) rfl (by assumption) dX7_refill_25 (by assumption) ?_
        refine gf_X7_154 (pc := 28) rfl (by assumption) dX7_refill_28 (by assumption) ?_
        refine k_VI2 (pc := 31) c_X0_sizeOn lk_X7_157 ⟨Nat.le_of_ble_eq_true rfl, Nat.le_of_ble_eq_true rfl⟩ ⟨rfl, rfl⟩ ⟨Nat.le_of_ble_eq_true rfl, Nat.le_of_ble_eq_true rfl⟩ (k := 0) rfl (by decide) (by assumption) dX7_refill_31 (Nat.le_of_ble_eq_true rfl) ?_
        refine ⟨_, ux, sz, ho, _, _, ho, rfl, cD, hDa, hMk, by omega, dl2, fun g g0 g1 => ⟨d2 g g0 g1, hMk.2 g g0 g1⟩, ?_⟩
        rw [ldF_bP]
        refine r_aload_0 (pc := 34) dX7_refill_34 ?_
        refine gf_X7_51 (pc := 35) rfl (by assumption) dX7_refill_35 (by assumption) ?_
        refine gf_X7_117 (pc := 38) rfl (by assumption) dX7_refill_38 (by assumption) ?_
        refine r_iload_2 (pc := 41) dX7_refill_41 ?_
        refine r_ialdE (pc := 42) (by assumption) (by first | assumption | exact rfl) dX7_refill_42 (by omega) (by omega) (fun i_42 => ?_)
        rw [rca _ (by omega) (by omega)] at i_42 ⊢
        refine r_icmp_lt (pc := 43) (tgt := 53) dX7_refill_43 (by decide) (by omega) (by omega) (fun c_43 => ?_) (fun c_43 => ?_)
        · refine r_iinc_2 (pc := 53) dX7_refill_53 rfl ?_
          refine r_goto (pc := 56) (tgt := 5) dX7_refill_56 (by decide) ?_
          first
          | (have k9 : ldF ho sz (10 + (k : Int)) < mp (44 + (10 + (k : Int))) := c_43
             exact ih _ (by omega) (10 + (k : Int) + 1) _ rfl (by omega) (by rw [show (10 + (k : Int) + 1 - 10).toNat = k + 1 by omega]; exact LdM_n hx (by omega)))
          | (have k9 : mp (44 + (10 + (k : Int))) ≤ ldF ho sz (10 + (k : Int)) := by omega
             exact ih _ (by omega) (10 + (k : Int) + 1) _ rfl (by omega) (by rw [show (10 + (k : Int) + 1 - 10).toNat = k + 1 by omega]; exact LdM_s hx (by omega) k9))
        · refine r_iload_1 (pc := 46) dX7_refill_46 ?_
          refine r_iload_2 (pc := 47) dX7_refill_47 ?_
          refine k_SI1 (pc := 48) c_X7_bitOf lk_X7_161 ⟨Nat.le_of_ble_eq_true rfl, Nat.le_of_ble_eq_true rfl⟩ ⟨rfl, rfl⟩ ⟨Nat.le_of_ble_eq_true rfl, Nat.le_of_ble_eq_true rfl⟩ dX7_refill_48 (Nat.le_of_ble_eq_true rfl) ?_
          refine ⟨_, rfl, fun i_48 => ?_⟩
          refine r_ior (pc := 51) dX7_refill_51 (fun i_51 => ?_)
          refine r_istore_1 (pc := 52) dX7_refill_52 rfl ?_
          refine r_iinc_2 (pc := 53) dX7_refill_53 rfl ?_
          refine r_goto (pc := 56) (tgt := 5) dX7_refill_56 (by decide) ?_
          first
          | (have k9 : ldF ho sz (10 + (k : Int)) < mp (44 + (10 + (k : Int))) := c_43
             exact ih _ (by omega) (10 + (k : Int) + 1) _ rfl (by omega) (by rw [show (10 + (k : Int) + 1 - 10).toNat = k + 1 by omega]; exact LdM_n hx (by omega)))
          | (have k9 : mp (44 + (10 + (k : Int))) ≤ ldF ho sz (10 + (k : Int)) := by omega
             exact ih _ (by omega) (10 + (k : Int) + 1) _ rfl (by omega) (by rw [show (10 + (k : Int) + 1 - 10).toNat = k + 1 by omega]; exact LdM_s hx (by omega) k9))
  refine r_iconst (pc := 0) dX7_refill_0 ?_
  refine r_istore_1 (pc := 1) dX7_refill_1 rfl ?_
  refine r_bipush (pc := 2) dX7_refill_2 (by decide) ?_
  refine r_istore_2 (pc := 4) dX7_refill_4 rfl ?_
  refine lp _ 10 0 rfl (by omega) ⟨⟨by omega, by omega⟩, fun k => ?_⟩
  rw [tb_0]
  constructor
  · intro z; cases z
  · intro z; omega

theorem dX7_beginWithTrial_0 : decode cX7_beginWithTrial 0 = .ok (.aload_n 0, 1) := by decide +kernel
theorem dX7_beginWithTrial_1 : decode cX7_beginWithTrial 1 = .ok (.getfield 51, 3) := by decide +kernel
theorem dX7_beginWithTrial_4 : decode cX7_beginWithTrial 4 = .ok (.aload_n 0, 1) := by decide +kernel
theorem dX7_beginWithTrial_5 : decode cX7_beginWithTrial 5 = .ok (.getfield 30, 3) := by decide +kernel
theorem dX7_beginWithTrial_8 : decode cX7_beginWithTrial 8 = .ok (.invokevirtual 275, 3) := by decide +kernel
theorem dX7_beginWithTrial_11 : decode cX7_beginWithTrial 11 = .ok (.aload_n 0, 1) := by decide +kernel
theorem dX7_beginWithTrial_12 : decode cX7_beginWithTrial 12 = .ok (.iconst 1, 1) := by decide +kernel
theorem dX7_beginWithTrial_13 : decode cX7_beginWithTrial 13 = .ok (.putfield 225, 3) := by decide +kernel
theorem dX7_beginWithTrial_16 : decode cX7_beginWithTrial 16 = .ok (.aload_n 0, 1) := by decide +kernel
theorem dX7_beginWithTrial_17 : decode cX7_beginWithTrial 17 = .ok (.getfield 37, 3) := by decide +kernel
theorem dX7_beginWithTrial_20 : decode cX7_beginWithTrial 20 = .ok (.aload_n 0, 1) := by decide +kernel
theorem dX7_beginWithTrial_21 : decode cX7_beginWithTrial 21 = .ok (.getfield 51, 3) := by decide +kernel
theorem dX7_beginWithTrial_24 : decode cX7_beginWithTrial 24 = .ok (.invokevirtual 344, 3) := by decide +kernel
theorem dX7_beginWithTrial_27 : decode cX7_beginWithTrial 27 = .ok (.aload_n 0, 1) := by decide +kernel
theorem dX7_beginWithTrial_28 : decode cX7_beginWithTrial 28 = .ok (.getfield 47, 3) := by decide +kernel
theorem dX7_beginWithTrial_31 : decode cX7_beginWithTrial 31 = .ok (.iconst 0, 1) := by decide +kernel
theorem dX7_beginWithTrial_32 : decode cX7_beginWithTrial 32 = .ok (.putfield 316, 3) := by decide +kernel
theorem dX7_beginWithTrial_35 : decode cX7_beginWithTrial 35 = .ok (.return_, 1) := by decide +kernel
set_option maxHeartbeats 4000000 in
set_option maxRecDepth 20000 in
theorem c_X7_beginWithTrial : ConV mX7_beginWithTrial (fun args N lay r h Q => ∃ (c : Nat) (q : Int → Nat) (M : Int → Int), args = [.ref c] ∧ CAt lay r c ∧ LtAt lay r c q ∧ PMap h (c + 7) M ∧ ∀ h2, Fr h h2 (fun x => x = c ∨ (q 0 ≤ x ∧ x < q 0 + 14) ∨ x = c + 21 ∨ x = c + 22 ∨ x = c + 23 ∨ x = c + 27) → PMap h2 (q 0) M → h2 c = up (h c) 8 1 → DaS h2 (c + 21) (iSl 1 (M 130) - 1) (fun _ => 0) (pb (plr M)) → h2 (c + 27) = up (h (c + 27)) 0 0 → Q N lay r h2) := by
  refine ConV.of (by decide) (by rintro _ N lay r h Q ⟨c, q, M, rfl, hC, hLt, hM, hQ⟩; exact ⟨rfl, Nat.le_of_ble_eq_true rfl⟩) ?_
  rintro E _ N lay r h Q ⟨c, q, M, rfl, hC, hLt, hM, hQ⟩ hret
  obtain ⟨cl0, cl6, ⟨cr0, cr1, cr2, cr3, cr4, cr5, cr6⟩, cT, cS, cP, cD, cE, cO⟩ := id hC
  obtain ⟨lr7, lr6, lpl, lrg, ldj⟩ := id hLt
  have hA := lpl 0 (by omega) (by omega)
  have q0r := lrg 0 (by omega) (by omega)
  obtain ⟨pl0, pl1, pl2, pl3, pl4, pl5, pl6, pl7, pl8, pl9, pl10, pl11, pl12, pl13, pr0, pr1, pr2, pr3, pr9, pr10, pr11, qr3, qr4, vr1, vr2, vr3, vr4⟩ := id hA
  have dl0 : lay (c + 21) = (1, 0) := cD.1
  have ol0 : lay (c + 27) = (3, 0) := cO.1
  have TM := hM.1
  show St E mX7_beginWithTrial 0 [some (.ref c)] [] (0, 0) N lay r h
  refine r_aload_0 (pc := 0) dX7_beginWithTrial_0 ?_
  refine gf_X7_51 (pc := 1) rfl (by assumption) dX7_beginWithTrial_1 (by assumption) ?_
  refine r_aload_0 (pc := 4) dX7_beginWithTrial_4 ?_
  refine gf_X7_30 (pc := 5) rfl (by assumption) dX7_beginWithTrial_5 (by assumption) ?_
  refine k_VV1 (pc := 8) c_X3_copyFrom lk_X7_275 ⟨Nat.le_of_ble_eq_true rfl, Nat.le_of_ble_eq_true rfl⟩ ⟨rfl, rfl⟩ ⟨Nat.le_of_ble_eq_true rfl, Nat.le_of_ble_eq_true rfl⟩ (k := 3) rfl (by decide) (by assumption) dX7_beginWithTrial_8 (Nat.le_of_ble_eq_true rfl) ?_
  refine ⟨_, _, rfl, hA, cP, (by omega), fun h_8 f_8 a_8 => ?_⟩
  have m_8 : PMap h_8 (q 0) M := hM.cp a_8
  refine r_aload_0 (pc := 11) dX7_beginWithTrial_11 ?_
  refine r_iconst (pc := 12) dX7_beginWithTrial_12 ?_
  refine pf_X7_225 (pc := 13) rfl (by assumption) dX7_beginWithTrial_13 (by omega) ?_
  rw [f_8 c (by omega)]
  have T2 : PTr (hr h_8 c (up (h c) 8 1)) (q 0) M := m_8.2.2.1.of (hr_n (by omega)) (hr_n (by omega)) (hr_n (by omega))
  have P2 : ∀ g, 0 ≤ g → g < 16 → hr h_8 c (up (h c) 8 1) (q 0 + 13) g = pb (plr M) g := fun g g0 g1 => by rw [hr_n (by omega)]; exact m_8.2.2.2.2.2.2.2.1 g g0 g1
  refine r_aload_0 (pc := 16) dX7_beginWithTrial_16 ?_
  refine gf_X7_37 (pc := 17) rfl (by assumption) dX7_beginWithTrial_17 (by assumption) ?_
  refine r_aload_0 (pc := 20) dX7_beginWithTrial_20 ?_
  refine gf_X7_51 (pc := 21) rfl (by assumption) dX7_beginWithTrial_21 (by assumption) ?_
  refine k_VV1 (pc := 24) c_X0_begin lk_X7_344 ⟨Nat.le_of_ble_eq_true rfl, Nat.le_of_ble_eq_true rfl⟩ ⟨rfl, rfl⟩ ⟨Nat.le_of_ble_eq_true rfl, Nat.le_of_ble_eq_true rfl⟩ (k := 0) rfl (by decide) (by assumption) dX7_beginWithTrial_24 (Nat.le_of_ble_eq_true rfl) ?_
  refine ⟨_, _, M, plr M, rfl, cD, hA, by omega, TM, T2, P2, fun h_24 f_24 a_24 => ?_⟩
  refine r_aload_0 (pc := 27) dX7_beginWithTrial_27 ?_
  refine gf_X7_47 (pc := 28) rfl (by assumption) dX7_beginWithTrial_28 (by assumption) ?_
  refine r_iconst (pc := 31) dX7_beginWithTrial_31 ?_
  refine pf_X7_316 (pc := 32) rfl (by assumption) dX7_beginWithTrial_32 (by omega) ?_
  refine r_ret (pc := 35) hret dX7_beginWithTrial_35 rfl rfl rfl ?_
  refine hQ _ (fun x hx => ?_) ?_ ?_ ?_ ?_
  · rw [hr_n (by omega), f_24 x (by omega), hr_n (by omega)]; exact f_8 x (by omega)
  · exact m_8.of (fun x x0 x1 => by rw [hr_n (by omega), f_24 x (by omega), hr_n (by omega)])
  · rw [hr_n (by omega), f_24 c (by omega), hr_s]
  · exact a_24.of (hr_n (by omega)) (hr_n (by omega)) (hr_n (by omega))
  · rw [hr_s, f_24 _ (by omega), hr_n (by omega), f_8 _ (by omega)]

theorem rds_r {n : Int} {tx : Int → Int} (hn : n ≤ 200) : ∀ (fu : Nat) (i : Int) (tl : Int → Int), 0 ≤ i → (rds n tx fu i tl).1 = -4 ∨ (0 ≤ (rds n tx fu i tl).1 ∧ (rds n tx fu i tl).1 < 200)
  | 0, i, tl, _ => Or.inl rfl
  | fu + 1, i, tl, hi => by
    show (if n ≤ i then (-4, tl) else if (rdI n tx (tx i) (i + 1) tl).1 < 0 ∨ ltr n tx (rdI n tx (tx i) (i + 1) tl).1 ≠ 59 then (i, (rdI n tx (tx i) (i + 1) tl).2) else rds n tx fu ((rdI n tx (tx i) (i + 1) tl).1 + 1) (rdI n tx (tx i) (i + 1) tl).2).1 = -4 ∨ (0 ≤ (if n ≤ i then (-4, tl) else if (rdI n tx (tx i) (i + 1) tl).1 < 0 ∨ ltr n tx (rdI n tx (tx i) (i + 1) tl).1 ≠ 59 then (i, (rdI n tx (tx i) (i + 1) tl).2) else rds n tx fu ((rdI n tx (tx i) (i + 1) tl).1 + 1) (rdI n tx (tx i) (i + 1) tl).2).1 ∧ (if n ≤ i then (-4, tl) else if (rdI n tx (tx i) (i + 1) tl).1 < 0 ∨ ltr n tx (rdI n tx (tx i) (i + 1) tl).1 ≠ 59 then (i, (rdI n tx (tx i) (i + 1) tl).2) else rds n tx fu ((rdI n tx (tx i) (i + 1) tl).1 + 1) (rdI n tx (tx i) (i + 1) tl).2).1 < 200)
    split
    · exact Or.inl rfl
    · split
      · exact Or.inr ⟨hi, by dsimp only; omega⟩
      · rename_i z
        have : 0 ≤ (rdI n tx (tx i) (i + 1) tl).1 := by
          apply Classical.byContradiction
          intro y
          exact z (Or.inl (by omega))
        exact rds_r hn fu _ _ (by omega)
theorem dX7_lay_0 : decode cX7_lay 0 = .ok (.aload_n 0, 1) := by decide +kernel
theorem dX7_lay_1 : decode cX7_lay 1 = .ok (.getfield 10, 3) := by decide +kernel
theorem dX7_lay_4 : decode cX7_lay 4 = .ok (.aload_n 0, 1) := by decide +kernel
theorem dX7_lay_5 : decode cX7_lay 5 = .ok (.getfield 30, 3) := by decide +kernel
theorem dX7_lay_8 : decode cX7_lay 8 = .ok (.invokevirtual 70, 3) := by decide +kernel
theorem dX7_lay_11 : decode cX7_lay 11 = .ok (.bipush (-4), 2) := by decide +kernel
theorem dX7_lay_13 : decode cX7_lay 13 = .ok (.if_icmp .ne 16, 3) := by decide +kernel
theorem dX7_lay_16 : decode cX7_lay 16 = .ok (.aload_n 0, 1) := by decide +kernel
theorem dX7_lay_17 : decode cX7_lay 17 = .ok (.getfield 30, 3) := by decide +kernel
theorem dX7_lay_20 : decode cX7_lay 20 = .ok (.getfield 84, 3) := by decide +kernel
theorem dX7_lay_23 : decode cX7_lay 23 = .ok (.getfield 88, 3) := by decide +kernel
theorem dX7_lay_26 : decode cX7_lay 26 = .ok (.ifCond .ne 6, 3) := by decide +kernel
theorem dX7_lay_29 : decode cX7_lay 29 = .ok (.bipush (-2), 2) := by decide +kernel
theorem dX7_lay_31 : decode cX7_lay 31 = .ok (.ireturn, 1) := by decide +kernel
theorem dX7_lay_32 : decode cX7_lay 32 = .ok (.aload_n 0, 1) := by decide +kernel
theorem dX7_lay_33 : decode cX7_lay 33 = .ok (.getfield 30, 3) := by decide +kernel
theorem dX7_lay_36 : decode cX7_lay 36 = .ok (.aload_n 0, 1) := by decide +kernel
theorem dX7_lay_37 : decode cX7_lay 37 = .ok (.getfield 19, 3) := by decide +kernel
theorem dX7_lay_40 : decode cX7_lay 40 = .ok (.invokevirtual 74, 3) := by decide +kernel
theorem dX7_lay_43 : decode cX7_lay 43 = .ok (.aload_n 0, 1) := by decide +kernel
theorem dX7_lay_44 : decode cX7_lay 44 = .ok (.invokevirtual 78, 3) := by decide +kernel
theorem dX7_lay_47 : decode cX7_lay 47 = .ok (.aload_n 0, 1) := by decide +kernel
theorem dX7_lay_48 : decode cX7_lay 48 = .ok (.getfield 51, 3) := by decide +kernel
theorem dX7_lay_51 : decode cX7_lay 51 = .ok (.getfield 84, 3) := by decide +kernel
theorem dX7_lay_54 : decode cX7_lay 54 = .ok (.getfield 88, 3) := by decide +kernel
theorem dX7_lay_57 : decode cX7_lay 57 = .ok (.ireturn, 1) := by decide +kernel
set_option maxHeartbeats 4000000 in
set_option maxRecDepth 20000 in
theorem c_X7_lay : ConI mX7_lay (fun args N lay r h Q => ∃ (c : Nat) (q : Int → Nat) (n : Int) (tx : Int → Int) (ep : Int) (km : Int → Int → Int) (mp F : Int → Int) (ux : Int) (sz ho : Int → Int) (sn : Int) (row : Int → Int) (f0 : Int → Int), args = [.ref c] ∧ CI lay r h c q n tx ep km mp F ux sz ho sn row ∧ (¬ ((rds n tx 201 0 (bgn f0)).1 = -4 ∧ (rds n tx 201 0 (bgn f0)).2 130 ≠ 0) → ∀ h2, Fr h h2 (fun x => c ≤ x ∧ x < c + 101) → CI lay r h2 c q n tx ep km mp F ux sz ho sn row → Q (-2) N lay r h2) ∧ (((rds n tx 201 0 (bgn f0)).1 = -4 ∧ (rds n tx 201 0 (bgn f0)).2 130 ≠ 0) → ∀ h2, Fr h h2 (fun x => c ≤ x ∧ x < c + 101) → CI lay r h2 c q n tx 1 (fun _ => (cpR (rds n tx 201 0 (bgn f0)).2 mp 136)) (cpR (rds n tx 201 0 (bgn f0)).2 mp 136) (plr (cpR (rds n tx 201 0 (bgn f0)).2 mp 136)) (iSl 1 ((rds n tx 201 0 (bgn f0)).2 130) - 1) (fun _ => 0) (pb (plr (cpR (rds n tx 201 0 (bgn f0)).2 mp 136))) 0 row → Q ((rds n tx 201 0 (bgn f0)).2 130) N lay r h2)) := by
  refine ConI.of (by decide) (by rintro _ N lay r h Q ⟨c, q, n, tx, ep, km, mp, F, ux, sz, ho, sn, row, f0, rfl, hI, hB, hQ⟩; exact ⟨rfl, Nat.le_of_ble_eq_true rfl⟩) ?_
  rintro E _ N lay r h Q ⟨c, q, n, tx, ep, km, mp, F, ux, sz, ho, sn, row, f0, rfl, hI, hB, hQ⟩ hret
  obtain ⟨hC, hLt, ⟨hCT, htx⟩, hSK, ⟨he8, hep⟩, hkm, ⟨hk0, h130⟩, hF0, ⟨hDa, hMk, hsz⟩, ⟨hOb, hSe⟩⟩ := id hI
  obtain ⟨cl0, cl6, ⟨cr0, cr1, cr2, cr3, cr4, cr5, cr6⟩, cT, cS, cP, cD, cE, cO⟩ := id hC
  obtain ⟨lr7, lr6, lpl, lrg, ldj⟩ := id hLt
  have hP0 := hkm 0 (by omega) (by omega) (by omega)
  rw [hk0] at hP0
  obtain ⟨hT, hR, hN, hW, hL, hPS⟩ := id hP0
  have hA := lpl 0 (by omega) (by omega)
  have q0r := lrg 0 (by omega) (by omega)
  obtain ⟨pl0, pl1, pl2, pl3, pl4, pl5, pl6, pl7, pl8, pl9, pl10, pl11, pl12, pl13, pr0, pr1, pr2, pr3, pr9, pr10, pr11, qr3, qr4, vr1, vr2, vr3, vr4⟩ := id hA
  obtain ⟨⟨n0, n1, n2⟩, up1, up2, uw, u0, uh⟩ := id hN
  obtain ⟨t1, t2, t3, t4, t5, t6, t7⟩ := id hT
  obtain ⟨xl0, xl1, xl2, xr1, xr3⟩ := id cT
  obtain ⟨x0, x1, x2⟩ := id hCT
  obtain ⟨tl0, tl1, tl2, tl3, tl4, tl5, tl6, tl7, tl8, tl9, tl10, tl11, tl12, tl13, tr0, tr1, tr2, tr3, tr9, tr10, tr11, sr3, sr4, ur1, ur2, ur3, ur4⟩ := id cP
  have sl0 : lay (c + 4) = (5, 0) := cS.1
  show St E mX7_lay 0 [some (.ref c)] [] (0, 0) N lay r h
  refine r_aload_0 (pc := 0) dX7_lay_0 ?_
  refine gf_X7_10 (pc := 1) rfl (by assumption) dX7_lay_1 (by assumption) ?_
  refine r_aload_0 (pc := 4) dX7_lay_4 ?_
  refine gf_X7_30 (pc := 5) rfl (by assumption) dX7_lay_5 (by assumption) ?_
  refine k_VI1 (pc := 8) c_X5_readInto lk_X7_70 ⟨Nat.le_of_ble_eq_true rfl, Nat.le_of_ble_eq_true rfl⟩ ⟨rfl, rfl⟩ ⟨Nat.le_of_ble_eq_true rfl, Nat.le_of_ble_eq_true rfl⟩ (k := 5) rfl (by decide) (by assumption) dX7_lay_8 (Nat.le_of_ble_eq_true rfl) ?_
  refine ⟨_, n, tx, _, f0, rfl, cT, hCT, htx, cP, by omega, fun h_8 f_8 o_8 a_8 => ?_⟩
  have rq : (rds n tx 201 0 (bgn f0)).1 = -4 ∨ (0 ≤ (rds n tx 201 0 (bgn f0)).1 ∧ (rds n tx 201 0 (bgn f0)).1 < 200) := rds_r (by omega) 201 0 (bgn f0) (by omega)
  generalize hrd : rds n tx 201 0 (bgn f0) = R at *
  refine r_bipush (pc := 11) dX7_lay_11 (by decide) ?_
  refine r_icmp_ne (pc := 13) (tgt := 29) dX7_lay_13 (by decide) (by omega) (by omega) (fun c_13 => ?_) (fun c_13 => ?_)
  · refine r_bipush (pc := 29) dX7_lay_29 (by decide) ?_
    refine r_iret (pc := 31) hret dX7_lay_31 rfl rfl rfl ?_
    first
    | (have k9 : ¬ R.1 = -4 := c_13
       exact hB (fun z => k9 z.1) h_8 (fun x hx => f_8 x (by omega)) (hI.t (fun x x0 x1 hx => f_8 x (by omega)) (by rw [o_8, up_n (by omega)]) (by rw [f_8 _ (by omega)]; exact hSK)))
    | (have k9 : R.2 130 = 0 := c_26
       exact hB (fun z => z.2 k9) h_8 (fun x hx => f_8 x (by omega)) (hI.t (fun x x0 x1 hx => f_8 x (by omega)) (by rw [o_8, up_n (by omega)]) (by rw [f_8 _ (by omega)]; exact hSK)))
    | (have k9 : ¬ R.2 130 = 0 := c_26
       have m130 : cpR R.2 mp 136 130 = R.2 130 := cpe _ (by omega) (by omega)
       rw [m130] at d_44
       have t9 := hI8.1.2.2.1
       have sr := S_r (j := R.2 130) (n := 13) (by omega) (by omega) (by omega)
       have s12 : iSl 1 (R.2 130) ≤ 4096 := by
         have e9 := iS1_n (j := (R.2 130).toNat) (by omega)
         rw [show (((R.2 130).toNat : Nat) : Int) = R.2 130 by omega] at e9
         have p9 := Nat.pow_le_pow_right (n := 2) (by omega) (show (R.2 130).toNat ≤ 12 by omega)
         omega
       refine hQ ⟨c_13, k9⟩ h_44 (fun x hx => by rw [f_44 x (by omega), f_40 x (by omega)]; exact f_8 x (by omega)) ⟨hC, hLt, ⟨hCT.of (by rw [f_44 _ (by omega), f_40 _ (by omega), o_8, up_n (by omega)]) (by rw [f_44 _ (by omega), f_40 _ (by omega)]; exact f_8 _ (by omega)), htx⟩, by rw [f_44 _ (by omega)]; exact k_40, ⟨by rw [b_44, up_s], by omega, by omega⟩, fun i i0 i1 i2 => ?_, ⟨rfl, by rw [m130]; omega⟩, fun _ _ _ => rfl, ⟨d_44, ⟨⟨by omega, by omega⟩, fun g g0 g1 => pb_12 ((FdI_plr TM RM).g g0 g1)⟩, fun g g0 g1 => ⟨Int.le_refl 0, (show (0 : Int) ≤ 9999 by decide)⟩⟩, ⟨⟨by rw [e_44, up_s], fun i i0 i1 => by omega⟩, ⟨by omega, fun i i0 i1 => by omega⟩⟩⟩
       rw [show i = 0 by omega]; exact a_44)
  · obtain ⟨hI8, t8, l8⟩ := a_8 (by omega)
    have e130 : h_8 (c + 7 + 1) 2 = R.2 130 := t8.1.2.2
    have SK1 : StK (h_8 (c + 4 + 1)) := by rw [f_8 _ (by omega)]; exact hSK
    have cpe : ∀ j, 0 ≤ j → j < 136 → cpR R.2 mp 136 j = R.2 j := fun j j0 j1 => cpR_t ⟨j0, j1⟩
    have TM : TrM (cpR R.2 mp 136) := TrM_c hI8.1 (fun j hj => cpe j (by omega) (by omega))
    have RM : RlM (cpR R.2 mp 136) := RlM_c hI8.2.1 hI8.1 (fun j hj => cpe j (by omega) (by omega))
    have T1 : PTr h_8 (c + 7) (cpR R.2 mp 136) := t8.cg (fun j j0 j1 => cpe j (by omega) (by omega)) hI8.1
    have L1 : PRl h_8 (c + 7) (cpR R.2 mp 136) := l8.cg (fun j j0 j1 j2 j3 => cpe j (by omega) (by omega)) hI8.1.2.2.1 hI8.2.1.2.2.2.2.1
    refine r_aload_0 (pc := 16) dX7_lay_16 ?_
    refine gf_X7_30 (pc := 17) rfl (by assumption) dX7_lay_17 (by assumption) ?_
    refine gf_X7_84 (pc := 20) rfl (by assumption) dX7_lay_20 (by assumption) ?_
    refine gf_X7_88 (pc := 23) rfl (by assumption) dX7_lay_23 (fun i_23 => ?_)
    rw [e130] at i_23 ⊢
    refine r_if_ne (pc := 26) (tgt := 32) dX7_lay_26 (by decide) (by omega) (fun c_26 => ?_) (fun c_26 => ?_)
    · refine r_aload_0 (pc := 32) dX7_lay_32 ?_
      refine gf_X7_30 (pc := 33) rfl (by assumption) dX7_lay_33 (by assumption) ?_
      refine r_aload_0 (pc := 36) dX7_lay_36 ?_
      refine gf_X7_19 (pc := 37) rfl (by assumption) dX7_lay_37 (by assumption) ?_
      refine k_VV1 (pc := 40) c_X3_settleAll lk_X7_74 ⟨Nat.le_of_ble_eq_true rfl, Nat.le_of_ble_eq_true rfl⟩ ⟨rfl, rfl⟩ ⟨Nat.le_of_ble_eq_true rfl, Nat.le_of_ble_eq_true rfl⟩ (k := 3) rfl (by decide) (by assumption) dX7_lay_40 (Nat.le_of_ble_eq_true rfl) ?_
      refine ⟨_, cpR R.2 mp 136, _, rfl, cP, cS, by omega, TM, RM, T1, L1, SK1, fun h_40 f_40 t_40 w_40 l_40 s_40 k_40 => ?_⟩
      refine r_aload_0 (pc := 43) dX7_lay_43 ?_
      refine k_VV0 (pc := 44) c_X7_beginWithTrial lk_X7_78 ⟨Nat.le_of_ble_eq_true rfl, Nat.le_of_ble_eq_true rfl⟩ ⟨rfl, rfl⟩ ⟨Nat.le_of_ble_eq_true rfl, Nat.le_of_ble_eq_true rfl⟩ (k := 7) rfl (by decide) (by assumption) dX7_lay_44 (Nat.le_of_ble_eq_true rfl) ?_
      refine ⟨_, q, cpR R.2 mp 136, rfl, hC, hLt, ⟨TM, RM, t_40, w_40, l_40, s_40⟩, fun h_44 f_44 a_44 b_44 d_44 e_44 => ?_⟩
      refine r_aload_0 (pc := 47) dX7_lay_47 ?_
      refine gf_X7_51 (pc := 48) rfl (by assumption) dX7_lay_48 (by assumption) ?_
      refine gf_X7_84 (pc := 51) rfl (by assumption) dX7_lay_51 (by assumption) ?_
      refine gf_X7_88 (pc := 54) rfl (by assumption) dX7_lay_54 (fun i_54 => ?_)
      have v9 : h_44 (q 0 + 1) 2 = R.2 130 := by rw [a_44.2.2.1.1.2.2, cpe _ (by omega) (by omega)]
      rw [v9] at i_54 ⊢
      refine r_iret (pc := 57) hret dX7_lay_57 rfl rfl rfl ?_
      first
      | (have k9 : ¬ R.1 = -4 := c_13
         exact hB (fun z => k9 z.1) h_8 (fun x hx => f_8 x (by omega)) (hI.t (fun x x0 x1 hx => f_8 x (by omega)) (by rw [o_8, up_n (by omega)]) (by rw [f_8 _ (by omega)]; exact hSK)))
      | (have k9 : R.2 130 = 0 := c_26
         exact hB (fun z => z.2 k9) h_8 (fun x hx => f_8 x (by omega)) (hI.t (fun x x0 x1 hx => f_8 x (by omega)) (by rw [o_8, up_n (by omega)]) (by rw [f_8 _ (by omega)]; exact hSK)))
      | (have k9 : ¬ R.2 130 = 0 := c_26
         have m130 : cpR R.2 mp 136 130 = R.2 130 := cpe _ (by omega) (by omega)
         rw [m130] at d_44
         have t9 := hI8.1.2.2.1
         have sr := S_r (j := R.2 130) (n := 13) (by omega) (by omega) (by omega)
         have s12 : iSl 1 (R.2 130) ≤ 4096 := by
           have e9 := iS1_n (j := (R.2 130).toNat) (by omega)
           rw [show (((R.2 130).toNat : Nat) : Int) = R.2 130 by omega] at e9
           have p9 := Nat.pow_le_pow_right (n := 2) (by omega) (show (R.2 130).toNat ≤ 12 by omega)
           omega
         refine hQ ⟨c_13, k9⟩ h_44 (fun x hx => by rw [f_44 x (by omega), f_40 x (by omega)]; exact f_8 x (by omega)) ⟨hC, hLt, ⟨hCT.of (by rw [f_44 _ (by omega), f_40 _ (by omega), o_8, up_n (by omega)]) (by rw [f_44 _ (by omega), f_40 _ (by omega)]; exact f_8 _ (by omega)), htx⟩, by rw [f_44 _ (by omega)]; exact k_40, ⟨by rw [b_44, up_s], by omega, by omega⟩, fun i i0 i1 i2 => ?_, ⟨rfl, by rw [m130]; omega⟩, fun _ _ _ => rfl, ⟨d_44, ⟨⟨by omega, by omega⟩, fun g g0 g1 => pb_12 ((FdI_plr TM RM).g g0 g1)⟩, fun g g0 g1 => ⟨Int.le_refl 0, (show (0 : Int) ≤ 9999 by decide)⟩⟩, ⟨⟨by rw [e_44, up_s], fun i i0 i1 => by omega⟩, ⟨by omega, fun i i0 i1 => by omega⟩⟩⟩
         rw [show i = 0 by omega]; exact a_44)
    · refine r_bipush (pc := 29) dX7_lay_29 (by decide) ?_
      refine r_iret (pc := 31) hret dX7_lay_31 rfl rfl rfl ?_
      first
      | (have k9 : ¬ R.1 = -4 := c_13
         exact hB (fun z => k9 z.1) h_8 (fun x hx => f_8 x (by omega)) (hI.t (fun x x0 x1 hx => f_8 x (by omega)) (by rw [o_8, up_n (by omega)]) (by rw [f_8 _ (by omega)]; exact hSK)))
      | (have k9 : R.2 130 = 0 := c_26
         exact hB (fun z => z.2 k9) h_8 (fun x hx => f_8 x (by omega)) (hI.t (fun x x0 x1 hx => f_8 x (by omega)) (by rw [o_8, up_n (by omega)]) (by rw [f_8 _ (by omega)]; exact hSK)))
      | (have k9 : ¬ R.2 130 = 0 := c_26
         have m130 : cpR R.2 mp 136 130 = R.2 130 := cpe _ (by omega) (by omega)
         rw [m130] at d_44
         have t9 := hI8.1.2.2.1
         have sr := S_r (j := R.2 130) (n := 13) (by omega) (by omega) (by omega)
         have s12 : iSl 1 (R.2 130) ≤ 4096 := by
           have e9 := iS1_n (j := (R.2 130).toNat) (by omega)
           rw [show (((R.2 130).toNat : Nat) : Int) = R.2 130 by omega] at e9
           have p9 := Nat.pow_le_pow_right (n := 2) (by omega) (show (R.2 130).toNat ≤ 12 by omega)
           omega
         refine hQ ⟨c_13, k9⟩ h_44 (fun x hx => by rw [f_44 x (by omega), f_40 x (by omega)]; exact f_8 x (by omega)) ⟨hC, hLt, ⟨hCT.of (by rw [f_44 _ (by omega), f_40 _ (by omega), o_8, up_n (by omega)]) (by rw [f_44 _ (by omega), f_40 _ (by omega)]; exact f_8 _ (by omega)), htx⟩, by rw [f_44 _ (by omega)]; exact k_40, ⟨by rw [b_44, up_s], by omega, by omega⟩, fun i i0 i1 i2 => ?_, ⟨rfl, by rw [m130]; omega⟩, fun _ _ _ => rfl, ⟨d_44, ⟨⟨by omega, by omega⟩, fun g g0 g1 => pb_12 ((FdI_plr TM RM).g g0 g1)⟩, fun g g0 g1 => ⟨Int.le_refl 0, (show (0 : Int) ≤ 9999 by decide)⟩⟩, ⟨⟨by rw [e_44, up_s], fun i i0 i1 => by omega⟩, ⟨by omega, fun i i0 i1 => by omega⟩⟩⟩
         rw [show i = 0 by omega]; exact a_44)

