/-! THE TREE: children, choices, tries -/
theorem pk_ext {c : Int → Prop} [DecidablePred c] {L W : Int → Int} {a : Nat} : ∀ b : Nat, a ≤ b → (∀ k : Int, a ≤ k → k < b → ¬ c k) → pk c L W b = pk c L W a
  | 0, h, _ => by rw [show a = 0 by omega]
  | b + 1, h, q => by
    by_cases e : a = b + 1
    · rw [e]
    · rw [pk_s, if_neg (fun z => q b (by omega) (by omega) z.1)]
      exact pk_ext b (by omega) (fun k k0 k1 => q k k0 (by omega))
theorem sm_ext {F : Int → Int} {a : Nat} : ∀ b : Nat, a ≤ b → (∀ k : Int, a ≤ k → k < b → F k = 0) → sm F b = sm F a
  | 0, h, _ => by rw [show a = 0 by omega]
  | b + 1, h, q => by
    by_cases e : a = b + 1
    · rw [e]
    · show sm F b + F b = sm F a
      rw [q b (by omega) (by omega), sm_ext b (by omega) (fun k k0 k1 => q k k0 (by omega))]
      omega
theorem bl_r (mp : Int → Int) (hT : TrM mp) (n : Int) : 1 ≤ fbl n ∧ fbl n ≤ 10 ∧ fbl n ≤ ebl mp n ∧ ebl mp n ≤ 22 := by
  obtain ⟨t1, t2, t3, t4, t5, t6, t7⟩ := hT
  unfold fbl ebl
  split
  · omega
  · split
    · omega
    · split <;> omega
theorem ch_nd {mp : Int → Int} (hT : TrM mp) {c n : Int} (hc : isNd mp c) (h1 : 1 ≤ c) (hm : mp c = n) : fbl n ≤ c ∧ c < ebl mp n := by
  obtain ⟨t1, t2, t3, t4, t5, t6, t7⟩ := hT
  rcases hc with q | q | q | q
  · omega
  · have e := t4 c (by omega) (by omega)
    rw [show n = 0 by omega, show fbl 0 = 1 from rfl, show ebl mp 0 = 1 + mp 128 from rfl]
    omega
  · have e := t5 c (by omega) (by omega)
    have e1 : fbl n = 4 := by unfold fbl; rw [if_neg (by omega), if_pos (by omega)]
    have e2 : ebl mp n = 4 + mp 129 := by unfold ebl; rw [if_neg (by omega), if_pos (by omega)]
    omega
  · have e := t6 c (by omega) (by omega)
    have e1 : fbl n = 10 := by unfold fbl; rw [if_neg (by omega), if_neg (by omega)]
    have e2 : ebl mp n = 10 + mp 130 := by unfold ebl; rw [if_neg (by omega), if_neg (by omega), if_pos (by omega)]
    omega
theorem ch_up {h : HpT} {p : Nat} {mp : Int → Int} (hT : TrM mp) (hN : PTr h p mp) {m n : Int} (h0 : 0 ≤ n) (h1 : fbl n ≤ m) (h2 : m < ebl mp n) : h (p + 2) m = mp m ∧ isNd mp m ∧ 1 ≤ m ∧ m < 22 := by
  obtain ⟨⟨n0, n1, n2⟩, up1, up2, uw, u0, uh⟩ := hN
  obtain ⟨t1, t2, t3, t4, t5, t6, t7⟩ := hT
  by_cases e0 : n = 0
  · have e1 : fbl n = 1 := if_pos e0
    have e2 : ebl mp n = 1 + mp 128 := if_pos e0
    exact ⟨by rw [uh m (by omega) (by omega), t4 m (by omega) (by omega)], Or.inr (Or.inl (by omega)), by omega, by omega⟩
  · by_cases e4 : n < 4
    · have e1 : fbl n = 4 := by unfold fbl; rw [if_neg (by omega), if_pos (by omega)]
      have e2 : ebl mp n = 4 + mp 129 := by unfold ebl; rw [if_neg (by omega), if_pos (by omega)]
      exact ⟨up1 m (by omega) (by omega), Or.inr (Or.inr (Or.inl (by omega))), by omega, by omega⟩
    · have e1 : fbl n = 10 := by unfold fbl; rw [if_neg (by omega), if_neg (by omega)]
      by_cases e9 : n < 10
      · have e2 : ebl mp n = 10 + mp 130 := by unfold ebl; rw [if_neg (by omega), if_neg (by omega), if_pos (by omega)]
        exact ⟨up2 m (by omega) (by omega), Or.inr (Or.inr (Or.inr (by omega))), by omega, by omega⟩
      · have e2 : ebl mp n = 10 := by unfold ebl; rw [if_neg (by omega), if_neg (by omega), if_neg (by omega)]
        omega
theorem ch_wt {h : HpT} {p : Nat} {mp : Int → Int} (hT : TrM mp) (hN : PTr h p mp) (hW : PWt h p mp) {m : Int} (hm : isNd mp m) : h (p + 3) m = wg mp m := by
  obtain ⟨⟨n0, n1, n2⟩, up1, up2, uw, u0, uh⟩ := hN
  have t1 := hT.1
  have t2 := hT.2.1
  have t3 := hT.2.2.1
  by_cases e : m < 10
  · exact hW m (by rcases hm with q | q | q | q <;> omega) e
  · have q : 10 ≤ m ∧ m < 10 + mp 130 := by rcases hm with q | q | q | q <;> omega
    rw [uw m q.1 q.2, wg_dk hT q.1 q.2]
theorem dX6_countBelow_0 : decode cX6_countBelow 0 = .ok (.iconst 0, 1) := by decide +kernel
theorem dX6_countBelow_1 : decode cX6_countBelow 1 = .ok (.istore_n 2, 1) := by decide +kernel
theorem dX6_countBelow_2 : decode cX6_countBelow 2 = .ok (.aload_n 0, 1) := by decide +kernel
theorem dX6_countBelow_3 : decode cX6_countBelow 3 = .ok (.iload_n 1, 1) := by decide +kernel
theorem dX6_countBelow_4 : decode cX6_countBelow 4 = .ok (.invokevirtual 55, 3) := by decide +kernel
theorem dX6_countBelow_7 : decode cX6_countBelow 7 = .ok (.istore_n 3, 1) := by decide +kernel
theorem dX6_countBelow_8 : decode cX6_countBelow 8 = .ok (.aload_n 0, 1) := by decide +kernel
theorem dX6_countBelow_9 : decode cX6_countBelow 9 = .ok (.iload_n 1, 1) := by decide +kernel
theorem dX6_countBelow_10 : decode cX6_countBelow 10 = .ok (.invokevirtual 58, 3) := by decide +kernel
theorem dX6_countBelow_13 : decode cX6_countBelow 13 = .ok (.istore 4, 2) := by decide +kernel
theorem dX6_countBelow_15 : decode cX6_countBelow 15 = .ok (.iload 4, 2) := by decide +kernel
theorem dX6_countBelow_17 : decode cX6_countBelow 17 = .ok (.iload_n 3, 1) := by decide +kernel
theorem dX6_countBelow_18 : decode cX6_countBelow 18 = .ok (.if_icmp .ge 23, 3) := by decide +kernel
theorem dX6_countBelow_21 : decode cX6_countBelow 21 = .ok (.aload_n 0, 1) := by decide +kernel
theorem dX6_countBelow_22 : decode cX6_countBelow 22 = .ok (.getfield 9, 3) := by decide +kernel
theorem dX6_countBelow_25 : decode cX6_countBelow 25 = .ok (.iload 4, 2) := by decide +kernel
theorem dX6_countBelow_27 : decode cX6_countBelow 27 = .ok (.iaload, 1) := by decide +kernel
theorem dX6_countBelow_28 : decode cX6_countBelow 28 = .ok (.iload_n 1, 1) := by decide +kernel
theorem dX6_countBelow_29 : decode cX6_countBelow 29 = .ok (.if_icmp .ne 6, 3) := by decide +kernel
theorem dX6_countBelow_32 : decode cX6_countBelow 32 = .ok (.iinc 2 1, 3) := by decide +kernel
theorem dX6_countBelow_35 : decode cX6_countBelow 35 = .ok (.iinc 4 1, 3) := by decide +kernel
theorem dX6_countBelow_38 : decode cX6_countBelow 38 = .ok (.goto (-23), 3) := by decide +kernel
theorem dX6_countBelow_41 : decode cX6_countBelow 41 = .ok (.iload_n 2, 1) := by decide +kernel
theorem dX6_countBelow_42 : decode cX6_countBelow 42 = .ok (.ireturn, 1) := by decide +kernel
set_option maxHeartbeats 4000000 in
set_option maxRecDepth 20000 in
theorem c_X6_countBelow : ConI mX6_countBelow (fun args N lay r h Q => ∃ (p : Nat) (mp : Int → Int) (n : Int), args = [.ref (p + 1), vI n] ∧ PlAt lay r p ∧ TrM mp ∧ PTr h p mp ∧ (0 ≤ n ∧ n < 22) ∧ Q (sm (fun k => bI (isNd mp (k + 1) ∧ mp (k + 1) = n)) 21) N lay r h) := by
  refine ConI.of (by decide) (by rintro _ N lay r h Q ⟨p, mp, n, rfl, hA, hT, hN, hn, hQ⟩; exact ⟨rfl, Nat.le_of_ble_eq_true rfl⟩) ?_
  rintro E _ N lay r h Q ⟨p, mp, n, rfl, hA, hT, hN, hn, hQ⟩ hret
  obtain ⟨pl0, pl1, pl2, pl3, pl4, pl5, pl6, pl7, pl8, pl9, pl10, pl11, pl12, pl13, pr0, pr1, pr2, pr3, pr9, pr10, pr11, qr3, qr4, vr1, vr2, vr3, vr4⟩ := id hA
  show St E mX6_countBelow 0 [some (.ref (p + 1)), some (vI n), none, none, none] [] (0, 0) N lay r h
  have br := bl_r mp hT n
  have lp : ∀ (n_ : Nat) (m : Int) (s : Int), (22 - m).toNat = n_ → (fbl n ≤ m ∧ m ≤ ebl mp n) → (s = sm (fun k => bI (isNd mp (k + 1) ∧ mp (k + 1) = n)) (m - 1).toNat) → St E mX6_countBelow 15 [some (.ref (p + 1)), some (vI n), some (vI s), some (vI (ebl mp n)), some (vI m)] [] (0, 0) N lay r h := by
    intro  n_
    induction n_ using Nat.strongRecOn with
    | ind n_ ih =>
      intro m s hn_ hm hs
      obtain ⟨k, rfl⟩ : ∃ k : Nat, m = k + 1 := ⟨(m - 1).toNat, by omega⟩
      rw [show ((k : Int) + 1 - 1).toNat = k by omega] at hs
      have cu := fun q => ch_up hT hN (m := (k : Int) + 1) hn.1 hm.1 q
      refine r_iload_4 (pc := 15) dX6_countBelow_15 ?_
      refine r_iload_3 (pc := 17) dX6_countBelow_17 ?_
      refine r_icmp_ge (pc := 18) (tgt := 41) dX6_countBelow_18 (by decide) (by omega) (by omega) (fun c_18 => ?_) (fun c_18 => ?_)
      · refine r_iload_2 (pc := 41) dX6_countBelow_41 ?_
        refine r_iret (pc := 42) hret dX6_countBelow_42 rfl rfl rfl ?_
        rw [← sm_ext 21 (show k ≤ 21 by omega) (fun c c0 c1 => bI_f (fun z => by have := ch_nd hT z.1 (by omega) z.2; omega))] at hs
        rw [hs]
        exact hQ
      · refine r_aload_0 (pc := 21) dX6_countBelow_21 ?_
        refine gf_X6_9 (pc := 22) rfl (by assumption) dX6_countBelow_22 (by assumption) ?_
        refine r_iload_4 (pc := 25) dX6_countBelow_25 ?_
        refine r_ialdE (pc := 27) (by assumption) rfl dX6_countBelow_27 (by omega) (by omega) (fun i_27 => ?_)
        rw [(cu (by omega)).1] at i_27 ⊢
        refine r_iload_1 (pc := 28) dX6_countBelow_28 ?_
        refine r_icmp_ne (pc := 29) (tgt := 35) dX6_countBelow_29 (by decide) (by omega) (by omega) (fun c_29 => ?_) (fun c_29 => ?_)
        · refine r_iinc_4 (pc := 35) dX6_countBelow_35 rfl ?_
          refine r_goto (pc := 38) (tgt := 15) dX6_countBelow_38 (by decide) ?_
          first
          | (have k9 : ¬ mp ((k : Int) + 1) = n := c_29
             refine ih _ (by omega) ((k : Int) + 1 + 1) _ rfl (by omega) ?_
             rw [show ((k : Int) + 1 + 1 - 1).toNat = k + 1 by omega]
             show _ = sm _ k + bI (isNd mp ((k : Int) + 1) ∧ mp ((k : Int) + 1) = n)
             rw [bI_f (fun z => k9 z.2), hs]
             omega)
          | (have k9 : mp ((k : Int) + 1) = n := c_29
             refine ih _ (by omega) ((k : Int) + 1 + 1) _ rfl (by omega) ?_
             rw [show ((k : Int) + 1 + 1 - 1).toNat = k + 1 by omega]
             show _ = sm _ k + bI (isNd mp ((k : Int) + 1) ∧ mp ((k : Int) + 1) = n)
             rw [bI_t ⟨(cu (by omega)).2.1, k9⟩, hs])
        · refine r_iinc_2 (pc := 32) dX6_countBelow_32 rfl ?_
          refine r_iinc_4 (pc := 35) dX6_countBelow_35 rfl ?_
          refine r_goto (pc := 38) (tgt := 15) dX6_countBelow_38 (by decide) ?_
          first
          | (have k9 : ¬ mp ((k : Int) + 1) = n := c_29
             refine ih _ (by omega) ((k : Int) + 1 + 1) _ rfl (by omega) ?_
             rw [show ((k : Int) + 1 + 1 - 1).toNat = k + 1 by omega]
             show _ = sm _ k + bI (isNd mp ((k : Int) + 1) ∧ mp ((k : Int) + 1) = n)
             rw [bI_f (fun z => k9 z.2), hs]
             omega)
          | (have k9 : mp ((k : Int) + 1) = n := c_29
             refine ih _ (by omega) ((k : Int) + 1 + 1) _ rfl (by omega) ?_
             rw [show ((k : Int) + 1 + 1 - 1).toNat = k + 1 by omega]
             show _ = sm _ k + bI (isNd mp ((k : Int) + 1) ∧ mp ((k : Int) + 1) = n)
             rw [bI_t ⟨(cu (by omega)).2.1, k9⟩, hs])
  refine r_iconst (pc := 0) dX6_countBelow_0 ?_
  refine r_istore_2 (pc := 1) dX6_countBelow_1 rfl ?_
  refine r_aload_0 (pc := 2) dX6_countBelow_2 ?_
  refine r_iload_1 (pc := 3) dX6_countBelow_3 ?_
  refine k_VI1 (pc := 4) c_X6_endBelow lk_X6_55 ⟨Nat.le_of_ble_eq_true rfl, Nat.le_of_ble_eq_true rfl⟩ ⟨rfl, rfl⟩ ⟨Nat.le_of_ble_eq_true rfl, Nat.le_of_ble_eq_true rfl⟩ (k := 6) rfl (by decide) (by assumption) dX6_countBelow_4 (Nat.le_of_ble_eq_true rfl) ?_
  refine ⟨_, _, _, rfl, by assumption, by assumption, by assumption, by omega, ?_⟩
  refine r_istore_3 (pc := 7) dX6_countBelow_7 rfl ?_
  refine r_aload_0 (pc := 8) dX6_countBelow_8 ?_
  refine r_iload_1 (pc := 9) dX6_countBelow_9 ?_
  refine k_VI1 (pc := 10) c_X6_firstBelow lk_X6_58 ⟨Nat.le_of_ble_eq_true rfl, Nat.le_of_ble_eq_true rfl⟩ ⟨rfl, rfl⟩ ⟨Nat.le_of_ble_eq_true rfl, Nat.le_of_ble_eq_true rfl⟩ (k := 6) rfl (by decide) (by assumption) dX6_countBelow_10 (Nat.le_of_ble_eq_true rfl) ?_
  refine ⟨_, _, rfl, by omega, ?_⟩
  refine r_istore_4 (pc := 13) dX6_countBelow_13 rfl ?_
  refine lp _ (fbl n) 0 rfl (by omega) ?_
  rw [sm_ext (a := 0) _ (Nat.zero_le _) (fun c c0 c1 => bI_f (fun z => by have := ch_nd hT z.1 (by omega) z.2; omega))]
  rfl

theorem dX6_choiceAt_0 : decode cX6_choiceAt 0 = .ok (.bipush (-4), 2) := by decide +kernel
theorem dX6_choiceAt_2 : decode cX6_choiceAt 2 = .ok (.istore 5, 2) := by decide +kernel
theorem dX6_choiceAt_4 : decode cX6_choiceAt 4 = .ok (.iconst 0, 1) := by decide +kernel
theorem dX6_choiceAt_5 : decode cX6_choiceAt 5 = .ok (.istore 6, 2) := by decide +kernel
theorem dX6_choiceAt_7 : decode cX6_choiceAt 7 = .ok (.iconst 0, 1) := by decide +kernel
theorem dX6_choiceAt_8 : decode cX6_choiceAt 8 = .ok (.istore 7, 2) := by decide +kernel
theorem dX6_choiceAt_10 : decode cX6_choiceAt 10 = .ok (.aload_n 0, 1) := by decide +kernel
theorem dX6_choiceAt_11 : decode cX6_choiceAt 11 = .ok (.iload 4, 2) := by decide +kernel
theorem dX6_choiceAt_13 : decode cX6_choiceAt 13 = .ok (.invokevirtual 55, 3) := by decide +kernel
theorem dX6_choiceAt_16 : decode cX6_choiceAt 16 = .ok (.istore 8, 2) := by decide +kernel
theorem dX6_choiceAt_18 : decode cX6_choiceAt 18 = .ok (.aload_n 0, 1) := by decide +kernel
theorem dX6_choiceAt_19 : decode cX6_choiceAt 19 = .ok (.iload 4, 2) := by decide +kernel
theorem dX6_choiceAt_21 : decode cX6_choiceAt 21 = .ok (.invokevirtual 58, 3) := by decide +kernel
theorem dX6_choiceAt_24 : decode cX6_choiceAt 24 = .ok (.istore 9, 2) := by decide +kernel
theorem dX6_choiceAt_26 : decode cX6_choiceAt 26 = .ok (.iload 9, 2) := by decide +kernel
theorem dX6_choiceAt_28 : decode cX6_choiceAt 28 = .ok (.iload 8, 2) := by decide +kernel
theorem dX6_choiceAt_30 : decode cX6_choiceAt 30 = .ok (.if_icmp .ge 86, 3) := by decide +kernel
theorem dX6_choiceAt_33 : decode cX6_choiceAt 33 = .ok (.aload_n 0, 1) := by decide +kernel
theorem dX6_choiceAt_34 : decode cX6_choiceAt 34 = .ok (.getfield 9, 3) := by decide +kernel
theorem dX6_choiceAt_37 : decode cX6_choiceAt 37 = .ok (.iload 9, 2) := by decide +kernel
theorem dX6_choiceAt_39 : decode cX6_choiceAt 39 = .ok (.iaload, 1) := by decide +kernel
theorem dX6_choiceAt_40 : decode cX6_choiceAt 40 = .ok (.iload 4, 2) := by decide +kernel
theorem dX6_choiceAt_42 : decode cX6_choiceAt 42 = .ok (.if_icmp .ne 68, 3) := by decide +kernel
theorem dX6_choiceAt_45 : decode cX6_choiceAt 45 = .ok (.aload_n 0, 1) := by decide +kernel
theorem dX6_choiceAt_46 : decode cX6_choiceAt 46 = .ok (.getfield 15, 3) := by decide +kernel
theorem dX6_choiceAt_49 : decode cX6_choiceAt 49 = .ok (.iload 9, 2) := by decide +kernel
theorem dX6_choiceAt_51 : decode cX6_choiceAt 51 = .ok (.iaload, 1) := by decide +kernel
theorem dX6_choiceAt_52 : decode cX6_choiceAt 52 = .ok (.ifCond .ne 6, 3) := by decide +kernel
theorem dX6_choiceAt_55 : decode cX6_choiceAt 55 = .ok (.goto 55, 3) := by decide +kernel
theorem dX6_choiceAt_58 : decode cX6_choiceAt 58 = .ok (.aload_n 1, 1) := by decide +kernel
theorem dX6_choiceAt_59 : decode cX6_choiceAt 59 = .ok (.iload_n 2, 1) := by decide +kernel
theorem dX6_choiceAt_60 : decode cX6_choiceAt 60 = .ok (.iload 9, 2) := by decide +kernel
theorem dX6_choiceAt_62 : decode cX6_choiceAt 62 = .ok (.iload_n 3, 1) := by decide +kernel
theorem dX6_choiceAt_63 : decode cX6_choiceAt 63 = .ok (.invokevirtual 61, 3) := by decide +kernel
theorem dX6_choiceAt_66 : decode cX6_choiceAt 66 = .ok (.istore 10, 2) := by decide +kernel
theorem dX6_choiceAt_68 : decode cX6_choiceAt 68 = .ok (.iload 5, 2) := by decide +kernel
theorem dX6_choiceAt_70 : decode cX6_choiceAt 70 = .ok (.bipush (-4), 2) := by decide +kernel
theorem dX6_choiceAt_72 : decode cX6_choiceAt 72 = .ok (.if_icmp .eq 21, 3) := by decide +kernel
theorem dX6_choiceAt_75 : decode cX6_choiceAt 75 = .ok (.iload 10, 2) := by decide +kernel
theorem dX6_choiceAt_77 : decode cX6_choiceAt 77 = .ok (.iload 7, 2) := by decide +kernel
theorem dX6_choiceAt_79 : decode cX6_choiceAt 79 = .ok (.imul, 1) := by decide +kernel
theorem dX6_choiceAt_80 : decode cX6_choiceAt 80 = .ok (.iload 6, 2) := by decide +kernel
theorem dX6_choiceAt_82 : decode cX6_choiceAt 82 = .ok (.aload_n 0, 1) := by decide +kernel
theorem dX6_choiceAt_83 : decode cX6_choiceAt 83 = .ok (.getfield 15, 3) := by decide +kernel
theorem dX6_choiceAt_86 : decode cX6_choiceAt 86 = .ok (.iload 9, 2) := by decide +kernel
theorem dX6_choiceAt_88 : decode cX6_choiceAt 88 = .ok (.iaload, 1) := by decide +kernel
theorem dX6_choiceAt_89 : decode cX6_choiceAt 89 = .ok (.imul, 1) := by decide +kernel
theorem dX6_choiceAt_90 : decode cX6_choiceAt 90 = .ok (.if_icmp .ge 20, 3) := by decide +kernel
theorem dX6_choiceAt_93 : decode cX6_choiceAt 93 = .ok (.iload 9, 2) := by decide +kernel
theorem dX6_choiceAt_95 : decode cX6_choiceAt 95 = .ok (.istore 5, 2) := by decide +kernel
theorem dX6_choiceAt_97 : decode cX6_choiceAt 97 = .ok (.iload 10, 2) := by decide +kernel
theorem dX6_choiceAt_99 : decode cX6_choiceAt 99 = .ok (.istore 6, 2) := by decide +kernel
theorem dX6_choiceAt_101 : decode cX6_choiceAt 101 = .ok (.aload_n 0, 1) := by decide +kernel
theorem dX6_choiceAt_102 : decode cX6_choiceAt 102 = .ok (.getfield 15, 3) := by decide +kernel
theorem dX6_choiceAt_105 : decode cX6_choiceAt 105 = .ok (.iload 9, 2) := by decide +kernel
theorem dX6_choiceAt_107 : decode cX6_choiceAt 107 = .ok (.iaload, 1) := by decide +kernel
theorem dX6_choiceAt_108 : decode cX6_choiceAt 108 = .ok (.istore 7, 2) := by decide +kernel
theorem dX6_choiceAt_110 : decode cX6_choiceAt 110 = .ok (.iinc 9 1, 3) := by decide +kernel
theorem dX6_choiceAt_113 : decode cX6_choiceAt 113 = .ok (.goto (-87), 3) := by decide +kernel
theorem dX6_choiceAt_116 : decode cX6_choiceAt 116 = .ok (.iload 5, 2) := by decide +kernel
theorem dX6_choiceAt_118 : decode cX6_choiceAt 118 = .ok (.ireturn, 1) := by decide +kernel
set_option maxHeartbeats 4000000 in
set_option maxRecDepth 20000 in
theorem c_X6_choiceAt : ConI mX6_choiceAt (fun args N lay r h Q => ∃ (p : Nat) (mp : Int → Int) (s : Nat) (g t n : Int), args = [.ref (p + 1), .ref s, vI g, vI t, vI n] ∧ PlAt lay r p ∧ StAt lay r s ∧ (s + 2 ≤ p ∨ p + 14 ≤ s) ∧ TrM mp ∧ PTr h p mp ∧ PWt h p mp ∧ StK (h (s + 1)) ∧ (0 ≤ g ∧ g < 16) ∧ (0 ≤ t ∧ t < 100) ∧ (0 ≤ n ∧ n < 22) ∧ ∀ f, StK f → Q (chz mp g t n) N lay r (hr h (s + 1) f)) := by
  refine ConI.of (by decide) (by rintro _ N lay r h Q ⟨p, mp, s, g, t, n, rfl, hA, hS, hP, hT, hN, hW, hK, hg, ht, hn, hQ⟩; exact ⟨rfl, Nat.le_of_ble_eq_true rfl⟩) ?_
  rintro E _ N lay r h Q ⟨p, mp, s, g, t, n, rfl, hA, hS, hP, hT, hN, hW, hK, hg, ht, hn, hQ⟩ hret
  obtain ⟨pl0, pl1, pl2, pl3, pl4, pl5, pl6, pl7, pl8, pl9, pl10, pl11, pl12, pl13, pr0, pr1, pr2, pr3, pr9, pr10, pr11, qr3, qr4, vr1, vr2, vr3, vr4⟩ := id hA
  obtain ⟨sl0, sl1, sr0⟩ := id hS
  show St E mX6_choiceAt 0 [some (.ref (p + 1)), some (.ref s), some (vI g), some (vI t), some (vI n), none, none, none, none, none, none] [] (0, 0) N lay r h
  have br := bl_r mp hT n
  have lp : ∀ (n_ : Nat) (m : Int) (bs : Int) (bl : Int) (bw : Int) (f : Int → Int) (x10 : Option Value), (22 - m).toNat = n_ → (fbl n ≤ m ∧ m ≤ ebl mp n) → (bs = pk (cd mp n) (fun c => wn (dr g c t)) (wg mp) m.toNat) → (0 ≤ bs → bl = wn (dr g bs t) ∧ bw = wg mp bs) → (StK f) → St E mX6_choiceAt 26 [some (.ref (p + 1)), some (.ref s), some (vI g), some (vI t), some (vI n), some (vI bs), some (vI bl), some (vI bw), some (vI (ebl mp n)), some (vI m), x10] [] (0, 0) N lay r (hr h (s + 1) f) := by
    intro  n_
    induction n_ using Nat.strongRecOn with
    | ind n_ ih =>
      intro m bs bl bw f x10 hn_ hm hbs hbw hf
      obtain ⟨k, rfl⟩ : ∃ k : Nat, m = k := ⟨m.toNat, by omega⟩
      rw [show ((k : Int)).toNat = k by omega] at hbs
      have e1 := pk_s (cd mp n) (fun c => wn (dr g c t)) (wg mp) k
      have wr := wg_r hT k
      have pr := pk_or (cd mp n) (fun c => wn (dr g c t)) (wg mp) k
      have wrb := wg_r hT bs
      have wk := wn_r (dr_r g k t)
      have wkb := wn_r (dr_r g bs t)
      have cu := fun q => ch_up hT hN (m := (k : Int)) hn.1 hm.1 q
      have cw := fun q => ch_wt hT hN hW (m := (k : Int)) (cu q).2.1
      have m1 : bs ≠ -4 → 0 ≤ wn (dr g k t) * bw ∧ wn (dr g k t) * bw ≤ 65536 * 480 := fun q => by
        rw [(hbw (by omega)).2]
        exact ⟨Int.mul_nonneg (by omega) wrb.1, Int.mul_le_mul wk.2 wrb.2 wrb.1 (by omega)⟩
      have m2 : bs ≠ -4 → 0 ≤ bl * wg mp k ∧ bl * wg mp k ≤ 65536 * 480 := fun q => by
        rw [(hbw (by omega)).1]
        exact ⟨Int.mul_nonneg (by omega) wr.1, Int.mul_le_mul wkb.2 wr.2 wr.1 (by omega)⟩
      refine r_iload_9 (pc := 26) dX6_choiceAt_26 ?_
      refine r_iload_8 (pc := 28) dX6_choiceAt_28 ?_
      refine r_icmp_ge (pc := 30) (tgt := 116) dX6_choiceAt_30 (by decide) (by omega) (by omega) (fun c_30 => ?_) (fun c_30 => ?_)
      · refine r_iload_5 (pc := 116) dX6_choiceAt_116 ?_
        refine r_iret (pc := 118) hret dX6_choiceAt_118 rfl rfl rfl ?_
        rw [← pk_ext 22 (show k ≤ 22 by omega) (fun c c0 c1 z => by have := ch_nd hT (wg_nd z.2.1) z.1 z.2.2; omega)] at hbs
        have q9 := hQ f hf
        unfold chz at q9
        rw [hbs]
        exact q9
      · refine r_aload_0 (pc := 33) dX6_choiceAt_33 ?_
        refine gf_X6_9 (pc := 34) rfl (by assumption) dX6_choiceAt_34 (by assumption) ?_
        refine r_iload_9 (pc := 37) dX6_choiceAt_37 ?_
        refine r_ialdE (pc := 39) (by assumption) (by first | exact hr_n (by omega) | assumption | exact rfl) dX6_choiceAt_39 (by omega) (by omega) (fun i_39 => ?_)
        rw [(cu (by omega)).1] at i_39 ⊢
        refine r_iload_4 (pc := 40) dX6_choiceAt_40 ?_
        refine r_icmp_ne (pc := 42) (tgt := 110) dX6_choiceAt_42 (by decide) (by omega) (by omega) (fun c_42 => ?_) (fun c_42 => ?_)
        · refine r_iinc_9 (pc := 110) dX6_choiceAt_110 rfl ?_
          refine r_goto (pc := 113) (tgt := 26) dX6_choiceAt_113 (by decide) ?_
          first
          | (have k9 : ¬ mp (k : Int) = n := c_42
             have hF9 := hf
             refine ih _ (by omega) ((k : Int) + 1) bs bl bw f _ rfl (by omega) ?_ hbw hF9
             rw [show ((k : Int) + 1).toNat = k + 1 by omega, e1, if_neg (fun z => k9 z.1.2.2)]
             exact hbs)
          | (have k9 : wg mp (k : Int) = 0 := by omega
             have hF9 := hf
             refine ih _ (by omega) ((k : Int) + 1) bs bl bw f _ rfl (by omega) ?_ hbw hF9
             rw [show ((k : Int) + 1).toNat = k + 1 by omega, e1, if_neg (fun z => by have := z.1.2.1; omega)]
             exact hbs)
          | (have k9 : bs = -4 := c_72
             refine ih _ (by omega) ((k : Int) + 1) k (wn (dr g k t)) (wg mp k) f_63 _ rfl (by omega) ?_ (fun _ => ⟨rfl, rfl⟩) k_63
             rw [show ((k : Int) + 1).toNat = k + 1 by omega, e1, if_pos ⟨⟨(cu (by omega)).2.2.1, by omega, c_42⟩, Or.inl (by rw [← hbs]; omega)⟩])
          | (have k9 : bl * wg mp k ≤ wn (dr g k t) * bw := c_90
             have hF9 := k_63
             refine ih _ (by omega) ((k : Int) + 1) bs bl bw f_63 _ rfl (by omega) ?_ hbw hF9
             rw [show ((k : Int) + 1).toNat = k + 1 by omega, e1, if_neg (fun z => by
               rw [← hbs] at z
               obtain ⟨q1, q2⟩ := hbw (by omega)
               rw [q1, q2] at k9
               rcases z.2 with z2 | z2
               · omega
               · omega)]
             exact hbs)
          | (have k9 : wn (dr g k t) * bw < bl * wg mp k := by omega
             refine ih _ (by omega) ((k : Int) + 1) k (wn (dr g k t)) (wg mp k) f_63 _ rfl (by omega) ?_ (fun _ => ⟨rfl, rfl⟩) k_63
             rw [show ((k : Int) + 1).toNat = k + 1 by omega, e1, if_pos ⟨⟨(cu (by omega)).2.2.1, by omega, c_42⟩, Or.inr (by
               obtain ⟨q1, q2⟩ := hbw (by omega)
               rw [q1, q2] at k9
               rw [← hbs]
               exact k9)⟩])
          
        · refine r_aload_0 (pc := 45) dX6_choiceAt_45 ?_
          refine gf_X6_15 (pc := 46) rfl (by assumption) dX6_choiceAt_46 (by assumption) ?_
          refine r_iload_9 (pc := 49) dX6_choiceAt_49 ?_
          refine r_ialdE (pc := 51) (by assumption) (by first | exact hr_n (by omega) | assumption | exact rfl) dX6_choiceAt_51 (by omega) (by omega) (fun i_51 => ?_)
          rw [cw (by omega)] at i_51 ⊢
          refine r_if_ne (pc := 52) (tgt := 58) dX6_choiceAt_52 (by decide) (by omega) (fun c_52 => ?_) (fun c_52 => ?_)
          · refine r_aload_1 (pc := 58) dX6_choiceAt_58 ?_
            refine r_iload_2 (pc := 59) dX6_choiceAt_59 ?_
            refine r_iload_9 (pc := 60) dX6_choiceAt_60 ?_
            refine r_iload_3 (pc := 62) dX6_choiceAt_62 ?_
            refine k_VI3 (pc := 63) c_X4_lengthOf lk_X6_61 ⟨Nat.le_of_ble_eq_true rfl, Nat.le_of_ble_eq_true rfl⟩ ⟨rfl, rfl⟩ ⟨Nat.le_of_ble_eq_true rfl, Nat.le_of_ble_eq_true rfl⟩ (k := 4) rfl (by decide) (by assumption) dX6_choiceAt_63 (Nat.le_of_ble_eq_true rfl) ?_
            refine ⟨_, _, _, _, rfl, by assumption, (by rw [hr_s]; assumption), by omega, by omega, by omega, fun f_63 k_63 => ?_⟩
            rw [hr_hr]
            refine r_istore_10 (pc := 66) dX6_choiceAt_66 rfl ?_
            refine r_iload_5 (pc := 68) dX6_choiceAt_68 ?_
            refine r_bipush (pc := 70) dX6_choiceAt_70 (by decide) ?_
            refine r_icmp_eq (pc := 72) (tgt := 93) dX6_choiceAt_72 (by decide) (by omega) (by omega) (fun c_72 => ?_) (fun c_72 => ?_)
            · refine r_iload_9 (pc := 93) dX6_choiceAt_93 ?_
              refine r_istore_5 (pc := 95) dX6_choiceAt_95 rfl ?_
              refine r_iload_10 (pc := 97) dX6_choiceAt_97 ?_
              refine r_istore_6 (pc := 99) dX6_choiceAt_99 rfl ?_
              refine r_aload_0 (pc := 101) dX6_choiceAt_101 ?_
              refine gf_X6_15 (pc := 102) rfl (by assumption) dX6_choiceAt_102 (by assumption) ?_
              refine r_iload_9 (pc := 105) dX6_choiceAt_105 ?_
              refine r_ialdE (pc := 107) (by assumption) (by first | exact hr_n (by omega) | assumption | exact rfl) dX6_choiceAt_107 (by omega) (by omega) (fun i_107 => ?_)
              rw [cw (by omega)] at i_107 ⊢
              refine r_istore_7 (pc := 108) dX6_choiceAt_108 rfl ?_
              refine r_iinc_9 (pc := 110) dX6_choiceAt_110 rfl ?_
              refine r_goto (pc := 113) (tgt := 26) dX6_choiceAt_113 (by decide) ?_
              first
              | (have k9 : ¬ mp (k : Int) = n := c_42
                 have hF9 := hf
                 refine ih _ (by omega) ((k : Int) + 1) bs bl bw f _ rfl (by omega) ?_ hbw hF9
                 rw [show ((k : Int) + 1).toNat = k + 1 by omega, e1, if_neg (fun z => k9 z.1.2.2)]
                 exact hbs)
              | (have k9 : wg mp (k : Int) = 0 := by omega
                 have hF9 := hf
                 refine ih _ (by omega) ((k : Int) + 1) bs bl bw f _ rfl (by omega) ?_ hbw hF9
                 rw [show ((k : Int) + 1).toNat = k + 1 by omega, e1, if_neg (fun z => by have := z.1.2.1; omega)]
                 exact hbs)
              | (have k9 : bs = -4 := c_72
                 refine ih _ (by omega) ((k : Int) + 1) k (wn (dr g k t)) (wg mp k) f_63 _ rfl (by omega) ?_ (fun _ => ⟨rfl, rfl⟩) k_63
                 rw [show ((k : Int) + 1).toNat = k + 1 by omega, e1, if_pos ⟨⟨(cu (by omega)).2.2.1, by omega, c_42⟩, Or.inl (by rw [← hbs]; omega)⟩])
              | (have k9 : bl * wg mp k ≤ wn (dr g k t) * bw := c_90
                 have hF9 := k_63
                 refine ih _ (by omega) ((k : Int) + 1) bs bl bw f_63 _ rfl (by omega) ?_ hbw hF9
                 rw [show ((k : Int) + 1).toNat = k + 1 by omega, e1, if_neg (fun z => by
                   rw [← hbs] at z
                   obtain ⟨q1, q2⟩ := hbw (by omega)
                   rw [q1, q2] at k9
                   rcases z.2 with z2 | z2
                   · omega
                   · omega)]
                 exact hbs)
              | (have k9 : wn (dr g k t) * bw < bl * wg mp k := by omega
                 refine ih _ (by omega) ((k : Int) + 1) k (wn (dr g k t)) (wg mp k) f_63 _ rfl (by omega) ?_ (fun _ => ⟨rfl, rfl⟩) k_63
                 rw [show ((k : Int) + 1).toNat = k + 1 by omega, e1, if_pos ⟨⟨(cu (by omega)).2.2.1, by omega, c_42⟩, Or.inr (by
                   obtain ⟨q1, q2⟩ := hbw (by omega)
                   rw [q1, q2] at k9
                   rw [← hbs]
                   exact k9)⟩])
              
            · have m3 := m1 c_72
              have m4 := m2 c_72
              refine r_iload_10 (pc := 75) dX6_choiceAt_75 ?_
              refine r_iload_7 (pc := 77) dX6_choiceAt_77 ?_
              refine r_imul (pc := 79) dX6_choiceAt_79 ?_
              refine r_iload_6 (pc := 80) dX6_choiceAt_80 ?_
              refine r_aload_0 (pc := 82) dX6_choiceAt_82 ?_
              refine gf_X6_15 (pc := 83) rfl (by assumption) dX6_choiceAt_83 (by assumption) ?_
              refine r_iload_9 (pc := 86) dX6_choiceAt_86 ?_
              refine r_ialdE (pc := 88) (by assumption) (by first | exact hr_n (by omega) | assumption | exact rfl) dX6_choiceAt_88 (by omega) (by omega) (fun i_88 => ?_)
              rw [cw (by omega)] at i_88 ⊢
              refine r_imul (pc := 89) dX6_choiceAt_89 ?_
              refine r_icmp_ge (pc := 90) (tgt := 110) dX6_choiceAt_90 (by decide) (by omega) (by omega) (fun c_90 => ?_) (fun c_90 => ?_)
              · refine r_iinc_9 (pc := 110) dX6_choiceAt_110 rfl ?_
                refine r_goto (pc := 113) (tgt := 26) dX6_choiceAt_113 (by decide) ?_
                first
                | (have k9 : ¬ mp (k : Int) = n := c_42
                   have hF9 := hf
                   refine ih _ (by omega) ((k : Int) + 1) bs bl bw f _ rfl (by omega) ?_ hbw hF9
                   rw [show ((k : Int) + 1).toNat = k + 1 by omega, e1, if_neg (fun z => k9 z.1.2.2)]
                   exact hbs)
                | (have k9 : wg mp (k : Int) = 0 := by omega
                   have hF9 := hf
                   refine ih _ (by omega) ((k : Int) + 1) bs bl bw f _ rfl (by omega) ?_ hbw hF9
                   rw [show ((k : Int) + 1).toNat = k + 1 by omega, e1, if_neg (fun z => by have := z.1.2.1; omega)]
                   exact hbs)
                | (have k9 : bs = -4 := c_72
                   refine ih _ (by omega) ((k : Int) + 1) k (wn (dr g k t)) (wg mp k) f_63 _ rfl (by omega) ?_ (fun _ => ⟨rfl, rfl⟩) k_63
                   rw [show ((k : Int) + 1).toNat = k + 1 by omega, e1, if_pos ⟨⟨(cu (by omega)).2.2.1, by omega, c_42⟩, Or.inl (by rw [← hbs]; omega)⟩])
                | (have k9 : bl * wg mp k ≤ wn (dr g k t) * bw := c_90
                   have hF9 := k_63
                   refine ih _ (by omega) ((k : Int) + 1) bs bl bw f_63 _ rfl (by omega) ?_ hbw hF9
                   rw [show ((k : Int) + 1).toNat = k + 1 by omega, e1, if_neg (fun z => by
                     rw [← hbs] at z
                     obtain ⟨q1, q2⟩ := hbw (by omega)
                     rw [q1, q2] at k9
                     rcases z.2 with z2 | z2
                     · omega
                     · omega)]
                   exact hbs)
                | (have k9 : wn (dr g k t) * bw < bl * wg mp k := by omega
                   refine ih _ (by omega) ((k : Int) + 1) k (wn (dr g k t)) (wg mp k) f_63 _ rfl (by omega) ?_ (fun _ => ⟨rfl, rfl⟩) k_63
                   rw [show ((k : Int) + 1).toNat = k + 1 by omega, e1, if_pos ⟨⟨(cu (by omega)).2.2.1, by omega, c_42⟩, Or.inr (by
                     obtain ⟨q1, q2⟩ := hbw (by omega)
                     rw [q1, q2] at k9
                     rw [← hbs]
                     exact k9)⟩])
                
              · refine r_iload_9 (pc := 93) dX6_choiceAt_93 ?_
                refine r_istore_5 (pc := 95) dX6_choiceAt_95 rfl ?_
                refine r_iload_10 (pc := 97) dX6_choiceAt_97 ?_
                refine r_istore_6 (pc := 99) dX6_choiceAt_99 rfl ?_
                refine r_aload_0 (pc := 101) dX6_choiceAt_101 ?_
                refine gf_X6_15 (pc := 102) rfl (by assumption) dX6_choiceAt_102 (by assumption) ?_
                refine r_iload_9 (pc := 105) dX6_choiceAt_105 ?_
                refine r_ialdE (pc := 107) (by assumption) (by first | exact hr_n (by omega) | assumption | exact rfl) dX6_choiceAt_107 (by omega) (by omega) (fun i_107 => ?_)
                rw [cw (by omega)] at i_107 ⊢
                refine r_istore_7 (pc := 108) dX6_choiceAt_108 rfl ?_
                refine r_iinc_9 (pc := 110) dX6_choiceAt_110 rfl ?_
                refine r_goto (pc := 113) (tgt := 26) dX6_choiceAt_113 (by decide) ?_
                first
                | (have k9 : ¬ mp (k : Int) = n := c_42
                   have hF9 := hf
                   refine ih _ (by omega) ((k : Int) + 1) bs bl bw f _ rfl (by omega) ?_ hbw hF9
                   rw [show ((k : Int) + 1).toNat = k + 1 by omega, e1, if_neg (fun z => k9 z.1.2.2)]
                   exact hbs)
                | (have k9 : wg mp (k : Int) = 0 := by omega
                   have hF9 := hf
                   refine ih _ (by omega) ((k : Int) + 1) bs bl bw f _ rfl (by omega) ?_ hbw hF9
                   rw [show ((k : Int) + 1).toNat = k + 1 by omega, e1, if_neg (fun z => by have := z.1.2.1; omega)]
                   exact hbs)
                | (have k9 : bs = -4 := c_72
                   refine ih _ (by omega) ((k : Int) + 1) k (wn (dr g k t)) (wg mp k) f_63 _ rfl (by omega) ?_ (fun _ => ⟨rfl, rfl⟩) k_63
                   rw [show ((k : Int) + 1).toNat = k + 1 by omega, e1, if_pos ⟨⟨(cu (by omega)).2.2.1, by omega, c_42⟩, Or.inl (by rw [← hbs]; omega)⟩])
                | (have k9 : bl * wg mp k ≤ wn (dr g k t) * bw := c_90
                   have hF9 := k_63
                   refine ih _ (by omega) ((k : Int) + 1) bs bl bw f_63 _ rfl (by omega) ?_ hbw hF9
                   rw [show ((k : Int) + 1).toNat = k + 1 by omega, e1, if_neg (fun z => by
                     rw [← hbs] at z
                     obtain ⟨q1, q2⟩ := hbw (by omega)
                     rw [q1, q2] at k9
                     rcases z.2 with z2 | z2
                     · omega
                     · omega)]
                   exact hbs)
                | (have k9 : wn (dr g k t) * bw < bl * wg mp k := by omega
                   refine ih _ (by omega) ((k : Int) + 1) k (wn (dr g k t)) (wg mp k) f_63 _ rfl (by omega) ?_ (fun _ => ⟨rfl, rfl⟩) k_63
                   rw [show ((k : Int) + 1).toNat = k + 1 by omega, e1, if_pos ⟨⟨(cu (by omega)).2.2.1, by omega, c_42⟩, Or.inr (by
                     obtain ⟨q1, q2⟩ := hbw (by omega)
                     rw [q1, q2] at k9
                     rw [← hbs]
                     exact k9)⟩])
                
          · refine r_goto (pc := 55) (tgt := 110) dX6_choiceAt_55 (by decide) ?_
            refine r_iinc_9 (pc := 110) dX6_choiceAt_110 rfl ?_
            refine r_goto (pc := 113) (tgt := 26) dX6_choiceAt_113 (by decide) ?_
            first
            | (have k9 : ¬ mp (k : Int) = n := c_42
               have hF9 := hf
               refine ih _ (by omega) ((k : Int) + 1) bs bl bw f _ rfl (by omega) ?_ hbw hF9
               rw [show ((k : Int) + 1).toNat = k + 1 by omega, e1, if_neg (fun z => k9 z.1.2.2)]
               exact hbs)
            | (have k9 : wg mp (k : Int) = 0 := by omega
               have hF9 := hf
               refine ih _ (by omega) ((k : Int) + 1) bs bl bw f _ rfl (by omega) ?_ hbw hF9
               rw [show ((k : Int) + 1).toNat = k + 1 by omega, e1, if_neg (fun z => by have := z.1.2.1; omega)]
               exact hbs)
            | (have k9 : bs = -4 := c_72
               refine ih _ (by omega) ((k : Int) + 1) k (wn (dr g k t)) (wg mp k) f_63 _ rfl (by omega) ?_ (fun _ => ⟨rfl, rfl⟩) k_63
               rw [show ((k : Int) + 1).toNat = k + 1 by omega, e1, if_pos ⟨⟨(cu (by omega)).2.2.1, by omega, c_42⟩, Or.inl (by rw [← hbs]; omega)⟩])
            | (have k9 : bl * wg mp k ≤ wn (dr g k t) * bw := c_90
               have hF9 := k_63
               refine ih _ (by omega) ((k : Int) + 1) bs bl bw f_63 _ rfl (by omega) ?_ hbw hF9
               rw [show ((k : Int) + 1).toNat = k + 1 by omega, e1, if_neg (fun z => by
                 rw [← hbs] at z
                 obtain ⟨q1, q2⟩ := hbw (by omega)
                 rw [q1, q2] at k9
                 rcases z.2 with z2 | z2
                 · omega
                 · omega)]
               exact hbs)
            | (have k9 : wn (dr g k t) * bw < bl * wg mp k := by omega
               refine ih _ (by omega) ((k : Int) + 1) k (wn (dr g k t)) (wg mp k) f_63 _ rfl (by omega) ?_ (fun _ => ⟨rfl, rfl⟩) k_63
               rw [show ((k : Int) + 1).toNat = k + 1 by omega, e1, if_pos ⟨⟨(cu (by omega)).2.2.1, by omega, c_42⟩, Or.inr (by
                 obtain ⟨q1, q2⟩ := hbw (by omega)
                 rw [q1, q2] at k9
                 rw [← hbs]
                 exact k9)⟩])
            
  refine r_bipush (pc := 0) dX6_choiceAt_0 (by decide) ?_
  refine r_istore_5 (pc := 2) dX6_choiceAt_2 rfl ?_
  refine r_iconst (pc := 4) dX6_choiceAt_4 ?_
  refine r_istore_6 (pc := 5) dX6_choiceAt_5 rfl ?_
  refine r_iconst (pc := 7) dX6_choiceAt_7 ?_
  refine r_istore_7 (pc := 8) dX6_choiceAt_8 rfl ?_
  refine r_aload_0 (pc := 10) dX6_choiceAt_10 ?_
  refine r_iload_4 (pc := 11) dX6_choiceAt_11 ?_
  refine k_VI1 (pc := 13) c_X6_endBelow lk_X6_55 ⟨Nat.le_of_ble_eq_true rfl, Nat.le_of_ble_eq_true rfl⟩ ⟨rfl, rfl⟩ ⟨Nat.le_of_ble_eq_true rfl, Nat.le_of_ble_eq_true rfl⟩ (k := 6) rfl (by decide) (by assumption) dX6_choiceAt_13 (Nat.le_of_ble_eq_true rfl) ?_
  refine ⟨_, _, _, rfl, by assumption, by assumption, by assumption, by omega, ?_⟩
  refine r_istore_8 (pc := 16) dX6_choiceAt_16 rfl ?_
  refine r_aload_0 (pc := 18) dX6_choiceAt_18 ?_
  refine r_iload_4 (pc := 19) dX6_choiceAt_19 ?_
  refine k_VI1 (pc := 21) c_X6_firstBelow lk_X6_58 ⟨Nat.le_of_ble_eq_true rfl, Nat.le_of_ble_eq_true rfl⟩ ⟨rfl, rfl⟩ ⟨Nat.le_of_ble_eq_true rfl, Nat.le_of_ble_eq_true rfl⟩ (k := 6) rfl (by decide) (by assumption) dX6_choiceAt_21 (Nat.le_of_ble_eq_true rfl) ?_
  refine ⟨_, _, rfl, by omega, ?_⟩
  refine r_istore_9 (pc := 24) dX6_choiceAt_24 rfl ?_
  have e0 := lp _ (fbl n) (-4) 0 0 (h (s + 1)) none rfl (by omega) (by
    rw [pk_ext (a := 0) _ (Nat.zero_le _) (fun c c0 c1 z => by have := ch_nd hT (wg_nd z.2.1) z.1 z.2.2; omega)]
    rfl) (fun q => by omega) hK
  rw [hr_id] at e0
  exact e0

theorem PTr.of {h h2 : HpT} {p : Nat} {mp : Int → Int} (q : PTr h p mp) (e1 : h2 (p + 1) = h (p + 1)) (e2 : h2 (p + 2) = h (p + 2)) (e3 : h2 (p + 3) = h (p + 3)) : PTr h2 p mp := by
  unfold PTr
  rw [e1, e2, e3]
  exact q
theorem PWt.of {h h2 : HpT} {p : Nat} {mp : Int → Int} (q : PWt h p mp) (e3 : h2 (p + 3) = h (p + 3)) : PWt h2 p mp := by
  unfold PWt
  rw [e3]
  exact q
theorem dX6_diskOfTry_0 : decode cX6_diskOfTry 0 = .ok (.iconst 0, 1) := by decide +kernel
theorem dX6_diskOfTry_1 : decode cX6_diskOfTry 1 = .ok (.istore 4, 2) := by decide +kernel
theorem dX6_diskOfTry_3 : decode cX6_diskOfTry 3 = .ok (.iconst 0, 1) := by decide +kernel
theorem dX6_diskOfTry_4 : decode cX6_diskOfTry 4 = .ok (.istore 5, 2) := by decide +kernel
theorem dX6_diskOfTry_6 : decode cX6_diskOfTry 6 = .ok (.iload 5, 2) := by decide +kernel
theorem dX6_diskOfTry_8 : decode cX6_diskOfTry 8 = .ok (.iconst 3, 1) := by decide +kernel
theorem dX6_diskOfTry_9 : decode cX6_diskOfTry 9 = .ok (.if_icmp .ge 27, 3) := by decide +kernel
theorem dX6_diskOfTry_12 : decode cX6_diskOfTry 12 = .ok (.iload 4, 2) := by decide +kernel
theorem dX6_diskOfTry_14 : decode cX6_diskOfTry 14 = .ok (.bipush (-4), 2) := by decide +kernel
theorem dX6_diskOfTry_16 : decode cX6_diskOfTry 16 = .ok (.if_icmp .eq 20, 3) := by decide +kernel
theorem dX6_diskOfTry_19 : decode cX6_diskOfTry 19 = .ok (.aload_n 0, 1) := by decide +kernel
theorem dX6_diskOfTry_20 : decode cX6_diskOfTry 20 = .ok (.aload_n 1, 1) := by decide +kernel
theorem dX6_diskOfTry_21 : decode cX6_diskOfTry 21 = .ok (.iload_n 2, 1) := by decide +kernel
theorem dX6_diskOfTry_22 : decode cX6_diskOfTry 22 = .ok (.iload_n 3, 1) := by decide +kernel
theorem dX6_diskOfTry_23 : decode cX6_diskOfTry 23 = .ok (.iload 4, 2) := by decide +kernel
theorem dX6_diskOfTry_25 : decode cX6_diskOfTry 25 = .ok (.invokevirtual 67, 3) := by decide +kernel
theorem dX6_diskOfTry_28 : decode cX6_diskOfTry 28 = .ok (.istore 4, 2) := by decide +kernel
theorem dX6_diskOfTry_30 : decode cX6_diskOfTry 30 = .ok (.iinc 5 1, 3) := by decide +kernel
theorem dX6_diskOfTry_33 : decode cX6_diskOfTry 33 = .ok (.goto (-27), 3) := by decide +kernel
theorem dX6_diskOfTry_36 : decode cX6_diskOfTry 36 = .ok (.iload 4, 2) := by decide +kernel
theorem dX6_diskOfTry_38 : decode cX6_diskOfTry 38 = .ok (.ireturn, 1) := by decide +kernel
set_option maxHeartbeats 4000000 in
set_option maxRecDepth 20000 in
theorem c_X6_diskOfTry : ConI mX6_diskOfTry (fun args N lay r h Q => ∃ (p : Nat) (mp : Int → Int) (s : Nat) (g t : Int), args = [.ref (p + 1), .ref s, vI g, vI t] ∧ PlAt lay r p ∧ StAt lay r s ∧ (s + 2 ≤ p ∨ p + 14 ≤ s) ∧ TrM mp ∧ PTr h p mp ∧ PWt h p mp ∧ StK (h (s + 1)) ∧ (0 ≤ g ∧ g < 16) ∧ (0 ≤ t ∧ t < 100) ∧ ∀ f, StK f → Q (tryS mp g t) N lay r (hr h (s + 1) f)) := by
  refine ConI.of (by decide) (by rintro _ N lay r h Q ⟨p, mp, s, g, t, rfl, hA, hS, hP, hT, hN, hW, hK, hg, ht, hQ⟩; exact ⟨rfl, Nat.le_of_ble_eq_true rfl⟩) ?_
  rintro E _ N lay r h Q ⟨p, mp, s, g, t, rfl, hA, hS, hP, hT, hN, hW, hK, hg, ht, hQ⟩ hret
  obtain ⟨pl0, pl1, pl2, pl3, pl4, pl5, pl6, pl7, pl8, pl9, pl10, pl11, pl12, pl13, pr0, pr1, pr2, pr3, pr9, pr10, pr11, qr3, qr4, vr1, vr2, vr3, vr4⟩ := id hA
  obtain ⟨sl0, sl1, sr0⟩ := id hS
  show St E mX6_diskOfTry 0 [some (.ref (p + 1)), some (.ref s), some (vI g), some (vI t), none, none] [] (0, 0) N lay r h
  have lp : ∀ (n_ : Nat) (i : Int) (x : Int) (f : Int → Int), (3 - i).toNat = n_ → (0 ≤ i ∧ i ≤ 3) → (x = trk mp g t i.toNat) → (StK f) → St E mX6_diskOfTry 6 [some (.ref (p + 1)), some (.ref s), some (vI g), some (vI t), some (vI x), some (vI i)] [] (0, 0) N lay r (hr h (s + 1) f) := by
    intro  n_
    induction n_ using Nat.strongRecOn with
    | ind n_ ih =>
      intro i x f hn_ hi hx hf
      obtain ⟨k, rfl⟩ : ∃ k : Nat, i = k := ⟨i.toNat, by omega⟩
      rw [show ((k : Int)).toNat = k by omega] at hx
      have xo := trk_or mp g t k
      have x1 := trk_neg mp g t k
      have PTr_h : PTr (hr h (s + 1) f) p mp := hN.of (hr_n (by omega)) (hr_n (by omega)) (hr_n (by omega))
      have PWt_h : PWt (hr h (s + 1) f) p mp := hW.of (hr_n (by omega))
      refine r_iload_5 (pc := 6) dX6_diskOfTry_6 ?_
      refine r_iconst (pc := 8) dX6_diskOfTry_8 ?_
      refine r_icmp_ge (pc := 9) (tgt := 36) dX6_diskOfTry_9 (by decide) (by omega) (by omega) (fun c_9 => ?_) (fun c_9 => ?_)
      · refine r_iload_4 (pc := 36) dX6_diskOfTry_36 ?_
        refine r_iret (pc := 38) hret dX6_diskOfTry_38 rfl rfl rfl ?_
        have hQ := hQ f hf
        rw [← trk_3] at hQ
        have e3 : trk mp g t 3 = x := by
          first
          | (have hk : k = 3 := by omega
             rw [← hk]
             exact hx.symm)
          | (have y1 := trk_neg mp g t 0
             have y2 := trk_neg mp g t 1
             have y3 := trk_neg mp g t 2
             rcases (show k = 0 ∨ k = 1 ∨ k = 2 by omega) with rfl | rfl | rfl
             · rw [y3 (by rw [y2 (by rw [y1 (by omega)]; omega), y1 (by omega)]; omega), y2 (by rw [y1 (by omega)]; omega), y1 (by omega)]; exact hx.symm
             · rw [y3 (by rw [y2 (by omega)]; omega), y2 (by omega)]; exact hx.symm
             · rw [y3 (by omega)]; exact hx.symm)
        rw [← e3]
        exact hQ
      · refine r_iload_4 (pc := 12) dX6_diskOfTry_12 ?_
        refine r_bipush (pc := 14) dX6_diskOfTry_14 (by decide) ?_
        refine r_icmp_eq (pc := 16) (tgt := 36) dX6_diskOfTry_16 (by decide) (by omega) (by omega) (fun c_16 => ?_) (fun c_16 => ?_)
        · refine r_iload_4 (pc := 36) dX6_diskOfTry_36 ?_
          refine r_iret (pc := 38) hret dX6_diskOfTry_38 rfl rfl rfl ?_
          have hQ := hQ f hf
          rw [← trk_3] at hQ
          have e3 : trk mp g t 3 = x := by
            first
            | (have hk : k = 3 := by omega
               rw [← hk]
               exact hx.symm)
            | (have y1 := trk_neg mp g t 0
               have y2 := trk_neg mp g t 1
               have y3 := trk_neg mp g t 2
               rcases (show k = 0 ∨ k = 1 ∨ k = 2 by omega) with rfl | rfl | rfl
               · rw [y3 (by rw [y2 (by rw [y1 (by omega)]; omega), y1 (by omega)]; omega), y2 (by rw [y1 (by omega)]; omega), y1 (by omega)]; exact hx.symm
               · rw [y3 (by rw [y2 (by omega)]; omega), y2 (by omega)]; exact hx.symm
               · rw [y3 (by omega)]; exact hx.symm)
          rw [← e3]
          exact hQ
        · refine r_aload_0 (pc := 19) dX6_diskOfTry_19 ?_
          refine r_aload_1 (pc := 20) dX6_diskOfTry_20 ?_
          refine r_iload_2 (pc := 21) dX6_diskOfTry_21 ?_
          refine r_iload_3 (pc := 22) dX6_diskOfTry_22 ?_
          refine r_iload_4 (pc := 23) dX6_diskOfTry_23 ?_
          refine k_VI4 (pc := 25) c_X6_choiceAt lk_X6_67 ⟨Nat.le_of_ble_eq_true rfl, Nat.le_of_ble_eq_true rfl⟩ ⟨rfl, rfl⟩ ⟨Nat.le_of_ble_eq_true rfl, Nat.le_of_ble_eq_true rfl⟩ (k := 6) rfl (by decide) (by assumption) dX6_diskOfTry_25 (Nat.le_of_ble_eq_true rfl) ?_
          refine ⟨_, _, _, _, _, _, rfl, by assumption, by assumption, by assumption, by assumption, PTr_h, PWt_h, (by rw [hr_s]; assumption), by omega, by omega, by omega, fun f_25 k_25 => ?_⟩
          rw [hr_hr]
          refine r_istore_4 (pc := 28) dX6_diskOfTry_28 rfl ?_
          refine r_iinc_5 (pc := 30) dX6_diskOfTry_30 rfl ?_
          refine r_goto (pc := 33) (tgt := 6) dX6_diskOfTry_33 (by decide) ?_
          exact ih _ (by omega) ((k : Int) + 1) _ f_25 rfl (by omega) (by rw [show ((k : Int) + 1).toNat = k + 1 by omega, hx]; exact (if_neg (by omega)).symm) k_25
  refine r_iconst (pc := 0) dX6_diskOfTry_0 ?_
  refine r_istore_4 (pc := 1) dX6_diskOfTry_1 rfl ?_
  refine r_iconst (pc := 3) dX6_diskOfTry_3 ?_
  refine r_istore_5 (pc := 4) dX6_diskOfTry_4 rfl ?_
  have e0 := lp _ 0 0 (h (s + 1)) rfl (by omega) rfl hK
  rw [hr_id] at e0
  exact e0

