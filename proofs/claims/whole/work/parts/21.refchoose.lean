/-! THE REFERENCE: weights of all nodes, choices, tries -/
theorem dX8_weighsAll_0 : decode cX8_weighsAll 0 = .ok (.iconst 0, 1) := by decide +kernel
theorem dX8_weighsAll_1 : decode cX8_weighsAll 1 = .ok (.istore_n 1, 1) := by decide +kernel
theorem dX8_weighsAll_2 : decode cX8_weighsAll 2 = .ok (.iload_n 1, 1) := by decide +kernel
theorem dX8_weighsAll_3 : decode cX8_weighsAll 3 = .ok (.bipush 22, 2) := by decide +kernel
theorem dX8_weighsAll_5 : decode cX8_weighsAll 5 = .ok (.if_icmp .ge 32, 3) := by decide +kernel
theorem dX8_weighsAll_8 : decode cX8_weighsAll 8 = .ok (.aload_n 0, 1) := by decide +kernel
theorem dX8_weighsAll_9 : decode cX8_weighsAll 9 = .ok (.getfield 31, 3) := by decide +kernel
theorem dX8_weighsAll_12 : decode cX8_weighsAll 12 = .ok (.iload_n 1, 1) := by decide +kernel
theorem dX8_weighsAll_13 : decode cX8_weighsAll 13 = .ok (.aload_n 0, 1) := by decide +kernel
theorem dX8_weighsAll_14 : decode cX8_weighsAll 14 = .ok (.iload_n 1, 1) := by decide +kernel
theorem dX8_weighsAll_15 : decode cX8_weighsAll 15 = .ok (.invokevirtual 154, 3) := by decide +kernel
theorem dX8_weighsAll_18 : decode cX8_weighsAll 18 = .ok (.ifCond .eq 11, 3) := by decide +kernel
theorem dX8_weighsAll_21 : decode cX8_weighsAll 21 = .ok (.aload_n 0, 1) := by decide +kernel
theorem dX8_weighsAll_22 : decode cX8_weighsAll 22 = .ok (.iload_n 1, 1) := by decide +kernel
theorem dX8_weighsAll_23 : decode cX8_weighsAll 23 = .ok (.invokevirtual 157, 3) := by decide +kernel
theorem dX8_weighsAll_26 : decode cX8_weighsAll 26 = .ok (.goto 4, 3) := by decide +kernel
theorem dX8_weighsAll_29 : decode cX8_weighsAll 29 = .ok (.iconst 0, 1) := by decide +kernel
theorem dX8_weighsAll_30 : decode cX8_weighsAll 30 = .ok (.iastore, 1) := by decide +kernel
theorem dX8_weighsAll_31 : decode cX8_weighsAll 31 = .ok (.iinc 1 1, 3) := by decide +kernel
theorem dX8_weighsAll_34 : decode cX8_weighsAll 34 = .ok (.goto (-32), 3) := by decide +kernel
theorem dX8_weighsAll_37 : decode cX8_weighsAll 37 = .ok (.return_, 1) := by decide +kernel
set_option maxHeartbeats 4000000 in
set_option maxRecDepth 20000 in
theorem c_X8_weighsAll : ConV mX8_weighsAll (fun args N lay r h Q => ∃ b mp, args = [.ref b] ∧ MdAt lay r b ∧ h (b + 2) = mp ∧ TrM mp ∧ ∀ h2, Fr h h2 (fun x => x = b + 8) → (∀ n, 0 ≤ n → n < 22 → h2 (b + 8) n = wg mp n) → Q N lay r h2) := by
  refine ConV.of (by decide) (by rintro _ N lay r h Q ⟨b, mp, rfl, hM, hmp, hT, hQ⟩; exact ⟨rfl, Nat.le_of_ble_eq_true rfl⟩) ?_
  rintro E _ N lay r h Q ⟨b, mp, rfl, hM, hmp, hT, hQ⟩ hret
  obtain ⟨ml0, ml1, ml2, ml3, ml4, ml5, ml6, ml7, ml8, ml9, ml10, ml11, ml12, ml13, ml14, ml15, ml16, ml17, ml18, ml19, ml20, mr1, mr2, mr3, mr4, mr5, mr6, mr7, mr8, mr9, mr10, mr11, mr12, mr13, mr14, mr15, mr16, mr17, mr18, mr19, mr20⟩ := id hM
  obtain ⟨t1, t2, t3, t4, t5, t6, t7⟩ := id hT
  show St E mX8_weighsAll 0 [some (.ref b), none] [] (0, 0) N lay r h
  have lp : ∀ (n_ : Nat) (i : Int) (hh : HpT), (22 - i).toNat = n_ → (0 ≤ i ∧ i ≤ 22) → (Fr h hh (fun x => x = b + 8)) → (∀ n, 0 ≤ n → n < i → hh (b + 8) n = wg mp n) → St E mX8_weighsAll 2 [some (.ref b), some (vI i)] [] (0, 0) N lay r hh := by
    intro n_
    induction n_ using Nat.strongRecOn with
    | ind n_ ih =>
      intro i hh hn_ hi hf hw
      have e2 : hh (b + 2) = mp := (hf _ (by omega)).trans hmp
      have wr := wt_r hT i
      refine r_iload_1 (pc := 2) dX8_weighsAll_2 ?_
      refine r_bipush (pc := 3) dX8_weighsAll_3 (by decide) ?_
      refine r_icmp_ge (pc := 5) (tgt := 37) dX8_weighsAll_5 (by decide) (by omega) (by omega) (fun c_5 => ?_) (fun c_5 => ?_)
      · refine r_ret (pc := 37) hret dX8_weighsAll_37 rfl rfl rfl ?_
        exact hQ hh hf (fun n n0 n1 => hw n n0 (by omega))
      · refine r_aload_0 (pc := 8) dX8_weighsAll_8 ?_
        refine gf_X8_31 (pc := 9) rfl (by assumption) dX8_weighsAll_9 (by assumption) ?_
        refine r_iload_1 (pc := 12) dX8_weighsAll_12 ?_
        refine r_aload_0 (pc := 13) dX8_weighsAll_13 ?_
        refine r_iload_1 (pc := 14) dX8_weighsAll_14 ?_
        refine k_VI1 (pc := 15) c_X8_isNode lk_X8_154 ⟨Nat.le_of_ble_eq_true rfl, Nat.le_of_ble_eq_true rfl⟩ ⟨rfl, rfl⟩ ⟨Nat.le_of_ble_eq_true rfl, Nat.le_of_ble_eq_true rfl⟩ (k := 8) rfl (by decide) (by assumption) dX8_weighsAll_15 (Nat.le_of_ble_eq_true rfl) ?_
        refine ⟨_, _, _, rfl, by assumption, by first | assumption | exact rfl, by omega, by assumption, ?_⟩
        refine r_ifeq_b (pc := 18) (tgt := 29) dX8_weighsAll_18 (by decide) (fun c_18 => ?_) (fun c_18 => ?_)
        · refine r_iconst (pc := 29) dX8_weighsAll_29 ?_
          refine r_iastE (pc := 30) (by assumption) (by first | assumption | exact rfl) dX8_weighsAll_30 (by omega) (by omega) (by omega) ?_
          refine r_iinc_1 (pc := 31) dX8_weighsAll_31 rfl ?_
          refine r_goto (pc := 34) (tgt := 2) dX8_weighsAll_34 (by decide) ?_
          refine ih _ (by omega) (i + 1) _ rfl (by omega) (fun x hx => by rw [hr_n (by omega)]; exact hf x hx) (fun n n0 n1 => ?_)
          rw [hr_s]
          by_cases e : n = i
          · subst e
            rw [up_s]
            unfold wg
            first | rw [if_pos c_18] | rw [if_neg c_18]
          · rw [up_n e]
            exact hw n n0 (by omega)
        · refine r_aload_0 (pc := 21) dX8_weighsAll_21 ?_
          refine r_iload_1 (pc := 22) dX8_weighsAll_22 ?_
          refine k_VI1 (pc := 23) c_X8_weightOf lk_X8_157 ⟨Nat.le_of_ble_eq_true rfl, Nat.le_of_ble_eq_true rfl⟩ ⟨rfl, rfl⟩ ⟨Nat.le_of_ble_eq_true rfl, Nat.le_of_ble_eq_true rfl⟩ (k := 8) rfl (by decide) (by assumption) dX8_weighsAll_23 (Nat.le_of_ble_eq_true rfl) ?_
          refine ⟨_, _, _, rfl, by assumption, by first | assumption | exact rfl, by assumption, by omega, ?_⟩
          refine r_goto (pc := 26) (tgt := 30) dX8_weighsAll_26 (by decide) ?_
          refine r_iastE (pc := 30) (by assumption) (by first | assumption | exact rfl) dX8_weighsAll_30 (by omega) (by omega) (by omega) ?_
          refine r_iinc_1 (pc := 31) dX8_weighsAll_31 rfl ?_
          refine r_goto (pc := 34) (tgt := 2) dX8_weighsAll_34 (by decide) ?_
          refine ih _ (by omega) (i + 1) _ rfl (by omega) (fun x hx => by rw [hr_n (by omega)]; exact hf x hx) (fun n n0 n1 => ?_)
          rw [hr_s]
          by_cases e : n = i
          · subst e
            rw [up_s]
            unfold wg
            first | rw [if_pos c_18] | rw [if_neg c_18]
          · rw [up_n e]
            exact hw n n0 (by omega)
  refine r_iconst (pc := 0) dX8_weighsAll_0 ?_
  refine r_istore_1 (pc := 1) dX8_weighsAll_1 rfl ?_
  exact lp _ 0 h rfl (by omega) (fun _ _ => rfl) (fun n n0 n1 => by omega)

theorem pk_s (c : Int → Prop) [DecidablePred c] (L W : Int → Int) (k : Nat) : pk c L W (k + 1) = if c k ∧ (pk c L W k < 0 ∨ L k * W (pk c L W k) < L (pk c L W k) * W k) then (k : Int) else pk c L W k := rfl
theorem dX8_chooses_0 : decode cX8_chooses 0 = .ok (.bipush (-4), 2) := by decide +kernel
theorem dX8_chooses_2 : decode cX8_chooses 2 = .ok (.istore 4, 2) := by decide +kernel
theorem dX8_chooses_4 : decode cX8_chooses 4 = .ok (.lconst 0, 1) := by decide +kernel
theorem dX8_chooses_5 : decode cX8_chooses 5 = .ok (.lstore 5, 2) := by decide +kernel
theorem dX8_chooses_7 : decode cX8_chooses 7 = .ok (.iconst 1, 1) := by decide +kernel
theorem dX8_chooses_8 : decode cX8_chooses 8 = .ok (.istore 7, 2) := by decide +kernel
theorem dX8_chooses_10 : decode cX8_chooses 10 = .ok (.iload 7, 2) := by decide +kernel
theorem dX8_chooses_12 : decode cX8_chooses 12 = .ok (.bipush 22, 2) := by decide +kernel
theorem dX8_chooses_14 : decode cX8_chooses 14 = .ok (.if_icmp .ge 110, 3) := by decide +kernel
theorem dX8_chooses_17 : decode cX8_chooses 17 = .ok (.aload_n 0, 1) := by decide +kernel
theorem dX8_chooses_18 : decode cX8_chooses 18 = .ok (.getfield 31, 3) := by decide +kernel
theorem dX8_chooses_21 : decode cX8_chooses 21 = .ok (.iload 7, 2) := by decide +kernel
theorem dX8_chooses_23 : decode cX8_chooses 23 = .ok (.iaload, 1) := by decide +kernel
theorem dX8_chooses_24 : decode cX8_chooses 24 = .ok (.ifCond .le 94, 3) := by decide +kernel
theorem dX8_chooses_27 : decode cX8_chooses 27 = .ok (.aload_n 0, 1) := by decide +kernel
theorem dX8_chooses_28 : decode cX8_chooses 28 = .ok (.getfield 13, 3) := by decide +kernel
theorem dX8_chooses_31 : decode cX8_chooses 31 = .ok (.iload 7, 2) := by decide +kernel
theorem dX8_chooses_33 : decode cX8_chooses 33 = .ok (.iaload, 1) := by decide +kernel
theorem dX8_chooses_34 : decode cX8_chooses 34 = .ok (.iload_n 3, 1) := by decide +kernel
theorem dX8_chooses_35 : decode cX8_chooses 35 = .ok (.if_icmp .ne 83, 3) := by decide +kernel
theorem dX8_chooses_38 : decode cX8_chooses 38 = .ok (.iload_n 2, 1) := by decide +kernel
theorem dX8_chooses_39 : decode cX8_chooses 39 = .ok (.bipush 24, 2) := by decide +kernel
theorem dX8_chooses_41 : decode cX8_chooses 41 = .ok (.if_icmp .ge 25, 3) := by decide +kernel
theorem dX8_chooses_44 : decode cX8_chooses 44 = .ok (.aload_n 0, 1) := by decide +kernel
theorem dX8_chooses_45 : decode cX8_chooses 45 = .ok (.getfield 28, 3) := by decide +kernel
theorem dX8_chooses_48 : decode cX8_chooses 48 = .ok (.sipush 550, 3) := by decide +kernel
theorem dX8_chooses_51 : decode cX8_chooses 51 = .ok (.iload_n 1, 1) := by decide +kernel
theorem dX8_chooses_52 : decode cX8_chooses 52 = .ok (.imul, 1) := by decide +kernel
theorem dX8_chooses_53 : decode cX8_chooses 53 = .ok (.bipush 25, 2) := by decide +kernel
theorem dX8_chooses_55 : decode cX8_chooses 55 = .ok (.iload 7, 2) := by decide +kernel
theorem dX8_chooses_57 : decode cX8_chooses 57 = .ok (.imul, 1) := by decide +kernel
theorem dX8_chooses_58 : decode cX8_chooses 58 = .ok (.iadd, 1) := by decide +kernel
theorem dX8_chooses_59 : decode cX8_chooses 59 = .ok (.iload_n 2, 1) := by decide +kernel
theorem dX8_chooses_60 : decode cX8_chooses 60 = .ok (.iadd, 1) := by decide +kernel
theorem dX8_chooses_61 : decode cX8_chooses 61 = .ok (.iaload, 1) := by decide +kernel
theorem dX8_chooses_62 : decode cX8_chooses 62 = .ok (.i2l, 1) := by decide +kernel
theorem dX8_chooses_63 : decode cX8_chooses 63 = .ok (.goto 14, 3) := by decide +kernel
theorem dX8_chooses_66 : decode cX8_chooses 66 = .ok (.iload_n 1, 1) := by decide +kernel
theorem dX8_chooses_67 : decode cX8_chooses 67 = .ok (.iload 7, 2) := by decide +kernel
theorem dX8_chooses_69 : decode cX8_chooses 69 = .ok (.iload_n 2, 1) := by decide +kernel
theorem dX8_chooses_70 : decode cX8_chooses 70 = .ok (.invokestatic 70, 3) := by decide +kernel
theorem dX8_chooses_73 : decode cX8_chooses 73 = .ok (.invokestatic 74, 3) := by decide +kernel
theorem dX8_chooses_76 : decode cX8_chooses 76 = .ok (.i2l, 1) := by decide +kernel
theorem dX8_chooses_77 : decode cX8_chooses 77 = .ok (.lstore 8, 2) := by decide +kernel
theorem dX8_chooses_79 : decode cX8_chooses 79 = .ok (.iload 4, 2) := by decide +kernel
theorem dX8_chooses_81 : decode cX8_chooses 81 = .ok (.ifCond .lt 29, 3) := by decide +kernel
theorem dX8_chooses_84 : decode cX8_chooses 84 = .ok (.lload 8, 2) := by decide +kernel
theorem dX8_chooses_86 : decode cX8_chooses 86 = .ok (.aload_n 0, 1) := by decide +kernel
theorem dX8_chooses_87 : decode cX8_chooses 87 = .ok (.getfield 31, 3) := by decide +kernel
theorem dX8_chooses_90 : decode cX8_chooses 90 = .ok (.iload 4, 2) := by decide +kernel
theorem dX8_chooses_92 : decode cX8_chooses 92 = .ok (.iaload, 1) := by decide +kernel
theorem dX8_chooses_93 : decode cX8_chooses 93 = .ok (.i2l, 1) := by decide +kernel
theorem dX8_chooses_94 : decode cX8_chooses 94 = .ok (.lmul, 1) := by decide +kernel
theorem dX8_chooses_95 : decode cX8_chooses 95 = .ok (.lload 5, 2) := by decide +kernel
theorem dX8_chooses_97 : decode cX8_chooses 97 = .ok (.aload_n 0, 1) := by decide +kernel
theorem dX8_chooses_98 : decode cX8_chooses 98 = .ok (.getfield 31, 3) := by decide +kernel
theorem dX8_chooses_101 : decode cX8_chooses 101 = .ok (.iload 7, 2) := by decide +kernel
theorem dX8_chooses_103 : decode cX8_chooses 103 = .ok (.iaload, 1) := by decide +kernel
theorem dX8_chooses_104 : decode cX8_chooses 104 = .ok (.i2l, 1) := by decide +kernel
theorem dX8_chooses_105 : decode cX8_chooses 105 = .ok (.lmul, 1) := by decide +kernel
theorem dX8_chooses_106 : decode cX8_chooses 106 = .ok (.lcmp, 1) := by decide +kernel
theorem dX8_chooses_107 : decode cX8_chooses 107 = .ok (.ifCond .ge 11, 3) := by decide +kernel
theorem dX8_chooses_110 : decode cX8_chooses 110 = .ok (.iload 7, 2) := by decide +kernel
theorem dX8_chooses_112 : decode cX8_chooses 112 = .ok (.istore 4, 2) := by decide +kernel
theorem dX8_chooses_114 : decode cX8_chooses 114 = .ok (.lload 8, 2) := by decide +kernel
theorem dX8_chooses_116 : decode cX8_chooses 116 = .ok (.lstore 5, 2) := by decide +kernel
theorem dX8_chooses_118 : decode cX8_chooses 118 = .ok (.iinc 7 1, 3) := by decide +kernel
theorem dX8_chooses_121 : decode cX8_chooses 121 = .ok (.goto (-111), 3) := by decide +kernel
theorem dX8_chooses_124 : decode cX8_chooses 124 = .ok (.iload 4, 2) := by decide +kernel
theorem dX8_chooses_126 : decode cX8_chooses 126 = .ok (.ireturn, 1) := by decide +kernel
set_option maxHeartbeats 4000000 in
set_option maxRecDepth 20000 in
theorem c_X8_chooses : ConI mX8_chooses (fun args N lay r h Q => ∃ b mp g t n, args = [.ref b, vI g, vI t, vI n] ∧ MdAt lay r b ∧ h (b + 2) = mp ∧ TrM mp ∧ (∀ n, 0 ≤ n → n < 22 → h (b + 8) n = wg mp n) ∧ WaT (h (b + 7)) ∧ (0 ≤ g ∧ g < 16) ∧ (0 ≤ t ∧ t < 100) ∧ (0 ≤ n ∧ n < 22) ∧ Q (chz mp g t n) N lay r h) := by
  refine ConI.of (by decide) (by rintro _ N lay r h Q ⟨b, mp, g, t, n, rfl, hM, hmp, hT, hw, hwa, hg, ht, hn, hQ⟩; exact ⟨rfl, Nat.le_of_ble_eq_true rfl⟩) ?_
  rintro E _ N lay r h Q ⟨b, mp, g, t, n, rfl, hM, hmp, hT, hw, hwa, hg, ht, hn, hQ⟩ hret
  obtain ⟨ml0, ml1, ml2, ml3, ml4, ml5, ml6, ml7, ml8, ml9, ml10, ml11, ml12, ml13, ml14, ml15, ml16, ml17, ml18, ml19, ml20, mr1, mr2, mr3, mr4, mr5, mr6, mr7, mr8, mr9, mr10, mr11, mr12, mr13, mr14, mr15, mr16, mr17, mr18, mr19, mr20⟩ := id hM
  obtain ⟨t1, t2, t3, t4, t5, t6, t7⟩ := id hT
  show St E mX8_chooses 0 [some (.ref b), some (vI g), some (vI t), some (vI n), none, none, none, none, none, none] [] (0, 0) N lay r h
  have lp : ∀ (n_ : Nat) (c : Int) (bs : Int) (bw : Int) (x8 : Option Value), (22 - c).toNat = n_ → (1 ≤ c ∧ c ≤ 22) → (bs = pk (cd mp n) (fun c => wn (dr g c t)) (wg mp) c.toNat) → (0 ≤ bs → bw = wn (dr g bs t)) → (bs < 0 → bw = 0) → St E mX8_chooses 10 [some (.ref b), some (vI g), some (vI t), some (vI n), some (vI bs), some (vL bw), none, some (vI c), x8, none] [] (0, 0) N lay r h := by
    intro n_
    induction n_ using Nat.strongRecOn with
    | ind n_ ih =>
      intro c bs bw x8 hn_ hc hbs hbw hb0
      obtain ⟨k, rfl⟩ : ∃ k : Nat, c = k := ⟨c.toNat, by omega⟩
      have e1 := pk_s (cd mp n) (fun c => wn (dr g c t)) (wg mp) k
      have wr := wg_r hT k
      have br := pk_or (cd mp n) (fun c => wn (dr g c t)) (wg mp) k
      have wrb := wg_r hT bs
      have dk := dr_r g k t
      have wk := wn_r dk
      have hwk : (k : Int) < 22 → h (b + 8) k = wg mp k := fun q => hw k (by omega) q
      rw [show ((k : Int)).toNat = k by omega] at hbs
      have bwr : 0 ≤ bw ∧ bw ≤ 65536 := by
        rcases Int.lt_or_le bs 0 with q | q
        · have := hb0 q
          omega
        · rw [hbw q]
          have := wn_r (dr_r g bs t)
          omega
      have m1 : 0 ≤ wn (dr g k t) * wg mp bs ∧ wn (dr g k t) * wg mp bs ≤ 65536 * 480 := ⟨Int.mul_nonneg (by omega) wrb.1, Int.mul_le_mul wk.2 wrb.2 wrb.1 (by omega)⟩
      have m2 : 0 ≤ bw * wg mp k ∧ bw * wg mp k ≤ 65536 * 480 := ⟨Int.mul_nonneg bwr.1 wr.1, Int.mul_le_mul bwr.2 wr.2 wr.1 (by omega)⟩
      refine r_iload_7 (pc := 10) dX8_chooses_10 ?_
      refine r_bipush (pc := 12) dX8_chooses_12 (by decide) ?_
      refine r_icmp_ge (pc := 14) (tgt := 124) dX8_chooses_14 (by decide) (by omega) (by omega) (fun c_14 => ?_) (fun c_14 => ?_)
      · refine r_iload_4 (pc := 124) dX8_chooses_124 ?_
        refine r_iret (pc := 126) hret dX8_chooses_126 rfl rfl rfl ?_
        have hc2 : k = 22 := by omega
        subst hc2
        unfold chz at hQ
        rw [hbs]
        exact hQ
      · refine r_aload_0 (pc := 17) dX8_chooses_17 ?_
        refine gf_X8_31 (pc := 18) rfl (by assumption) dX8_chooses_18 (by assumption) ?_
        refine r_iload_7 (pc := 21) dX8_chooses_21 ?_
        refine r_ialdE (pc := 23) (by assumption) rfl dX8_chooses_23 (by omega) (by omega) (fun i_23 => ?_)
        rw [hwk (by omega)]
        refine r_if_le (pc := 24) (tgt := 118) dX8_chooses_24 (by decide) (by omega) (fun c_24 => ?_) (fun c_24 => ?_)
        · refine r_iinc_7 (pc := 118) dX8_chooses_118 rfl ?_
          refine r_goto (pc := 121) (tgt := 10) dX8_chooses_121 (by decide) ?_
          first
          | (refine ih _ (by omega) ((k : Int) + 1) bs bw _ rfl (by omega) ?_ hbw hb0
             rw [show ((k : Int) + 1).toNat = k + 1 by omega, e1, if_neg (fun z => by have := z.1.2.1; omega)]
             exact hbs)
          | (refine ih _ (by omega) ((k : Int) + 1) bs bw _ rfl (by omega) ?_ hbw hb0
             rw [show ((k : Int) + 1).toNat = k + 1 by omega, e1, if_neg (fun z => c_35 z.1.2.2)]
             exact hbs)
          | (refine ih _ (by omega) ((k : Int) + 1) bs bw _ rfl (by omega) ?_ hbw hb0
             rw [show ((k : Int) + 1).toNat = k + 1 by omega, e1, if_neg (fun z => by
               have q1 := lCm_ge c_107
               rw [hbw (by omega)] at q1
               rw [← hbs] at z
               rcases z.2 with z2 | z2
               · omega
               · omega)]
             exact hbs)
          | (refine ih _ (by omega) ((k : Int) + 1) k (wn (dr g k t)) _ rfl (by omega) ?_ (fun _ => rfl) (fun q => by omega)
             rw [show ((k : Int) + 1).toNat = k + 1 by omega, e1, if_pos ⟨⟨by omega, by omega, c_35⟩, Or.inl (by rw [← hbs]; omega)⟩])
          | (refine ih _ (by omega) ((k : Int) + 1) k (wn (dr g k t)) _ rfl (by omega) ?_ (fun _ => rfl) (fun q => by omega)
             rw [show ((k : Int) + 1).toNat = k + 1 by omega, e1, if_pos ⟨⟨by omega, by omega, c_35⟩, Or.inr (by
               have q1 := lCm_lt c_107
               rw [hbw (by omega)] at q1
               rw [← hbs]
               exact q1)⟩])
        · refine r_aload_0 (pc := 27) dX8_chooses_27 ?_
          refine gf_X8_13 (pc := 28) rfl (by assumption) dX8_chooses_28 (by assumption) ?_
          refine r_iload_7 (pc := 31) dX8_chooses_31 ?_
          refine r_ialdE (pc := 33) (by assumption) (by first | assumption | exact rfl) dX8_chooses_33 (by omega) (by omega) (fun i_33 => ?_)
          refine r_iload_3 (pc := 34) dX8_chooses_34 ?_
          refine r_icmp_ne (pc := 35) (tgt := 118) dX8_chooses_35 (by decide) (by omega) (by omega) (fun c_35 => ?_) (fun c_35 => ?_)
          · refine r_iinc_7 (pc := 118) dX8_chooses_118 rfl ?_
            refine r_goto (pc := 121) (tgt := 10) dX8_chooses_121 (by decide) ?_
            first
            | (refine ih _ (by omega) ((k : Int) + 1) bs bw _ rfl (by omega) ?_ hbw hb0
               rw [show ((k : Int) + 1).toNat = k + 1 by omega, e1, if_neg (fun z => by have := z.1.2.1; omega)]
               exact hbs)
            | (refine ih _ (by omega) ((k : Int) + 1) bs bw _ rfl (by omega) ?_ hbw hb0
               rw [show ((k : Int) + 1).toNat = k + 1 by omega, e1, if_neg (fun z => c_35 z.1.2.2)]
               exact hbs)
            | (refine ih _ (by omega) ((k : Int) + 1) bs bw _ rfl (by omega) ?_ hbw hb0
               rw [show ((k : Int) + 1).toNat = k + 1 by omega, e1, if_neg (fun z => by
                 have q1 := lCm_ge c_107
                 rw [hbw (by omega)] at q1
                 rw [← hbs] at z
                 rcases z.2 with z2 | z2
                 · omega
                 · omega)]
               exact hbs)
            | (refine ih _ (by omega) ((k : Int) + 1) k (wn (dr g k t)) _ rfl (by omega) ?_ (fun _ => rfl) (fun q => by omega)
               rw [show ((k : Int) + 1).toNat = k + 1 by omega, e1, if_pos ⟨⟨by omega, by omega, c_35⟩, Or.inl (by rw [← hbs]; omega)⟩])
            | (refine ih _ (by omega) ((k : Int) + 1) k (wn (dr g k t)) _ rfl (by omega) ?_ (fun _ => rfl) (fun q => by omega)
               rw [show ((k : Int) + 1).toNat = k + 1 by omega, e1, if_pos ⟨⟨by omega, by omega, c_35⟩, Or.inr (by
                 have q1 := lCm_lt c_107
                 rw [hbw (by omega)] at q1
                 rw [← hbs]
                 exact q1)⟩])
          · refine r_iload_2 (pc := 38) dX8_chooses_38 ?_
            refine r_bipush (pc := 39) dX8_chooses_39 (by decide) ?_
            refine r_icmp_ge (pc := 41) (tgt := 66) dX8_chooses_41 (by decide) (by omega) (by omega) (fun c_41 => ?_) (fun c_41 => ?_)
            · refine r_iload_1 (pc := 66) dX8_chooses_66 ?_
              refine r_iload_7 (pc := 67) dX8_chooses_67 ?_
              refine r_iload_2 (pc := 69) dX8_chooses_69 ?_
              refine k_SI3 (pc := 70) c_X8_drawn lk_X8_70 ⟨Nat.le_of_ble_eq_true rfl, Nat.le_of_ble_eq_true rfl⟩ ⟨rfl, rfl⟩ ⟨Nat.le_of_ble_eq_true rfl, Nat.le_of_ble_eq_true rfl⟩ dX8_chooses_70 (Nat.le_of_ble_eq_true rfl) ?_
              refine ⟨_, _, _, rfl, by omega, by omega, by omega, ?_⟩
              refine k_SI1 (pc := 73) c_X8_wanted lk_X8_74 ⟨Nat.le_of_ble_eq_true rfl, Nat.le_of_ble_eq_true rfl⟩ ⟨rfl, rfl⟩ ⟨Nat.le_of_ble_eq_true rfl, Nat.le_of_ble_eq_true rfl⟩ dX8_chooses_73 (Nat.le_of_ble_eq_true rfl) ?_
              refine ⟨_, rfl, by omega, ?_⟩
              refine r_i2l (pc := 76) dX8_chooses_76 (by omega) ?_
              refine r_lstore_8 (pc := 77) dX8_chooses_77 rfl ?_
              refine r_iload_4 (pc := 79) dX8_chooses_79 ?_
              refine r_if_lt (pc := 81) (tgt := 110) dX8_chooses_81 (by decide) (by omega) (fun c_81 => ?_) (fun c_81 => ?_)
              · refine r_iload_7 (pc := 110) dX8_chooses_110 ?_
                refine r_istore_4 (pc := 112) dX8_chooses_112 rfl ?_
                refine r_lload_8 (pc := 114) dX8_chooses_114 ?_
                refine r_lstore_5 (pc := 116) dX8_chooses_116 rfl ?_
                refine r_iinc_7 (pc := 118) dX8_chooses_118 rfl ?_
                refine r_goto (pc := 121) (tgt := 10) dX8_chooses_121 (by decide) ?_
                first
                | (refine ih _ (by omega) ((k : Int) + 1) bs bw _ rfl (by omega) ?_ hbw hb0
                   rw [show ((k : Int) + 1).toNat = k + 1 by omega, e1, if_neg (fun z => by have := z.1.2.1; omega)]
                   exact hbs)
                | (refine ih _ (by omega) ((k : Int) + 1) bs bw _ rfl (by omega) ?_ hbw hb0
                   rw [show ((k : Int) + 1).toNat = k + 1 by omega, e1, if_neg (fun z => c_35 z.1.2.2)]
                   exact hbs)
                | (refine ih _ (by omega) ((k : Int) + 1) bs bw _ rfl (by omega) ?_ hbw hb0
                   rw [show ((k : Int) + 1).toNat = k + 1 by omega, e1, if_neg (fun z => by
                     have q1 := lCm_ge c_107
                     rw [hbw (by omega)] at q1
                     rw [← hbs] at z
                     rcases z.2 with z2 | z2
                     · omega
                     · omega)]
                   exact hbs)
                | (refine ih _ (by omega) ((k : Int) + 1) k (wn (dr g k t)) _ rfl (by omega) ?_ (fun _ => rfl) (fun q => by omega)
                   rw [show ((k : Int) + 1).toNat = k + 1 by omega, e1, if_pos ⟨⟨by omega, by omega, c_35⟩, Or.inl (by rw [← hbs]; omega)⟩])
                | (refine ih _ (by omega) ((k : Int) + 1) k (wn (dr g k t)) _ rfl (by omega) ?_ (fun _ => rfl) (fun q => by omega)
                   rw [show ((k : Int) + 1).toNat = k + 1 by omega, e1, if_pos ⟨⟨by omega, by omega, c_35⟩, Or.inr (by
                     have q1 := lCm_lt c_107
                     rw [hbw (by omega)] at q1
                     rw [← hbs]
                     exact q1)⟩])
              · refine r_lload_8 (pc := 84) dX8_chooses_84 ?_
                refine r_aload_0 (pc := 86) dX8_chooses_86 ?_
                refine gf_X8_31 (pc := 87) rfl (by assumption) dX8_chooses_87 (by assumption) ?_
                refine r_iload_4 (pc := 90) dX8_chooses_90 ?_
                refine r_ialdE (pc := 92) (by assumption) rfl dX8_chooses_92 (by omega) (by omega) (fun i_92 => ?_)
                rw [hw bs (by omega) (by omega)]
                refine r_i2l (pc := 93) dX8_chooses_93 (by omega) ?_
                refine r_lmul (pc := 94) dX8_chooses_94 ?_
                refine r_lload_5 (pc := 95) dX8_chooses_95 ?_
                refine r_aload_0 (pc := 97) dX8_chooses_97 ?_
                refine gf_X8_31 (pc := 98) rfl (by assumption) dX8_chooses_98 (by assumption) ?_
                refine r_iload_7 (pc := 101) dX8_chooses_101 ?_
                refine r_ialdE (pc := 103) (by assumption) rfl dX8_chooses_103 (by omega) (by omega) (fun i_103 => ?_)
                rw [hwk (by omega)]
                refine r_i2l (pc := 104) dX8_chooses_104 (by omega) ?_
                refine r_lmul (pc := 105) dX8_chooses_105 ?_
                refine r_lcmp (pc := 106) dX8_chooses_106 (by omega) (by omega) ?_
                refine r_if_ge (pc := 107) (tgt := 118) dX8_chooses_107 (by decide) (lCm_r _ _) (fun c_107 => ?_) (fun c_107 => ?_)
                · refine r_iinc_7 (pc := 118) dX8_chooses_118 rfl ?_
                  refine r_goto (pc := 121) (tgt := 10) dX8_chooses_121 (by decide) ?_
                  first
                  | (refine ih _ (by omega) ((k : Int) + 1) bs bw _ rfl (by omega) ?_ hbw hb0
                     rw [show ((k : Int) + 1).toNat = k + 1 by omega, e1, if_neg (fun z => by have := z.1.2.1; omega)]
                     exact hbs)
                  | (refine ih _ (by omega) ((k : Int) + 1) bs bw _ rfl (by omega) ?_ hbw hb0
                     rw [show ((k : Int) + 1).toNat = k + 1 by omega, e1, if_neg (fun z => c_35 z.1.2.2)]
                     exact hbs)
                  | (refine ih _ (by omega) ((k : Int) + 1) bs bw _ rfl (by omega) ?_ hbw hb0
                     rw [show ((k : Int) + 1).toNat = k + 1 by omega, e1, if_neg (fun z => by
                       have q1 := lCm_ge c_107
                       rw [hbw (by omega)] at q1
                       rw [← hbs] at z
                       rcases z.2 with z2 | z2
                       · omega
                       · omega)]
                     exact hbs)
                  | (refine ih _ (by omega) ((k : Int) + 1) k (wn (dr g k t)) _ rfl (by omega) ?_ (fun _ => rfl) (fun q => by omega)
                     rw [show ((k : Int) + 1).toNat = k + 1 by omega, e1, if_pos ⟨⟨by omega, by omega, c_35⟩, Or.inl (by rw [← hbs]; omega)⟩])
                  | (refine ih _ (by omega) ((k : Int) + 1) k (wn (dr g k t)) _ rfl (by omega) ?_ (fun _ => rfl) (fun q => by omega)
                     rw [show ((k : Int) + 1).toNat = k + 1 by omega, e1, if_pos ⟨⟨by omega, by omega, c_35⟩, Or.inr (by
                       have q1 := lCm_lt c_107
                       rw [hbw (by omega)] at q1
                       rw [← hbs]
                       exact q1)⟩])
                · refine r_iload_7 (pc := 110) dX8_chooses_110 ?_
                  refine r_istore_4 (pc := 112) dX8_chooses_112 rfl ?_
                  refine r_lload_8 (pc := 114) dX8_chooses_114 ?_
                  refine r_lstore_5 (pc := 116) dX8_chooses_116 rfl ?_
                  refine r_iinc_7 (pc := 118) dX8_chooses_118 rfl ?_
                  refine r_goto (pc := 121) (tgt := 10) dX8_chooses_121 (by decide) ?_
                  first
                  | (refine ih _ (by omega) ((k : Int) + 1) bs bw _ rfl (by omega) ?_ hbw hb0
                     rw [show ((k : Int) + 1).toNat = k + 1 by omega, e1, if_neg (fun z => by have := z.1.2.1; omega)]
                     exact hbs)
                  | (refine ih _ (by omega) ((k : Int) + 1) bs bw _ rfl (by omega) ?_ hbw hb0
                     rw [show ((k : Int) + 1).toNat = k + 1 by omega, e1, if_neg (fun z => c_35 z.1.2.2)]
                     exact hbs)
                  | (refine ih _ (by omega) ((k : Int) + 1) bs bw _ rfl (by omega) ?_ hbw hb0
                     rw [show ((k : Int) + 1).toNat = k + 1 by omega, e1, if_neg (fun z => by
                       have q1 := lCm_ge c_107
                       rw [hbw (by omega)] at q1
                       rw [← hbs] at z
                       rcases z.2 with z2 | z2
                       · omega
                       · omega)]
                     exact hbs)
                  | (refine ih _ (by omega) ((k : Int) + 1) k (wn (dr g k t)) _ rfl (by omega) ?_ (fun _ => rfl) (fun q => by omega)
                     rw [show ((k : Int) + 1).toNat = k + 1 by omega, e1, if_pos ⟨⟨by omega, by omega, c_35⟩, Or.inl (by rw [← hbs]; omega)⟩])
                  | (refine ih _ (by omega) ((k : Int) + 1) k (wn (dr g k t)) _ rfl (by omega) ?_ (fun _ => rfl) (fun q => by omega)
                     rw [show ((k : Int) + 1).toNat = k + 1 by omega, e1, if_pos ⟨⟨by omega, by omega, c_35⟩, Or.inr (by
                       have q1 := lCm_lt c_107
                       rw [hbw (by omega)] at q1
                       rw [← hbs]
                       exact q1)⟩])
            · refine r_aload_0 (pc := 44) dX8_chooses_44 ?_
              refine gf_X8_28 (pc := 45) rfl (by assumption) dX8_chooses_45 (by assumption) ?_
              refine r_sipush (pc := 48) dX8_chooses_48 (by decide) ?_
              refine r_iload_1 (pc := 51) dX8_chooses_51 ?_
              refine r_imul (pc := 52) dX8_chooses_52 ?_
              refine r_bipush (pc := 53) dX8_chooses_53 (by decide) ?_
              refine r_iload_7 (pc := 55) dX8_chooses_55 ?_
              refine r_imul (pc := 57) dX8_chooses_57 ?_
              refine r_iadd (pc := 58) dX8_chooses_58 ?_
              refine r_iload_2 (pc := 59) dX8_chooses_59 ?_
              refine r_iadd (pc := 60) dX8_chooses_60 ?_
              refine r_ialdE (pc := 61) (by assumption) rfl dX8_chooses_61 (by omega) (by omega) (fun i_61 => ?_)
              rw [hwa g k t (by omega) (by omega) (by omega) (by omega) (by omega) (by omega)]
              refine r_i2l (pc := 62) dX8_chooses_62 (by omega) ?_
              refine r_goto (pc := 63) (tgt := 77) dX8_chooses_63 (by decide) ?_
              refine r_lstore_8 (pc := 77) dX8_chooses_77 rfl ?_
              refine r_iload_4 (pc := 79) dX8_chooses_79 ?_
              refine r_if_lt (pc := 81) (tgt := 110) dX8_chooses_81 (by decide) (by omega) (fun c_81 => ?_) (fun c_81 => ?_)
              · refine r_iload_7 (pc := 110) dX8_chooses_110 ?_
                refine r_istore_4 (pc := 112) dX8_chooses_112 rfl ?_
                refine r_lload_8 (pc := 114) dX8_chooses_114 ?_
                refine r_lstore_5 (pc := 116) dX8_chooses_116 rfl ?_
                refine r_iinc_7 (pc := 118) dX8_chooses_118 rfl ?_
                refine r_goto (pc := 121) (tgt := 10) dX8_chooses_121 (by decide) ?_
                first
                | (refine ih _ (by omega) ((k : Int) + 1) bs bw _ rfl (by omega) ?_ hbw hb0
                   rw [show ((k : Int) + 1).toNat = k + 1 by omega, e1, if_neg (fun z => by have := z.1.2.1; omega)]
                   exact hbs)
                | (refine ih _ (by omega) ((k : Int) + 1) bs bw _ rfl (by omega) ?_ hbw hb0
                   rw [show ((k : Int) + 1).toNat = k + 1 by omega, e1, if_neg (fun z => c_35 z.1.2.2)]
                   exact hbs)
                | (refine ih _ (by omega) ((k : Int) + 1) bs bw _ rfl (by omega) ?_ hbw hb0
                   rw [show ((k : Int) + 1).toNat = k + 1 by omega, e1, if_neg (fun z => by
                     have q1 := lCm_ge c_107
                     rw [hbw (by omega)] at q1
                     rw [← hbs] at z
                     rcases z.2 with z2 | z2
                     · omega
                     · omega)]
                   exact hbs)
                | (refine ih _ (by omega) ((k : Int) + 1) k (wn (dr g k t)) _ rfl (by omega) ?_ (fun _ => rfl) (fun q => by omega)
                   rw [show ((k : Int) + 1).toNat = k + 1 by omega, e1, if_pos ⟨⟨by omega, by omega, c_35⟩, Or.inl (by rw [← hbs]; omega)⟩])
                | (refine ih _ (by omega) ((k : Int) + 1) k (wn (dr g k t)) _ rfl (by omega) ?_ (fun _ => rfl) (fun q => by omega)
                   rw [show ((k : Int) + 1).toNat = k + 1 by omega, e1, if_pos ⟨⟨by omega, by omega, c_35⟩, Or.inr (by
                     have q1 := lCm_lt c_107
                     rw [hbw (by omega)] at q1
                     rw [← hbs]
                     exact q1)⟩])
              · refine r_lload_8 (pc := 84) dX8_chooses_84 ?_
                refine r_aload_0 (pc := 86) dX8_chooses_86 ?_
                refine gf_X8_31 (pc := 87) rfl (by assumption) dX8_chooses_87 (by assumption) ?_
                refine r_iload_4 (pc := 90) dX8_chooses_90 ?_
                refine r_ialdE (pc := 92) (by assumption) rfl dX8_chooses_92 (by omega) (by omega) (fun i_92 => ?_)
                rw [hw bs (by omega) (by omega)]
                refine r_i2l (pc := 93) dX8_chooses_93 (by omega) ?_
                refine r_lmul (pc := 94) dX8_chooses_94 ?_
                refine r_lload_5 (pc := 95) dX8_chooses_95 ?_
                refine r_aload_0 (pc := 97) dX8_chooses_97 ?_
                refine gf_X8_31 (pc := 98) rfl (by assumption) dX8_chooses_98 (by assumption) ?_
                refine r_iload_7 (pc := 101) dX8_chooses_101 ?_
                refine r_ialdE (pc := 103) (by assumption) rfl dX8_chooses_103 (by omega) (by omega) (fun i_103 => ?_)
                rw [hwk (by omega)]
                refine r_i2l (pc := 104) dX8_chooses_104 (by omega) ?_
                refine r_lmul (pc := 105) dX8_chooses_105 ?_
                refine r_lcmp (pc := 106) dX8_chooses_106 (by omega) (by omega) ?_
                refine r_if_ge (pc := 107) (tgt := 118) dX8_chooses_107 (by decide) (lCm_r _ _) (fun c_107 => ?_) (fun c_107 => ?_)
                · refine r_iinc_7 (pc := 118) dX8_chooses_118 rfl ?_
                  refine r_goto (pc := 121) (tgt := 10) dX8_chooses_121 (by decide) ?_
                  first
                  | (refine ih _ (by omega) ((k : Int) + 1) bs bw _ rfl (by omega) ?_ hbw hb0
                     rw [show ((k : Int) + 1).toNat = k + 1 by omega, e1, if_neg (fun z => by have := z.1.2.1; omega)]
                     exact hbs)
                  | (refine ih _ (by omega) ((k : Int) + 1) bs bw _ rfl (by omega) ?_ hbw hb0
                     rw [show ((k : Int) + 1).toNat = k + 1 by omega, e1, if_neg (fun z => c_35 z.1.2.2)]
                     exact hbs)
                  | (refine ih _ (by omega) ((k : Int) + 1) bs bw _ rfl (by omega) ?_ hbw hb0
                     rw [show ((k : Int) + 1).toNat = k + 1 by omega, e1, if_neg (fun z => by
                       have q1 := lCm_ge c_107
                       rw [hbw (by omega)] at q1
                       rw [← hbs] at z
                       rcases z.2 with z2 | z2
                       · omega
                       · omega)]
                     exact hbs)
                  | (refine ih _ (by omega) ((k : Int) + 1) k (wn (dr g k t)) _ rfl (by omega) ?_ (fun _ => rfl) (fun q => by omega)
                     rw [show ((k : Int) + 1).toNat = k + 1 by omega, e1, if_pos ⟨⟨by omega, by omega, c_35⟩, Or.inl (by rw [← hbs]; omega)⟩])
                  | (refine ih _ (by omega) ((k : Int) + 1) k (wn (dr g k t)) _ rfl (by omega) ?_ (fun _ => rfl) (fun q => by omega)
                     rw [show ((k : Int) + 1).toNat = k + 1 by omega, e1, if_pos ⟨⟨by omega, by omega, c_35⟩, Or.inr (by
                       have q1 := lCm_lt c_107
                       rw [hbw (by omega)] at q1
                       rw [← hbs]
                       exact q1)⟩])
                · refine r_iload_7 (pc := 110) dX8_chooses_110 ?_
                  refine r_istore_4 (pc := 112) dX8_chooses_112 rfl ?_
                  refine r_lload_8 (pc := 114) dX8_chooses_114 ?_
                  refine r_lstore_5 (pc := 116) dX8_chooses_116 rfl ?_
                  refine r_iinc_7 (pc := 118) dX8_chooses_118 rfl ?_
                  refine r_goto (pc := 121) (tgt := 10) dX8_chooses_121 (by decide) ?_
                  first
                  | (refine ih _ (by omega) ((k : Int) + 1) bs bw _ rfl (by omega) ?_ hbw hb0
                     rw [show ((k : Int) + 1).toNat = k + 1 by omega, e1, if_neg (fun z => by have := z.1.2.1; omega)]
                     exact hbs)
                  | (refine ih _ (by omega) ((k : Int) + 1) bs bw _ rfl (by omega) ?_ hbw hb0
                     rw [show ((k : Int) + 1).toNat = k + 1 by omega, e1, if_neg (fun z => c_35 z.1.2.2)]
                     exact hbs)
                  | (refine ih _ (by omega) ((k : Int) + 1) bs bw _ rfl (by omega) ?_ hbw hb0
                     rw [show ((k : Int) + 1).toNat = k + 1 by omega, e1, if_neg (fun z => by
                       have q1 := lCm_ge c_107
                       rw [hbw (by omega)] at q1
                       rw [← hbs] at z
                       rcases z.2 with z2 | z2
                       · omega
                       · omega)]
                     exact hbs)
                  | (refine ih _ (by omega) ((k : Int) + 1) k (wn (dr g k t)) _ rfl (by omega) ?_ (fun _ => rfl) (fun q => by omega)
                     rw [show ((k : Int) + 1).toNat = k + 1 by omega, e1, if_pos ⟨⟨by omega, by omega, c_35⟩, Or.inl (by rw [← hbs]; omega)⟩])
                  | (refine ih _ (by omega) ((k : Int) + 1) k (wn (dr g k t)) _ rfl (by omega) ?_ (fun _ => rfl) (fun q => by omega)
                     rw [show ((k : Int) + 1).toNat = k + 1 by omega, e1, if_pos ⟨⟨by omega, by omega, c_35⟩, Or.inr (by
                       have q1 := lCm_lt c_107
                       rw [hbw (by omega)] at q1
                       rw [← hbs]
                       exact q1)⟩])
  refine r_bipush (pc := 0) dX8_chooses_0 (by decide) ?_
  refine r_istore_4 (pc := 2) dX8_chooses_2 rfl ?_
  refine r_lconst (pc := 4) (z := 0) dX8_chooses_4 (by decide) ?_
  refine r_lstore_5 (pc := 5) dX8_chooses_5 rfl ?_
  refine r_iconst (pc := 7) dX8_chooses_7 ?_
  refine r_istore_7 (pc := 8) dX8_chooses_8 rfl ?_
  exact lp _ 1 (-4) 0 none rfl (by omega) (by
    show _ = pk (cd mp n) (fun c => wn (dr g c t)) (wg mp) 1
    rw [pk_s, if_neg (fun z => by have := z.1.1; omega)]
    rfl) (fun q => by omega) (fun _ => rfl)

theorem try1_or (mp : Int → Int) (g t n : Int) (hn : n = -4 ∨ (0 ≤ n ∧ n < 22)) : try1 mp g t n = -4 ∨ (0 ≤ try1 mp g t n ∧ try1 mp g t n < 22) := by
  unfold try1
  split
  · omega
  · rcases chz_or mp g t n with q | q
    · exact Or.inl q
    · exact Or.inr (by omega)
def trk (mp : Int → Int) (g t : Int) : Nat → Int
  | 0 => 0
  | k + 1 => try1 mp g t (trk mp g t k)
theorem trk_or (mp : Int → Int) (g t : Int) : ∀ k, trk mp g t k = -4 ∨ (0 ≤ trk mp g t k ∧ trk mp g t k < 22)
  | 0 => Or.inr (by simp [trk])
  | k + 1 => try1_or mp g t _ (trk_or mp g t k)
theorem trk_neg (mp : Int → Int) (g t : Int) (k : Nat) (h : trk mp g t k < 0) : trk mp g t (k + 1) = trk mp g t k := if_pos h
theorem trk_3 (mp : Int → Int) (g t : Int) : trk mp g t 3 = tryS mp g t := rfl
theorem dX8_tryOf_0 : decode cX8_tryOf 0 = .ok (.iconst 0, 1) := by decide +kernel
theorem dX8_tryOf_1 : decode cX8_tryOf 1 = .ok (.istore_n 3, 1) := by decide +kernel
theorem dX8_tryOf_2 : decode cX8_tryOf 2 = .ok (.iconst 0, 1) := by decide +kernel
theorem dX8_tryOf_3 : decode cX8_tryOf 3 = .ok (.istore 4, 2) := by decide +kernel
theorem dX8_tryOf_5 : decode cX8_tryOf 5 = .ok (.iload 4, 2) := by decide +kernel
theorem dX8_tryOf_7 : decode cX8_tryOf 7 = .ok (.iconst 3, 1) := by decide +kernel
theorem dX8_tryOf_8 : decode cX8_tryOf 8 = .ok (.if_icmp .ge 21, 3) := by decide +kernel
theorem dX8_tryOf_11 : decode cX8_tryOf 11 = .ok (.iload_n 3, 1) := by decide +kernel
theorem dX8_tryOf_12 : decode cX8_tryOf 12 = .ok (.ifCond .lt 17, 3) := by decide +kernel
theorem dX8_tryOf_15 : decode cX8_tryOf 15 = .ok (.aload_n 0, 1) := by decide +kernel
theorem dX8_tryOf_16 : decode cX8_tryOf 16 = .ok (.iload_n 1, 1) := by decide +kernel
theorem dX8_tryOf_17 : decode cX8_tryOf 17 = .ok (.iload_n 2, 1) := by decide +kernel
theorem dX8_tryOf_18 : decode cX8_tryOf 18 = .ok (.iload_n 3, 1) := by decide +kernel
theorem dX8_tryOf_19 : decode cX8_tryOf 19 = .ok (.invokevirtual 186, 3) := by decide +kernel
theorem dX8_tryOf_22 : decode cX8_tryOf 22 = .ok (.istore_n 3, 1) := by decide +kernel
theorem dX8_tryOf_23 : decode cX8_tryOf 23 = .ok (.iinc 4 1, 3) := by decide +kernel
theorem dX8_tryOf_26 : decode cX8_tryOf 26 = .ok (.goto (-21), 3) := by decide +kernel
theorem dX8_tryOf_29 : decode cX8_tryOf 29 = .ok (.iload_n 3, 1) := by decide +kernel
theorem dX8_tryOf_30 : decode cX8_tryOf 30 = .ok (.ireturn, 1) := by decide +kernel
set_option maxHeartbeats 4000000 in
set_option maxRecDepth 20000 in
theorem c_X8_tryOf : ConI mX8_tryOf (fun args N lay r h Q => ∃ b mp g t, args = [.ref b, vI g, vI t] ∧ MdAt lay r b ∧ h (b + 2) = mp ∧ TrM mp ∧ (∀ n, 0 ≤ n → n < 22 → h (b + 8) n = wg mp n) ∧ WaT (h (b + 7)) ∧ (0 ≤ g ∧ g < 16) ∧ (0 ≤ t ∧ t < 100) ∧ Q (tryS mp g t) N lay r h) := by
  refine ConI.of (by decide) (by rintro _ N lay r h Q ⟨b, mp, g, t, rfl, hM, hmp, hT, hw, hwa, hg, ht, hQ⟩; exact ⟨rfl, Nat.le_of_ble_eq_true rfl⟩) ?_
  rintro E _ N lay r h Q ⟨b, mp, g, t, rfl, hM, hmp, hT, hw, hwa, hg, ht, hQ⟩ hret
  obtain ⟨ml0, ml1, ml2, ml3, ml4, ml5, ml6, ml7, ml8, ml9, ml10, ml11, ml12, ml13, ml14, ml15, ml16, ml17, ml18, ml19, ml20, mr1, mr2, mr3, mr4, mr5, mr6, mr7, mr8, mr9, mr10, mr11, mr12, mr13, mr14, mr15, mr16, mr17, mr18, mr19, mr20⟩ := id hM
  obtain ⟨t1, t2, t3, t4, t5, t6, t7⟩ := id hT
  show St E mX8_tryOf 0 [some (.ref b), some (vI g), some (vI t), none, none] [] (0, 0) N lay r h
  have lp : ∀ (n_ : Nat) (i : Int) (x : Int), (3 - i).toNat = n_ → (0 ≤ i ∧ i ≤ 3) → (x = trk mp g t i.toNat) → St E mX8_tryOf 5 [some (.ref b), some (vI g), some (vI t), some (vI x), some (vI i)] [] (0, 0) N lay r h := by
    intro n_
    induction n_ using Nat.strongRecOn with
    | ind n_ ih =>
      intro i x hn_ hi hx
      obtain ⟨k, rfl⟩ : ∃ k : Nat, i = k := ⟨i.toNat, by omega⟩
      rw [show ((k : Int)).toNat = k by omega] at hx
      have xo := trk_or mp g t k
      have x1 := trk_neg mp g t k
      refine r_iload_4 (pc := 5) dX8_tryOf_5 ?_
      refine r_iconst (pc := 7) dX8_tryOf_7 ?_
      refine r_icmp_ge (pc := 8) (tgt := 29) dX8_tryOf_8 (by decide) (by omega) (by omega) (fun c_8 => ?_) (fun c_8 => ?_)
      · refine r_iload_3 (pc := 29) dX8_tryOf_29 ?_
        refine r_iret (pc := 30) hret dX8_tryOf_30 rfl rfl rfl ?_
        rw [← trk_3] at hQ
        have e3 : trk mp g t 3 = x := by
          first
          | (have hk : k = 3 := by omega
             rw [← hk]
             exact hx.symm)
          | (have y1 := trk_neg mp g t 0
             have y2 := trk_neg mp g t 1
             have y3 := trk_neg mp g t 2
             rcases (show k = 0 ∨ k = 1 ∨ k = 2 by omega) with rfl | rfl | rfl
             · rw [y3 (by rw [y2 (by rw [y1 (by omega)]; omega), y1 (by omega)]; omega), y2 (by rw [y1 (by omega)]; omega), y1 (by omega)]; exact hx.symm
             · rw [y3 (by rw [y2 (by omega)]; omega), y2 (by omega)]; exact hx.symm
             · rw [y3 (by omega)]; exact hx.symm)
        rw [← e3]
        exact hQ
      · refine r_iload_3 (pc := 11) dX8_tryOf_11 ?_
        refine r_if_lt (pc := 12) (tgt := 29) dX8_tryOf_12 (by decide) (by omega) (fun c_12 => ?_) (fun c_12 => ?_)
        · refine r_iload_3 (pc := 29) dX8_tryOf_29 ?_
          refine r_iret (pc := 30) hret dX8_tryOf_30 rfl rfl rfl ?_
          rw [← trk_3] at hQ
          have e3 : trk mp g t 3 = x := by
            first
            | (have hk : k = 3 := by omega
               rw [← hk]
               exact hx.symm)
            | (have y1 := trk_neg mp g t 0
               have y2 := trk_neg mp g t 1
               have y3 := trk_neg mp g t 2
               rcases (show k = 0 ∨ k = 1 ∨ k = 2 by omega) with rfl | rfl | rfl
               · rw [y3 (by rw [y2 (by rw [y1 (by omega)]; omega), y1 (by omega)]; omega), y2 (by rw [y1 (by omega)]; omega), y1 (by omega)]; exact hx.symm
               · rw [y3 (by rw [y2 (by omega)]; omega), y2 (by omega)]; exact hx.symm
               · rw [y3 (by omega)]; exact hx.symm)
          rw [← e3]
          exact hQ
        · refine r_aload_0 (pc := 15) dX8_tryOf_15 ?_
          refine r_iload_1 (pc := 16) dX8_tryOf_16 ?_
          refine r_iload_2 (pc := 17) dX8_tryOf_17 ?_
          refine r_iload_3 (pc := 18) dX8_tryOf_18 ?_
          refine k_VI3 (pc := 19) c_X8_chooses lk_X8_186 ⟨Nat.le_of_ble_eq_true rfl, Nat.le_of_ble_eq_true rfl⟩ ⟨rfl, rfl⟩ ⟨Nat.le_of_ble_eq_true rfl, Nat.le_of_ble_eq_true rfl⟩ (k := 8) rfl (by decide) (by assumption) dX8_tryOf_19 (Nat.le_of_ble_eq_true rfl) ?_
          refine ⟨_, _, _, _, _, rfl, by assumption, by first | assumption | exact rfl, by assumption, by assumption, by assumption, by omega, by omega, by omega, ?_⟩
          refine r_istore_3 (pc := 22) dX8_tryOf_22 rfl ?_
          refine r_iinc_4 (pc := 23) dX8_tryOf_23 rfl ?_
          refine r_goto (pc := 26) (tgt := 5) dX8_tryOf_26 (by decide) ?_
          exact ih _ (by omega) ((k : Int) + 1) _ rfl (by omega) (by rw [show ((k : Int) + 1).toNat = k + 1 by omega, hx]; exact (if_neg (by omega)).symm)
  refine r_iconst (pc := 0) dX8_tryOf_0 ?_
  refine r_istore_3 (pc := 1) dX8_tryOf_1 rfl ?_
  refine r_iconst (pc := 2) dX8_tryOf_2 ?_
  refine r_istore_4 (pc := 3) dX8_tryOf_3 rfl ?_
  exact lp _ 0 0 rfl (by omega) rfl

