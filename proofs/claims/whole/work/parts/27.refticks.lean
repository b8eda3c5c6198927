/-! THE REFERENCE: ticks, failures, spread, observations, kept maps -/
theorem dX8_ticks_0 : decode cX8_ticks 0 = .ok (.iconst 0, 1) := by decide +kernel
theorem dX8_ticks_1 : decode cX8_ticks 1 = .ok (.istore_n 2, 1) := by decide +kernel
theorem dX8_ticks_2 : decode cX8_ticks 2 = .ok (.aload_n 0, 1) := by decide +kernel
theorem dX8_ticks_3 : decode cX8_ticks 3 = .ok (.invokevirtual 245, 3) := by decide +kernel
theorem dX8_ticks_6 : decode cX8_ticks 6 = .ok (.istore_n 3, 1) := by decide +kernel
theorem dX8_ticks_7 : decode cX8_ticks 7 = .ok (.iload_n 3, 1) := by decide +kernel
theorem dX8_ticks_8 : decode cX8_ticks 8 = .ok (.ifCond .lt 24, 3) := by decide +kernel
theorem dX8_ticks_11 : decode cX8_ticks 11 = .ok (.iload_n 2, 1) := by decide +kernel
theorem dX8_ticks_12 : decode cX8_ticks 12 = .ok (.iload_n 1, 1) := by decide +kernel
theorem dX8_ticks_13 : decode cX8_ticks 13 = .ok (.if_icmp .ge 19, 3) := by decide +kernel
theorem dX8_ticks_16 : decode cX8_ticks 16 = .ok (.aload_n 0, 1) := by decide +kernel
theorem dX8_ticks_17 : decode cX8_ticks 17 = .ok (.iload_n 3, 1) := by decide +kernel
theorem dX8_ticks_18 : decode cX8_ticks 18 = .ok (.invokevirtual 248, 3) := by decide +kernel
theorem dX8_ticks_21 : decode cX8_ticks 21 = .ok (.iinc 2 1, 3) := by decide +kernel
theorem dX8_ticks_24 : decode cX8_ticks 24 = .ok (.aload_n 0, 1) := by decide +kernel
theorem dX8_ticks_25 : decode cX8_ticks 25 = .ok (.invokevirtual 245, 3) := by decide +kernel
theorem dX8_ticks_28 : decode cX8_ticks 28 = .ok (.istore_n 3, 1) := by decide +kernel
theorem dX8_ticks_29 : decode cX8_ticks 29 = .ok (.goto (-22), 3) := by decide +kernel
theorem dX8_ticks_32 : decode cX8_ticks 32 = .ok (.iconst 0, 1) := by decide +kernel
theorem dX8_ticks_33 : decode cX8_ticks 33 = .ok (.istore 4, 2) := by decide +kernel
theorem dX8_ticks_35 : decode cX8_ticks 35 = .ok (.iload 4, 2) := by decide +kernel
theorem dX8_ticks_37 : decode cX8_ticks 37 = .ok (.bipush 16, 2) := by decide +kernel
theorem dX8_ticks_39 : decode cX8_ticks 39 = .ok (.if_icmp .ge 51, 3) := by decide +kernel
theorem dX8_ticks_42 : decode cX8_ticks 42 = .ok (.aload_n 0, 1) := by decide +kernel
theorem dX8_ticks_43 : decode cX8_ticks 43 = .ok (.iload 4, 2) := by decide +kernel
theorem dX8_ticks_45 : decode cX8_ticks 45 = .ok (.invokevirtual 128, 3) := by decide +kernel
theorem dX8_ticks_48 : decode cX8_ticks 48 = .ok (.istore 5, 2) := by decide +kernel
theorem dX8_ticks_50 : decode cX8_ticks 50 = .ok (.iload 5, 2) := by decide +kernel
theorem dX8_ticks_52 : decode cX8_ticks 52 = .ok (.aload_n 0, 1) := by decide +kernel
theorem dX8_ticks_53 : decode cX8_ticks 53 = .ok (.getfield 49, 3) := by decide +kernel
theorem dX8_ticks_56 : decode cX8_ticks 56 = .ok (.iload 4, 2) := by decide +kernel
theorem dX8_ticks_58 : decode cX8_ticks 58 = .ok (.iaload, 1) := by decide +kernel
theorem dX8_ticks_59 : decode cX8_ticks 59 = .ok (.iconst (-1), 1) := by decide +kernel
theorem dX8_ticks_60 : decode cX8_ticks 60 = .ok (.ixor, 1) := by decide +kernel
theorem dX8_ticks_61 : decode cX8_ticks 61 = .ok (.iand, 1) := by decide +kernel
theorem dX8_ticks_62 : decode cX8_ticks 62 = .ok (.ifCond .ne 22, 3) := by decide +kernel
theorem dX8_ticks_65 : decode cX8_ticks 65 = .ok (.iload 5, 2) := by decide +kernel
theorem dX8_ticks_67 : decode cX8_ticks 67 = .ok (.aload_n 0, 1) := by decide +kernel
theorem dX8_ticks_68 : decode cX8_ticks 68 = .ok (.getfield 125, 3) := by decide +kernel
theorem dX8_ticks_71 : decode cX8_ticks 71 = .ok (.iand, 1) := by decide +kernel
theorem dX8_ticks_72 : decode cX8_ticks 72 = .ok (.ifCond .eq 12, 3) := by decide +kernel
theorem dX8_ticks_75 : decode cX8_ticks 75 = .ok (.aload_n 0, 1) := by decide +kernel
theorem dX8_ticks_76 : decode cX8_ticks 76 = .ok (.getfield 49, 3) := by decide +kernel
theorem dX8_ticks_79 : decode cX8_ticks 79 = .ok (.iload 4, 2) := by decide +kernel
theorem dX8_ticks_81 : decode cX8_ticks 81 = .ok (.iload 5, 2) := by decide +kernel
theorem dX8_ticks_83 : decode cX8_ticks 83 = .ok (.iastore, 1) := by decide +kernel
theorem dX8_ticks_84 : decode cX8_ticks 84 = .ok (.iinc 4 1, 3) := by decide +kernel
theorem dX8_ticks_87 : decode cX8_ticks 87 = .ok (.goto (-52), 3) := by decide +kernel
theorem dX8_ticks_90 : decode cX8_ticks 90 = .ok (.iload_n 2, 1) := by decide +kernel
theorem dX8_ticks_91 : decode cX8_ticks 91 = .ok (.ireturn, 1) := by decide +kernel
set_option maxHeartbeats 4000000 in
set_option maxRecDepth 20000 in
theorem c_X8_ticks : ConI mX8_ticks (fun args N lay r h Q => ∃ (b : Nat) (m : Int), args = [.ref b, vI m] ∧ MdAt lay r b ∧ (1 ≤ m ∧ m ≤ 8) ∧ Q (tix (h (b + 12)) (h b 17) (h (b + 15)) (h (b + 14)) m.toNat).2 N lay r (hr h (b + 14) (tix (h (b + 12)) (h b 17) (h (b + 15)) (h (b + 14)) m.toNat).1)) := by
  refine ConI.of (by decide) (by rintro _ N lay r h Q ⟨b, m, rfl, hM, hm, hQ⟩; exact ⟨rfl, Nat.le_of_ble_eq_true rfl⟩) ?_
  rintro E _ N lay r h Q ⟨b, m, rfl, hM, hm, hQ⟩ hret
  obtain ⟨ml0, ml1, ml2, ml3, ml4, ml5, ml6, ml7, ml8, ml9, ml10, ml11, ml12, ml13, ml14, ml15, ml16, ml17, ml18, ml19, ml20, mr1, mr2, mr3, mr4, mr5, mr6, mr7, mr8, mr9, mr10, mr11, mr12, mr13, mr14, mr15, mr16, mr17, mr18, mr19, mr20⟩ := id hM
  show St E mX8_ticks 0 [some (.ref b), some (vI m), none, none, none, none] [] (0, 0) N lay r h
  have drop : ∀ (X0 : Int → Int) (mn : Int) (x3 : Int) (K : Q mn N lay r (hr h (b + 14) (drp (h (b + 12)) (h b 17) X0 16))) (n_ : Nat) (k : Int) (X : Int → Int) (x5 : Option Value), (16 - k).toNat = n_ → (0 ≤ k ∧ k ≤ 16) → (X = drp (h (b + 12)) (h b 17) X0 k) → St E mX8_ticks 35 [some (.ref b), some (vI m), some (vI mn), some (vI x3), some (vI k), x5] [] (0, 0) N lay r (hr h (b + 14) X) := by
    intro X0 mn x3 K n_
    induction n_ using Nat.strongRecOn with
    | ind n_ ih =>
      intro k X x5 hn_ hk hX
      have eX : (hr h (b + 14) X) (b + 14) = X := hr_s
      have eN : (hr h (b + 14) X) (b + 12) = h (b + 12) := hr_n (by omega)
      have eB : (hr h (b + 14) X) b = h b := hr_n (by omega)
      have hXk : X k = X0 k := by rw [hX]; exact if_neg (fun z => by omega)
      refine r_iload_4 (pc := 35) dX8_ticks_35 ?_
      refine r_bipush (pc := 37) dX8_ticks_37 (by decide) ?_
      refine r_icmp_ge (pc := 39) (tgt := 90) dX8_ticks_39 (by decide) (by omega) (by omega) (fun c_39 => ?_) (fun c_39 => ?_)
      · refine r_iload_2 (pc := 90) dX8_ticks_90 ?_
        refine r_iret (pc := 91) hret dX8_ticks_91 rfl rfl rfl ?_
        have hk9 : k = 16 := by omega
        subst hk9
        rw [hX]
        exact K
      · refine r_aload_0 (pc := 42) dX8_ticks_42 ?_
        refine r_iload_4 (pc := 43) dX8_ticks_43 ?_
        refine k_VI1 (pc := 45) c_X8_placeBits lk_X8_128 ⟨Nat.le_of_ble_eq_true rfl, Nat.le_of_ble_eq_true rfl⟩ ⟨rfl, rfl⟩ ⟨Nat.le_of_ble_eq_true rfl, Nat.le_of_ble_eq_true rfl⟩ (k := 8) rfl (by decide) (by assumption) dX8_ticks_45 (Nat.le_of_ble_eq_true rfl) ?_
        refine ⟨_, _, rfl, by assumption, by omega, fun i_45 => ?_⟩
        refine r_istore_5 (pc := 48) dX8_ticks_48 rfl ?_
        rw [eN] at i_45 ⊢
        refine r_iload_5 (pc := 50) dX8_ticks_50 ?_
        refine r_aload_0 (pc := 52) dX8_ticks_52 ?_
        refine gf_X8_49 (pc := 53) rfl (by assumption) dX8_ticks_53 (by assumption) ?_
        refine r_iload_4 (pc := 56) dX8_ticks_56 ?_
        refine r_ialdE (pc := 58) (by assumption) (by first | assumption | exact rfl) dX8_ticks_58 (by omega) (by omega) (fun i_58 => ?_)
        refine r_iconst (pc := 59) dX8_ticks_59 ?_
        refine r_ixor (pc := 60) dX8_ticks_60 (fun i_60 => ?_)
        refine r_iand (pc := 61) dX8_ticks_61 (fun i_61 => ?_)
        refine r_if_ne (pc := 62) (tgt := 84) dX8_ticks_62 (by decide) (by omega) (fun c_62 => ?_) (fun c_62 => ?_)
        · refine r_iinc_4 (pc := 84) dX8_ticks_84 rfl ?_
          refine r_goto (pc := 87) (tgt := 35) dX8_ticks_87 (by decide) ?_
          first
          | (refine ih _ (by omega) (k + 1) X _ rfl (by omega) ?_
             rw [hX]
             funext q
             unfold drp
             by_cases e : q = k
             · subst e
               rw [if_neg (fun z => by omega), if_neg (fun z => by first | exact c_62 (by rw [hXk]; exact z.2.2.1) | exact z.2.2.2 c_72)]
             · by_cases e2 : q < k
               · simp only [e2, show q < k + 1 by omega, true_and]
               · simp only [e2, show ¬ q < k + 1 by omega, false_and, and_false, if_false])
          | (rw [hr_hr]
             refine ih _ (by omega) (k + 1) _ _ rfl (by omega) ?_
             rw [hX]
             funext q
             by_cases e : q = k
             · subst e
               rw [up_s]
               unfold drp
               rw [if_pos ⟨by omega, by omega, by rw [← hXk]; exact c_62, c_72⟩]
             · rw [up_n e]
               unfold drp
               by_cases e2 : q < k
               · simp only [e2, show q < k + 1 by omega, true_and]
               · simp only [e2, show ¬ q < k + 1 by omega, false_and, and_false, if_false])
        · refine r_iload_5 (pc := 65) dX8_ticks_65 ?_
          refine r_aload_0 (pc := 67) dX8_ticks_67 ?_
          refine gf_X8_125 (pc := 68) rfl (by assumption) dX8_ticks_68 (fun i_68 => ?_)
          rw [eB]
          refine r_iand (pc := 71) dX8_ticks_71 (fun i_71 => ?_)
          refine r_if_eq (pc := 72) (tgt := 84) dX8_ticks_72 (by decide) (iA_r _ _) (fun c_72 => ?_) (fun c_72 => ?_)
          · refine r_iinc_4 (pc := 84) dX8_ticks_84 rfl ?_
            refine r_goto (pc := 87) (tgt := 35) dX8_ticks_87 (by decide) ?_
            first
            | (refine ih _ (by omega) (k + 1) X _ rfl (by omega) ?_
               rw [hX]
               funext q
               unfold drp
               by_cases e : q = k
               · subst e
                 rw [if_neg (fun z => by omega), if_neg (fun z => by first | exact c_62 (by rw [hXk]; exact z.2.2.1) | exact z.2.2.2 c_72)]
               · by_cases e2 : q < k
                 · simp only [e2, show q < k + 1 by omega, true_and]
                 · simp only [e2, show ¬ q < k + 1 by omega, false_and, and_false, if_false])
            | (rw [hr_hr]
               refine ih _ (by omega) (k + 1) _ _ rfl (by omega) ?_
               rw [hX]
               funext q
               by_cases e : q = k
               · subst e
                 rw [up_s]
                 unfold drp
                 rw [if_pos ⟨by omega, by omega, by rw [← hXk]; exact c_62, c_72⟩]
               · rw [up_n e]
                 unfold drp
                 by_cases e2 : q < k
                 · simp only [e2, show q < k + 1 by omega, true_and]
                 · simp only [e2, show ¬ q < k + 1 by omega, false_and, and_false, if_false])
          · refine r_aload_0 (pc := 75) dX8_ticks_75 ?_
            refine gf_X8_49 (pc := 76) rfl (by assumption) dX8_ticks_76 (by assumption) ?_
            refine r_iload_4 (pc := 79) dX8_ticks_79 ?_
            refine r_iload_5 (pc := 81) dX8_ticks_81 ?_
            refine r_iastE (pc := 83) (by assumption) (by first | assumption | exact rfl) dX8_ticks_83 (by omega) (by omega) (by omega) ?_
            refine r_iinc_4 (pc := 84) dX8_ticks_84 rfl ?_
            refine r_goto (pc := 87) (tgt := 35) dX8_ticks_87 (by decide) ?_
            first
            | (refine ih _ (by omega) (k + 1) X _ rfl (by omega) ?_
               rw [hX]
               funext q
               unfold drp
               by_cases e : q = k
               · subst e
                 rw [if_neg (fun z => by omega), if_neg (fun z => by first | exact c_62 (by rw [hXk]; exact z.2.2.1) | exact z.2.2.2 c_72)]
               · by_cases e2 : q < k
                 · simp only [e2, show q < k + 1 by omega, true_and]
                 · simp only [e2, show ¬ q < k + 1 by omega, false_and, and_false, if_false])
            | (rw [hr_hr]
               refine ih _ (by omega) (k + 1) _ _ rfl (by omega) ?_
               rw [hX]
               funext q
               by_cases e : q = k
               · subst e
                 rw [up_s]
                 unfold drp
                 rw [if_pos ⟨by omega, by omega, by rw [← hXk]; exact c_62, c_72⟩]
               · rw [up_n e]
                 unfold drp
                 by_cases e2 : q < k
                 · simp only [e2, show q < k + 1 by omega, true_and]
                 · simp only [e2, show ¬ q < k + 1 by omega, false_and, and_false, if_false])
  have lp : ∀ (n_ : Nat) (i : Int) (X : Int → Int) (g : Int), (m - i).toNat = n_ → (0 ≤ i ∧ i ≤ m) → (X = (tkk (h (b + 12)) (h b 17) (h (b + 15)) (h (b + 14)) i.toNat).1) → ((tkk (h (b + 12)) (h b 17) (h (b + 15)) (h (b + 14)) i.toNat).2 = i) → (g = prs (h (b + 12)) (h b 17) X (h (b + 15)) 16) → St E mX8_ticks 7 [some (.ref b), some (vI m), some (vI i), some (vI g), none, none] [] (0, 0) N lay r (hr h (b + 14) X) := by
    intro  n_
    induction n_ using Nat.strongRecOn with
    | ind n_ ih =>
      intro i X g hn_ hi hX hi2 hg
      obtain ⟨k, rfl⟩ : ∃ k : Nat, i = k := ⟨i.toNat, by omega⟩
      rw [show ((k : Int)).toNat = k by omega] at hX hi2
      have eX : (hr h (b + 14) X) (b + 14) = X := hr_s
      have eN : (hr h (b + 14) X) (b + 12) = h (b + 12) := hr_n (by omega)
      have eZ : (hr h (b + 14) X) (b + 15) = h (b + 15) := hr_n (by omega)
      have eB : (hr h (b + 14) X) b = h b := hr_n (by omega)
      have po := prs_or (h (b + 12)) (h b 17) X (h (b + 15)) 16
      have gr : g = -4 ∨ (0 ≤ g ∧ g < 16) := by rw [hg]; omega
      clear po
      refine r_iload_3 (pc := 7) dX8_ticks_7 ?_
      refine r_if_lt (pc := 8) (tgt := 32) dX8_ticks_8 (by decide) (by omega) (fun c_8 => ?_) (fun c_8 => ?_)
      · refine r_iconst (pc := 32) dX8_ticks_32 ?_
        refine r_istore_4 (pc := 33) dX8_ticks_33 rfl ?_
        refine drop X _ _ ?_ _ 0 X _ rfl (by omega) (by funext q; unfold drp; rw [if_neg (fun z => by omega)])
        have e8 : tkk (h (b + 12)) (h b 17) (h (b + 15)) (h (b + 14)) m.toNat = tkk (h (b + 12)) (h b 17) (h (b + 15)) (h (b + 14)) k := by
          first
          | (have := tkk_st (h (b + 12)) (h b 17) (h (b + 15)) (h (b + 14)) k (by rw [← hX, ← hg]; exact c_8) (m.toNat - k)
             rw [show k + (m.toNat - k) = m.toNat by omega] at this
             exact this)
          | rw [show m.toNat = k by omega]
        unfold tix at hQ
        rw [e8, ← hX, hi2] at hQ
        exact hQ
      · refine r_iload_2 (pc := 11) dX8_ticks_11 ?_
        refine r_iload_1 (pc := 12) dX8_ticks_12 ?_
        refine r_icmp_ge (pc := 13) (tgt := 32) dX8_ticks_13 (by decide) (by omega) (by omega) (fun c_13 => ?_) (fun c_13 => ?_)
        · refine r_iconst (pc := 32) dX8_ticks_32 ?_
          refine r_istore_4 (pc := 33) dX8_ticks_33 rfl ?_
          refine drop X _ _ ?_ _ 0 X _ rfl (by omega) (by funext q; unfold drp; rw [if_neg (fun z => by omega)])
          have e8 : tkk (h (b + 12)) (h b 17) (h (b + 15)) (h (b + 14)) m.toNat = tkk (h (b + 12)) (h b 17) (h (b + 15)) (h (b + 14)) k := by
            first
            | (have := tkk_st (h (b + 12)) (h b 17) (h (b + 15)) (h (b + 14)) k (by rw [← hX, ← hg]; exact c_8) (m.toNat - k)
               rw [show k + (m.toNat - k) = m.toNat by omega] at this
               exact this)
            | rw [show m.toNat = k by omega]
          unfold tix at hQ
          rw [e8, ← hX, hi2] at hQ
          exact hQ
        · skip
          refine r_aload_0 (pc := 16) dX8_ticks_16 ?_
          refine r_iload_3 (pc := 17) dX8_ticks_17 ?_
          skip
          refine k_VV1 (pc := 18) c_X8_copiesTo lk_X8_248 ⟨Nat.le_of_ble_eq_true rfl, Nat.le_of_ble_eq_true rfl⟩ ⟨rfl, rfl⟩ ⟨Nat.le_of_ble_eq_true rfl, Nat.le_of_ble_eq_true rfl⟩ (k := 8) rfl (by decide) (by assumption) dX8_ticks_18 (Nat.le_of_ble_eq_true rfl) ?_
          refine ⟨_, _, rfl, by assumption, by omega, ?_⟩
          refine r_iinc_2 (pc := 21) dX8_ticks_21 rfl ?_
          rw [eX, eN, eB, hr_hr]
          refine r_aload_0 (pc := 24) dX8_ticks_24 ?_
          refine k_VI0 (pc := 25) c_X8_pressing lk_X8_245 ⟨Nat.le_of_ble_eq_true rfl, Nat.le_of_ble_eq_true rfl⟩ ⟨rfl, rfl⟩ ⟨Nat.le_of_ble_eq_true rfl, Nat.le_of_ble_eq_true rfl⟩ (k := 8) rfl (by decide) (by assumption) dX8_ticks_25 (Nat.le_of_ble_eq_true rfl) ?_
          refine ⟨_, rfl, by assumption, ?_⟩
          refine r_istore_3 (pc := 28) dX8_ticks_28 rfl ?_
          refine r_goto (pc := 29) (tgt := 7) dX8_ticks_29 (by decide) ?_
          rw [hr_n (show b + 12 ≠ b + 14 by omega), hr_s, hr_n (show b ≠ b + 14 by omega), hr_n (show b + 15 ≠ b + 14 by omega)]
          have e8 : tkk (h (b + 12)) (h b 17) (h (b + 15)) (h (b + 14)) (k + 1) = (cpy (h (b + 12)) (h b 17) X g, (k : Int) + 1) := by
            simp only [tkk]
            rw [← hX, ← hg, if_neg (by omega), hi2]
          exact ih _ (by omega) ((k : Int) + 1) _ _ rfl (by omega) (by rw [show ((k : Int) + 1).toNat = k + 1 by omega, e8]) (by rw [show ((k : Int) + 1).toNat = k + 1 by omega, e8]) rfl
  refine r_iconst (pc := 0) dX8_ticks_0 ?_
  refine r_istore_2 (pc := 1) dX8_ticks_1 rfl ?_
  refine r_aload_0 (pc := 2) dX8_ticks_2 ?_
  refine k_VI0 (pc := 3) c_X8_pressing lk_X8_245 ⟨Nat.le_of_ble_eq_true rfl, Nat.le_of_ble_eq_true rfl⟩ ⟨rfl, rfl⟩ ⟨Nat.le_of_ble_eq_true rfl, Nat.le_of_ble_eq_true rfl⟩ (k := 8) rfl (by decide) (by assumption) dX8_ticks_3 (Nat.le_of_ble_eq_true rfl) ?_
  refine ⟨_, rfl, by assumption, ?_⟩
  refine r_istore_3 (pc := 6) dX8_ticks_6 rfl ?_
  have hz := lp _ 0 (h (b + 14)) _ rfl (by omega) rfl rfl rfl
  rw [hr_id] at hz
  exact hz

