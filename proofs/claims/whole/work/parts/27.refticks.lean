/-! THE REFERENCE: ticks, failures, spread, observations, kept maps -/
theorem dX8_ticks_0 : decode cX8_ticks 0 = .ok (.iconst 0, 1) := by decide +kernel
theorem dX8_ticks_1 : decode cX8_ticks 1 = .ok (.istore_n 2, 1) := by decide +kernel
theorem dX8_ticks_2 : decode cX8_ticks 2 = .ok (.aload_n 0, 1) := by decide +kernel
theorem dX8_ticks_3 : decode cX8_ticks 3 = .ok (.invokevirtual 245, 3) := by decide +kernel
theorem dX8_ticks_6 : decode cX8_ticks 6 = .ok (.istore_n 3, 1) := by decide +kernel
theorem dX8_ticks_7 : decode cX8_ticks 7 = .ok (.iload_n 3, 1) := by decide +kernel
theorem dX8_ticks_8 : decode cX8_ticks 8 = .ok (.ifCond .lt 24, 3) := by decide +kernel
theorem dX8_ticks_11 : decode cX8_ticks 11 = .ok (.iload_n 2, 1) := by decide +kernel
theorem dX8_ticks_12 : decode cX8_ticks 12 = .ok (.iload_n 1, 1) := by decide +kernel
theorem dX8_ticks_13 : decode cX8_ticks 13 = .ok (.if_icmp .ge 19, 3) := by decide +kernel
theorem dX8_ticks_16 : decode cX8_ticks 16 = .ok (.aload_n 0, 1) := by decide +kernel
theorem dX8_ticks_17 : decode cX8_ticks 17 = .ok (.iload_n 3, 1) := by decide +kernel
theorem dX8_ticks_18 : decode cX8_ticks 18 = .ok (.invokevirtual 248, 3) := by decide +kernel
theorem dX8_ticks_21 : decode cX8_ticks 21 = .ok (.iinc 2 1, 3) := by decide +kernel
theorem dX8_ticks_24 : decode cX8_ticks 24 = .ok (.aload_n 0, 1) := by decide +kernel
theorem dX8_ticks_25 : decode cX8_ticks 25 = .ok (.invokevirtual 245, 3) := by decide +kernel
theorem dX8_ticks_28 : decode cX8_ticks 28 = .ok (.istore_n 3, 1) := by decide +kernel
theorem dX8_ticks_29 : decode cX8_ticks 29 = .ok (.goto (-22), 3) := by decide +kernel
theorem dX8_ticks_32 : decode cX8_ticks 32 = .ok (.iconst 0, 1) := by decide +kernel
theorem dX8_ticks_33 : decode cX8_ticks 33 = .ok (.istore 4, 2) := by decide +kernel
theorem dX8_ticks_35 : decode cX8_ticks 35 = .ok (.iload 4, 2) := by decide +kernel
theorem dX8_ticks_37 : decode cX8_ticks 37 = .ok (.bipush 16, 2) := by decide +kernel
theorem dX8_ticks_39 : decode cX8_ticks 39 = .ok (.if_icmp .ge 51, 3) := by decide +kernel
theorem dX8_ticks_42 : decode cX8_ticks 42 = .ok (.aload_n 0, 1) := by decide +kernel
theorem dX8_ticks_43 : decode cX8_ticks 43 = .ok (.iload 4, 2) := by decide +kernel
theorem dX8_ticks_45 : decode cX8_ticks 45 = .ok (.invokevirtual 128, 3) := by decide +kernel
theorem dX8_ticks_48 : decode cX8_ticks 48 = .ok (.istore 5, 2) := by decide +kernel
theorem dX8_ticks_50 : decode cX8_ticks 50 = .ok (.iload 5, 2) := by decide +kernel
theorem dX8_ticks_52 : decode cX8_ticks 52 = .ok (.aload_n 0, 1) := by decide +kernel
theorem dX8_ticks_53 : decode cX8_ticks 53 = .ok (.getfield 49, 3) := by decide +kernel
theorem dX8_ticks_56 : decode cX8_ticks 56 = .ok (.iload 4, 2) := by decide +kernel
theorem dX8_ticks_58 : decode cX8_ticks 58 = .ok (.iaload, 1) := by decide +kernel
theorem dX8_ticks_59 : decode cX8_ticks 59 = .ok (.iconst (-1), 1) := by decide +kernel
theorem dX8_ticks_60 : decode cX8_ticks 60 = .ok (.ixor, 1) := by decide +kernel
theorem dX8_ticks_61 : decode cX8_ticks 61 = .ok (.iand, 1) := by decide +kernel
theorem dX8_ticks_62 : decode cX8_ticks 62 = .ok (.ifCond .ne 22, 3) := by decide +kernel
theorem dX8_ticks_65 : decode cX8_ticks 65 = .ok (.iload 5, 2) := by decide +kernel
theorem dX8_ticks_67 : decode cX8_ticks 67 = .ok (.aload_n 0, 1) := by decide +kernel
theorem dX8_ticks_68 : decode cX8_ticks 68 = .ok (.getfield 125, 3) := by decide +kernel
theorem dX8_ticks_71 : decode cX8_ticks 71 = .ok (.iand, 1) := by decide +kernel
theorem dX8_ticks_72 : decode cX8_ticks 72 = .ok (.ifCond .eq 12, 3) := by decide +kernel
theorem dX8_ticks_75 : decode cX8_ticks 75 = .ok (.aload_n 0, 1) := by decide +kernel
theorem dX8_ticks_76 : decode cX8_ticks 76 = .ok (.getfield 49, 3) := by decide +kernel
theorem dX8_ticks_79 : decode cX8_ticks 79 = .ok (.iload 4, 2) := by decide +kernel
theorem dX8_ticks_81 : decode cX8_ticks 81 = .ok (.iload 5, 2) := by decide +kernel
theorem dX8_ticks_83 : decode cX8_ticks 83 = .ok (.iastore, 1) := by decide +kernel
theorem dX8_ticks_84 : decode cX8_ticks 84 = .ok (.iinc 4 1, 3) := by decide +kernel
theorem dX8_ticks_87 : decode cX8_ticks 87 = .ok (.goto (-52), 3) := by decide +kernel
theorem dX8_ticks_90 : decode cX8_ticks 90 = .ok (.iload_n 2, 1) := by decide +kernel
theorem dX8_ticks_91 : decode cX8_ticks 91 = .ok (.ireturn, 1) := by decide +kernel
set_option maxHeartbeats 4000000 in
set_option maxRecDepth 20000 in
theorem c_X8_ticks : ConI mX8_ticks (fun args N lay r h Q => ∃ (b : Nat) (m : Int), args = [.ref b, vI m] ∧ MdAt lay r b ∧ (1 ≤ m ∧ m ≤ 8) ∧ Q (tix (h (b + 12)) (h b 17) (h (b + 15)) (h (b + 14)) m.toNat).2 N lay r (hr h (b + 14) (tix (h (b + 12)) (h b 17) (h (b + 15)) (h (b + 14)) m.toNat).1)) := by
  refine ConI.of (by decide) (by rintro _ N lay r h Q ⟨b, m, rfl, hM, hm, hQ⟩; exact ⟨rfl, Nat.le_of_ble_eq_true rfl⟩) ?_
  rintro E _ N lay r h Q ⟨b, m, rfl, hM, hm, hQ⟩ hret
  obtain ⟨ml0, ml1, ml2, ml3, ml4, ml5, ml6, ml7, ml8, ml9, ml10, ml11, ml12, ml13, ml14, ml15, ml16, ml17, ml18, ml19, ml20, mr1, mr2, mr3, mr4, mr5, mr6, mr7, mr8, mr9, mr10, mr11, mr12, mr13, mr14, mr15, mr16, mr17, mr18, mr19, mr20⟩ := id hM
  show St E mX8_ticks 0 [some (.ref b), some (vI m), none, none, none, none] [] (0, 0) N lay r h
  have drop : ∀ (X0 : Int → Int) (mn : Int) (x3 : Int) (K : Q mn N lay r (hr h (b + 14) (drp (h (b + 12)) (h b 17) X0 16))) (n_ : Nat) (k : Int) (X : Int → Int) (x5 : Option Value), (16 - k).toNat = n_ → (0 ≤ k ∧ k ≤ 16) → (X = drp (h (b + 12)) (h b 17) X0 k) → St E mX8_ticks 35 [some (.ref b), some (vI m), some (vI mn), some (vI x3), some (vI k), x5] [] (0, 0) N lay r (hr h (b + 14) X) := by
    intro X0 mn x3 K n_
    induction n_ using Nat.strongRecOn with
    | ind n_ ih =>
      intro k X x5 hn_ hk hX
      have eX : (hr h (b + 14) X) (b + 14) = X := hr_s
      have eN : (hr h (b + 14) X) (b + 12) = h (b + 12) := hr_n (by omega)
      have eB : (hr h (b + 14) X) b = h b := hr_n (by omega)
      have hXk : X k = X0 k := by rw [hX]; exact if_neg (fun z => by omega)
      refine r_iload_4 (pc := 35) dX8_ticks_35 ?_
      refine r_bipush (pc := 37) dX8_ticks_37 (by decide) ?_
      refine r_icmp_ge (pc := 39) (tgt := 90) dX8_ticks_39 (by decide) (by omega) (by omega) (fun c_39 => ?_) (fun c_39 => ?_)
      · refine r_iload_2 (pc := 90) dX8_ticks_90 ?_
        refine r_iret (pc := 91) hret dX8_ticks_91 rfl rfl rfl ?_
        have hk9 : k = 16 := by omega
        subst hk9
        rw [hX]
        exact K
      · refine r_aload_0 (pc := 42) dX8_ticks_42 ?_
        refine r_iload_4 (pc := 43) dX8_ticks_43 ?_
        refine k_VI1 (pc := 45) c_X8_placeBits lk_X8_128 ⟨Nat.le_of_ble_eq_true rfl, Nat.le_of_ble_eq_true rfl⟩ ⟨rfl, rfl⟩ ⟨Nat.le_of_ble_eq_true rfl, Nat.le_of_ble_eq_true rfl⟩ (k := 8) rfl (by decide) (by assumption) dX8_ticks_45 (Nat.le_of_ble_eq_true rfl) ?_
        refine ⟨_, _, rfl, by assumption, by omega, fun i_45 => ?_⟩
        refine r_istore_5 (pc := 48) dX8_ticks_48 rfl ?_
        rw [eN] at i_45 ⊢
        refine r_iload_5 (pc := 50) dX8_ticks_50 ?_
        refine r_aload_0 (pc := 52) dX8_ticks_52 ?_
        refine gf_X8_49 (pc := 53) rfl (by assumption) dX8_ticks_53 (by assumption) ?_
        refine r_iload_4 (pc := 56) dX8_ticks_56 ?_
        refine r_ialdE (pc := 58) (by assumption) (by first | assumption | exact rfl) dX8_ticks_58 (by omega) (by omega) (fun i_58 => ?_)
        refine r_iconst (pc := 59) dX8_ticks_59 ?_
        refine r_ixor (pc := 60) dX8_ticks_60 (fun i_60 => ?_)
        refine r_iand (pc := 61) dX8_ticks_61 (fun i_61 => ?_)
        refine r_if_ne (pc := 62) (tgt := 84) dX8_ticks_62 (by decide) (by omega) (fun c_62 => ?_) (fun c_62 => ?_)
        · refine r_iinc_4 (pc := 84) dX8_ticks_84 rfl ?_
          refine r_goto (pc := 87) (tgt := 35) dX8_ticks_87 (by decide) ?_
          first
          | (refine ih _ (by omega) (k + 1) X _ rfl (by omega) ?_
             rw [hX]
             funext q
             unfold drp
             by_cases e : q = k
             · subst e
               rw [if_neg (fun z => by omega), if_neg (fun z => by first | exact c_62 (by rw [hXk]; exact z.2.2.1) | exact z.2.2.2 c_72)]
             · by_cases e2 : q < k
               · simp only [e2, show q < k + 1 by omega, true_and]
               · simp only [e2, show ¬ q < k + 1 by omega, false_and, and_false, if_false])
          | (rw [hr_hr]
             refine ih _ (by omega) (k + 1) _ _ rfl (by omega) ?_
             rw [hX]
             funext q
             by_cases e : q = k
             · subst e
               rw [up_s]
               unfold drp
               rw [if_pos ⟨by omega, by omega, by rw [← hXk]; exact c_62, c_72⟩]
             · rw [up_n e]
               unfold drp
               by_cases e2 : q < k
               · simp only [e2, show q < k + 1 by omega, true_and]
               · simp only [e2, show ¬ q < k + 1 by omega, false_and, and_false, if_false])
        · refine r_iload_5 (pc := 65) dX8_ticks_65 ?_
          refine r_aload_0 (pc := 67) dX8_ticks_67 ?_
          refine gf_X8_125 (pc := 68) rfl (by assumption) dX8_ticks_68 (fun i_68 => ?_)
          rw [eB]
          refine r_iand (pc := 71) dX8_ticks_71 (fun i_71 => ?_)
          refine r_if_eq (pc := 72) (tgt := 84) dX8_ticks_72 (by decide) (iA_r _ _) (fun c_72 => ?_) (fun c_72 => ?_)
          · refine r_iinc_4 (pc := 84) dX8_ticks_84 rfl ?_
            refine r_goto (pc := 87) (tgt := 35) dX8_ticks_87 (by decide) ?_
            first
            | (refine ih _ (by omega) (k + 1) X _ rfl (by omega) ?_
               rw [hX]
               funext q
               unfold drp
               by_cases e : q = k
               · subst e
                 rw [if_neg (fun z => by omega), if_neg (fun z => by first | exact c_62 (by rw [hXk]; exact z.2.2.1) | exact z.2.2.2 c_72)]
               · by_cases e2 : q < k
                 · simp only [e2, show q < k + 1 by omega, true_and]
                 · simp only [e2, show ¬ q < k + 1 by omega, false_and, and_false, if_false])
            | (rw [hr_hr]
               refine ih _ (by omega) (k + 1) _ _ rfl (by omega) ?_
               rw [hX]
               funext q
               by_cases e : q = k
               · subst e
                 rw [up_s]
                 unfold drp
                 rw [if_pos ⟨by omega, by omega, by rw [← hXk]; exact c_62, c_72⟩]
               · rw [up_n e]
                 unfold drp
                 by_cases e2 : q < k
                 · simp only [e2, show q < k + 1 by omega, true_and]
                 · simp only [e2, show ¬ q < k + 1 by omega, false_and, and_false, if_false])
          · refine r_aload_0 (pc := 75) dX8_ticks_75 ?_
            refine gf_X8_49 (pc := 76) rfl (by assumption) dX8_ticks_76 (by assumption) ?_
            refine r_iload_4 (pc := 79) dX8_ticks_79 ?_
            refine r_iload_5 (pc := 81) dX8_ticks_81 ?_
            refine r_iastE (pc := 83) (by assumption) (by first | assumption | exact rfl) dX8_ticks_83 (by omega) (by omega) (by omega) ?_
            refine r_iinc_4 (pc := 84) dX8_ticks_84 rfl ?_
            refine r_goto (pc := 87) (tgt := 35) dX8_ticks_87 (by decide) ?_
            first
            | (refine ih _ (by omega) (k + 1) X _ rfl (by omega) ?_
               rw [hX]
               funext q
               unfold drp
               by_cases e : q = k
               · subst e
                 rw [if_neg (fun z => by omega), if_neg (fun z => by first | exact c_62 (by rw [hXk]; exact z.2.2.1) | exact z.2.2.2 c_72)]
               · by_cases e2 : q < k
                 · simp only [e2, show q < k + 1 by omega, true_and]
                 · simp only [e2, show ¬ q < k + 1 by omega, false_and, and_false, if_false])
            | (rw [hr_hr]
               refine ih _ (by omega) (k + 1) _ _ rfl (by omega) ?_
               rw [hX]
               funext q
               by_cases e : q = k
               · subst e
                 rw [up_s]
                 unfold drp
                 rw [if_pos ⟨by omega, by omega, by rw [← hXk]; exact c_62, c_72⟩]
               · rw [up_n e]
                 unfold drp
                 by_cases e2 : q < k
                 · simp only [e2, show q < k + 1 by omega, true_and]
                 · simp only [e2, show ¬ q < k + 1 by omega, false_and, and_false, if_false])
  have lp : ∀ (n_ : Nat) (i : Int) (X : Int → Int) (g : Int), (m - i).toNat = n_ → (0 ≤ i ∧ i ≤ m) → (X = (tkk (h (b + 12)) (h b 17) (h (b + 15)) (h (b + 14)) i.toNat).1) → ((tkk (h (b + 12)) (h b 17) (h (b + 15)) (h (b + 14)) i.toNat).2 = i) → (g = prs (h (b + 12)) (h b 17) X (h (b + 15)) 16) → St E mX8_ticks 7 [some (.ref b), some (vI m), some (vI i), some (vI g), none, none] [] (0, 0) N lay r (hr h (b + 14) X) := by
    intro  n_
    induction n_ using Nat.strongRecOn with
    | ind n_ ih =>
      intro i X g hn_ hi hX hi2 hg
      obtain ⟨k, rfl⟩ : ∃ k : Nat, i = k := ⟨i.toNat, by omega⟩
      rw [show ((k : Int)).toNat = k by omega] at hX hi2
      have eX : (hr h (b + 14) X) (b + 14) = X := hr_s
      have eN : (hr h (b + 14) X) (b + 12) = h (b + 12) := hr_n (by omega)
      have eZ : (hr h (b + 14) X) (b + 15) = h (b + 15) := hr_n (by omega)
      have eB : (hr h (b + 14) X) b = h b := hr_n (by omega)
      have po := prs_or (h (b + 12)) (h b 17) X (h (b + 15)) 16
      have gr : g = -4 ∨ (0 ≤ g ∧ g < 16) := by rw [hg]; omega
      clear po
      refine r_iload_3 (pc := 7) dX8_ticks_7 ?_
      refine r_if_lt (pc := 8) (tgt := 32) dX8_ticks_8 (by decide) (by omega) (fun c_8 => ?_) (fun c_8 => ?_)
      · refine r_iconst (pc := 32) dX8_ticks_32 ?_
        refine r_istore_4 (pc := 33) dX8_ticks_33 rfl ?_
        refine drop X _ _ ?_ _ 0 X _ rfl (by omega) (by funext q; unfold drp; rw [if_neg (fun z => by omega)])
        have e8 : tkk (h (b + 12)) (h b 17) (h (b + 15)) (h (b + 14)) m.toNat = tkk (h (b + 12)) (h b 17) (h (b + 15)) (h (b + 14)) k := by
          first
          | (have := tkk_st (h (b + 12)) (h b 17) (h (b + 15)) (h (b + 14)) k (by rw [← hX, ← hg]; exact c_8) (m.toNat - k)
             rw [show k + (m.toNat - k) = m.toNat by omega] at this
             exact this)
          | rw [show m.toNat = k by omega]
        unfold tix at hQ
        rw [e8, ← hX, hi2] at hQ
        exact hQ
      · refine r_iload_2 (pc := 11) dX8_ticks_11 ?_
        refine r_iload_1 (pc := 12) dX8_ticks_12 ?_
        refine r_icmp_ge (pc := 13) (tgt := 32) dX8_ticks_13 (by decide) (by omega) (by omega) (fun c_13 => ?_) (fun c_13 => ?_)
        · refine r_iconst (pc := 32) dX8_ticks_32 ?_
          refine r_istore_4 (pc := 33) dX8_ticks_33 rfl ?_
          refine drop X _ _ ?_ _ 0 X _ rfl (by omega) (by funext q; unfold drp; rw [if_neg (fun z => by omega)])
          have e8 : tkk (h (b + 12)) (h b 17) (h (b + 15)) (h (b + 14)) m.toNat = tkk (h (b + 12)) (h b 17) (h (b + 15)) (h (b + 14)) k := by
            first
            | (have := tkk_st (h (b + 12)) (h b 17) (h (b + 15)) (h (b + 14)) k (by rw [← hX, ← hg]; exact c_8) (m.toNat - k)
               rw [show k + (m.toNat - k) = m.toNat by omega] at this
               exact this)
            | rw [show m.toNat = k by omega]
          unfold tix at hQ
          rw [e8, ← hX, hi2] at hQ
          exact hQ
        · skip
          refine r_aload_0 (pc := 16) dX8_ticks_16 ?_
          refine r_iload_3 (pc := 17) dX8_ticks_17 ?_
          skip
          refine k_VV1 (pc := 18) c_X8_copiesTo lk_X8_248 ⟨Nat.le_of_ble_eq_true rfl, Nat.le_of_ble_eq_true rfl⟩ ⟨rfl, rfl⟩ ⟨Nat.le_of_ble_eq_true rfl, Nat.le_of_ble_eq_true rfl⟩ (k := 8) rfl (by decide) (by assumption) dX8_ticks_18 (Nat.le_of_ble_eq_true rfl) ?_
          refine ⟨_, _, rfl, by assumption, by omega, ?_⟩
          refine r_iinc_2 (pc := 21) dX8_ticks_21 rfl ?_
          rw [eX, eN, eB, hr_hr]
          refine r_aload_0 (pc := 24) dX8_ticks_24 ?_
          refine k_VI0 (pc := 25) c_X8_pressing lk_X8_245 ⟨Nat.le_of_ble_eq_true rfl, Nat.le_of_ble_eq_true rfl⟩ ⟨rfl, rfl⟩ ⟨Nat.le_of_ble_eq_true rfl, Nat.le_of_ble_eq_true rfl⟩ (k := 8) rfl (by decide) (by assumption) dX8_ticks_25 (Nat.le_of_ble_eq_true rfl) ?_
          refine ⟨_, rfl, by assumption, ?_⟩
          refine r_istore_3 (pc := 28) dX8_ticks_28 rfl ?_
          refine r_goto (pc := 29) (tgt := 7) dX8_ticks_29 (by decide) ?_
          rw [hr_n (show b + 12 ≠ b + 14 by omega), hr_s, hr_n (show b ≠ b + 14 by omega), hr_n (show b + 15 ≠ b + 14 by omega)]
          have e8 : tkk (h (b + 12)) (h b 17) (h (b + 15)) (h (b + 14)) (k + 1) = (cpy (h (b + 12)) (h b 17) X g, (k : Int) + 1) := by
            simp only [tkk]
            rw [← hX, ← hg, if_neg (by omega), hi2]
          exact ih _ (by omega) ((k : Int) + 1) _ _ rfl (by omega) (by rw [show ((k : Int) + 1).toNat = k + 1 by omega, e8]) (by rw [show ((k : Int) + 1).toNat = k + 1 by omega, e8]) rfl
  refine r_iconst (pc := 0) dX8_ticks_0 ?_
  refine r_istore_2 (pc := 1) dX8_ticks_1 rfl ?_
  refine r_aload_0 (pc := 2) dX8_ticks_2 ?_
  refine k_VI0 (pc := 3) c_X8_pressing lk_X8_245 ⟨Nat.le_of_ble_eq_true rfl, Nat.le_of_ble_eq_true rfl⟩ ⟨rfl, rfl⟩ ⟨Nat.le_of_ble_eq_true rfl, Nat.le_of_ble_eq_true rfl⟩ (k := 8) rfl (by decide) (by assumption) dX8_ticks_3 (Nat.le_of_ble_eq_true rfl) ?_
  refine ⟨_, rfl, by assumption, ?_⟩
  refine r_istore_3 (pc := 6) dX8_ticks_6 rfl ?_
  have hz := lp _ 0 (h (b + 14)) _ rfl (by omega) rfl rfl rfl
  rw [hr_id] at hz
  exact hz

theorem dX8_fails_0 : decode cX8_fails 0 = .ok (.iconst 0, 1) := by decide +kernel
theorem dX8_fails_1 : decode cX8_fails 1 = .ok (.istore_n 2, 1) := by decide +kernel
theorem dX8_fails_2 : decode cX8_fails 2 = .ok (.iconst 0, 1) := by decide +kernel
theorem dX8_fails_3 : decode cX8_fails 3 = .ok (.istore_n 3, 1) := by decide +kernel
theorem dX8_fails_4 : decode cX8_fails 4 = .ok (.iload_n 3, 1) := by decide +kernel
theorem dX8_fails_5 : decode cX8_fails 5 = .ok (.bipush 16, 2) := by decide +kernel
theorem dX8_fails_7 : decode cX8_fails 7 = .ok (.if_icmp .ge 42, 3) := by decide +kernel
theorem dX8_fails_10 : decode cX8_fails 10 = .ok (.iload_n 2, 1) := by decide +kernel
theorem dX8_fails_11 : decode cX8_fails 11 = .ok (.aload_n 0, 1) := by decide +kernel
theorem dX8_fails_12 : decode cX8_fails 12 = .ok (.getfield 49, 3) := by decide +kernel
theorem dX8_fails_15 : decode cX8_fails 15 = .ok (.iload_n 3, 1) := by decide +kernel
theorem dX8_fails_16 : decode cX8_fails 16 = .ok (.iaload, 1) := by decide +kernel
theorem dX8_fails_17 : decode cX8_fails 17 = .ok (.iload_n 1, 1) := by decide +kernel
theorem dX8_fails_18 : decode cX8_fails 18 = .ok (.bipush 10, 2) := by decide +kernel
theorem dX8_fails_20 : decode cX8_fails 20 = .ok (.isub, 1) := by decide +kernel
theorem dX8_fails_21 : decode cX8_fails 21 = .ok (.ishr, 1) := by decide +kernel
theorem dX8_fails_22 : decode cX8_fails 22 = .ok (.iconst 1, 1) := by decide +kernel
theorem dX8_fails_23 : decode cX8_fails 23 = .ok (.iand, 1) := by decide +kernel
theorem dX8_fails_24 : decode cX8_fails 24 = .ok (.iadd, 1) := by decide +kernel
theorem dX8_fails_25 : decode cX8_fails 25 = .ok (.istore_n 2, 1) := by decide +kernel
theorem dX8_fails_26 : decode cX8_fails 26 = .ok (.aload_n 0, 1) := by decide +kernel
theorem dX8_fails_27 : decode cX8_fails 27 = .ok (.getfield 49, 3) := by decide +kernel
theorem dX8_fails_30 : decode cX8_fails 30 = .ok (.iload_n 3, 1) := by decide +kernel
theorem dX8_fails_31 : decode cX8_fails 31 = .ok (.dup2, 1) := by decide +kernel
theorem dX8_fails_32 : decode cX8_fails 32 = .ok (.iaload, 1) := by decide +kernel
theorem dX8_fails_33 : decode cX8_fails 33 = .ok (.iconst 1, 1) := by decide +kernel
theorem dX8_fails_34 : decode cX8_fails 34 = .ok (.iload_n 1, 1) := by decide +kernel
theorem dX8_fails_35 : decode cX8_fails 35 = .ok (.bipush 10, 2) := by decide +kernel
theorem dX8_fails_37 : decode cX8_fails 37 = .ok (.isub, 1) := by decide +kernel
theorem dX8_fails_38 : decode cX8_fails 38 = .ok (.ishl, 1) := by decide +kernel
theorem dX8_fails_39 : decode cX8_fails 39 = .ok (.iconst (-1), 1) := by decide +kernel
theorem dX8_fails_40 : decode cX8_fails 40 = .ok (.ixor, 1) := by decide +kernel
theorem dX8_fails_41 : decode cX8_fails 41 = .ok (.iand, 1) := by decide +kernel
theorem dX8_fails_42 : decode cX8_fails 42 = .ok (.iastore, 1) := by decide +kernel
theorem dX8_fails_43 : decode cX8_fails 43 = .ok (.iinc 3 1, 3) := by decide +kernel
theorem dX8_fails_46 : decode cX8_fails 46 = .ok (.goto (-42), 3) := by decide +kernel
theorem dX8_fails_49 : decode cX8_fails 49 = .ok (.aload_n 0, 1) := by decide +kernel
theorem dX8_fails_50 : decode cX8_fails 50 = .ok (.dup, 1) := by decide +kernel
theorem dX8_fails_51 : decode cX8_fails 51 = .ok (.getfield 125, 3) := by decide +kernel
theorem dX8_fails_54 : decode cX8_fails 54 = .ok (.iconst 1, 1) := by decide +kernel
theorem dX8_fails_55 : decode cX8_fails 55 = .ok (.iload_n 1, 1) := by decide +kernel
theorem dX8_fails_56 : decode cX8_fails 56 = .ok (.bipush 10, 2) := by decide +kernel
theorem dX8_fails_58 : decode cX8_fails 58 = .ok (.isub, 1) := by decide +kernel
theorem dX8_fails_59 : decode cX8_fails 59 = .ok (.ishl, 1) := by decide +kernel
theorem dX8_fails_60 : decode cX8_fails 60 = .ok (.iconst (-1), 1) := by decide +kernel
theorem dX8_fails_61 : decode cX8_fails 61 = .ok (.ixor, 1) := by decide +kernel
theorem dX8_fails_62 : decode cX8_fails 62 = .ok (.iand, 1) := by decide +kernel
theorem dX8_fails_63 : decode cX8_fails 63 = .ok (.putfield 125, 3) := by decide +kernel
theorem dX8_fails_66 : decode cX8_fails 66 = .ok (.iload_n 2, 1) := by decide +kernel
theorem dX8_fails_67 : decode cX8_fails 67 = .ok (.ireturn, 1) := by decide +kernel
set_option maxHeartbeats 4000000 in
set_option maxRecDepth 20000 in
theorem c_X8_fails : ConI mX8_fails (fun args N lay r h Q => ∃ (b : Nat) (d : Int), args = [.ref b, vI d] ∧ MdAt lay r b ∧ (10 ≤ d ∧ d < 22) ∧ Q (sm (fun g => iA (iSr (h (b + 14) g) (d - 10)) 1) 16) N lay r (hr (hr h (b + 14) (flr (h (b + 14)) d 16)) b (up (h b) 17 (iA (h b 17) (iX (iSl 1 (d - 10)) (-1)))))) := by
  refine ConI.of (by decide) (by rintro _ N lay r h Q ⟨b, d, rfl, hM, hd, hQ⟩; exact ⟨rfl, Nat.le_of_ble_eq_true rfl⟩) ?_
  rintro E _ N lay r h Q ⟨b, d, rfl, hM, hd, hQ⟩ hret
  obtain ⟨ml0, ml1, ml2, ml3, ml4, ml5, ml6, ml7, ml8, ml9, ml10, ml11, ml12, ml13, ml14, ml15, ml16, ml17, ml18, ml19, ml20, mr1, mr2, mr3, mr4, mr5, mr6, mr7, mr8, mr9, mr10, mr11, mr12, mr13, mr14, mr15, mr16, mr17, mr18, mr19, mr20⟩ := id hM
  show St E mX8_fails 0 [some (.ref b), some (vI d), none, none] [] (0, 0) N lay r h
  have lp : ∀ (n_ : Nat) (i : Int) (s : Int), (16 - i).toNat = n_ → (0 ≤ i ∧ i ≤ 16) → (s = sm (fun g => iA (iSr (h (b + 14) g) (d - 10)) 1) i.toNat) → St E mX8_fails 4 [some (.ref b), some (vI d), some (vI s), some (vI i)] [] (0, 0) N lay r (hr h (b + 14) (flr (h (b + 14)) d i)) := by
    intro  n_
    induction n_ using Nat.strongRecOn with
    | ind n_ ih =>
      intro i s hn_ hi hs
      have e1 : sm (fun g => iA (iSr (h (b + 14) g) (d - 10)) 1) (i + 1).toNat = sm (fun g => iA (iSr (h (b + 14) g) (d - 10)) 1) i.toNat + (fun g => iA (iSr (h (b + 14) g) (d - 10)) 1) i := sm_z (by omega)
      dsimp only at e1
      have eX : (hr h (b + 14) (flr (h (b + 14)) d i)) (b + 14) = flr (h (b + 14)) d i := hr_s
      have hfi : flr (h (b + 14)) d i i = h (b + 14) i := if_neg (by omega)
      refine r_iload_3 (pc := 4) dX8_fails_4 ?_
      refine r_bipush (pc := 5) dX8_fails_5 (by decide) ?_
      refine r_icmp_ge (pc := 7) (tgt := 49) dX8_fails_7 (by decide) (by omega) (by omega) (fun c_7 => ?_) (fun c_7 => ?_)
      · refine r_aload_0 (pc := 49) dX8_fails_49 ?_
        first | refine r_dupI (pc := 50) dX8_fails_50 ?_ | refine r_dupA (pc := 50) dX8_fails_50 ?_
        have eB : (hr h (b + 14) (flr (h (b + 14)) d i)) b = h b := hr_n (by omega)
        refine gf_X8_125 (pc := 51) rfl (by assumption) dX8_fails_51 (fun i_51 => ?_)
        refine r_iconst (pc := 54) dX8_fails_54 ?_
        refine r_iload_1 (pc := 55) dX8_fails_55 ?_
        refine r_bipush (pc := 56) dX8_fails_56 (by decide) ?_
        refine r_isub (pc := 58) dX8_fails_58 ?_
        refine r_ishl (pc := 59) dX8_fails_59 (fun i_59 => ?_)
        refine r_iconst (pc := 60) dX8_fails_60 ?_
        refine r_ixor (pc := 61) dX8_fails_61 (fun i_61 => ?_)
        refine r_iand (pc := 62) dX8_fails_62 (fun i_62 => ?_)
        rw [eB]
        refine pf_X8_125 (pc := 63) rfl (by assumption) dX8_fails_63 (iA_r _ _) ?_
        refine r_iload_2 (pc := 66) dX8_fails_66 ?_
        refine r_iret (pc := 67) hret dX8_fails_67 rfl rfl rfl ?_
        have hi9 : i = 16 := by omega
        subst hi9
        rw [hs]
        rw [eB]
        exact hQ
      · refine r_iload_2 (pc := 10) dX8_fails_10 ?_
        refine r_aload_0 (pc := 11) dX8_fails_11 ?_
        refine gf_X8_49 (pc := 12) rfl (by assumption) dX8_fails_12 (by assumption) ?_
        refine r_iload_3 (pc := 15) dX8_fails_15 ?_
        refine r_ialdE (pc := 16) (by assumption) (by first | assumption | exact rfl) dX8_fails_16 (by omega) (by omega) (fun i_16 => ?_)
        rw [hfi]
        refine r_iload_1 (pc := 17) dX8_fails_17 ?_
        refine r_bipush (pc := 18) dX8_fails_18 (by decide) ?_
        refine r_isub (pc := 20) dX8_fails_20 ?_
        refine r_ishr (pc := 21) dX8_fails_21 (fun i_21 => ?_)
        refine r_iconst (pc := 22) dX8_fails_22 ?_
        refine r_iand (pc := 23) dX8_fails_23 (fun i_23 => ?_)
        refine r_iadd (pc := 24) dX8_fails_24 ?_
        refine r_istore_2 (pc := 25) dX8_fails_25 rfl ?_
        refine r_aload_0 (pc := 26) dX8_fails_26 ?_
        refine gf_X8_49 (pc := 27) rfl (by assumption) dX8_fails_27 (by assumption) ?_
        refine r_iload_3 (pc := 30) dX8_fails_30 ?_
        refine r_dup2 (pc := 31) dX8_fails_31 ?_
        refine r_ialdE (pc := 32) (by assumption) (by first | assumption | exact rfl) dX8_fails_32 (by omega) (by omega) (fun i_32 => ?_)
        refine r_iconst (pc := 33) dX8_fails_33 ?_
        refine r_iload_1 (pc := 34) dX8_fails_34 ?_
        refine r_bipush (pc := 35) dX8_fails_35 (by decide) ?_
        refine r_isub (pc := 37) dX8_fails_37 ?_
        refine r_ishl (pc := 38) dX8_fails_38 (fun i_38 => ?_)
        refine r_iconst (pc := 39) dX8_fails_39 ?_
        refine r_ixor (pc := 40) dX8_fails_40 (fun i_40 => ?_)
        refine r_iand (pc := 41) dX8_fails_41 (fun i_41 => ?_)
        refine r_iastE (pc := 42) (by assumption) (by first | assumption | exact rfl) dX8_fails_42 (by omega) (by omega) (by omega) ?_
        refine r_iinc_3 (pc := 43) dX8_fails_43 rfl ?_
        refine r_goto (pc := 46) (tgt := 4) dX8_fails_46 (by decide) ?_
        rw [hr_hr, hfi]
        have e5 : up (flr (h (b + 14)) d i) i (iA (h (b + 14) i) (iX (iSl 1 (d - 10)) (-1))) = flr (h (b + 14)) d (i + 1) := by
          funext q
          by_cases e : q = i
          · rw [e, up_s]; exact (if_pos (by omega)).symm
          · rw [up_n e]
            unfold flr
            by_cases e2 : q < i
            · simp only [e2, show q < i + 1 by omega]
            · simp only [e2, show ¬ q < i + 1 by omega]
        rw [e5]
        refine ih _ (by omega) (i + 1) _ rfl (by omega) ?_
        rw [e1, hs]
  refine r_iconst (pc := 0) dX8_fails_0 ?_
  refine r_istore_2 (pc := 1) dX8_fails_1 rfl ?_
  refine r_iconst (pc := 2) dX8_fails_2 ?_
  refine r_istore_3 (pc := 3) dX8_fails_3 rfl ?_
  have hz := lp _ 0 0 rfl (by omega) rfl
  rw [show flr (h (b + 14)) d 0 = h (b + 14) from funext (fun q => if_neg (by omega)), hr_id] at hz
  exact hz

theorem dX8_groupsThat_0 : decode cX8_groupsThat 0 = .ok (.iconst 0, 1) := by decide +kernel
theorem dX8_groupsThat_1 : decode cX8_groupsThat 1 = .ok (.istore_n 2, 1) := by decide +kernel
theorem dX8_groupsThat_2 : decode cX8_groupsThat 2 = .ok (.iconst 0, 1) := by decide +kernel
theorem dX8_groupsThat_3 : decode cX8_groupsThat 3 = .ok (.istore_n 3, 1) := by decide +kernel
theorem dX8_groupsThat_4 : decode cX8_groupsThat 4 = .ok (.iload_n 3, 1) := by decide +kernel
theorem dX8_groupsThat_5 : decode cX8_groupsThat 5 = .ok (.bipush 16, 2) := by decide +kernel
theorem dX8_groupsThat_7 : decode cX8_groupsThat 7 = .ok (.if_icmp .ge 77, 3) := by decide +kernel
theorem dX8_groupsThat_10 : decode cX8_groupsThat 10 = .ok (.iload_n 1, 1) := by decide +kernel
theorem dX8_groupsThat_11 : decode cX8_groupsThat 11 = .ok (.ifCond .ne 20, 3) := by decide +kernel
theorem dX8_groupsThat_14 : decode cX8_groupsThat 14 = .ok (.aload_n 0, 1) := by decide +kernel
theorem dX8_groupsThat_15 : decode cX8_groupsThat 15 = .ok (.getfield 49, 3) := by decide +kernel
theorem dX8_groupsThat_18 : decode cX8_groupsThat 18 = .ok (.iload_n 3, 1) := by decide +kernel
theorem dX8_groupsThat_19 : decode cX8_groupsThat 19 = .ok (.iaload, 1) := by decide +kernel
theorem dX8_groupsThat_20 : decode cX8_groupsThat 20 = .ok (.ifCond .ne 7, 3) := by decide +kernel
theorem dX8_groupsThat_23 : decode cX8_groupsThat 23 = .ok (.iconst 1, 1) := by decide +kernel
theorem dX8_groupsThat_24 : decode cX8_groupsThat 24 = .ok (.goto 39, 3) := by decide +kernel
theorem dX8_groupsThat_27 : decode cX8_groupsThat 27 = .ok (.iconst 0, 1) := by decide +kernel
theorem dX8_groupsThat_28 : decode cX8_groupsThat 28 = .ok (.goto 35, 3) := by decide +kernel
theorem dX8_groupsThat_31 : decode cX8_groupsThat 31 = .ok (.iload_n 1, 1) := by decide +kernel
theorem dX8_groupsThat_32 : decode cX8_groupsThat 32 = .ok (.iconst 1, 1) := by decide +kernel
theorem dX8_groupsThat_33 : decode cX8_groupsThat 33 = .ok (.if_icmp .ne 25, 3) := by decide +kernel
theorem dX8_groupsThat_36 : decode cX8_groupsThat 36 = .ok (.aload_n 0, 1) := by decide +kernel
theorem dX8_groupsThat_37 : decode cX8_groupsThat 37 = .ok (.getfield 49, 3) := by decide +kernel
theorem dX8_groupsThat_40 : decode cX8_groupsThat 40 = .ok (.iload_n 3, 1) := by decide +kernel
theorem dX8_groupsThat_41 : decode cX8_groupsThat 41 = .ok (.iaload, 1) := by decide +kernel
theorem dX8_groupsThat_42 : decode cX8_groupsThat 42 = .ok (.aload_n 0, 1) := by decide +kernel
theorem dX8_groupsThat_43 : decode cX8_groupsThat 43 = .ok (.getfield 125, 3) := by decide +kernel
theorem dX8_groupsThat_46 : decode cX8_groupsThat 46 = .ok (.iand, 1) := by decide +kernel
theorem dX8_groupsThat_47 : decode cX8_groupsThat 47 = .ok (.ifCond .ne 7, 3) := by decide +kernel
theorem dX8_groupsThat_50 : decode cX8_groupsThat 50 = .ok (.iconst 1, 1) := by decide +kernel
theorem dX8_groupsThat_51 : decode cX8_groupsThat 51 = .ok (.goto 12, 3) := by decide +kernel
theorem dX8_groupsThat_54 : decode cX8_groupsThat 54 = .ok (.iconst 0, 1) := by decide +kernel
theorem dX8_groupsThat_55 : decode cX8_groupsThat 55 = .ok (.goto 8, 3) := by decide +kernel
theorem dX8_groupsThat_58 : decode cX8_groupsThat 58 = .ok (.aload_n 0, 1) := by decide +kernel
theorem dX8_groupsThat_59 : decode cX8_groupsThat 59 = .ok (.iload_n 3, 1) := by decide +kernel
theorem dX8_groupsThat_60 : decode cX8_groupsThat 60 = .ok (.invokevirtual 239, 3) := by decide +kernel
theorem dX8_groupsThat_63 : decode cX8_groupsThat 63 = .ok (.istore 4, 2) := by decide +kernel
theorem dX8_groupsThat_65 : decode cX8_groupsThat 65 = .ok (.iload_n 2, 1) := by decide +kernel
theorem dX8_groupsThat_66 : decode cX8_groupsThat 66 = .ok (.iload 4, 2) := by decide +kernel
theorem dX8_groupsThat_68 : decode cX8_groupsThat 68 = .ok (.ifCond .eq 7, 3) := by decide +kernel
theorem dX8_groupsThat_71 : decode cX8_groupsThat 71 = .ok (.iconst 1, 1) := by decide +kernel
theorem dX8_groupsThat_72 : decode cX8_groupsThat 72 = .ok (.goto 4, 3) := by decide +kernel
theorem dX8_groupsThat_75 : decode cX8_groupsThat 75 = .ok (.iconst 0, 1) := by decide +kernel
theorem dX8_groupsThat_76 : decode cX8_groupsThat 76 = .ok (.iadd, 1) := by decide +kernel
theorem dX8_groupsThat_77 : decode cX8_groupsThat 77 = .ok (.istore_n 2, 1) := by decide +kernel
theorem dX8_groupsThat_78 : decode cX8_groupsThat 78 = .ok (.iinc 3 1, 3) := by decide +kernel
theorem dX8_groupsThat_81 : decode cX8_groupsThat 81 = .ok (.goto (-77), 3) := by decide +kernel
theorem dX8_groupsThat_84 : decode cX8_groupsThat 84 = .ok (.iload_n 2, 1) := by decide +kernel
theorem dX8_groupsThat_85 : decode cX8_groupsThat 85 = .ok (.ireturn, 1) := by decide +kernel
set_option maxHeartbeats 4000000 in
set_option maxRecDepth 20000 in
theorem c_X8_groupsThat : ConI mX8_groupsThat (fun args N lay r h Q => ∃ (b : Nat) (w : Int), args = [.ref b, vI w] ∧ MdAt lay r b ∧ (0 ≤ w ∧ w ≤ 2) ∧ Q (sm (fun g => if w = 0 then bI (h (b + 14) g = 0) else if w = 1 then bI (iA (h (b + 14) g) (h b 17) = 0) else bI (wan (h (b + 12)) (h b 17) (h (b + 14)) g = true)) 16) N lay r h) := by
  refine ConI.of (by decide) (by rintro _ N lay r h Q ⟨b, w, rfl, hM, hw, hQ⟩; exact ⟨rfl, Nat.le_of_ble_eq_true rfl⟩) ?_
  rintro E _ N lay r h Q ⟨b, w, rfl, hM, hw, hQ⟩ hret
  obtain ⟨ml0, ml1, ml2, ml3, ml4, ml5, ml6, ml7, ml8, ml9, ml10, ml11, ml12, ml13, ml14, ml15, ml16, ml17, ml18, ml19, ml20, mr1, mr2, mr3, mr4, mr5, mr6, mr7, mr8, mr9, mr10, mr11, mr12, mr13, mr14, mr15, mr16, mr17, mr18, mr19, mr20⟩ := id hM
  show St E mX8_groupsThat 0 [some (.ref b), some (vI w), none, none, none] [] (0, 0) N lay r h
  have lp : ∀ (n_ : Nat) (i : Int) (s : Int) (x4 : Option Value), (16 - i).toNat = n_ → (0 ≤ i ∧ i ≤ 16) → (s = sm (fun g => if w = 0 then bI (h (b + 14) g = 0) else if w = 1 then bI (iA (h (b + 14) g) (h b 17) = 0) else bI (wan (h (b + 12)) (h b 17) (h (b + 14)) g = true)) i.toNat) → St E mX8_groupsThat 4 [some (.ref b), some (vI w), some (vI s), some (vI i), x4] [] (0, 0) N lay r h := by
    intro  n_
    induction n_ using Nat.strongRecOn with
    | ind n_ ih =>
      intro i s x4 hn_ hi hs
      have e1 : sm (fun g => if w = 0 then bI (h (b + 14) g = 0) else if w = 1 then bI (iA (h (b + 14) g) (h b 17) = 0) else bI (wan (h (b + 12)) (h b 17) (h (b + 14)) g = true)) (i + 1).toNat = sm (fun g => if w = 0 then bI (h (b + 14) g = 0) else if w = 1 then bI (iA (h (b + 14) g) (h b 17) = 0) else bI (wan (h (b + 12)) (h b 17) (h (b + 14)) g = true)) i.toNat + (fun g => if w = 0 then bI (h (b + 14) g = 0) else if w = 1 then bI (iA (h (b + 14) g) (h b 17) = 0) else bI (wan (h (b + 12)) (h b 17) (h (b + 14)) g = true)) i := sm_z (by omega)
      dsimp only at e1
      refine r_iload_3 (pc := 4) dX8_groupsThat_4 ?_
      refine r_bipush (pc := 5) dX8_groupsThat_5 (by decide) ?_
      refine r_icmp_ge (pc := 7) (tgt := 84) dX8_groupsThat_7 (by decide) (by omega) (by omega) (fun c_7 => ?_) (fun c_7 => ?_)
      · refine r_iload_2 (pc := 84) dX8_groupsThat_84 ?_
        refine r_iret (pc := 85) hret dX8_groupsThat_85 rfl rfl rfl ?_
        have hi9 : i = 16 := by omega
        subst hi9
        rw [hs]
        exact hQ
      · refine r_iload_1 (pc := 10) dX8_groupsThat_10 ?_
        refine r_if_ne (pc := 11) (tgt := 31) dX8_groupsThat_11 (by decide) (by omega) (fun c_11 => ?_) (fun c_11 => ?_)
        · refine r_iload_1 (pc := 31) dX8_groupsThat_31 ?_
          refine r_iconst (pc := 32) dX8_groupsThat_32 ?_
          refine r_icmp_ne (pc := 33) (tgt := 58) dX8_groupsThat_33 (by decide) (by omega) (by omega) (fun c_33 => ?_) (fun c_33 => ?_)
          · refine r_aload_0 (pc := 58) dX8_groupsThat_58 ?_
            refine r_iload_3 (pc := 59) dX8_groupsThat_59 ?_
            refine k_VI1 (pc := 60) c_X8_isWanting lk_X8_239 ⟨Nat.le_of_ble_eq_true rfl, Nat.le_of_ble_eq_true rfl⟩ ⟨rfl, rfl⟩ ⟨Nat.le_of_ble_eq_true rfl, Nat.le_of_ble_eq_true rfl⟩ (k := 8) rfl (by decide) (by assumption) dX8_groupsThat_60 (Nat.le_of_ble_eq_true rfl) ?_
            refine ⟨_, _, rfl, by assumption, by omega, ?_⟩
            refine r_istore_4 (pc := 63) dX8_groupsThat_63 rfl ?_
            refine r_iload_2 (pc := 65) dX8_groupsThat_65 ?_
            refine r_iload_4 (pc := 66) dX8_groupsThat_66 ?_
            refine r_ifeq_b (pc := 68) (tgt := 75) dX8_groupsThat_68 (by decide) (fun c_68 => ?_) (fun c_68 => ?_)
            · refine r_iconst (pc := 75) dX8_groupsThat_75 ?_
              refine r_iadd (pc := 76) dX8_groupsThat_76 ?_
              refine r_istore_2 (pc := 77) dX8_groupsThat_77 rfl ?_
              refine r_iinc_3 (pc := 78) dX8_groupsThat_78 rfl ?_
              refine r_goto (pc := 81) (tgt := 4) dX8_groupsThat_81 (by decide) ?_
              first
              | (refine ih _ (by omega) (i + 1) _ _ rfl (by omega) ?_; rw [e1, hs, if_pos c_11, bI_t c_20])
              | (refine ih _ (by omega) (i + 1) _ _ rfl (by omega) ?_; rw [e1, hs, if_pos c_11, bI_f c_20])
              | (refine ih _ (by omega) (i + 1) _ _ rfl (by omega) ?_; rw [e1, hs, if_neg c_11, if_pos c_33, bI_t c_47])
              | (refine ih _ (by omega) (i + 1) _ _ rfl (by omega) ?_; rw [e1, hs, if_neg c_11, if_pos c_33, bI_f c_47])
              | (refine ih _ (by omega) (i + 1) _ _ rfl (by omega) ?_; rw [e1, hs, if_neg c_11, if_neg c_33, bI_t c_68])
              | (refine ih _ (by omega) (i + 1) _ _ rfl (by omega) ?_; rw [e1, hs, if_neg c_11, if_neg c_33, bI_f c_68])
            · refine r_iconst (pc := 71) dX8_groupsThat_71 ?_
              refine r_goto (pc := 72) (tgt := 76) dX8_groupsThat_72 (by decide) ?_
              refine r_iadd (pc := 76) dX8_groupsThat_76 ?_
              refine r_istore_2 (pc := 77) dX8_groupsThat_77 rfl ?_
              refine r_iinc_3 (pc := 78) dX8_groupsThat_78 rfl ?_
              refine r_goto (pc := 81) (tgt := 4) dX8_groupsThat_81 (by decide) ?_
              first
              | (refine ih _ (by omega) (i + 1) _ _ rfl (by omega) ?_; rw [e1, hs, if_pos c_11, bI_t c_20])
              | (refine ih _ (by omega) (i + 1) _ _ rfl (by omega) ?_; rw [e1, hs, if_pos c_11, bI_f c_20])
              | (refine ih _ (by omega) (i + 1) _ _ rfl (by omega) ?_; rw [e1, hs, if_neg c_11, if_pos c_33, bI_t c_47])
              | (refine ih _ (by omega) (i + 1) _ _ rfl (by omega) ?_; rw [e1, hs, if_neg c_11, if_pos c_33, bI_f c_47])
              | (refine ih _ (by omega) (i + 1) _ _ rfl (by omega) ?_; rw [e1, hs, if_neg c_11, if_neg c_33, bI_t c_68])
              | (refine ih _ (by omega) (i + 1) _ _ rfl (by omega) ?_; rw [e1, hs, if_neg c_11, if_neg c_33, bI_f c_68])
          · refine r_aload_0 (pc := 36) dX8_groupsThat_36 ?_
            refine gf_X8_49 (pc := 37) rfl (by assumption) dX8_groupsThat_37 (by assumption) ?_
            refine r_iload_3 (pc := 40) dX8_groupsThat_40 ?_
            refine r_ialdE (pc := 41) (by assumption) (by first | assumption | exact rfl) dX8_groupsThat_41 (by omega) (by omega) (fun i_41 => ?_)
            refine r_aload_0 (pc := 42) dX8_groupsThat_42 ?_
            refine gf_X8_125 (pc := 43) rfl (by assumption) dX8_groupsThat_43 (fun i_43 => ?_)
            refine r_iand (pc := 46) dX8_groupsThat_46 (fun i_46 => ?_)
            refine r_if_ne (pc := 47) (tgt := 54) dX8_groupsThat_47 (by decide) (by omega) (fun c_47 => ?_) (fun c_47 => ?_)
            · refine r_iconst (pc := 54) dX8_groupsThat_54 ?_
              refine r_goto (pc := 55) (tgt := 63) dX8_groupsThat_55 (by decide) ?_
              refine r_istore_4 (pc := 63) dX8_groupsThat_63 rfl ?_
              refine r_iload_2 (pc := 65) dX8_groupsThat_65 ?_
              refine r_iload_4 (pc := 66) dX8_groupsThat_66 ?_
              refine r_ifeq_T (pc := 68) (tgt := 75) dX8_groupsThat_68 (by decide) (by decide) ?_
              refine r_iconst (pc := 75) dX8_groupsThat_75 ?_
              refine r_iadd (pc := 76) dX8_groupsThat_76 ?_
              refine r_istore_2 (pc := 77) dX8_groupsThat_77 rfl ?_
              refine r_iinc_3 (pc := 78) dX8_groupsThat_78 rfl ?_
              refine r_goto (pc := 81) (tgt := 4) dX8_groupsThat_81 (by decide) ?_
              first
              | (refine ih _ (by omega) (i + 1) _ _ rfl (by omega) ?_; rw [e1, hs, if_pos c_11, bI_t c_20])
              | (refine ih _ (by omega) (i + 1) _ _ rfl (by omega) ?_; rw [e1, hs, if_pos c_11, bI_f c_20])
              | (refine ih _ (by omega) (i + 1) _ _ rfl (by omega) ?_; rw [e1, hs, if_neg c_11, if_pos c_33, bI_t c_47])
              | (refine ih _ (by omega) (i + 1) _ _ rfl (by omega) ?_; rw [e1, hs, if_neg c_11, if_pos c_33, bI_f c_47])
              | (refine ih _ (by omega) (i + 1) _ _ rfl (by omega) ?_; rw [e1, hs, if_neg c_11, if_neg c_33, bI_t c_68])
              | (refine ih _ (by omega) (i + 1) _ _ rfl (by omega) ?_; rw [e1, hs, if_neg c_11, if_neg c_33, bI_f c_68])
            · refine r_iconst (pc := 50) dX8_groupsThat_50 ?_
              refine r_goto (pc := 51) (tgt := 63) dX8_groupsThat_51 (by decide) ?_
              refine r_istore_4 (pc := 63) dX8_groupsThat_63 rfl ?_
              refine r_iload_2 (pc := 65) dX8_groupsThat_65 ?_
              refine r_iload_4 (pc := 66) dX8_groupsThat_66 ?_
              refine r_ifeq_F (pc := 68) (tgt := 75) dX8_groupsThat_68 (by decide) (by decide) ?_
              refine r_iconst (pc := 71) dX8_groupsThat_71 ?_
              refine r_goto (pc := 72) (tgt := 76) dX8_groupsThat_72 (by decide) ?_
              refine r_iadd (pc := 76) dX8_groupsThat_76 ?_
              refine r_istore_2 (pc := 77) dX8_groupsThat_77 rfl ?_
              refine r_iinc_3 (pc := 78) dX8_groupsThat_78 rfl ?_
              refine r_goto (pc := 81) (tgt := 4) dX8_groupsThat_81 (by decide) ?_
              first
              | (refine ih _ (by omega) (i + 1) _ _ rfl (by omega) ?_; rw [e1, hs, if_pos c_11, bI_t c_20])
              | (refine ih _ (by omega) (i + 1) _ _ rfl (by omega) ?_; rw [e1, hs, if_pos c_11, bI_f c_20])
              | (refine ih _ (by omega) (i + 1) _ _ rfl (by omega) ?_; rw [e1, hs, if_neg c_11, if_pos c_33, bI_t c_47])
              | (refine ih _ (by omega) (i + 1) _ _ rfl (by omega) ?_; rw [e1, hs, if_neg c_11, if_pos c_33, bI_f c_47])
              | (refine ih _ (by omega) (i + 1) _ _ rfl (by omega) ?_; rw [e1, hs, if_neg c_11, if_neg c_33, bI_t c_68])
              | (refine ih _ (by omega) (i + 1) _ _ rfl (by omega) ?_; rw [e1, hs, if_neg c_11, if_neg c_33, bI_f c_68])
        · refine r_aload_0 (pc := 14) dX8_groupsThat_14 ?_
          refine gf_X8_49 (pc := 15) rfl (by assumption) dX8_groupsThat_15 (by assumption) ?_
          refine r_iload_3 (pc := 18) dX8_groupsThat_18 ?_
          refine r_ialdE (pc := 19) (by assumption) (by first | assumption | exact rfl) dX8_groupsThat_19 (by omega) (by omega) (fun i_19 => ?_)
          refine r_if_ne (pc := 20) (tgt := 27) dX8_groupsThat_20 (by decide) (by omega) (fun c_20 => ?_) (fun c_20 => ?_)
          · refine r_iconst (pc := 27) dX8_groupsThat_27 ?_
            refine r_goto (pc := 28) (tgt := 63) dX8_groupsThat_28 (by decide) ?_
            refine r_istore_4 (pc := 63) dX8_groupsThat_63 rfl ?_
            refine r_iload_2 (pc := 65) dX8_groupsThat_65 ?_
            refine r_iload_4 (pc := 66) dX8_groupsThat_66 ?_
            refine r_ifeq_T (pc := 68) (tgt := 75) dX8_groupsThat_68 (by decide) (by decide) ?_
            refine r_iconst (pc := 75) dX8_groupsThat_75 ?_
            refine r_iadd (pc := 76) dX8_groupsThat_76 ?_
            refine r_istore_2 (pc := 77) dX8_groupsThat_77 rfl ?_
            refine r_iinc_3 (pc := 78) dX8_groupsThat_78 rfl ?_
            refine r_goto (pc := 81) (tgt := 4) dX8_groupsThat_81 (by decide) ?_
            first
            | (refine ih _ (by omega) (i + 1) _ _ rfl (by omega) ?_; rw [e1, hs, if_pos c_11, bI_t c_20])
            | (refine ih _ (by omega) (i + 1) _ _ rfl (by omega) ?_; rw [e1, hs, if_pos c_11, bI_f c_20])
            | (refine ih _ (by omega) (i + 1) _ _ rfl (by omega) ?_; rw [e1, hs, if_neg c_11, if_pos c_33, bI_t c_47])
            | (refine ih _ (by omega) (i + 1) _ _ rfl (by omega) ?_; rw [e1, hs, if_neg c_11, if_pos c_33, bI_f c_47])
            | (refine ih _ (by omega) (i + 1) _ _ rfl (by omega) ?_; rw [e1, hs, if_neg c_11, if_neg c_33, bI_t c_68])
            | (refine ih _ (by omega) (i + 1) _ _ rfl (by omega) ?_; rw [e1, hs, if_neg c_11, if_neg c_33, bI_f c_68])
          · refine r_iconst (pc := 23) dX8_groupsThat_23 ?_
            refine r_goto (pc := 24) (tgt := 63) dX8_groupsThat_24 (by decide) ?_
            refine r_istore_4 (pc := 63) dX8_groupsThat_63 rfl ?_
            refine r_iload_2 (pc := 65) dX8_groupsThat_65 ?_
            refine r_iload_4 (pc := 66) dX8_groupsThat_66 ?_
            refine r_ifeq_F (pc := 68) (tgt := 75) dX8_groupsThat_68 (by decide) (by decide) ?_
            refine r_iconst (pc := 71) dX8_groupsThat_71 ?_
            refine r_goto (pc := 72) (tgt := 76) dX8_groupsThat_72 (by decide) ?_
            refine r_iadd (pc := 76) dX8_groupsThat_76 ?_
            refine r_istore_2 (pc := 77) dX8_groupsThat_77 rfl ?_
            refine r_iinc_3 (pc := 78) dX8_groupsThat_78 rfl ?_
            refine r_goto (pc := 81) (tgt := 4) dX8_groupsThat_81 (by decide) ?_
            first
            | (refine ih _ (by omega) (i + 1) _ _ rfl (by omega) ?_; rw [e1, hs, if_pos c_11, bI_t c_20])
            | (refine ih _ (by omega) (i + 1) _ _ rfl (by omega) ?_; rw [e1, hs, if_pos c_11, bI_f c_20])
            | (refine ih _ (by omega) (i + 1) _ _ rfl (by omega) ?_; rw [e1, hs, if_neg c_11, if_pos c_33, bI_t c_47])
            | (refine ih _ (by omega) (i + 1) _ _ rfl (by omega) ?_; rw [e1, hs, if_neg c_11, if_pos c_33, bI_f c_47])
            | (refine ih _ (by omega) (i + 1) _ _ rfl (by omega) ?_; rw [e1, hs, if_neg c_11, if_neg c_33, bI_t c_68])
            | (refine ih _ (by omega) (i + 1) _ _ rfl (by omega) ?_; rw [e1, hs, if_neg c_11, if_neg c_33, bI_f c_68])
  refine r_iconst (pc := 0) dX8_groupsThat_0 ?_
  refine r_istore_2 (pc := 1) dX8_groupsThat_1 rfl ?_
  refine r_iconst (pc := 2) dX8_groupsThat_2 ?_
  refine r_istore_3 (pc := 3) dX8_groupsThat_3 rfl ?_
  exact lp _ 0 0 _ rfl (by omega) rfl

def alk (f row : Int → Int) : Nat → Bool
  | 0 => true
  | k + 1 => alk f row k && decide (hasB f (row (3 * k)) (row (3 * k + 1)) = true ↔ row (3 * k + 2) = 1)
theorem alk_s (f row : Int → Int) (k : Nat) : alk f row (k + 1) = (alk f row k && decide (hasB f (row (3 * k)) (row (3 * k + 1)) = true ↔ row (3 * k + 2) = 1)) := rfl
theorem alk_st (f row : Int → Int) (k : Nat) (h : alk f row k = false) : ∀ j, alk f row (k + j) = false
  | 0 => h
  | j + 1 => by rw [← Nat.add_assoc, alk_s, alk_st f row k h j, Bool.false_and]
/-- the observations: who was seen -/
def SeI (n : Int) (row : Int → Int) : Prop := (0 ≤ n ∧ n ≤ 6) ∧ ∀ i, 0 ≤ i → i < n → (0 ≤ row (3 * i) ∧ row (3 * i) < 16) ∧ (10 ≤ row (3 * i + 1) ∧ row (3 * i + 1) < 22) ∧ (row (3 * i + 2) = 0 ∨ row (3 * i + 2) = 1)
def tp (mp : Int → Int) (d : Int) : Bool := decide (0 < mp (22 + d) ∧ 0 < mp (66 + d) ∧ mp (88 + d) = 0)
theorem tp_iff {mp : Int → Int} {d : Int} : tp mp d = true ↔ 0 < mp (22 + d) ∧ 0 < mp (66 + d) ∧ mp (88 + d) = 0 := by
  unfold tp
  rw [decide_eq_true_iff]
def gof (f : Int → Int) (d : Int) : Int := sm (fun g => bI (hasB f g d = true)) 16
theorem gof_r (f : Int → Int) (d : Int) : 0 ≤ gof f d ∧ gof f d ≤ 16 := by
  have := sm_r (f := fun g => bI (hasB f g d = true)) (c := 1) (n := 16) (fun k _ => bI_r)
  unfold gof
  omega
def spk (mp f : Int → Int) : Nat → Int × Int
  | 0 => (-1, 17)
  | k + 1 => if tp mp (10 + k) = true then ((if (spk mp f k).1 < gof f (10 + k) then gof f (10 + k) else (spk mp f k).1), (if gof f (10 + k) < (spk mp f k).2 then gof f (10 + k) else (spk mp f k).2)) else spk mp f k
def spr (mp f : Int → Int) : Int := if (spk mp f (mp 130).toNat).1 < 0 then 0 else (spk mp f (mp 130).toNat).1 - (spk mp f (mp 130).toNat).2
theorem spk_r (mp f : Int → Int) : ∀ k, (-1 ≤ (spk mp f k).1 ∧ (spk mp f k).1 ≤ 16) ∧ (0 ≤ (spk mp f k).2 ∧ (spk mp f k).2 ≤ 17)
  | 0 => by simp [spk]
  | k + 1 => by
    have h1 := spk_r mp f k
    have h2 := gof_r f (10 + k)
    simp only [spk]
    split
    · refine ⟨?_, ?_⟩ <;> dsimp only <;> split <;> omega
    · exact h1
theorem dX8_isAllSo_0 : decode cX8_isAllSo 0 = .ok (.iconst 0, 1) := by decide +kernel
theorem dX8_isAllSo_1 : decode cX8_isAllSo 1 = .ok (.istore_n 1, 1) := by decide +kernel
theorem dX8_isAllSo_2 : decode cX8_isAllSo 2 = .ok (.iload_n 1, 1) := by decide +kernel
theorem dX8_isAllSo_3 : decode cX8_isAllSo 3 = .ok (.aload_n 0, 1) := by decide +kernel
theorem dX8_isAllSo_4 : decode cX8_isAllSo 4 = .ok (.getfield 131, 3) := by decide +kernel
theorem dX8_isAllSo_7 : decode cX8_isAllSo 7 = .ok (.if_icmp .ge 60, 3) := by decide +kernel
theorem dX8_isAllSo_10 : decode cX8_isAllSo 10 = .ok (.aload_n 0, 1) := by decide +kernel
theorem dX8_isAllSo_11 : decode cX8_isAllSo 11 = .ok (.getfield 46, 3) := by decide +kernel
theorem dX8_isAllSo_14 : decode cX8_isAllSo 14 = .ok (.aload_n 0, 1) := by decide +kernel
theorem dX8_isAllSo_15 : decode cX8_isAllSo 15 = .ok (.getfield 58, 3) := by decide +kernel
theorem dX8_isAllSo_18 : decode cX8_isAllSo 18 = .ok (.iconst 3, 1) := by decide +kernel
theorem dX8_isAllSo_19 : decode cX8_isAllSo 19 = .ok (.iload_n 1, 1) := by decide +kernel
theorem dX8_isAllSo_20 : decode cX8_isAllSo 20 = .ok (.imul, 1) := by decide +kernel
theorem dX8_isAllSo_21 : decode cX8_isAllSo 21 = .ok (.iaload, 1) := by decide +kernel
theorem dX8_isAllSo_22 : decode cX8_isAllSo 22 = .ok (.aload_n 0, 1) := by decide +kernel
theorem dX8_isAllSo_23 : decode cX8_isAllSo 23 = .ok (.getfield 58, 3) := by decide +kernel
theorem dX8_isAllSo_26 : decode cX8_isAllSo 26 = .ok (.iconst 3, 1) := by decide +kernel
theorem dX8_isAllSo_27 : decode cX8_isAllSo 27 = .ok (.iload_n 1, 1) := by decide +kernel
theorem dX8_isAllSo_28 : decode cX8_isAllSo 28 = .ok (.imul, 1) := by decide +kernel
theorem dX8_isAllSo_29 : decode cX8_isAllSo 29 = .ok (.iconst 1, 1) := by decide +kernel
theorem dX8_isAllSo_30 : decode cX8_isAllSo 30 = .ok (.iadd, 1) := by decide +kernel
theorem dX8_isAllSo_31 : decode cX8_isAllSo 31 = .ok (.iaload, 1) := by decide +kernel
theorem dX8_isAllSo_32 : decode cX8_isAllSo 32 = .ok (.invokestatic 208, 3) := by decide +kernel
theorem dX8_isAllSo_35 : decode cX8_isAllSo 35 = .ok (.istore_n 2, 1) := by decide +kernel
theorem dX8_isAllSo_36 : decode cX8_isAllSo 36 = .ok (.iload_n 2, 1) := by decide +kernel
theorem dX8_isAllSo_37 : decode cX8_isAllSo 37 = .ok (.aload_n 0, 1) := by decide +kernel
theorem dX8_isAllSo_38 : decode cX8_isAllSo 38 = .ok (.getfield 58, 3) := by decide +kernel
theorem dX8_isAllSo_41 : decode cX8_isAllSo 41 = .ok (.iconst 3, 1) := by decide +kernel
theorem dX8_isAllSo_42 : decode cX8_isAllSo 42 = .ok (.iload_n 1, 1) := by decide +kernel
theorem dX8_isAllSo_43 : decode cX8_isAllSo 43 = .ok (.imul, 1) := by decide +kernel
theorem dX8_isAllSo_44 : decode cX8_isAllSo 44 = .ok (.iconst 2, 1) := by decide +kernel
theorem dX8_isAllSo_45 : decode cX8_isAllSo 45 = .ok (.iadd, 1) := by decide +kernel
theorem dX8_isAllSo_46 : decode cX8_isAllSo 46 = .ok (.iaload, 1) := by decide +kernel
theorem dX8_isAllSo_47 : decode cX8_isAllSo 47 = .ok (.iconst 1, 1) := by decide +kernel
theorem dX8_isAllSo_48 : decode cX8_isAllSo 48 = .ok (.if_icmp .ne 7, 3) := by decide +kernel
theorem dX8_isAllSo_51 : decode cX8_isAllSo 51 = .ok (.iconst 1, 1) := by decide +kernel
theorem dX8_isAllSo_52 : decode cX8_isAllSo 52 = .ok (.goto 4, 3) := by decide +kernel
theorem dX8_isAllSo_55 : decode cX8_isAllSo 55 = .ok (.iconst 0, 1) := by decide +kernel
theorem dX8_isAllSo_56 : decode cX8_isAllSo 56 = .ok (.if_icmp .eq 5, 3) := by decide +kernel
theorem dX8_isAllSo_59 : decode cX8_isAllSo 59 = .ok (.iconst 0, 1) := by decide +kernel
theorem dX8_isAllSo_60 : decode cX8_isAllSo 60 = .ok (.ireturn, 1) := by decide +kernel
theorem dX8_isAllSo_61 : decode cX8_isAllSo 61 = .ok (.iinc 1 1, 3) := by decide +kernel
theorem dX8_isAllSo_64 : decode cX8_isAllSo 64 = .ok (.goto (-62), 3) := by decide +kernel
theorem dX8_isAllSo_67 : decode cX8_isAllSo 67 = .ok (.iconst 1, 1) := by decide +kernel
theorem dX8_isAllSo_68 : decode cX8_isAllSo 68 = .ok (.ireturn, 1) := by decide +kernel
set_option maxHeartbeats 4000000 in
set_option maxRecDepth 20000 in
theorem c_X8_isAllSo : ConI mX8_isAllSo (fun args N lay r h Q => ∃ (b : Nat), args = [.ref b] ∧ MdAt lay r b ∧ SeI (h b 19) (h (b + 17)) ∧ Q (bI (alk (h (b + 13)) (h (b + 17)) (h b 19).toNat = true)) N lay r h) := by
  refine ConI.of (by decide) (by rintro _ N lay r h Q ⟨b, rfl, hM, hS, hQ⟩; exact ⟨rfl, Nat.le_of_ble_eq_true rfl⟩) ?_
  rintro E _ N lay r h Q ⟨b, rfl, hM, hS, hQ⟩ hret
  obtain ⟨ml0, ml1, ml2, ml3, ml4, ml5, ml6, ml7, ml8, ml9, ml10, ml11, ml12, ml13, ml14, ml15, ml16, ml17, ml18, ml19, ml20, mr1, mr2, mr3, mr4, mr5, mr6, mr7, mr8, mr9, mr10, mr11, mr12, mr13, mr14, mr15, mr16, mr17, mr18, mr19, mr20⟩ := id hM
  have hsr0 := hS.1
  show St E mX8_isAllSo 0 [some (.ref b), none, none] [] (0, 0) N lay r h
  have lp : ∀ (n_ : Nat) (i : Int) (x2 : Option Value), (6 - i).toNat = n_ → (0 ≤ i ∧ i ≤ h b 19) → (alk (h (b + 13)) (h (b + 17)) i.toNat = true) → St E mX8_isAllSo 2 [some (.ref b), some (vI i), x2] [] (0, 0) N lay r h := by
    intro  n_
    induction n_ using Nat.strongRecOn with
    | ind n_ ih =>
      intro i x2 hn_ hi hs
      obtain ⟨k, rfl⟩ : ∃ k : Nat, i = k := ⟨i.toNat, by omega⟩
      rw [show ((k : Int)).toNat = k by omega] at hs
      have e1 := alk_s (h (b + 13)) (h (b + 17)) k
      have so := hS.2 k
      have hsr := hS.1
      refine r_iload_1 (pc := 2) dX8_isAllSo_2 ?_
      refine r_aload_0 (pc := 3) dX8_isAllSo_3 ?_
      refine gf_X8_131 (pc := 4) rfl (by assumption) dX8_isAllSo_4 (fun i_4 => ?_)
      refine r_icmp_ge (pc := 7) (tgt := 67) dX8_isAllSo_7 (by decide) (by omega) (by omega) (fun c_7 => ?_) (fun c_7 => ?_)
      · refine r_iconst (pc := 67) dX8_isAllSo_67 ?_
        refine r_zret (pc := 68) hret dX8_isAllSo_68 rfl rfl rfl (by first | exact Or.inl rfl | exact Or.inr rfl | exact bI_01 | omega) ?_
        first
        | (have hk : (k : Int) = h b 19 := by omega
           rw [← hk, show ((k : Int)).toNat = k by omega, hs] at hQ
           exact hQ)
        | (have e9 : alk (h (b + 13)) (h (b + 17)) (k + 1) = false := by
             rw [e1, hs, Bool.true_and, decide_eq_false_iff_not]
             first
             | exact fun z => c_56 (bI_t (z.mpr c_48))
             | exact fun z => c_56 (bI_f (fun y => c_48 (z.mp y)))
           have e8 := alk_st _ _ (k + 1) e9 ((h b 19).toNat - (k + 1))
           rw [show k + 1 + ((h b 19).toNat - (k + 1)) = (h b 19).toNat by omega] at e8
           rw [e8] at hQ
           exact hQ)
      · refine r_aload_0 (pc := 10) dX8_isAllSo_10 ?_
        refine gf_X8_46 (pc := 11) rfl (by assumption) dX8_isAllSo_11 (by assumption) ?_
        refine r_aload_0 (pc := 14) dX8_isAllSo_14 ?_
        refine gf_X8_58 (pc := 15) rfl (by assumption) dX8_isAllSo_15 (by assumption) ?_
        refine r_iconst (pc := 18) dX8_isAllSo_18 ?_
        refine r_iload_1 (pc := 19) dX8_isAllSo_19 ?_
        refine r_imul (pc := 20) dX8_isAllSo_20 ?_
        refine r_ialdE (pc := 21) (by assumption) (by first | assumption | exact rfl) dX8_isAllSo_21 (by omega) (by omega) (fun i_21 => ?_)
        refine r_aload_0 (pc := 22) dX8_isAllSo_22 ?_
        refine gf_X8_58 (pc := 23) rfl (by assumption) dX8_isAllSo_23 (by assumption) ?_
        refine r_iconst (pc := 26) dX8_isAllSo_26 ?_
        refine r_iload_1 (pc := 27) dX8_isAllSo_27 ?_
        refine r_imul (pc := 28) dX8_isAllSo_28 ?_
        refine r_iconst (pc := 29) dX8_isAllSo_29 ?_
        refine r_iadd (pc := 30) dX8_isAllSo_30 ?_
        refine r_ialdE (pc := 31) (by assumption) (by first | assumption | exact rfl) dX8_isAllSo_31 (by omega) (by omega) (fun i_31 => ?_)
        have so2 := so (by omega) (by omega)
        refine k_SI3 (pc := 32) c_X8_has lk_X8_208 ⟨Nat.le_of_ble_eq_true rfl, Nat.le_of_ble_eq_true rfl⟩ ⟨rfl, rfl⟩ ⟨Nat.le_of_ble_eq_true rfl, Nat.le_of_ble_eq_true rfl⟩ dX8_isAllSo_32 (Nat.le_of_ble_eq_true rfl) ?_
        refine ⟨_, _, _, rfl, by assumption, by omega, by omega, ?_⟩
        refine r_istore_2 (pc := 35) dX8_isAllSo_35 rfl ?_
        refine r_iload_2 (pc := 36) dX8_isAllSo_36 ?_
        refine r_aload_0 (pc := 37) dX8_isAllSo_37 ?_
        refine gf_X8_58 (pc := 38) rfl (by assumption) dX8_isAllSo_38 (by assumption) ?_
        refine r_iconst (pc := 41) dX8_isAllSo_41 ?_
        refine r_iload_1 (pc := 42) dX8_isAllSo_42 ?_
        refine r_imul (pc := 43) dX8_isAllSo_43 ?_
        refine r_iconst (pc := 44) dX8_isAllSo_44 ?_
        refine r_iadd (pc := 45) dX8_isAllSo_45 ?_
        refine r_ialdE (pc := 46) (by assumption) (by first | assumption | exact rfl) dX8_isAllSo_46 (by omega) (by omega) (fun i_46 => ?_)
        refine r_iconst (pc := 47) dX8_isAllSo_47 ?_
        refine r_icmp_ne (pc := 48) (tgt := 55) dX8_isAllSo_48 (by decide) (by omega) (by omega) (fun c_48 => ?_) (fun c_48 => ?_)
        · refine r_iconst (pc := 55) dX8_isAllSo_55 ?_
          refine r_icmp_eq (pc := 56) (tgt := 61) dX8_isAllSo_56 (by decide) (by have := bI_r (c := hasB (h (b + 13)) (h (b + 17) (3 * ↑k)) (h (b + 17) (3 * ↑k + 1)) = true); omega) (by omega) (fun c_56 => ?_) (fun c_56 => ?_)
          · refine r_iinc_1 (pc := 61) dX8_isAllSo_61 rfl ?_
            refine r_goto (pc := 64) (tgt := 2) dX8_isAllSo_64 (by decide) ?_
            refine ih _ (by omega) ((k : Int) + 1) _ rfl (by omega) ?_
            rw [show ((k : Int) + 1).toNat = k + 1 by omega, e1, hs, Bool.true_and, decide_eq_true_iff]
            first
            | exact ⟨fun _ => c_48, fun _ => by by_cases z : hasB (h (b + 13)) (h (b + 17) (3 * ↑k)) (h (b + 17) (3 * ↑k + 1)) = true; exact z; (rw [bI_f z] at c_56; omega)⟩
            | exact ⟨fun z => by rw [bI_t z] at c_56; omega, fun z => absurd z c_48⟩
          · refine r_iconst (pc := 59) dX8_isAllSo_59 ?_
            refine r_zret (pc := 60) hret dX8_isAllSo_60 rfl rfl rfl (by first | exact Or.inl rfl | exact Or.inr rfl | exact bI_01 | omega) ?_
            first
            | (have hk : (k : Int) = h b 19 := by omega
               rw [← hk, show ((k : Int)).toNat = k by omega, hs] at hQ
               exact hQ)
            | (have e9 : alk (h (b + 13)) (h (b + 17)) (k + 1) = false := by
                 rw [e1, hs, Bool.true_and, decide_eq_false_iff_not]
                 first
                 | exact fun z => c_56 (bI_t (z.mpr c_48))
                 | exact fun z => c_56 (bI_f (fun y => c_48 (z.mp y)))
               have e8 := alk_st _ _ (k + 1) e9 ((h b 19).toNat - (k + 1))
               rw [show k + 1 + ((h b 19).toNat - (k + 1)) = (h b 19).toNat by omega] at e8
               rw [e8] at hQ
               exact hQ)
        · refine r_iconst (pc := 51) dX8_isAllSo_51 ?_
          refine r_goto (pc := 52) (tgt := 56) dX8_isAllSo_52 (by decide) ?_
          refine r_icmp_eq (pc := 56) (tgt := 61) dX8_isAllSo_56 (by decide) (by have := bI_r (c := hasB (h (b + 13)) (h (b + 17) (3 * ↑k)) (h (b + 17) (3 * ↑k + 1)) = true); omega) (by omega) (fun c_56 => ?_) (fun c_56 => ?_)
          · refine r_iinc_1 (pc := 61) dX8_isAllSo_61 rfl ?_
            refine r_goto (pc := 64) (tgt := 2) dX8_isAllSo_64 (by decide) ?_
            refine ih _ (by omega) ((k : Int) + 1) _ rfl (by omega) ?_
            rw [show ((k : Int) + 1).toNat = k + 1 by omega, e1, hs, Bool.true_and, decide_eq_true_iff]
            first
            | exact ⟨fun _ => c_48, fun _ => by by_cases z : hasB (h (b + 13)) (h (b + 17) (3 * ↑k)) (h (b + 17) (3 * ↑k + 1)) = true; exact z; (rw [bI_f z] at c_56; omega)⟩
            | exact ⟨fun z => by rw [bI_t z] at c_56; omega, fun z => absurd z c_48⟩
          · refine r_iconst (pc := 59) dX8_isAllSo_59 ?_
            refine r_zret (pc := 60) hret dX8_isAllSo_60 rfl rfl rfl (by first | exact Or.inl rfl | exact Or.inr rfl | exact bI_01 | omega) ?_
            first
            | (have hk : (k : Int) = h b 19 := by omega
               rw [← hk, show ((k : Int)).toNat = k by omega, hs] at hQ
               exact hQ)
            | (have e9 : alk (h (b + 13)) (h (b + 17)) (k + 1) = false := by
                 rw [e1, hs, Bool.true_and, decide_eq_false_iff_not]
                 first
                 | exact fun z => c_56 (bI_t (z.mpr c_48))
                 | exact fun z => c_56 (bI_f (fun y => c_48 (z.mp y)))
               have e8 := alk_st _ _ (k + 1) e9 ((h b 19).toNat - (k + 1))
               rw [show k + 1 + ((h b 19).toNat - (k + 1)) = (h b 19).toNat by omega] at e8
               rw [e8] at hQ
               exact hQ)
  refine r_iconst (pc := 0) dX8_isAllSo_0 ?_
  refine r_istore_1 (pc := 1) dX8_isAllSo_1 rfl ?_
  exact lp _ 0 _ rfl (by omega) rfl

theorem dX8_takesPart_0 : decode cX8_takesPart 0 = .ok (.aload_n 0, 1) := by decide +kernel
theorem dX8_takesPart_1 : decode cX8_takesPart 1 = .ok (.getfield 13, 3) := by decide +kernel
theorem dX8_takesPart_4 : decode cX8_takesPart 4 = .ok (.bipush 22, 2) := by decide +kernel
theorem dX8_takesPart_6 : decode cX8_takesPart 6 = .ok (.iload_n 1, 1) := by decide +kernel
theorem dX8_takesPart_7 : decode cX8_takesPart 7 = .ok (.iadd, 1) := by decide +kernel
theorem dX8_takesPart_8 : decode cX8_takesPart 8 = .ok (.iaload, 1) := by decide +kernel
theorem dX8_takesPart_9 : decode cX8_takesPart 9 = .ok (.ifCond .le 31, 3) := by decide +kernel
theorem dX8_takesPart_12 : decode cX8_takesPart 12 = .ok (.aload_n 0, 1) := by decide +kernel
theorem dX8_takesPart_13 : decode cX8_takesPart 13 = .ok (.getfield 13, 3) := by decide +kernel
theorem dX8_takesPart_16 : decode cX8_takesPart 16 = .ok (.bipush 66, 2) := by decide +kernel
theorem dX8_takesPart_18 : decode cX8_takesPart 18 = .ok (.iload_n 1, 1) := by decide +kernel
theorem dX8_takesPart_19 : decode cX8_takesPart 19 = .ok (.iadd, 1) := by decide +kernel
theorem dX8_takesPart_20 : decode cX8_takesPart 20 = .ok (.iaload, 1) := by decide +kernel
theorem dX8_takesPart_21 : decode cX8_takesPart 21 = .ok (.ifCond .le 19, 3) := by decide +kernel
theorem dX8_takesPart_24 : decode cX8_takesPart 24 = .ok (.aload_n 0, 1) := by decide +kernel
theorem dX8_takesPart_25 : decode cX8_takesPart 25 = .ok (.getfield 13, 3) := by decide +kernel
theorem dX8_takesPart_28 : decode cX8_takesPart 28 = .ok (.bipush 88, 2) := by decide +kernel
theorem dX8_takesPart_30 : decode cX8_takesPart 30 = .ok (.iload_n 1, 1) := by decide +kernel
theorem dX8_takesPart_31 : decode cX8_takesPart 31 = .ok (.iadd, 1) := by decide +kernel
theorem dX8_takesPart_32 : decode cX8_takesPart 32 = .ok (.iaload, 1) := by decide +kernel
theorem dX8_takesPart_33 : decode cX8_takesPart 33 = .ok (.ifCond .ne 7, 3) := by decide +kernel
theorem dX8_takesPart_36 : decode cX8_takesPart 36 = .ok (.iconst 1, 1) := by decide +kernel
theorem dX8_takesPart_37 : decode cX8_takesPart 37 = .ok (.goto 4, 3) := by decide +kernel
theorem dX8_takesPart_40 : decode cX8_takesPart 40 = .ok (.iconst 0, 1) := by decide +kernel
theorem dX8_takesPart_41 : decode cX8_takesPart 41 = .ok (.ireturn, 1) := by decide +kernel
set_option maxHeartbeats 4000000 in
set_option maxRecDepth 20000 in
theorem c_X8_takesPart : ConI mX8_takesPart (fun args N lay r h Q => ∃ (b : Nat) (mp : Int → Int) (d : Int), args = [.ref b, vI d] ∧ MdAt lay r b ∧ h (b + 2) = mp ∧ (10 ≤ d ∧ d < 22) ∧ Q (bI (tp mp d = true)) N lay r h) := by
  refine ConI.of (by decide) (by rintro _ N lay r h Q ⟨b, mp, d, rfl, hM, hmp, hd, hQ⟩; exact ⟨rfl, Nat.le_of_ble_eq_true rfl⟩) ?_
  rintro E _ N lay r h Q ⟨b, mp, d, rfl, hM, hmp, hd, hQ⟩ hret
  obtain ⟨ml0, ml1, ml2, ml3, ml4, ml5, ml6, ml7, ml8, ml9, ml10, ml11, ml12, ml13, ml14, ml15, ml16, ml17, ml18, ml19, ml20, mr1, mr2, mr3, mr4, mr5, mr6, mr7, mr8, mr9, mr10, mr11, mr12, mr13, mr14, mr15, mr16, mr17, mr18, mr19, mr20⟩ := id hM
  show St E mX8_takesPart 0 [some (.ref b), some (vI d)] [] (0, 0) N lay r h
  refine r_aload_0 (pc := 0) dX8_takesPart_0 ?_
  refine gf_X8_13 (pc := 1) rfl (by assumption) dX8_takesPart_1 (by assumption) ?_
  refine r_bipush (pc := 4) dX8_takesPart_4 (by decide) ?_
  refine r_iload_1 (pc := 6) dX8_takesPart_6 ?_
  refine r_iadd (pc := 7) dX8_takesPart_7 ?_
  refine r_ialdE (pc := 8) (by assumption) (by first | assumption | exact rfl) dX8_takesPart_8 (by omega) (by omega) (fun i_8 => ?_)
  refine r_if_le (pc := 9) (tgt := 40) dX8_takesPart_9 (by decide) (by omega) (fun c_9 => ?_) (fun c_9 => ?_)
  · refine r_iconst (pc := 40) dX8_takesPart_40 ?_
    refine r_zret (pc := 41) hret dX8_takesPart_41 rfl rfl rfl (by first | exact Or.inl rfl | exact Or.inr rfl | exact bI_01 | omega) ?_
    first | (rw [bI_t (tp_iff.mpr ⟨c_9, c_21, c_33⟩)] at hQ; exact hQ) | (rw [bI_f (fun z => by have := (tp_iff.mp z).1; omega)] at hQ; exact hQ) | (rw [bI_f (fun z => by have := (tp_iff.mp z).2.1; omega)] at hQ; exact hQ) | (rw [bI_f (fun z => c_33 (tp_iff.mp z).2.2)] at hQ; exact hQ)
  · refine r_aload_0 (pc := 12) dX8_takesPart_12 ?_
    refine gf_X8_13 (pc := 13) rfl (by assumption) dX8_takesPart_13 (by assumption) ?_
    refine r_bipush (pc := 16) dX8_takesPart_16 (by decide) ?_
    refine r_iload_1 (pc := 18) dX8_takesPart_18 ?_
    refine r_iadd (pc := 19) dX8_takesPart_19 ?_
    refine r_ialdE (pc := 20) (by assumption) (by first | assumption | exact rfl) dX8_takesPart_20 (by omega) (by omega) (fun i_20 => ?_)
    refine r_if_le (pc := 21) (tgt := 40) dX8_takesPart_21 (by decide) (by omega) (fun c_21 => ?_) (fun c_21 => ?_)
    · refine r_iconst (pc := 40) dX8_takesPart_40 ?_
      refine r_zret (pc := 41) hret dX8_takesPart_41 rfl rfl rfl (by first | exact Or.inl rfl | exact Or.inr rfl | exact bI_01 | omega) ?_
      first | (rw [bI_t (tp_iff.mpr ⟨c_9, c_21, c_33⟩)] at hQ; exact hQ) | (rw [bI_f (fun z => by have := (tp_iff.mp z).1; omega)] at hQ; exact hQ) | (rw [bI_f (fun z => by have := (tp_iff.mp z).2.1; omega)] at hQ; exact hQ) | (rw [bI_f (fun z => c_33 (tp_iff.mp z).2.2)] at hQ; exact hQ)
    · refine r_aload_0 (pc := 24) dX8_takesPart_24 ?_
      refine gf_X8_13 (pc := 25) rfl (by assumption) dX8_takesPart_25 (by assumption) ?_
      refine r_bipush (pc := 28) dX8_takesPart_28 (by decide) ?_
      refine r_iload_1 (pc := 30) dX8_takesPart_30 ?_
      refine r_iadd (pc := 31) dX8_takesPart_31 ?_
      refine r_ialdE (pc := 32) (by assumption) (by first | assumption | exact rfl) dX8_takesPart_32 (by omega) (by omega) (fun i_32 => ?_)
      refine r_if_ne (pc := 33) (tgt := 40) dX8_takesPart_33 (by decide) (by omega) (fun c_33 => ?_) (fun c_33 => ?_)
      · refine r_iconst (pc := 40) dX8_takesPart_40 ?_
        refine r_zret (pc := 41) hret dX8_takesPart_41 rfl rfl rfl (by first | exact Or.inl rfl | exact Or.inr rfl | exact bI_01 | omega) ?_
        first | (rw [bI_t (tp_iff.mpr ⟨c_9, c_21, c_33⟩)] at hQ; exact hQ) | (rw [bI_f (fun z => by have := (tp_iff.mp z).1; omega)] at hQ; exact hQ) | (rw [bI_f (fun z => by have := (tp_iff.mp z).2.1; omega)] at hQ; exact hQ) | (rw [bI_f (fun z => c_33 (tp_iff.mp z).2.2)] at hQ; exact hQ)
      · refine r_iconst (pc := 36) dX8_takesPart_36 ?_
        refine r_goto (pc := 37) (tgt := 41) dX8_takesPart_37 (by decide) ?_
        refine r_zret (pc := 41) hret dX8_takesPart_41 rfl rfl rfl (by first | exact Or.inl rfl | exact Or.inr rfl | exact bI_01 | omega) ?_
        first | (rw [bI_t (tp_iff.mpr ⟨c_9, c_21, c_33⟩)] at hQ; exact hQ) | (rw [bI_f (fun z => by have := (tp_iff.mp z).1; omega)] at hQ; exact hQ) | (rw [bI_f (fun z => by have := (tp_iff.mp z).2.1; omega)] at hQ; exact hQ) | (rw [bI_f (fun z => c_33 (tp_iff.mp z).2.2)] at hQ; exact hQ)

theorem dX8_spreadOf_0 : decode cX8_spreadOf 0 = .ok (.iconst (-1), 1) := by decide +kernel
theorem dX8_spreadOf_1 : decode cX8_spreadOf 1 = .ok (.istore_n 2, 1) := by decide +kernel
theorem dX8_spreadOf_2 : decode cX8_spreadOf 2 = .ok (.bipush 17, 2) := by decide +kernel
theorem dX8_spreadOf_4 : decode cX8_spreadOf 4 = .ok (.istore_n 3, 1) := by decide +kernel
theorem dX8_spreadOf_5 : decode cX8_spreadOf 5 = .ok (.bipush 10, 2) := by decide +kernel
theorem dX8_spreadOf_7 : decode cX8_spreadOf 7 = .ok (.istore 4, 2) := by decide +kernel
theorem dX8_spreadOf_9 : decode cX8_spreadOf 9 = .ok (.iload 4, 2) := by decide +kernel
theorem dX8_spreadOf_11 : decode cX8_spreadOf 11 = .ok (.bipush 10, 2) := by decide +kernel
theorem dX8_spreadOf_13 : decode cX8_spreadOf 13 = .ok (.aload_n 0, 1) := by decide +kernel
theorem dX8_spreadOf_14 : decode cX8_spreadOf 14 = .ok (.getfield 13, 3) := by decide +kernel
theorem dX8_spreadOf_17 : decode cX8_spreadOf 17 = .ok (.sipush 130, 3) := by decide +kernel
theorem dX8_spreadOf_20 : decode cX8_spreadOf 20 = .ok (.iaload, 1) := by decide +kernel
theorem dX8_spreadOf_21 : decode cX8_spreadOf 21 = .ok (.iadd, 1) := by decide +kernel
theorem dX8_spreadOf_22 : decode cX8_spreadOf 22 = .ok (.if_icmp .ge 52, 3) := by decide +kernel
theorem dX8_spreadOf_25 : decode cX8_spreadOf 25 = .ok (.aload_n 0, 1) := by decide +kernel
theorem dX8_spreadOf_26 : decode cX8_spreadOf 26 = .ok (.iload 4, 2) := by decide +kernel
theorem dX8_spreadOf_28 : decode cX8_spreadOf 28 = .ok (.invokevirtual 212, 3) := by decide +kernel
theorem dX8_spreadOf_31 : decode cX8_spreadOf 31 = .ok (.ifCond .eq 37, 3) := by decide +kernel
theorem dX8_spreadOf_34 : decode cX8_spreadOf 34 = .ok (.aload_n 1, 1) := by decide +kernel
theorem dX8_spreadOf_35 : decode cX8_spreadOf 35 = .ok (.iload 4, 2) := by decide +kernel
theorem dX8_spreadOf_37 : decode cX8_spreadOf 37 = .ok (.invokestatic 215, 3) := by decide +kernel
theorem dX8_spreadOf_40 : decode cX8_spreadOf 40 = .ok (.istore 5, 2) := by decide +kernel
theorem dX8_spreadOf_42 : decode cX8_spreadOf 42 = .ok (.iload 5, 2) := by decide +kernel
theorem dX8_spreadOf_44 : decode cX8_spreadOf 44 = .ok (.iload_n 2, 1) := by decide +kernel
theorem dX8_spreadOf_45 : decode cX8_spreadOf 45 = .ok (.if_icmp .le 8, 3) := by decide +kernel
theorem dX8_spreadOf_48 : decode cX8_spreadOf 48 = .ok (.iload 5, 2) := by decide +kernel
theorem dX8_spreadOf_50 : decode cX8_spreadOf 50 = .ok (.goto 4, 3) := by decide +kernel
theorem dX8_spreadOf_53 : decode cX8_spreadOf 53 = .ok (.iload_n 2, 1) := by decide +kernel
theorem dX8_spreadOf_54 : decode cX8_spreadOf 54 = .ok (.istore_n 2, 1) := by decide +kernel
theorem dX8_spreadOf_55 : decode cX8_spreadOf 55 = .ok (.iload 5, 2) := by decide +kernel
theorem dX8_spreadOf_57 : decode cX8_spreadOf 57 = .ok (.iload_n 3, 1) := by decide +kernel
theorem dX8_spreadOf_58 : decode cX8_spreadOf 58 = .ok (.if_icmp .ge 8, 3) := by decide +kernel
theorem dX8_spreadOf_61 : decode cX8_spreadOf 61 = .ok (.iload 5, 2) := by decide +kernel
theorem dX8_spreadOf_63 : decode cX8_spreadOf 63 = .ok (.goto 4, 3) := by decide +kernel
theorem dX8_spreadOf_66 : decode cX8_spreadOf 66 = .ok (.iload_n 3, 1) := by decide +kernel
theorem dX8_spreadOf_67 : decode cX8_spreadOf 67 = .ok (.istore_n 3, 1) := by decide +kernel
theorem dX8_spreadOf_68 : decode cX8_spreadOf 68 = .ok (.iinc 4 1, 3) := by decide +kernel
theorem dX8_spreadOf_71 : decode cX8_spreadOf 71 = .ok (.goto (-62), 3) := by decide +kernel
theorem dX8_spreadOf_74 : decode cX8_spreadOf 74 = .ok (.iload_n 2, 1) := by decide +kernel
theorem dX8_spreadOf_75 : decode cX8_spreadOf 75 = .ok (.ifCond .ge 7, 3) := by decide +kernel
theorem dX8_spreadOf_78 : decode cX8_spreadOf 78 = .ok (.iconst 0, 1) := by decide +kernel
theorem dX8_spreadOf_79 : decode cX8_spreadOf 79 = .ok (.goto 6, 3) := by decide +kernel
theorem dX8_spreadOf_82 : decode cX8_spreadOf 82 = .ok (.iload_n 2, 1) := by decide +kernel
theorem dX8_spreadOf_83 : decode cX8_spreadOf 83 = .ok (.iload_n 3, 1) := by decide +kernel
theorem dX8_spreadOf_84 : decode cX8_spreadOf 84 = .ok (.isub, 1) := by decide +kernel
theorem dX8_spreadOf_85 : decode cX8_spreadOf 85 = .ok (.ireturn, 1) := by decide +kernel
set_option maxHeartbeats 4000000 in
set_option maxRecDepth 20000 in
theorem c_X8_spreadOf : ConI mX8_spreadOf (fun args N lay r h Q => ∃ (b : Nat) (mp : Int → Int) (a : Nat), args = [.ref b, .ref a] ∧ MdAt lay r b ∧ h (b + 2) = mp ∧ (0 ≤ mp 130 ∧ mp 130 ≤ 12) ∧ lay a = (10, 64) ∧ Q (spr mp (h a)) N lay r h) := by
  refine ConI.of (by decide) (by rintro _ N lay r h Q ⟨b, mp, a, rfl, hM, hmp, h13, hla, hQ⟩; exact ⟨rfl, Nat.le_of_ble_eq_true rfl⟩) ?_
  rintro E _ N lay r h Q ⟨b, mp, a, rfl, hM, hmp, h13, hla, hQ⟩ hret
  obtain ⟨ml0, ml1, ml2, ml3, ml4, ml5, ml6, ml7, ml8, ml9, ml10, ml11, ml12, ml13, ml14, ml15, ml16, ml17, ml18, ml19, ml20, mr1, mr2, mr3, mr4, mr5, mr6, mr7, mr8, mr9, mr10, mr11, mr12, mr13, mr14, mr15, mr16, mr17, mr18, mr19, mr20⟩ := id hM
  show St E mX8_spreadOf 0 [some (.ref b), some (.ref a), none, none, none, none] [] (0, 0) N lay r h
  have lp : ∀ (n_ : Nat) (d : Int) (mo : Int) (fe : Int) (x5 : Option Value), (22 - d).toNat = n_ → (10 ≤ d ∧ d ≤ 10 + mp 130) → (mo = (spk mp (h a) (d - 10).toNat).1) → (fe = (spk mp (h a) (d - 10).toNat).2) → St E mX8_spreadOf 9 [some (.ref b), some (.ref a), some (vI mo), some (vI fe), some (vI d), x5] [] (0, 0) N lay r h := by
    intro  n_
    induction n_ using Nat.strongRecOn with
    | ind n_ ih =>
      intro d mo fe x5 hn_ hd hm hf
      obtain ⟨k, rfl⟩ : ∃ k : Nat, d = 10 + k := ⟨(d - 10).toNat, by omega⟩
      rw [show (10 + (k : Int) - 10).toNat = k by omega] at hm hf
      have sr := spk_r mp (h a) k
      have gr := gof_r (h a) (10 + (k : Int))
      have e1 : spk mp (h a) (k + 1) = if tp mp (10 + k) = true then ((if (spk mp (h a) k).1 < gof (h a) (10 + k) then gof (h a) (10 + k) else (spk mp (h a) k).1), (if gof (h a) (10 + k) < (spk mp (h a) k).2 then gof (h a) (10 + k) else (spk mp (h a) k).2)) else spk mp (h a) k := rfl
      have mr : -1 ≤ mo ∧ mo ≤ 16 := by rw [hm]; omega
      have fr : 0 ≤ fe ∧ fe ≤ 17 := by rw [hf]; omega
      refine r_iload_4 (pc := 9) dX8_spreadOf_9 ?_
      refine r_bipush (pc := 11) dX8_spreadOf_11 (by decide) ?_
      refine r_aload_0 (pc := 13) dX8_spreadOf_13 ?_
      refine gf_X8_13 (pc := 14) rfl (by assumption) dX8_spreadOf_14 (by assumption) ?_
      refine r_sipush (pc := 17) dX8_spreadOf_17 (by decide) ?_
      refine r_ialdE (pc := 20) (by assumption) (by first | assumption | exact rfl) dX8_spreadOf_20 (by omega) (by omega) (fun i_20 => ?_)
      refine r_iadd (pc := 21) dX8_spreadOf_21 ?_
      refine r_icmp_ge (pc := 22) (tgt := 74) dX8_spreadOf_22 (by decide) (by omega) (by omega) (fun c_22 => ?_) (fun c_22 => ?_)
      · refine r_iload_2 (pc := 74) dX8_spreadOf_74 ?_
        refine r_if_ge (pc := 75) (tgt := 82) dX8_spreadOf_75 (by decide) (by omega) (fun c_75 => ?_) (fun c_75 => ?_)
        · refine r_iload_2 (pc := 82) dX8_spreadOf_82 ?_
          refine r_iload_3 (pc := 83) dX8_spreadOf_83 ?_
          refine r_isub (pc := 84) dX8_spreadOf_84 ?_
          refine r_iret (pc := 85) hret dX8_spreadOf_85 rfl rfl rfl ?_
          have hk : (k : Int) = mp 130 := by omega
          unfold spr at hQ
          rw [← hk, show ((k : Int)).toNat = k by omega, ← hm, ← hf] at hQ
          first | (rw [if_pos (by omega)] at hQ; exact hQ) | (rw [if_neg (by omega)] at hQ; exact hQ)
        · refine r_iconst (pc := 78) dX8_spreadOf_78 ?_
          refine r_goto (pc := 79) (tgt := 85) dX8_spreadOf_79 (by decide) ?_
          refine r_iret (pc := 85) hret dX8_spreadOf_85 rfl rfl rfl ?_
          have hk : (k : Int) = mp 130 := by omega
          unfold spr at hQ
          rw [← hk, show ((k : Int)).toNat = k by omega, ← hm, ← hf] at hQ
          first | (rw [if_pos (by omega)] at hQ; exact hQ) | (rw [if_neg (by omega)] at hQ; exact hQ)
      · refine r_aload_0 (pc := 25) dX8_spreadOf_25 ?_
        refine r_iload_4 (pc := 26) dX8_spreadOf_26 ?_
        refine k_VI1 (pc := 28) c_X8_takesPart lk_X8_212 ⟨Nat.le_of_ble_eq_true rfl, Nat.le_of_ble_eq_true rfl⟩ ⟨rfl, rfl⟩ ⟨Nat.le_of_ble_eq_true rfl, Nat.le_of_ble_eq_true rfl⟩ (k := 8) rfl (by decide) (by assumption) dX8_spreadOf_28 (Nat.le_of_ble_eq_true rfl) ?_
        refine ⟨_, _, _, rfl, by assumption, by first | assumption | exact rfl, by omega, ?_⟩
        refine r_ifeq_b (pc := 31) (tgt := 68) dX8_spreadOf_31 (by decide) (fun c_31 => ?_) (fun c_31 => ?_)
        · refine r_iinc_4 (pc := 68) dX8_spreadOf_68 rfl ?_
          refine r_goto (pc := 71) (tgt := 9) dX8_spreadOf_71 (by decide) ?_
          first
          | (refine ih _ (by omega) (10 + (k : Int) + 1) _ _ _ rfl (by omega) ?_ ?_
             · rw [show (10 + (k : Int) + 1 - 10).toNat = k + 1 by omega, e1, if_neg c_31]; exact hm
             · rw [show (10 + (k : Int) + 1 - 10).toNat = k + 1 by omega, e1, if_neg c_31]; exact hf)
          | (refine ih _ (by omega) (10 + (k : Int) + 1) _ _ _ rfl (by omega) ?_ ?_
             · rw [show (10 + (k : Int) + 1 - 10).toNat = k + 1 by omega, e1, if_pos c_31]; dsimp only; rw [← hm]; first | rw [if_pos c_45] | rw [if_neg (by omega)]
             · rw [show (10 + (k : Int) + 1 - 10).toNat = k + 1 by omega, e1, if_pos c_31]; dsimp only; rw [← hf]; first | rw [if_pos c_58] | rw [if_neg (by omega)])
        · refine r_aload_1 (pc := 34) dX8_spreadOf_34 ?_
          refine r_iload_4 (pc := 35) dX8_spreadOf_35 ?_
          refine k_SI2 (pc := 37) c_X8_groupsOf lk_X8_215 ⟨Nat.le_of_ble_eq_true rfl, Nat.le_of_ble_eq_true rfl⟩ ⟨rfl, rfl⟩ ⟨Nat.le_of_ble_eq_true rfl, Nat.le_of_ble_eq_true rfl⟩ dX8_spreadOf_37 (Nat.le_of_ble_eq_true rfl) ?_
          refine ⟨_, _, rfl, by assumption, by omega, ?_⟩
          rw [show sm (fun g => bI (hasB (h a) g (10 + (k : Int)) = true)) 16 = gof (h a) (10 + k) from rfl]
          refine r_istore_5 (pc := 40) dX8_spreadOf_40 rfl ?_
          refine r_iload_5 (pc := 42) dX8_spreadOf_42 ?_
          refine r_iload_2 (pc := 44) dX8_spreadOf_44 ?_
          refine r_icmp_le (pc := 45) (tgt := 53) dX8_spreadOf_45 (by decide) (by omega) (by omega) (fun c_45 => ?_) (fun c_45 => ?_)
          · refine r_iload_2 (pc := 53) dX8_spreadOf_53 ?_
            refine r_istore_2 (pc := 54) dX8_spreadOf_54 rfl ?_
            refine r_iload_5 (pc := 55) dX8_spreadOf_55 ?_
            refine r_iload_3 (pc := 57) dX8_spreadOf_57 ?_
            refine r_icmp_ge (pc := 58) (tgt := 66) dX8_spreadOf_58 (by decide) (by omega) (by omega) (fun c_58 => ?_) (fun c_58 => ?_)
            · refine r_iload_3 (pc := 66) dX8_spreadOf_66 ?_
              refine r_istore_3 (pc := 67) dX8_spreadOf_67 rfl ?_
              refine r_iinc_4 (pc := 68) dX8_spreadOf_68 rfl ?_
              refine r_goto (pc := 71) (tgt := 9) dX8_spreadOf_71 (by decide) ?_
              first
              | (refine ih _ (by omega) (10 + (k : Int) + 1) _ _ _ rfl (by omega) ?_ ?_
                 · rw [show (10 + (k : Int) + 1 - 10).toNat = k + 1 by omega, e1, if_neg c_31]; exact hm
                 · rw [show (10 + (k : Int) + 1 - 10).toNat = k + 1 by omega, e1, if_neg c_31]; exact hf)
              | (refine ih _ (by omega) (10 + (k : Int) + 1) _ _ _ rfl (by omega) ?_ ?_
                 · rw [show (10 + (k : Int) + 1 - 10).toNat = k + 1 by omega, e1, if_pos c_31]; dsimp only; rw [← hm]; first | rw [if_pos c_45] | rw [if_neg (by omega)]
                 · rw [show (10 + (k : Int) + 1 - 10).toNat = k + 1 by omega, e1, if_pos c_31]; dsimp only; rw [← hf]; first | rw [if_pos c_58] | rw [if_neg (by omega)])
            · refine r_iload_5 (pc := 61) dX8_spreadOf_61 ?_
              refine r_goto (pc := 63) (tgt := 67) dX8_spreadOf_63 (by decide) ?_
              refine r_istore_3 (pc := 67) dX8_spreadOf_67 rfl ?_
              refine r_iinc_4 (pc := 68) dX8_spreadOf_68 rfl ?_
              refine r_goto (pc := 71) (tgt := 9) dX8_spreadOf_71 (by decide) ?_
              first
              | (refine ih _ (by omega) (10 + (k : Int) + 1) _ _ _ rfl (by omega) ?_ ?_
                 · rw [show (10 + (k : Int) + 1 - 10).toNat = k + 1 by omega, e1, if_neg c_31]; exact hm
                 · rw [show (10 + (k : Int) + 1 - 10).toNat = k + 1 by omega, e1, if_neg c_31]; exact hf)
              | (refine ih _ (by omega) (10 + (k : Int) + 1) _ _ _ rfl (by omega) ?_ ?_
                 · rw [show (10 + (k : Int) + 1 - 10).toNat = k + 1 by omega, e1, if_pos c_31]; dsimp only; rw [← hm]; first | rw [if_pos c_45] | rw [if_neg (by omega)]
                 · rw [show (10 + (k : Int) + 1 - 10).toNat = k + 1 by omega, e1, if_pos c_31]; dsimp only; rw [← hf]; first | rw [if_pos c_58] | rw [if_neg (by omega)])
          · refine r_iload_5 (pc := 48) dX8_spreadOf_48 ?_
            refine r_goto (pc := 50) (tgt := 54) dX8_spreadOf_50 (by decide) ?_
            refine r_istore_2 (pc := 54) dX8_spreadOf_54 rfl ?_
            refine r_iload_5 (pc := 55) dX8_spreadOf_55 ?_
            refine r_iload_3 (pc := 57) dX8_spreadOf_57 ?_
            refine r_icmp_ge (pc := 58) (tgt := 66) dX8_spreadOf_58 (by decide) (by omega) (by omega) (fun c_58 => ?_) (fun c_58 => ?_)
            · refine r_iload_3 (pc := 66) dX8_spreadOf_66 ?_
              refine r_istore_3 (pc := 67) dX8_spreadOf_67 rfl ?_
              refine r_iinc_4 (pc := 68) dX8_spreadOf_68 rfl ?_
              refine r_goto (pc := 71) (tgt := 9) dX8_spreadOf_71 (by decide) ?_
              first
              | (refine ih _ (by omega) (10 + (k : Int) + 1) _ _ _ rfl (by omega) ?_ ?_
                 · rw [show (10 + (k : Int) + 1 - 10).toNat = k + 1 by omega, e1, if_neg c_31]; exact hm
                 · rw [show (10 + (k : Int) + 1 - 10).toNat = k + 1 by omega, e1, if_neg c_31]; exact hf)
              | (refine ih _ (by omega) (10 + (k : Int) + 1) _ _ _ rfl (by omega) ?_ ?_
                 · rw [show (10 + (k : Int) + 1 - 10).toNat = k + 1 by omega, e1, if_pos c_31]; dsimp only; rw [← hm]; first | rw [if_pos c_45] | rw [if_neg (by omega)]
                 · rw [show (10 + (k : Int) + 1 - 10).toNat = k + 1 by omega, e1, if_pos c_31]; dsimp only; rw [← hf]; first | rw [if_pos c_58] | rw [if_neg (by omega)])
            · refine r_iload_5 (pc := 61) dX8_spreadOf_61 ?_
              refine r_goto (pc := 63) (tgt := 67) dX8_spreadOf_63 (by decide) ?_
              refine r_istore_3 (pc := 67) dX8_spreadOf_67 rfl ?_
              refine r_iinc_4 (pc := 68) dX8_spreadOf_68 rfl ?_
              refine r_goto (pc := 71) (tgt := 9) dX8_spreadOf_71 (by decide) ?_
              first
              | (refine ih _ (by omega) (10 + (k : Int) + 1) _ _ _ rfl (by omega) ?_ ?_
                 · rw [show (10 + (k : Int) + 1 - 10).toNat = k + 1 by omega, e1, if_neg c_31]; exact hm
                 · rw [show (10 + (k : Int) + 1 - 10).toNat = k + 1 by omega, e1, if_neg c_31]; exact hf)
              | (refine ih _ (by omega) (10 + (k : Int) + 1) _ _ _ rfl (by omega) ?_ ?_
                 · rw [show (10 + (k : Int) + 1 - 10).toNat = k + 1 by omega, e1, if_pos c_31]; dsimp only; rw [← hm]; first | rw [if_pos c_45] | rw [if_neg (by omega)]
                 · rw [show (10 + (k : Int) + 1 - 10).toNat = k + 1 by omega, e1, if_pos c_31]; dsimp only; rw [← hf]; first | rw [if_pos c_58] | rw [if_neg (by omega)])
  refine r_iconst (pc := 0) dX8_spreadOf_0 ?_
  refine r_istore_2 (pc := 1) dX8_spreadOf_1 rfl ?_
  refine r_bipush (pc := 2) dX8_spreadOf_2 (by decide) ?_
  refine r_istore_3 (pc := 4) dX8_spreadOf_4 rfl ?_
  refine r_bipush (pc := 5) dX8_spreadOf_5 (by decide) ?_
  refine r_istore_4 (pc := 7) dX8_spreadOf_7 rfl ?_
  exact lp _ 10 (-1) 17 _ rfl (by omega) rfl rfl

theorem dX8_isKept_0 : decode cX8_isKept 0 = .ok (.iload_n 1, 1) := by decide +kernel
theorem dX8_isKept_1 : decode cX8_isKept 1 = .ok (.iconst 1, 1) := by decide +kernel
theorem dX8_isKept_2 : decode cX8_isKept 2 = .ok (.if_icmp .lt 19, 3) := by decide +kernel
theorem dX8_isKept_5 : decode cX8_isKept 5 = .ok (.aload_n 0, 1) := by decide +kernel
theorem dX8_isKept_6 : decode cX8_isKept 6 = .ok (.getfield 19, 3) := by decide +kernel
theorem dX8_isKept_9 : decode cX8_isKept 9 = .ok (.iload_n 1, 1) := by decide +kernel
theorem dX8_isKept_10 : decode cX8_isKept 10 = .ok (.iconst 5, 1) := by decide +kernel
theorem dX8_isKept_11 : decode cX8_isKept 11 = .ok (.irem, 1) := by decide +kernel
theorem dX8_isKept_12 : decode cX8_isKept 12 = .ok (.iaload, 1) := by decide +kernel
theorem dX8_isKept_13 : decode cX8_isKept 13 = .ok (.iload_n 1, 1) := by decide +kernel
theorem dX8_isKept_14 : decode cX8_isKept 14 = .ok (.if_icmp .ne 7, 3) := by decide +kernel
theorem dX8_isKept_17 : decode cX8_isKept 17 = .ok (.iconst 1, 1) := by decide +kernel
theorem dX8_isKept_18 : decode cX8_isKept 18 = .ok (.goto 4, 3) := by decide +kernel
theorem dX8_isKept_21 : decode cX8_isKept 21 = .ok (.iconst 0, 1) := by decide +kernel
theorem dX8_isKept_22 : decode cX8_isKept 22 = .ok (.ireturn, 1) := by decide +kernel
set_option maxHeartbeats 4000000 in
set_option maxRecDepth 20000 in
theorem c_X8_isKept : ConI mX8_isKept (fun args N lay r h Q => ∃ (b : Nat) (e : Int), args = [.ref b, vI e] ∧ MdAt lay r b ∧ (-2147483648 ≤ e ∧ e < 2147483648) ∧ Q (bI (1 ≤ e ∧ h (b + 4) (e % 5) = e)) N lay r h) := by
  refine ConI.of (by decide) (by rintro _ N lay r h Q ⟨b, e, rfl, hM, he, hQ⟩; exact ⟨rfl, Nat.le_of_ble_eq_true rfl⟩) ?_
  rintro E _ N lay r h Q ⟨b, e, rfl, hM, he, hQ⟩ hret
  obtain ⟨ml0, ml1, ml2, ml3, ml4, ml5, ml6, ml7, ml8, ml9, ml10, ml11, ml12, ml13, ml14, ml15, ml16, ml17, ml18, ml19, ml20, mr1, mr2, mr3, mr4, mr5, mr6, mr7, mr8, mr9, mr10, mr11, mr12, mr13, mr14, mr15, mr16, mr17, mr18, mr19, mr20⟩ := id hM
  show St E mX8_isKept 0 [some (.ref b), some (vI e)] [] (0, 0) N lay r h
  refine r_iload_1 (pc := 0) dX8_isKept_0 ?_
  refine r_iconst (pc := 1) dX8_isKept_1 ?_
  refine r_icmp_lt (pc := 2) (tgt := 21) dX8_isKept_2 (by decide) (by omega) (by omega) (fun c_2 => ?_) (fun c_2 => ?_)
  · refine r_iconst (pc := 21) dX8_isKept_21 ?_
    refine r_zret (pc := 22) hret dX8_isKept_22 rfl rfl rfl (by first | exact Or.inl rfl | exact Or.inr rfl | exact bI_01 | omega) ?_
    first | (rw [bI_t ⟨by omega, c_14⟩] at hQ; exact hQ) | (rw [bI_f (fun z => c_14 z.2)] at hQ; exact hQ) | (rw [bI_f (fun z => by have := z.1; omega)] at hQ; exact hQ)
  · refine r_aload_0 (pc := 5) dX8_isKept_5 ?_
    refine gf_X8_19 (pc := 6) rfl (by assumption) dX8_isKept_6 (by assumption) ?_
    refine r_iload_1 (pc := 9) dX8_isKept_9 ?_
    refine r_iconst (pc := 10) dX8_isKept_10 ?_
    refine r_irem (pc := 11) dX8_isKept_11 (by omega) (by omega) ?_
    refine r_ialdE (pc := 12) (by assumption) (by first | assumption | exact rfl) dX8_isKept_12 (by omega) (by omega) (fun i_12 => ?_)
    refine r_iload_1 (pc := 13) dX8_isKept_13 ?_
    refine r_icmp_ne (pc := 14) (tgt := 21) dX8_isKept_14 (by decide) (by omega) (by omega) (fun c_14 => ?_) (fun c_14 => ?_)
    · refine r_iconst (pc := 21) dX8_isKept_21 ?_
      refine r_zret (pc := 22) hret dX8_isKept_22 rfl rfl rfl (by first | exact Or.inl rfl | exact Or.inr rfl | exact bI_01 | omega) ?_
      first | (rw [bI_t ⟨by omega, c_14⟩] at hQ; exact hQ) | (rw [bI_f (fun z => c_14 z.2)] at hQ; exact hQ) | (rw [bI_f (fun z => by have := z.1; omega)] at hQ; exact hQ)
    · refine r_iconst (pc := 17) dX8_isKept_17 ?_
      refine r_goto (pc := 18) (tgt := 22) dX8_isKept_18 (by decide) ?_
      refine r_zret (pc := 22) hret dX8_isKept_22 rfl rfl rfl (by first | exact Or.inl rfl | exact Or.inr rfl | exact bI_01 | omega) ?_
      first | (rw [bI_t ⟨by omega, c_14⟩] at hQ; exact hQ) | (rw [bI_f (fun z => c_14 z.2)] at hQ; exact hQ) | (rw [bI_f (fun z => by have := z.1; omega)] at hQ; exact hQ)

