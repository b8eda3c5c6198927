/-! THE REFERENCE: groups, nodes, shares, counts, weights -/
def plr (mp : Int → Int) : Int → Int := fun j => plc mp (j / 4) (j % 4)
theorem hasB_c {f f' : Int → Int} (h : ∀ j, 0 ≤ j → j < 64 → f j = f' j) {g d : Int} (hg : 0 ≤ g ∧ g < 16) : hasB f g d = hasB f' g d := by
  unfold hasB
  rw [h _ (by omega) (by omega), h _ (by omega) (by omega), h _ (by omega) (by omega), h _ (by omega) (by omega)]
theorem gof_c {f f' : Int → Int} (h : ∀ j, 0 ≤ j → j < 64 → f j = f' j) (d : Int) : gof f d = gof f' d := by
  unfold gof
  exact sm_c (fun k hk => by rw [hasB_c h (by omega)])
theorem spk_c {mp f f' : Int → Int} (h : ∀ j, 0 ≤ j → j < 64 → f j = f' j) : ∀ k, spk mp f k = spk mp f' k
  | 0 => rfl
  | k + 1 => by
    simp only [spk]
    rw [spk_c h k, gof_c h]
theorem spr_c {mp f f' : Int → Int} (h : ∀ j, 0 ≤ j → j < 64 → f j = f' j) : spr mp f = spr mp f' := by
  unfold spr
  rw [spk_c h]
theorem alk_c {f f' row : Int → Int} {n : Int} (h : ∀ j, 0 ≤ j → j < 64 → f j = f' j) (hs : SeI n row) : ∀ k : Nat, (k : Int) ≤ n → alk f row k = alk f' row k
  | 0, _ => rfl
  | k + 1, hk => by
    have s1 := (hs.2 k (by omega) (by omega)).1
    simp only [alk]
    rw [alk_c h hs k (by omega), hasB_c h s1]
theorem spr_r (mp f : Int → Int) : -2147483648 ≤ spr mp f ∧ spr mp f < 2147483648 := by
  have := spk_r mp f (mp 130).toNat
  unfold spr
  split <;> omega
theorem dX8_groups_0 : decode cX8_groups 0 = .ok (.aload_n 0, 1) := by decide +kernel
theorem dX8_groups_1 : decode cX8_groups 1 = .ok (.iload_n 1, 1) := by decide +kernel
theorem dX8_groups_2 : decode cX8_groups 2 = .ok (.invokevirtual 154, 3) := by decide +kernel
theorem dX8_groups_5 : decode cX8_groups 5 = .ok (.ifCond .ne 5, 3) := by decide +kernel
theorem dX8_groups_8 : decode cX8_groups 8 = .ok (.iconst (-1), 1) := by decide +kernel
theorem dX8_groups_9 : decode cX8_groups 9 = .ok (.ireturn, 1) := by decide +kernel
theorem dX8_groups_10 : decode cX8_groups 10 = .ok (.iconst 0, 1) := by decide +kernel
theorem dX8_groups_11 : decode cX8_groups 11 = .ok (.istore_n 2, 1) := by decide +kernel
theorem dX8_groups_12 : decode cX8_groups 12 = .ok (.iconst 0, 1) := by decide +kernel
theorem dX8_groups_13 : decode cX8_groups 13 = .ok (.istore_n 3, 1) := by decide +kernel
theorem dX8_groups_14 : decode cX8_groups 14 = .ok (.iload_n 3, 1) := by decide +kernel
theorem dX8_groups_15 : decode cX8_groups 15 = .ok (.bipush 16, 2) := by decide +kernel
theorem dX8_groups_17 : decode cX8_groups 17 = .ok (.if_icmp .ge 87, 3) := by decide +kernel
theorem dX8_groups_20 : decode cX8_groups 20 = .ok (.iconst 0, 1) := by decide +kernel
theorem dX8_groups_21 : decode cX8_groups 21 = .ok (.istore 4, 2) := by decide +kernel
theorem dX8_groups_23 : decode cX8_groups 23 = .ok (.iconst 0, 1) := by decide +kernel
theorem dX8_groups_24 : decode cX8_groups 24 = .ok (.istore 5, 2) := by decide +kernel
theorem dX8_groups_26 : decode cX8_groups 26 = .ok (.iload 5, 2) := by decide +kernel
theorem dX8_groups_28 : decode cX8_groups 28 = .ok (.iconst 4, 1) := by decide +kernel
theorem dX8_groups_29 : decode cX8_groups 29 = .ok (.if_icmp .ge 54, 3) := by decide +kernel
theorem dX8_groups_32 : decode cX8_groups 32 = .ok (.iload 4, 2) := by decide +kernel
theorem dX8_groups_34 : decode cX8_groups 34 = .ok (.ifCond .ne 36, 3) := by decide +kernel
theorem dX8_groups_37 : decode cX8_groups 37 = .ok (.aload_n 0, 1) := by decide +kernel
theorem dX8_groups_38 : decode cX8_groups 38 = .ok (.getfield 43, 3) := by decide +kernel
theorem dX8_groups_41 : decode cX8_groups 41 = .ok (.iconst 4, 1) := by decide +kernel
theorem dX8_groups_42 : decode cX8_groups 42 = .ok (.iload_n 3, 1) := by decide +kernel
theorem dX8_groups_43 : decode cX8_groups 43 = .ok (.imul, 1) := by decide +kernel
theorem dX8_groups_44 : decode cX8_groups 44 = .ok (.iload 5, 2) := by decide +kernel
theorem dX8_groups_46 : decode cX8_groups 46 = .ok (.iadd, 1) := by decide +kernel
theorem dX8_groups_47 : decode cX8_groups 47 = .ok (.iaload, 1) := by decide +kernel
theorem dX8_groups_48 : decode cX8_groups 48 = .ok (.ifCond .lt 26, 3) := by decide +kernel
theorem dX8_groups_51 : decode cX8_groups 51 = .ok (.aload_n 0, 1) := by decide +kernel
theorem dX8_groups_52 : decode cX8_groups 52 = .ok (.aload_n 0, 1) := by decide +kernel
theorem dX8_groups_53 : decode cX8_groups 53 = .ok (.getfield 43, 3) := by decide +kernel
theorem dX8_groups_56 : decode cX8_groups 56 = .ok (.iconst 4, 1) := by decide +kernel
theorem dX8_groups_57 : decode cX8_groups 57 = .ok (.iload_n 3, 1) := by decide +kernel
theorem dX8_groups_58 : decode cX8_groups 58 = .ok (.imul, 1) := by decide +kernel
theorem dX8_groups_59 : decode cX8_groups 59 = .ok (.iload 5, 2) := by decide +kernel
theorem dX8_groups_61 : decode cX8_groups 61 = .ok (.iadd, 1) := by decide +kernel
theorem dX8_groups_62 : decode cX8_groups 62 = .ok (.iaload, 1) := by decide +kernel
theorem dX8_groups_63 : decode cX8_groups 63 = .ok (.iload_n 1, 1) := by decide +kernel
theorem dX8_groups_64 : decode cX8_groups 64 = .ok (.invokevirtual 150, 3) := by decide +kernel
theorem dX8_groups_67 : decode cX8_groups 67 = .ok (.ifCond .eq 7, 3) := by decide +kernel
theorem dX8_groups_70 : decode cX8_groups 70 = .ok (.iconst 1, 1) := by decide +kernel
theorem dX8_groups_71 : decode cX8_groups 71 = .ok (.goto 4, 3) := by decide +kernel
theorem dX8_groups_74 : decode cX8_groups 74 = .ok (.iconst 0, 1) := by decide +kernel
theorem dX8_groups_75 : decode cX8_groups 75 = .ok (.istore 4, 2) := by decide +kernel
theorem dX8_groups_77 : decode cX8_groups 77 = .ok (.iinc 5 1, 3) := by decide +kernel
theorem dX8_groups_80 : decode cX8_groups 80 = .ok (.goto (-54), 3) := by decide +kernel
theorem dX8_groups_83 : decode cX8_groups 83 = .ok (.iload_n 2, 1) := by decide +kernel
theorem dX8_groups_84 : decode cX8_groups 84 = .ok (.iload 4, 2) := by decide +kernel
theorem dX8_groups_86 : decode cX8_groups 86 = .ok (.ifCond .eq 9, 3) := by decide +kernel
theorem dX8_groups_89 : decode cX8_groups 89 = .ok (.iconst 1, 1) := by decide +kernel
theorem dX8_groups_90 : decode cX8_groups 90 = .ok (.iload_n 3, 1) := by decide +kernel
theorem dX8_groups_91 : decode cX8_groups 91 = .ok (.ishl, 1) := by decide +kernel
theorem dX8_groups_92 : decode cX8_groups 92 = .ok (.goto 4, 3) := by decide +kernel
theorem dX8_groups_95 : decode cX8_groups 95 = .ok (.iconst 0, 1) := by decide +kernel
theorem dX8_groups_96 : decode cX8_groups 96 = .ok (.iadd, 1) := by decide +kernel
theorem dX8_groups_97 : decode cX8_groups 97 = .ok (.istore_n 2, 1) := by decide +kernel
theorem dX8_groups_98 : decode cX8_groups 98 = .ok (.iinc 3 1, 3) := by decide +kernel
theorem dX8_groups_101 : decode cX8_groups 101 = .ok (.goto (-87), 3) := by decide +kernel
theorem dX8_groups_104 : decode cX8_groups 104 = .ok (.iload_n 2, 1) := by decide +kernel
theorem dX8_groups_105 : decode cX8_groups 105 = .ok (.ireturn, 1) := by decide +kernel
set_option maxHeartbeats 4000000 in
set_option maxRecDepth 20000 in
theorem c_X8_groups : ConI mX8_groups (fun args N lay r h Q => ∃ (b : Nat) (mp : Int → Int) (n : Int), args = [.ref b, vI n] ∧ MdAt lay r b ∧ h (b + 2) = mp ∧ TrM mp ∧ RlM mp ∧ (-2147483648 ≤ n ∧ n < 2147483648) ∧ (∀ j, 0 ≤ j → j < 64 → h (b + 12) j = -4 ∨ (10 ≤ h (b + 12) j ∧ h (b + 12) j < 10 + mp 130)) ∧ (¬ (isNd mp n) → Q (-1) N lay r h) ∧ ((isNd mp n) → Q (sm (fun g => if gpk (h (b + 12)) mp n g 4 = true then iSl 1 g else 0) 16) N lay r h)) := by
  refine ConI.of (by decide) (by rintro _ N lay r h Q ⟨b, mp, n, rfl, hM, hmp, hT, hR, hn, hnow, hB, hQ⟩; exact ⟨rfl, Nat.le_of_ble_eq_true rfl⟩) ?_
  rintro E _ N lay r h Q ⟨b, mp, n, rfl, hM, hmp, hT, hR, hn, hnow, hB, hQ⟩ hret
  obtain ⟨ml0, ml1, ml2, ml3, ml4, ml5, ml6, ml7, ml8, ml9, ml10, ml11, ml12, ml13, ml14, ml15, ml16, ml17, ml18, ml19, ml20, mr1, mr2, mr3, mr4, mr5, mr6, mr7, mr8, mr9, mr10, mr11, mr12, mr13, mr14, mr15, mr16, mr17, mr18, mr19, mr20⟩ := id hM
  obtain ⟨t1, t2, t3, t4, t5, t6, t7⟩ := id hT
  obtain ⟨r1, r2, r3, r4, r5, r6, r7⟩ := id hR
  show St E mX8_groups 0 [some (.ref b), some (vI n), none, none, none, none] [] (0, 0) N lay r h
  have inn : ∀ (g : Int) (s : Int) (hg : 0 ≤ g ∧ g < 16) (K : St E mX8_groups 83 [some (.ref b), some (vI n), some (vI s), some (vI g), some (vI (bI (gpk (h (b + 12)) mp n g 4 = true))), some (vI 4)] [] (0, 0) N lay r h) (n_ : Nat) (c : Int), (4 - c).toNat = n_ → (0 ≤ c ∧ c ≤ 4) → St E mX8_groups 26 [some (.ref b), some (vI n), some (vI s), some (vI g), some (vI (bI (gpk (h (b + 12)) mp n g c.toNat = true))), some (vI c)] [] (0, 0) N lay r h := by
    intro g s hg K n_
    induction n_ using Nat.strongRecOn with
    | ind n_ ih =>
      intro c hn_ hc
      obtain ⟨k, rfl⟩ : ∃ k : Nat, c = k := ⟨c.toNat, by omega⟩
      rw [show ((k : Int)).toNat = k by omega]
      have e1 := gpk_s (h (b + 12)) mp n g k
      have nw := hnow (4 * g + k)
      refine r_iload_5 (pc := 26) dX8_groups_26 ?_
      refine r_iconst (pc := 28) dX8_groups_28 ?_
      refine r_icmp_ge (pc := 29) (tgt := 83) dX8_groups_29 (by decide) (by omega) (by omega) (fun c_29 => ?_) (fun c_29 => ?_)
      · have hk : k = 4 := by omega
        subst hk
        exact K
      · refine r_iload_4 (pc := 32) dX8_groups_32 ?_
        refine r_ifne_b (pc := 34) (tgt := 70) dX8_groups_34 (by decide) (fun c_34 => ?_) (fun c_34 => ?_)
        · refine r_iconst (pc := 70) dX8_groups_70 ?_
          refine r_goto (pc := 71) (tgt := 75) dX8_groups_71 (by decide) ?_
          refine r_istore_4 (pc := 75) dX8_groups_75 rfl ?_
          refine r_iinc_5 (pc := 77) dX8_groups_77 rfl ?_
          refine r_goto (pc := 80) (tgt := 26) dX8_groups_80 (by decide) ?_
          have hz := ih _ (show (4 - ((k : Int) + 1)).toNat < n_ by omega) ((k : Int) + 1) rfl (by omega)
          rw [show ((k : Int) + 1).toNat = k + 1 by omega] at hz
          first
          | (have e9 : gpk (h (b + 12)) mp n g (k + 1) = true := by rw [e1, c_34, Bool.true_or]
             rw [bI_t e9] at hz
             exact hz)
          | (have e9 : gpk (h (b + 12)) mp n g (k + 1) = true := by rw [e1, decide_eq_true (And.intro c_48 c_67), Bool.or_true]
             rw [bI_t e9] at hz
             exact hz)
          | (have e9 : ¬ gpk (h (b + 12)) mp n g (k + 1) = true := by
               have e8 : ¬ (0 ≤ h (b + 12) (4 * g + k) ∧ bel mp (h (b + 12) (4 * g + k)) n) := fun z => c_67 z.2
               rw [e1, decide_eq_false e8, Bool.or_false]
               exact c_34
             rw [bI_f e9] at hz
             exact hz)
          | (have e9 : ¬ gpk (h (b + 12)) mp n g (k + 1) = true := by
               have e8 : ¬ (0 ≤ h (b + 12) (4 * g + k) ∧ bel mp (h (b + 12) (4 * g + k)) n) := fun z => by have := z.1; omega
               rw [e1, decide_eq_false e8, Bool.or_false]
               exact c_34
             rw [bI_f e9] at hz
             exact hz)
        · refine r_aload_0 (pc := 37) dX8_groups_37 ?_
          refine gf_X8_43 (pc := 38) rfl (by assumption) dX8_groups_38 (by assumption) ?_
          refine r_iconst (pc := 41) dX8_groups_41 ?_
          refine r_iload_3 (pc := 42) dX8_groups_42 ?_
          refine r_imul (pc := 43) dX8_groups_43 ?_
          refine r_iload_5 (pc := 44) dX8_groups_44 ?_
          refine r_iadd (pc := 46) dX8_groups_46 ?_
          refine r_ialdE (pc := 47) (by assumption) (by first | assumption | exact rfl) dX8_groups_47 (by omega) (by omega) (fun i_47 => ?_)
          refine r_if_lt (pc := 48) (tgt := 74) dX8_groups_48 (by decide) (by omega) (fun c_48 => ?_) (fun c_48 => ?_)
          · refine r_iconst (pc := 74) dX8_groups_74 ?_
            refine r_istore_4 (pc := 75) dX8_groups_75 rfl ?_
            refine r_iinc_5 (pc := 77) dX8_groups_77 rfl ?_
            refine r_goto (pc := 80) (tgt := 26) dX8_groups_80 (by decide) ?_
            have hz := ih _ (show (4 - ((k : Int) + 1)).toNat < n_ by omega) ((k : Int) + 1) rfl (by omega)
            rw [show ((k : Int) + 1).toNat = k + 1 by omega] at hz
            first
            | (have e9 : gpk (h (b + 12)) mp n g (k + 1) = true := by rw [e1, c_34, Bool.true_or]
               rw [bI_t e9] at hz
               exact hz)
            | (have e9 : gpk (h (b + 12)) mp n g (k + 1) = true := by rw [e1, decide_eq_true (And.intro c_48 c_67), Bool.or_true]
               rw [bI_t e9] at hz
               exact hz)
            | (have e9 : ¬ gpk (h (b + 12)) mp n g (k + 1) = true := by
                 have e8 : ¬ (0 ≤ h (b + 12) (4 * g + k) ∧ bel mp (h (b + 12) (4 * g + k)) n) := fun z => c_67 z.2
                 rw [e1, decide_eq_false e8, Bool.or_false]
                 exact c_34
               rw [bI_f e9] at hz
               exact hz)
            | (have e9 : ¬ gpk (h (b + 12)) mp n g (k + 1) = true := by
                 have e8 : ¬ (0 ≤ h (b + 12) (4 * g + k) ∧ bel mp (h (b + 12) (4 * g + k)) n) := fun z => by have := z.1; omega
                 rw [e1, decide_eq_false e8, Bool.or_false]
                 exact c_34
               rw [bI_f e9] at hz
               exact hz)
          · refine r_aload_0 (pc := 51) dX8_groups_51 ?_
            refine r_aload_0 (pc := 52) dX8_groups_52 ?_
            refine gf_X8_43 (pc := 53) rfl (by assumption) dX8_groups_53 (by assumption) ?_
            refine r_iconst (pc := 56) dX8_groups_56 ?_
            refine r_iload_3 (pc := 57) dX8_groups_57 ?_
            refine r_imul (pc := 58) dX8_groups_58 ?_
            refine r_iload_5 (pc := 59) dX8_groups_59 ?_
            refine r_iadd (pc := 61) dX8_groups_61 ?_
            refine r_ialdE (pc := 62) (by assumption) (by first | assumption | exact rfl) dX8_groups_62 (by omega) (by omega) (fun i_62 => ?_)
            refine r_iload_1 (pc := 63) dX8_groups_63 ?_
            have nw2 : isNd mp (h (b + 12) (4 * g + k)) := by have := nw (by omega) (by omega); exact Or.inr (Or.inr (Or.inr (by omega)))
            refine k_VI2 (pc := 64) c_X8_isBelow lk_X8_150 ⟨Nat.le_of_ble_eq_true rfl, Nat.le_of_ble_eq_true rfl⟩ ⟨rfl, rfl⟩ ⟨Nat.le_of_ble_eq_true rfl, Nat.le_of_ble_eq_true rfl⟩ (k := 8) rfl (by decide) (by assumption) dX8_groups_64 (Nat.le_of_ble_eq_true rfl) ?_
            refine ⟨_, _, _, _, rfl, by assumption, by first | assumption | exact rfl, by assumption, by omega, by omega, ?_⟩
            refine r_ifeq_b (pc := 67) (tgt := 74) dX8_groups_67 (by decide) (fun c_67 => ?_) (fun c_67 => ?_)
            · refine r_iconst (pc := 74) dX8_groups_74 ?_
              refine r_istore_4 (pc := 75) dX8_groups_75 rfl ?_
              refine r_iinc_5 (pc := 77) dX8_groups_77 rfl ?_
              refine r_goto (pc := 80) (tgt := 26) dX8_groups_80 (by decide) ?_
              have hz := ih _ (show (4 - ((k : Int) + 1)).toNat < n_ by omega) ((k : Int) + 1) rfl (by omega)
              rw [show ((k : Int) + 1).toNat = k + 1 by omega] at hz
              first
              | (have e9 : gpk (h (b + 12)) mp n g (k + 1) = true := by rw [e1, c_34, Bool.true_or]
                 rw [bI_t e9] at hz
                 exact hz)
              | (have e9 : gpk (h (b + 12)) mp n g (k + 1) = true := by rw [e1, decide_eq_true (And.intro c_48 c_67), Bool.or_true]
                 rw [bI_t e9] at hz
                 exact hz)
              | (have e9 : ¬ gpk (h (b + 12)) mp n g (k + 1) = true := by
                   have e8 : ¬ (0 ≤ h (b + 12) (4 * g + k) ∧ bel mp (h (b + 12) (4 * g + k)) n) := fun z => c_67 z.2
                   rw [e1, decide_eq_false e8, Bool.or_false]
                   exact c_34
                 rw [bI_f e9] at hz
                 exact hz)
              | (have e9 : ¬ gpk (h (b + 12)) mp n g (k + 1) = true := by
                   have e8 : ¬ (0 ≤ h (b + 12) (4 * g + k) ∧ bel mp (h (b + 12) (4 * g + k)) n) := fun z => by have := z.1; omega
                   rw [e1, decide_eq_false e8, Bool.or_false]
                   exact c_34
                 rw [bI_f e9] at hz
                 exact hz)
            · refine r_iconst (pc := 70) dX8_groups_70 ?_
              refine r_goto (pc := 71) (tgt := 75) dX8_groups_71 (by decide) ?_
              refine r_istore_4 (pc := 75) dX8_groups_75 rfl ?_
              refine r_iinc_5 (pc := 77) dX8_groups_77 rfl ?_
              refine r_goto (pc := 80) (tgt := 26) dX8_groups_80 (by decide) ?_
              have hz := ih _ (show (4 - ((k : Int) + 1)).toNat < n_ by omega) ((k : Int) + 1) rfl (by omega)
              rw [show ((k : Int) + 1).toNat = k + 1 by omega] at hz
              first
              | (have e9 : gpk (h (b + 12)) mp n g (k + 1) = true := by rw [e1, c_34, Bool.true_or]
                 rw [bI_t e9] at hz
                 exact hz)
              | (have e9 : gpk (h (b + 12)) mp n g (k + 1) = true := by rw [e1, decide_eq_true (And.intro c_48 c_67), Bool.or_true]
                 rw [bI_t e9] at hz
                 exact hz)
              | (have e9 : ¬ gpk (h (b + 12)) mp n g (k + 1) = true := by
                   have e8 : ¬ (0 ≤ h (b + 12) (4 * g + k) ∧ bel mp (h (b + 12) (4 * g + k)) n) := fun z => c_67 z.2
                   rw [e1, decide_eq_false e8, Bool.or_false]
                   exact c_34
                 rw [bI_f e9] at hz
                 exact hz)
              | (have e9 : ¬ gpk (h (b + 12)) mp n g (k + 1) = true := by
                   have e8 : ¬ (0 ≤ h (b + 12) (4 * g + k) ∧ bel mp (h (b + 12) (4 * g + k)) n) := fun z => by have := z.1; omega
                   rw [e1, decide_eq_false e8, Bool.or_false]
                   exact c_34
                 rw [bI_f e9] at hz
                 exact hz)
  have lp : ∀ (hn0 : isNd mp n) (n_ : Nat) (g : Int) (s : Int) (x4 : Option Value) (x5 : Option Value), (16 - g).toNat = n_ → (0 ≤ g ∧ g ≤ 16) → (s = sm (fun g => if gpk (h (b + 12)) mp n g 4 = true then iSl 1 g else 0) g.toNat) → St E mX8_groups 14 [some (.ref b), some (vI n), some (vI s), some (vI g), x4, x5] [] (0, 0) N lay r h := by
    intro hn0 n_
    induction n_ using Nat.strongRecOn with
    | ind n_ ih =>
      intro g s x4 x5 hn_ hg hs
      have e1 : sm (fun g => if gpk (h (b + 12)) mp n g 4 = true then iSl 1 g else 0) (g + 1).toNat = sm (fun g => if gpk (h (b + 12)) mp n g 4 = true then iSl 1 g else 0) g.toNat + (fun g => if gpk (h (b + 12)) mp n g 4 = true then iSl 1 g else 0) g := sm_z (by omega)
      dsimp only at e1
      refine r_iload_3 (pc := 14) dX8_groups_14 ?_
      refine r_bipush (pc := 15) dX8_groups_15 (by decide) ?_
      refine r_icmp_ge (pc := 17) (tgt := 104) dX8_groups_17 (by decide) (by omega) (by omega) (fun c_17 => ?_) (fun c_17 => ?_)
      · refine r_iload_2 (pc := 104) dX8_groups_104 ?_
        refine r_iret (pc := 105) hret dX8_groups_105 rfl rfl rfl ?_
        have hg9 : g = 16 := by omega
        subst hg9
        rw [hs]
        exact hQ hn0
      · refine r_iconst (pc := 20) dX8_groups_20 ?_
        refine r_istore_4 (pc := 21) dX8_groups_21 rfl ?_
        refine r_iconst (pc := 23) dX8_groups_23 ?_
        refine r_istore_5 (pc := 24) dX8_groups_24 rfl ?_
        refine inn g s (by omega) ?_ _ 0 rfl (by omega)
        refine r_iload_2 (pc := 83) dX8_groups_83 ?_
        refine r_iload_4 (pc := 84) dX8_groups_84 ?_
        refine r_ifeq_b (pc := 86) (tgt := 95) dX8_groups_86 (by decide) (fun c_86 => ?_) (fun c_86 => ?_)
        · refine r_iconst (pc := 95) dX8_groups_95 ?_
          refine r_iadd (pc := 96) dX8_groups_96 ?_
          refine r_istore_2 (pc := 97) dX8_groups_97 rfl ?_
          refine r_iinc_3 (pc := 98) dX8_groups_98 rfl ?_
          refine r_goto (pc := 101) (tgt := 14) dX8_groups_101 (by decide) ?_
          first
          | (refine ih _ (by omega) (g + 1) _ _ _ rfl (by omega) ?_; rw [e1, hs, if_pos c_86])
          | (refine ih _ (by omega) (g + 1) _ _ _ rfl (by omega) ?_; rw [e1, hs, if_neg c_86])
        · refine r_iconst (pc := 89) dX8_groups_89 ?_
          refine r_iload_3 (pc := 90) dX8_groups_90 ?_
          refine r_ishl (pc := 91) dX8_groups_91 (fun i_91 => ?_)
          refine r_goto (pc := 92) (tgt := 96) dX8_groups_92 (by decide) ?_
          refine r_iadd (pc := 96) dX8_groups_96 ?_
          refine r_istore_2 (pc := 97) dX8_groups_97 rfl ?_
          refine r_iinc_3 (pc := 98) dX8_groups_98 rfl ?_
          refine r_goto (pc := 101) (tgt := 14) dX8_groups_101 (by decide) ?_
          first
          | (refine ih _ (by omega) (g + 1) _ _ _ rfl (by omega) ?_; rw [e1, hs, if_pos c_86])
          | (refine ih _ (by omega) (g + 1) _ _ _ rfl (by omega) ?_; rw [e1, hs, if_neg c_86])
  refine r_aload_0 (pc := 0) dX8_groups_0 ?_
  refine r_iload_1 (pc := 1) dX8_groups_1 ?_
  refine k_VI1 (pc := 2) c_X8_isNode lk_X8_154 ⟨Nat.le_of_ble_eq_true rfl, Nat.le_of_ble_eq_true rfl⟩ ⟨rfl, rfl⟩ ⟨Nat.le_of_ble_eq_true rfl, Nat.le_of_ble_eq_true rfl⟩ (k := 8) rfl (by decide) (by assumption) dX8_groups_2 (Nat.le_of_ble_eq_true rfl) ?_
  refine ⟨_, _, _, rfl, by assumption, by first | assumption | exact rfl, by omega, by assumption, ?_⟩
  refine r_ifne_b (pc := 5) (tgt := 10) dX8_groups_5 (by decide) (fun c_5 => ?_) (fun c_5 => ?_)
  · refine r_iconst (pc := 10) dX8_groups_10 ?_
    refine r_istore_2 (pc := 11) dX8_groups_11 rfl ?_
    refine r_iconst (pc := 12) dX8_groups_12 ?_
    refine r_istore_3 (pc := 13) dX8_groups_13 rfl ?_
    exact lp c_5 _ 0 0 _ _ rfl (by omega) rfl
  · refine r_iconst (pc := 8) dX8_groups_8 ?_
    refine r_iret (pc := 9) hret dX8_groups_9 rfl rfl rfl ?_
    exact hB c_5

theorem dX8_node_0 : decode cX8_node 0 = .ok (.aload_n 0, 1) := by decide +kernel
theorem dX8_node_1 : decode cX8_node 1 = .ok (.iload_n 1, 1) := by decide +kernel
theorem dX8_node_2 : decode cX8_node 2 = .ok (.invokevirtual 154, 3) := by decide +kernel
theorem dX8_node_5 : decode cX8_node 5 = .ok (.ifCond .eq 26, 3) := by decide +kernel
theorem dX8_node_8 : decode cX8_node 8 = .ok (.aload_n 0, 1) := by decide +kernel
theorem dX8_node_9 : decode cX8_node 9 = .ok (.iload_n 2, 1) := by decide +kernel
theorem dX8_node_10 : decode cX8_node 10 = .ok (.iconst 0, 1) := by decide +kernel
theorem dX8_node_11 : decode cX8_node 11 = .ok (.aload_n 0, 1) := by decide +kernel
theorem dX8_node_12 : decode cX8_node 12 = .ok (.iload_n 1, 1) := by decide +kernel
theorem dX8_node_13 : decode cX8_node 13 = .ok (.invokevirtual 147, 3) := by decide +kernel
theorem dX8_node_16 : decode cX8_node 16 = .ok (.ifCond .eq 8, 3) := by decide +kernel
theorem dX8_node_19 : decode cX8_node 19 = .ok (.bipush 6, 2) := by decide +kernel
theorem dX8_node_21 : decode cX8_node 21 = .ok (.goto 4, 3) := by decide +kernel
theorem dX8_node_24 : decode cX8_node 24 = .ok (.iconst 2, 1) := by decide +kernel
theorem dX8_node_25 : decode cX8_node 25 = .ok (.invokevirtual 137, 3) := by decide +kernel
theorem dX8_node_28 : decode cX8_node 28 = .ok (.ifCond .ne 5, 3) := by decide +kernel
theorem dX8_node_31 : decode cX8_node 31 = .ok (.iconst (-1), 1) := by decide +kernel
theorem dX8_node_32 : decode cX8_node 32 = .ok (.ireturn, 1) := by decide +kernel
theorem dX8_node_33 : decode cX8_node 33 = .ok (.iload_n 2, 1) := by decide +kernel
theorem dX8_node_34 : decode cX8_node 34 = .ok (.tableswitch 138 0 5 #[38, 44, 60, 108, 118, 128], 38) := by decide +kernel
theorem dX8_node_72 : decode cX8_node 72 = .ok (.aload_n 0, 1) := by decide +kernel
theorem dX8_node_73 : decode cX8_node 73 = .ok (.iload_n 1, 1) := by decide +kernel
theorem dX8_node_74 : decode cX8_node 74 = .ok (.invokevirtual 157, 3) := by decide +kernel
theorem dX8_node_77 : decode cX8_node 77 = .ok (.ireturn, 1) := by decide +kernel
theorem dX8_node_78 : decode cX8_node 78 = .ok (.iload_n 1, 1) := by decide +kernel
theorem dX8_node_79 : decode cX8_node 79 = .ok (.ifCond .ne 8, 3) := by decide +kernel
theorem dX8_node_82 : decode cX8_node 82 = .ok (.bipush (-4), 2) := by decide +kernel
theorem dX8_node_84 : decode cX8_node 84 = .ok (.goto 9, 3) := by decide +kernel
theorem dX8_node_87 : decode cX8_node 87 = .ok (.aload_n 0, 1) := by decide +kernel
theorem dX8_node_88 : decode cX8_node 88 = .ok (.getfield 13, 3) := by decide +kernel
theorem dX8_node_91 : decode cX8_node 91 = .ok (.iload_n 1, 1) := by decide +kernel
theorem dX8_node_92 : decode cX8_node 92 = .ok (.iaload, 1) := by decide +kernel
theorem dX8_node_93 : decode cX8_node 93 = .ok (.ireturn, 1) := by decide +kernel
theorem dX8_node_94 : decode cX8_node 94 = .ok (.iconst 0, 1) := by decide +kernel
theorem dX8_node_95 : decode cX8_node 95 = .ok (.istore_n 3, 1) := by decide +kernel
theorem dX8_node_96 : decode cX8_node 96 = .ok (.iconst 1, 1) := by decide +kernel
theorem dX8_node_97 : decode cX8_node 97 = .ok (.istore 4, 2) := by decide +kernel
theorem dX8_node_99 : decode cX8_node 99 = .ok (.iload 4, 2) := by decide +kernel
theorem dX8_node_101 : decode cX8_node 101 = .ok (.bipush 22, 2) := by decide +kernel
theorem dX8_node_103 : decode cX8_node 103 = .ok (.if_icmp .ge 37, 3) := by decide +kernel
theorem dX8_node_106 : decode cX8_node 106 = .ok (.iload_n 3, 1) := by decide +kernel
theorem dX8_node_107 : decode cX8_node 107 = .ok (.aload_n 0, 1) := by decide +kernel
theorem dX8_node_108 : decode cX8_node 108 = .ok (.iload 4, 2) := by decide +kernel
theorem dX8_node_110 : decode cX8_node 110 = .ok (.invokevirtual 154, 3) := by decide +kernel
theorem dX8_node_113 : decode cX8_node 113 = .ok (.ifCond .eq 18, 3) := by decide +kernel
theorem dX8_node_116 : decode cX8_node 116 = .ok (.aload_n 0, 1) := by decide +kernel
theorem dX8_node_117 : decode cX8_node 117 = .ok (.getfield 13, 3) := by decide +kernel
theorem dX8_node_120 : decode cX8_node 120 = .ok (.iload 4, 2) := by decide +kernel
theorem dX8_node_122 : decode cX8_node 122 = .ok (.iaload, 1) := by decide +kernel
theorem dX8_node_123 : decode cX8_node 123 = .ok (.iload_n 1, 1) := by decide +kernel
theorem dX8_node_124 : decode cX8_node 124 = .ok (.if_icmp .ne 7, 3) := by decide +kernel
theorem dX8_node_127 : decode cX8_node 127 = .ok (.iconst 1, 1) := by decide +kernel
theorem dX8_node_128 : decode cX8_node 128 = .ok (.goto 4, 3) := by decide +kernel
theorem dX8_node_131 : decode cX8_node 131 = .ok (.iconst 0, 1) := by decide +kernel
theorem dX8_node_132 : decode cX8_node 132 = .ok (.iadd, 1) := by decide +kernel
theorem dX8_node_133 : decode cX8_node 133 = .ok (.istore_n 3, 1) := by decide +kernel
theorem dX8_node_134 : decode cX8_node 134 = .ok (.iinc 4 1, 3) := by decide +kernel
theorem dX8_node_137 : decode cX8_node 137 = .ok (.goto (-38), 3) := by decide +kernel
theorem dX8_node_140 : decode cX8_node 140 = .ok (.iload_n 3, 1) := by decide +kernel
theorem dX8_node_141 : decode cX8_node 141 = .ok (.ireturn, 1) := by decide +kernel
theorem dX8_node_142 : decode cX8_node 142 = .ok (.aload_n 0, 1) := by decide +kernel
theorem dX8_node_143 : decode cX8_node 143 = .ok (.getfield 13, 3) := by decide +kernel
theorem dX8_node_146 : decode cX8_node 146 = .ok (.bipush 66, 2) := by decide +kernel
theorem dX8_node_148 : decode cX8_node 148 = .ok (.iload_n 1, 1) := by decide +kernel
theorem dX8_node_149 : decode cX8_node 149 = .ok (.iadd, 1) := by decide +kernel
theorem dX8_node_150 : decode cX8_node 150 = .ok (.iaload, 1) := by decide +kernel
theorem dX8_node_151 : decode cX8_node 151 = .ok (.ireturn, 1) := by decide +kernel
theorem dX8_node_152 : decode cX8_node 152 = .ok (.aload_n 0, 1) := by decide +kernel
theorem dX8_node_153 : decode cX8_node 153 = .ok (.getfield 13, 3) := by decide +kernel
theorem dX8_node_156 : decode cX8_node 156 = .ok (.bipush 88, 2) := by decide +kernel
theorem dX8_node_158 : decode cX8_node 158 = .ok (.iload_n 1, 1) := by decide +kernel
theorem dX8_node_159 : decode cX8_node 159 = .ok (.iadd, 1) := by decide +kernel
theorem dX8_node_160 : decode cX8_node 160 = .ok (.iaload, 1) := by decide +kernel
theorem dX8_node_161 : decode cX8_node 161 = .ok (.ireturn, 1) := by decide +kernel
theorem dX8_node_162 : decode cX8_node 162 = .ok (.aload_n 0, 1) := by decide +kernel
theorem dX8_node_163 : decode cX8_node 163 = .ok (.getfield 13, 3) := by decide +kernel
theorem dX8_node_166 : decode cX8_node 166 = .ok (.bipush 44, 2) := by decide +kernel
theorem dX8_node_168 : decode cX8_node 168 = .ok (.iload_n 1, 1) := by decide +kernel
theorem dX8_node_169 : decode cX8_node 169 = .ok (.iadd, 1) := by decide +kernel
theorem dX8_node_170 : decode cX8_node 170 = .ok (.iaload, 1) := by decide +kernel
theorem dX8_node_171 : decode cX8_node 171 = .ok (.ireturn, 1) := by decide +kernel
theorem dX8_node_172 : decode cX8_node 172 = .ok (.aload_n 0, 1) := by decide +kernel
theorem dX8_node_173 : decode cX8_node 173 = .ok (.getfield 125, 3) := by decide +kernel
theorem dX8_node_176 : decode cX8_node 176 = .ok (.iload_n 1, 1) := by decide +kernel
theorem dX8_node_177 : decode cX8_node 177 = .ok (.bipush 10, 2) := by decide +kernel
theorem dX8_node_179 : decode cX8_node 179 = .ok (.isub, 1) := by decide +kernel
theorem dX8_node_180 : decode cX8_node 180 = .ok (.ishr, 1) := by decide +kernel
theorem dX8_node_181 : decode cX8_node 181 = .ok (.iconst 1, 1) := by decide +kernel
theorem dX8_node_182 : decode cX8_node 182 = .ok (.iand, 1) := by decide +kernel
theorem dX8_node_183 : decode cX8_node 183 = .ok (.ireturn, 1) := by decide +kernel
set_option maxHeartbeats 4000000 in
set_option maxRecDepth 20000 in
theorem c_X8_node : ConI mX8_node (fun args N lay r h Q => ∃ (b : Nat) (mp : Int → Int) (n w : Int), args = [.ref b, vI n, vI w] ∧ MdAt lay r b ∧ h (b + 2) = mp ∧ TrM mp ∧ RlM mp ∧ (-2147483648 ≤ n ∧ n < 2147483648) ∧ (-2147483648 ≤ w ∧ w < 2147483648) ∧ (¬ (isNd mp n ∧ (0 ≤ w ∧ w ≤ if 10 ≤ n ∧ n ≤ 9 + mp 130 then 6 else 2)) → Q (-1) N lay r h) ∧ ((isNd mp n ∧ (0 ≤ w ∧ w ≤ if 10 ≤ n ∧ n ≤ 9 + mp 130 then 6 else 2)) → (w = 0 → Q (wt mp n) N lay r h) ∧ (w = 1 → (n = 0 → Q (-4) N lay r h) ∧ (n ≠ 0 → Q (mp n) N lay r h)) ∧ (w = 2 → Q (sm (fun k => bI (isNd mp (k + 1) ∧ mp (k + 1) = n)) 21) N lay r h) ∧ (w = 3 → Q (mp (66 + n)) N lay r h) ∧ (w = 4 → Q (mp (88 + n)) N lay r h) ∧ (w = 5 → Q (mp (44 + n)) N lay r h) ∧ (w = 6 → Q (iA (iSr (h b 17) (n - 10)) 1) N lay r h))) := by
  refine ConI.of (by decide) (by rintro _ N lay r h Q ⟨b, mp, n, w, rfl, hM, hmp, hT, hR, hn, hw, hB, hQ⟩; exact ⟨rfl, Nat.le_of_ble_eq_true rfl⟩) ?_
  rintro E _ N lay r h Q ⟨b, mp, n, w, rfl, hM, hmp, hT, hR, hn, hw, hB, hQ⟩ hret
  obtain ⟨ml0, ml1, ml2, ml3, ml4, ml5, ml6, ml7, ml8, ml9, ml10, ml11, ml12, ml13, ml14, ml15, ml16, ml17, ml18, ml19, ml20, mr1, mr2, mr3, mr4, mr5, mr6, mr7, mr8, mr9, mr10, mr11, mr12, mr13, mr14, mr15, mr16, mr17, mr18, mr19, mr20⟩ := id hM
  obtain ⟨t1, t2, t3, t4, t5, t6, t7⟩ := id hT
  obtain ⟨r1, r2, r3, r4, r5, r6, r7⟩ := id hR
  show St E mX8_node 0 [some (.ref b), some (vI n), some (vI w), none, none] [] (0, 0) N lay r h
  have lp : ∀ (w : Int) (K : Q (sm (fun k => bI (isNd mp (k + 1) ∧ mp (k + 1) = n)) 21) N lay r h) (n_ : Nat) (c : Int) (s : Int), (22 - c).toNat = n_ → (1 ≤ c ∧ c ≤ 22) → (s = sm (fun k => bI (isNd mp (k + 1) ∧ mp (k + 1) = n)) (c - 1).toNat) → St E mX8_node 99 [some (.ref b), some (vI n), some (vI w), some (vI s), some (vI c)] [] (0, 0) N lay r h := by
    intro w K n_
    induction n_ using Nat.strongRecOn with
    | ind n_ ih =>
      intro c s hn_ hc hs
      have e1 : sm (fun k => bI (isNd mp (k + 1) ∧ mp (k + 1) = n)) ((c - 1) + 1).toNat = sm (fun k => bI (isNd mp (k + 1) ∧ mp (k + 1) = n)) (c - 1).toNat + (fun k => bI (isNd mp (k + 1) ∧ mp (k + 1) = n)) (c - 1) := sm_z (by omega)
      rw [show c - 1 + 1 = c + 1 - 1 by omega] at e1
      dsimp only at e1
      rw [show c - 1 + 1 = c by omega] at e1
      refine r_iload_4 (pc := 99) dX8_node_99 ?_
      refine r_bipush (pc := 101) dX8_node_101 (by decide) ?_
      refine r_icmp_ge (pc := 103) (tgt := 140) dX8_node_103 (by decide) (by omega) (by omega) (fun c_103 => ?_) (fun c_103 => ?_)
      · refine r_iload_3 (pc := 140) dX8_node_140 ?_
        refine r_iret (pc := 141) hret dX8_node_141 rfl rfl rfl ?_
        have hc9 : c = 22 := by omega
        subst hc9
        rw [hs]
        exact K
      · refine r_iload_3 (pc := 106) dX8_node_106 ?_
        refine r_aload_0 (pc := 107) dX8_node_107 ?_
        refine r_iload_4 (pc := 108) dX8_node_108 ?_
        refine k_VI1 (pc := 110) c_X8_isNode lk_X8_154 ⟨Nat.le_of_ble_eq_true rfl, Nat.le_of_ble_eq_true rfl⟩ ⟨rfl, rfl⟩ ⟨Nat.le_of_ble_eq_true rfl, Nat.le_of_ble_eq_true rfl⟩ (k := 8) rfl (by decide) (by assumption) dX8_node_110 (Nat.le_of_ble_eq_true rfl) ?_
        refine ⟨_, _, _, rfl, by assumption, by first | assumption | exact rfl, by omega, by assumption, ?_⟩
        refine r_ifeq_b (pc := 113) (tgt := 131) dX8_node_113 (by decide) (fun c_113 => ?_) (fun c_113 => ?_)
        · refine r_iconst (pc := 131) dX8_node_131 ?_
          refine r_iadd (pc := 132) dX8_node_132 ?_
          refine r_istore_3 (pc := 133) dX8_node_133 rfl ?_
          refine r_iinc_4 (pc := 134) dX8_node_134 rfl ?_
          refine r_goto (pc := 137) (tgt := 99) dX8_node_137 (by decide) ?_
          first
          | (have e9 : ¬ (isNd mp c ∧ mp c = n) := fun z => c_113 z.1
             refine ih _ (by omega) (c + 1) _ rfl (by omega) ?_; rw [e1, hs, bI_f e9])
          | (have e9 : ¬ (isNd mp c ∧ mp c = n) := fun z => c_124 z.2
             refine ih _ (by omega) (c + 1) _ rfl (by omega) ?_; rw [e1, hs, bI_f e9])
          | (have e9 : isNd mp c ∧ mp c = n := And.intro c_113 c_124
             refine ih _ (by omega) (c + 1) _ rfl (by omega) ?_; rw [e1, hs, bI_t e9])
        · refine r_aload_0 (pc := 116) dX8_node_116 ?_
          refine gf_X8_13 (pc := 117) rfl (by assumption) dX8_node_117 (by assumption) ?_
          refine r_iload_4 (pc := 120) dX8_node_120 ?_
          refine r_ialdE (pc := 122) (by assumption) (by first | assumption | exact rfl) dX8_node_122 (by omega) (by omega) (fun i_122 => ?_)
          refine r_iload_1 (pc := 123) dX8_node_123 ?_
          refine r_icmp_ne (pc := 124) (tgt := 131) dX8_node_124 (by decide) (by omega) (by omega) (fun c_124 => ?_) (fun c_124 => ?_)
          · refine r_iconst (pc := 131) dX8_node_131 ?_
            refine r_iadd (pc := 132) dX8_node_132 ?_
            refine r_istore_3 (pc := 133) dX8_node_133 rfl ?_
            refine r_iinc_4 (pc := 134) dX8_node_134 rfl ?_
            refine r_goto (pc := 137) (tgt := 99) dX8_node_137 (by decide) ?_
            first
            | (have e9 : ¬ (isNd mp c ∧ mp c = n) := fun z => c_113 z.1
               refine ih _ (by omega) (c + 1) _ rfl (by omega) ?_; rw [e1, hs, bI_f e9])
            | (have e9 : ¬ (isNd mp c ∧ mp c = n) := fun z => c_124 z.2
               refine ih _ (by omega) (c + 1) _ rfl (by omega) ?_; rw [e1, hs, bI_f e9])
            | (have e9 : isNd mp c ∧ mp c = n := And.intro c_113 c_124
               refine ih _ (by omega) (c + 1) _ rfl (by omega) ?_; rw [e1, hs, bI_t e9])
          · refine r_iconst (pc := 127) dX8_node_127 ?_
            refine r_goto (pc := 128) (tgt := 132) dX8_node_128 (by decide) ?_
            refine r_iadd (pc := 132) dX8_node_132 ?_
            refine r_istore_3 (pc := 133) dX8_node_133 rfl ?_
            refine r_iinc_4 (pc := 134) dX8_node_134 rfl ?_
            refine r_goto (pc := 137) (tgt := 99) dX8_node_137 (by decide) ?_
            first
            | (have e9 : ¬ (isNd mp c ∧ mp c = n) := fun z => c_113 z.1
               refine ih _ (by omega) (c + 1) _ rfl (by omega) ?_; rw [e1, hs, bI_f e9])
            | (have e9 : ¬ (isNd mp c ∧ mp c = n) := fun z => c_124 z.2
               refine ih _ (by omega) (c + 1) _ rfl (by omega) ?_; rw [e1, hs, bI_f e9])
            | (have e9 : isNd mp c ∧ mp c = n := And.intro c_113 c_124
               refine ih _ (by omega) (c + 1) _ rfl (by omega) ?_; rw [e1, hs, bI_t e9])
  refine r_aload_0 (pc := 0) dX8_node_0 ?_
  refine r_iload_1 (pc := 1) dX8_node_1 ?_
  refine k_VI1 (pc := 2) c_X8_isNode lk_X8_154 ⟨Nat.le_of_ble_eq_true rfl, Nat.le_of_ble_eq_true rfl⟩ ⟨rfl, rfl⟩ ⟨Nat.le_of_ble_eq_true rfl, Nat.le_of_ble_eq_true rfl⟩ (k := 8) rfl (by decide) (by assumption) dX8_node_2 (Nat.le_of_ble_eq_true rfl) ?_
  refine ⟨_, _, _, rfl, by assumption, by first | assumption | exact rfl, by omega, by assumption, ?_⟩
  refine r_ifeq_b (pc := 5) (tgt := 31) dX8_node_5 (by decide) (fun c_5 => ?_) (fun c_5 => ?_)
  · refine r_iconst (pc := 31) dX8_node_31 ?_
    refine r_iret (pc := 32) hret dX8_node_32 rfl rfl rfl ?_
    first
    | exact hB (fun z => c_5 z.1)
    | exact hB (fun z => c_28 (by have := z.2; rw [if_pos c_16] at this; exact this))
    | exact hB (fun z => c_28 (by have := z.2; rw [if_neg c_16] at this; exact this))
    | (have z := hQ ⟨c_5, by first | (rw [if_pos c_16]; exact c_28) | (rw [if_neg c_16]; exact c_28)⟩
       first | exact z.1 rfl | exact (z.2.1 rfl).1 c_79 | exact (z.2.1 rfl).2 c_79 | exact z.2.2.2.1 rfl | exact z.2.2.2.2.1 rfl | exact z.2.2.2.2.2.1 rfl | exact z.2.2.2.2.2.2 rfl | (exfalso; omega))
  · refine r_aload_0 (pc := 8) dX8_node_8 ?_
    refine r_iload_2 (pc := 9) dX8_node_9 ?_
    refine r_iconst (pc := 10) dX8_node_10 ?_
    refine r_aload_0 (pc := 11) dX8_node_11 ?_
    refine r_iload_1 (pc := 12) dX8_node_12 ?_
    refine k_VI1 (pc := 13) c_X8_isDisk lk_X8_147 ⟨Nat.le_of_ble_eq_true rfl, Nat.le_of_ble_eq_true rfl⟩ ⟨rfl, rfl⟩ ⟨Nat.le_of_ble_eq_true rfl, Nat.le_of_ble_eq_true rfl⟩ (k := 8) rfl (by decide) (by assumption) dX8_node_13 (Nat.le_of_ble_eq_true rfl) ?_
    refine ⟨_, _, _, rfl, by assumption, by first | assumption | exact rfl, by omega, by omega, ?_⟩
    refine r_ifeq_b (pc := 16) (tgt := 24) dX8_node_16 (by decide) (fun c_16 => ?_) (fun c_16 => ?_)
    · refine r_iconst (pc := 24) dX8_node_24 ?_
      refine k_VI3 (pc := 25) c_X8_isIn lk_X8_137 ⟨Nat.le_of_ble_eq_true rfl, Nat.le_of_ble_eq_true rfl⟩ ⟨rfl, rfl⟩ ⟨Nat.le_of_ble_eq_true rfl, Nat.le_of_ble_eq_true rfl⟩ (k := 8) rfl (by decide) (by assumption) dX8_node_25 (Nat.le_of_ble_eq_true rfl) ?_
      refine ⟨_, _, _, _, rfl, by omega, by omega, by omega, ?_⟩
      refine r_ifne_b (pc := 28) (tgt := 33) dX8_node_28 (by decide) (fun c_28 => ?_) (fun c_28 => ?_)
      · refine r_iload_2 (pc := 33) dX8_node_33 ?_
        rcases (show w = 0 ∨ w = 1 ∨ w = 2 ∨ w = 3 ∨ w = 4 ∨ w = 5 ∨ w = 6 by omega) with rfl | rfl | rfl | rfl | rfl | rfl | rfl
        · refine r_tableIn (pc := 34) (off := 38) (tgt := 72) dX8_node_34 (by decide) (by decide) (by decide) (by decide) (by decide) ?_
          refine r_aload_0 (pc := 72) dX8_node_72 ?_
          refine r_iload_1 (pc := 73) dX8_node_73 ?_
          refine k_VI1 (pc := 74) c_X8_weightOf lk_X8_157 ⟨Nat.le_of_ble_eq_true rfl, Nat.le_of_ble_eq_true rfl⟩ ⟨rfl, rfl⟩ ⟨Nat.le_of_ble_eq_true rfl, Nat.le_of_ble_eq_true rfl⟩ (k := 8) rfl (by decide) (by assumption) dX8_node_74 (Nat.le_of_ble_eq_true rfl) ?_
          refine ⟨_, _, _, rfl, by assumption, by first | assumption | exact rfl, by assumption, by omega, ?_⟩
          refine r_iret (pc := 77) hret dX8_node_77 rfl rfl rfl ?_
          first
          | exact hB (fun z => c_5 z.1)
          | exact hB (fun z => c_28 (by have := z.2; rw [if_pos c_16] at this; exact this))
          | exact hB (fun z => c_28 (by have := z.2; rw [if_neg c_16] at this; exact this))
          | (have z := hQ ⟨c_5, by first | (rw [if_pos c_16]; exact c_28) | (rw [if_neg c_16]; exact c_28)⟩
             first | exact z.1 rfl | exact (z.2.1 rfl).1 c_79 | exact (z.2.1 rfl).2 c_79 | exact z.2.2.2.1 rfl | exact z.2.2.2.2.1 rfl | exact z.2.2.2.2.2.1 rfl | exact z.2.2.2.2.2.2 rfl | (exfalso; omega))
        · refine r_tableIn (pc := 34) (off := 44) (tgt := 78) dX8_node_34 (by decide) (by decide) (by decide) (by decide) (by decide) ?_
          refine r_iload_1 (pc := 78) dX8_node_78 ?_
          refine r_if_ne (pc := 79) (tgt := 87) dX8_node_79 (by decide) (by omega) (fun c_79 => ?_) (fun c_79 => ?_)
          · refine r_aload_0 (pc := 87) dX8_node_87 ?_
            refine gf_X8_13 (pc := 88) rfl (by assumption) dX8_node_88 (by assumption) ?_
            refine r_iload_1 (pc := 91) dX8_node_91 ?_
            refine r_ialdE (pc := 92) (by assumption) (by first | assumption | exact rfl) dX8_node_92 (by omega) (by omega) (fun i_92 => ?_)
            refine r_iret (pc := 93) hret dX8_node_93 rfl rfl rfl ?_
            first
            | exact hB (fun z => c_5 z.1)
            | exact hB (fun z => c_28 (by have := z.2; rw [if_pos c_16] at this; exact this))
            | exact hB (fun z => c_28 (by have := z.2; rw [if_neg c_16] at this; exact this))
            | (have z := hQ ⟨c_5, by first | (rw [if_pos c_16]; exact c_28) | (rw [if_neg c_16]; exact c_28)⟩
               first | exact z.1 rfl | exact (z.2.1 rfl).1 c_79 | exact (z.2.1 rfl).2 c_79 | exact z.2.2.2.1 rfl | exact z.2.2.2.2.1 rfl | exact z.2.2.2.2.2.1 rfl | exact z.2.2.2.2.2.2 rfl | (exfalso; omega))
          · refine r_bipush (pc := 82) dX8_node_82 (by decide) ?_
            refine r_goto (pc := 84) (tgt := 93) dX8_node_84 (by decide) ?_
            refine r_iret (pc := 93) hret dX8_node_93 rfl rfl rfl ?_
            first
            | exact hB (fun z => c_5 z.1)
            | exact hB (fun z => c_28 (by have := z.2; rw [if_pos c_16] at this; exact this))
            | exact hB (fun z => c_28 (by have := z.2; rw [if_neg c_16] at this; exact this))
            | (have z := hQ ⟨c_5, by first | (rw [if_pos c_16]; exact c_28) | (rw [if_neg c_16]; exact c_28)⟩
               first | exact z.1 rfl | exact (z.2.1 rfl).1 c_79 | exact (z.2.1 rfl).2 c_79 | exact z.2.2.2.1 rfl | exact z.2.2.2.2.1 rfl | exact z.2.2.2.2.2.1 rfl | exact z.2.2.2.2.2.2 rfl | (exfalso; omega))
        · refine r_tableIn (pc := 34) (off := 60) (tgt := 94) dX8_node_34 (by decide) (by decide) (by decide) (by decide) (by decide) ?_
          refine r_iconst (pc := 94) dX8_node_94 ?_
          refine r_istore_3 (pc := 95) dX8_node_95 rfl ?_
          refine r_iconst (pc := 96) dX8_node_96 ?_
          refine r_istore_4 (pc := 97) dX8_node_97 rfl ?_
          exact lp _ ((hQ ⟨c_5, by first | (rw [if_pos c_16]; omega) | (rw [if_neg c_16]; omega)⟩).2.2.1 rfl) _ 1 0 rfl (by omega) rfl
        · refine r_tableIn (pc := 34) (off := 108) (tgt := 142) dX8_node_34 (by decide) (by decide) (by decide) (by decide) (by decide) ?_
          refine r_aload_0 (pc := 142) dX8_node_142 ?_
          refine gf_X8_13 (pc := 143) rfl (by assumption) dX8_node_143 (by assumption) ?_
          refine r_bipush (pc := 146) dX8_node_146 (by decide) ?_
          refine r_iload_1 (pc := 148) dX8_node_148 ?_
          refine r_iadd (pc := 149) dX8_node_149 ?_
          refine r_ialdE (pc := 150) (by assumption) (by first | assumption | exact rfl) dX8_node_150 (by omega) (by omega) (fun i_150 => ?_)
          refine r_iret (pc := 151) hret dX8_node_151 rfl rfl rfl ?_
          first
          | exact hB (fun z => c_5 z.1)
          | exact hB (fun z => c_28 (by have := z.2; rw [if_pos c_16] at this; exact this))
          | exact hB (fun z => c_28 (by have := z.2; rw [if_neg c_16] at this; exact this))
          | (have z := hQ ⟨c_5, by first | (rw [if_pos c_16]; exact c_28) | (rw [if_neg c_16]; exact c_28)⟩
             first | exact z.1 rfl | exact (z.2.1 rfl).1 c_79 | exact (z.2.1 rfl).2 c_79 | exact z.2.2.2.1 rfl | exact z.2.2.2.2.1 rfl | exact z.2.2.2.2.2.1 rfl | exact z.2.2.2.2.2.2 rfl | (exfalso; omega))
        · refine r_tableIn (pc := 34) (off := 118) (tgt := 152) dX8_node_34 (by decide) (by decide) (by decide) (by decide) (by decide) ?_
          refine r_aload_0 (pc := 152) dX8_node_152 ?_
          refine gf_X8_13 (pc := 153) rfl (by assumption) dX8_node_153 (by assumption) ?_
          refine r_bipush (pc := 156) dX8_node_156 (by decide) ?_
          refine r_iload_1 (pc := 158) dX8_node_158 ?_
          refine r_iadd (pc := 159) dX8_node_159 ?_
          refine r_ialdE (pc := 160) (by assumption) (by first | assumption | exact rfl) dX8_node_160 (by omega) (by omega) (fun i_160 => ?_)
          refine r_iret (pc := 161) hret dX8_node_161 rfl rfl rfl ?_
          first
          | exact hB (fun z => c_5 z.1)
          | exact hB (fun z => c_28 (by have := z.2; rw [if_pos c_16] at this; exact this))
          | exact hB (fun z => c_28 (by have := z.2; rw [if_neg c_16] at this; exact this))
          | (have z := hQ ⟨c_5, by first | (rw [if_pos c_16]; exact c_28) | (rw [if_neg c_16]; exact c_28)⟩
             first | exact z.1 rfl | exact (z.2.1 rfl).1 c_79 | exact (z.2.1 rfl).2 c_79 | exact z.2.2.2.1 rfl | exact z.2.2.2.2.1 rfl | exact z.2.2.2.2.2.1 rfl | exact z.2.2.2.2.2.2 rfl | (exfalso; omega))
        · refine r_tableIn (pc := 34) (off := 128) (tgt := 162) dX8_node_34 (by decide) (by decide) (by decide) (by decide) (by decide) ?_
          refine r_aload_0 (pc := 162) dX8_node_162 ?_
          refine gf_X8_13 (pc := 163) rfl (by assumption) dX8_node_163 (by assumption) ?_
          refine r_bipush (pc := 166) dX8_node_166 (by decide) ?_
          refine r_iload_1 (pc := 168) dX8_node_168 ?_
          refine r_iadd (pc := 169) dX8_node_169 ?_
          refine r_ialdE (pc := 170) (by assumption) (by first | assumption | exact rfl) dX8_node_170 (by omega) (by omega) (fun i_170 => ?_)
          refine r_iret (pc := 171) hret dX8_node_171 rfl rfl rfl ?_
          first
          | exact hB (fun z => c_5 z.1)
          | exact hB (fun z => c_28 (by have := z.2; rw [if_pos c_16] at this; exact this))
          | exact hB (fun z => c_28 (by have := z.2; rw [if_neg c_16] at this; exact this))
          | (have z := hQ ⟨c_5, by first | (rw [if_pos c_16]; exact c_28) | (rw [if_neg c_16]; exact c_28)⟩
             first | exact z.1 rfl | exact (z.2.1 rfl).1 c_79 | exact (z.2.1 rfl).2 c_79 | exact z.2.2.2.1 rfl | exact z.2.2.2.2.1 rfl | exact z.2.2.2.2.2.1 rfl | exact z.2.2.2.2.2.2 rfl | (exfalso; omega))
        · refine r_tableOut (pc := 34) (tgt := 172) dX8_node_34 (by decide) (by decide) (by decide) ?_
          refine r_aload_0 (pc := 172) dX8_node_172 ?_
          refine gf_X8_125 (pc := 173) rfl (by assumption) dX8_node_173 (fun i_173 => ?_)
          refine r_iload_1 (pc := 176) dX8_node_176 ?_
          refine r_bipush (pc := 177) dX8_node_177 (by decide) ?_
          refine r_isub (pc := 179) dX8_node_179 ?_
          refine r_ishr (pc := 180) dX8_node_180 (fun i_180 => ?_)
          refine r_iconst (pc := 181) dX8_node_181 ?_
          refine r_iand (pc := 182) dX8_node_182 (fun i_182 => ?_)
          refine r_iret (pc := 183) hret dX8_node_183 rfl rfl rfl ?_
          first
          | exact hB (fun z => c_5 z.1)
          | exact hB (fun z => c_28 (by have := z.2; rw [if_pos c_16] at this; exact this))
          | exact hB (fun z => c_28 (by have := z.2; rw [if_neg c_16] at this; exact this))
          | (have z := hQ ⟨c_5, by first | (rw [if_pos c_16]; exact c_28) | (rw [if_neg c_16]; exact c_28)⟩
             first | exact z.1 rfl | exact (z.2.1 rfl).1 c_79 | exact (z.2.1 rfl).2 c_79 | exact z.2.2.2.1 rfl | exact z.2.2.2.2.1 rfl | exact z.2.2.2.2.2.1 rfl | exact z.2.2.2.2.2.2 rfl | (exfalso; omega))
      · refine r_iconst (pc := 31) dX8_node_31 ?_
        refine r_iret (pc := 32) hret dX8_node_32 rfl rfl rfl ?_
        first
        | exact hB (fun z => c_5 z.1)
        | exact hB (fun z => c_28 (by have := z.2; rw [if_pos c_16] at this; exact this))
        | exact hB (fun z => c_28 (by have := z.2; rw [if_neg c_16] at this; exact this))
        | (have z := hQ ⟨c_5, by first | (rw [if_pos c_16]; exact c_28) | (rw [if_neg c_16]; exact c_28)⟩
           first | exact z.1 rfl | exact (z.2.1 rfl).1 c_79 | exact (z.2.1 rfl).2 c_79 | exact z.2.2.2.1 rfl | exact z.2.2.2.2.1 rfl | exact z.2.2.2.2.2.1 rfl | exact z.2.2.2.2.2.2 rfl | (exfalso; omega))
    · refine r_bipush (pc := 19) dX8_node_19 (by decide) ?_
      refine r_goto (pc := 21) (tgt := 25) dX8_node_21 (by decide) ?_
      refine k_VI3 (pc := 25) c_X8_isIn lk_X8_137 ⟨Nat.le_of_ble_eq_true rfl, Nat.le_of_ble_eq_true rfl⟩ ⟨rfl, rfl⟩ ⟨Nat.le_of_ble_eq_true rfl, Nat.le_of_ble_eq_true rfl⟩ (k := 8) rfl (by decide) (by assumption) dX8_node_25 (Nat.le_of_ble_eq_true rfl) ?_
      refine ⟨_, _, _, _, rfl, by omega, by omega, by omega, ?_⟩
      refine r_ifne_b (pc := 28) (tgt := 33) dX8_node_28 (by decide) (fun c_28 => ?_) (fun c_28 => ?_)
      · refine r_iload_2 (pc := 33) dX8_node_33 ?_
        rcases (show w = 0 ∨ w = 1 ∨ w = 2 ∨ w = 3 ∨ w = 4 ∨ w = 5 ∨ w = 6 by omega) with rfl | rfl | rfl | rfl | rfl | rfl | rfl
        · refine r_tableIn (pc := 34) (off := 38) (tgt := 72) dX8_node_34 (by decide) (by decide) (by decide) (by decide) (by decide) ?_
          refine r_aload_0 (pc := 72) dX8_node_72 ?_
          refine r_iload_1 (pc := 73) dX8_node_73 ?_
          refine k_VI1 (pc := 74) c_X8_weightOf lk_X8_157 ⟨Nat.le_of_ble_eq_true rfl, Nat.le_of_ble_eq_true rfl⟩ ⟨rfl, rfl⟩ ⟨Nat.le_of_ble_eq_true rfl, Nat.le_of_ble_eq_true rfl⟩ (k := 8) rfl (by decide) (by assumption) dX8_node_74 (Nat.le_of_ble_eq_true rfl) ?_
          refine ⟨_, _, _, rfl, by assumption, by first | assumption | exact rfl, by assumption, by omega, ?_⟩
          refine r_iret (pc := 77) hret dX8_node_77 rfl rfl rfl ?_
          first
          | exact hB (fun z => c_5 z.1)
          | exact hB (fun z => c_28 (by have := z.2; rw [if_pos c_16] at this; exact this))
          | exact hB (fun z => c_28 (by have := z.2; rw [if_neg c_16] at this; exact this))
          | (have z := hQ ⟨c_5, by first | (rw [if_pos c_16]; exact c_28) | (rw [if_neg c_16]; exact c_28)⟩
             first | exact z.1 rfl | exact (z.2.1 rfl).1 c_79 | exact (z.2.1 rfl).2 c_79 | exact z.2.2.2.1 rfl | exact z.2.2.2.2.1 rfl | exact z.2.2.2.2.2.1 rfl | exact z.2.2.2.2.2.2 rfl | (exfalso; omega))
        · refine r_tableIn (pc := 34) (off := 44) (tgt := 78) dX8_node_34 (by decide) (by decide) (by decide) (by decide) (by decide) ?_
          refine r_iload_1 (pc := 78) dX8_node_78 ?_
          refine r_if_ne (pc := 79) (tgt := 87) dX8_node_79 (by decide) (by omega) (fun c_79 => ?_) (fun c_79 => ?_)
          · refine r_aload_0 (pc := 87) dX8_node_87 ?_
            refine gf_X8_13 (pc := 88) rfl (by assumption) dX8_node_88 (by assumption) ?_
            refine r_iload_1 (pc := 91) dX8_node_91 ?_
            refine r_ialdE (pc := 92) (by assumption) (by first | assumption | exact rfl) dX8_node_92 (by omega) (by omega) (fun i_92 => ?_)
            refine r_iret (pc := 93) hret dX8_node_93 rfl rfl rfl ?_
            first
            | exact hB (fun z => c_5 z.1)
            | exact hB (fun z => c_28 (by have := z.2; rw [if_pos c_16] at this; exact this))
            | exact hB (fun z => c_28 (by have := z.2; rw [if_neg c_16] at this; exact this))
            | (have z := hQ ⟨c_5, by first | (rw [if_pos c_16]; exact c_28) | (rw [if_neg c_16]; exact c_28)⟩
               first | exact z.1 rfl | exact (z.2.1 rfl).1 c_79 | exact (z.2.1 rfl).2 c_79 | exact z.2.2.2.1 rfl | exact z.2.2.2.2.1 rfl | exact z.2.2.2.2.2.1 rfl | exact z.2.2.2.2.2.2 rfl | (exfalso; omega))
          · refine r_bipush (pc := 82) dX8_node_82 (by decide) ?_
            refine r_goto (pc := 84) (tgt := 93) dX8_node_84 (by decide) ?_
            refine r_iret (pc := 93) hret dX8_node_93 rfl rfl rfl ?_
            first
            | exact hB (fun z => c_5 z.1)
            | exact hB (fun z => c_28 (by have := z.2; rw [if_pos c_16] at this; exact this))
            | exact hB (fun z => c_28 (by have := z.2; rw [if_neg c_16] at this; exact this))
            | (have z := hQ ⟨c_5, by first | (rw [if_pos c_16]; exact c_28) | (rw [if_neg c_16]; exact c_28)⟩
               first | exact z.1 rfl | exact (z.2.1 rfl).1 c_79 | exact (z.2.1 rfl).2 c_79 | exact z.2.2.2.1 rfl | exact z.2.2.2.2.1 rfl | exact z.2.2.2.2.2.1 rfl | exact z.2.2.2.2.2.2 rfl | (exfalso; omega))
        · refine r_tableIn (pc := 34) (off := 60) (tgt := 94) dX8_node_34 (by decide) (by decide) (by decide) (by decide) (by decide) ?_
          refine r_iconst (pc := 94) dX8_node_94 ?_
          refine r_istore_3 (pc := 95) dX8_node_95 rfl ?_
          refine r_iconst (pc := 96) dX8_node_96 ?_
          refine r_istore_4 (pc := 97) dX8_node_97 rfl ?_
          exact lp _ ((hQ ⟨c_5, by first | (rw [if_pos c_16]; omega) | (rw [if_neg c_16]; omega)⟩).2.2.1 rfl) _ 1 0 rfl (by omega) rfl
        · refine r_tableIn (pc := 34) (off := 108) (tgt := 142) dX8_node_34 (by decide) (by decide) (by decide) (by decide) (by decide) ?_
          refine r_aload_0 (pc := 142) dX8_node_142 ?_
          refine gf_X8_13 (pc := 143) rfl (by assumption) dX8_node_143 (by assumption) ?_
          refine r_bipush (pc := 146) dX8_node_146 (by decide) ?_
          refine r_iload_1 (pc := 148) dX8_node_148 ?_
          refine r_iadd (pc := 149) dX8_node_149 ?_
          refine r_ialdE (pc := 150) (by assumption) (by first | assumption | exact rfl) dX8_node_150 (by omega) (by omega) (fun i_150 => ?_)
          refine r_iret (pc := 151) hret dX8_node_151 rfl rfl rfl ?_
          first
          | exact hB (fun z => c_5 z.1)
          | exact hB (fun z => c_28 (by have := z.2; rw [if_pos c_16] at this; exact this))
          | exact hB (fun z => c_28 (by have := z.2; rw [if_neg c_16] at this; exact this))
          | (have z := hQ ⟨c_5, by first | (rw [if_pos c_16]; exact c_28) | (rw [if_neg c_16]; exact c_28)⟩
             first | exact z.1 rfl | exact (z.2.1 rfl).1 c_79 | exact (z.2.1 rfl).2 c_79 | exact z.2.2.2.1 rfl | exact z.2.2.2.2.1 rfl | exact z.2.2.2.2.2.1 rfl | exact z.2.2.2.2.2.2 rfl | (exfalso; omega))
        · refine r_tableIn (pc := 34) (off := 118) (tgt := 152) dX8_node_34 (by decide) (by decide) (by decide) (by decide) (by decide) ?_
          refine r_aload_0 (pc := 152) dX8_node_152 ?_
          refine gf_X8_13 (pc := 153) rfl (by assumption) dX8_node_153 (by assumption) ?_
          refine r_bipush (pc := 156) dX8_node_156 (by decide) ?_
          refine r_iload_1 (pc := 158) dX8_node_158 ?_
          refine r_iadd (pc := 159) dX8_node_159 ?_
          refine r_ialdE (pc := 160) (by assumption) (by first | assumption | exact rfl) dX8_node_160 (by omega) (by omega) (fun i_160 => ?_)
          refine r_iret (pc := 161) hret dX8_node_161 rfl rfl rfl ?_
          first
          | exact hB (fun z => c_5 z.1)
          | exact hB (fun z => c_28 (by have := z.2; rw [if_pos c_16] at this; exact this))
          | exact hB (fun z => c_28 (by have := z.2; rw [if_neg c_16] at this; exact this))
          | (have z := hQ ⟨c_5, by first | (rw [if_pos c_16]; exact c_28) | (rw [if_neg c_16]; exact c_28)⟩
             first | exact z.1 rfl | exact (z.2.1 rfl).1 c_79 | exact (z.2.1 rfl).2 c_79 | exact z.2.2.2.1 rfl | exact z.2.2.2.2.1 rfl | exact z.2.2.2.2.2.1 rfl | exact z.2.2.2.2.2.2 rfl | (exfalso; omega))
        · refine r_tableIn (pc := 34) (off := 128) (tgt := 162) dX8_node_34 (by decide) (by decide) (by decide) (by decide) (by decide) ?_
          refine r_aload_0 (pc := 162) dX8_node_162 ?_
          refine gf_X8_13 (pc := 163) rfl (by assumption) dX8_node_163 (by assumption) ?_
          refine r_bipush (pc := 166) dX8_node_166 (by decide) ?_
          refine r_iload_1 (pc := 168) dX8_node_168 ?_
          refine r_iadd (pc := 169) dX8_node_169 ?_
          refine r_ialdE (pc := 170) (by assumption) (by first | assumption | exact rfl) dX8_node_170 (by omega) (by omega) (fun i_170 => ?_)
          refine r_iret (pc := 171) hret dX8_node_171 rfl rfl rfl ?_
          first
          | exact hB (fun z => c_5 z.1)
          | exact hB (fun z => c_28 (by have := z.2; rw [if_pos c_16] at this; exact this))
          | exact hB (fun z => c_28 (by have := z.2; rw [if_neg c_16] at this; exact this))
          | (have z := hQ ⟨c_5, by first | (rw [if_pos c_16]; exact c_28) | (rw [if_neg c_16]; exact c_28)⟩
             first | exact z.1 rfl | exact (z.2.1 rfl).1 c_79 | exact (z.2.1 rfl).2 c_79 | exact z.2.2.2.1 rfl | exact z.2.2.2.2.1 rfl | exact z.2.2.2.2.2.1 rfl | exact z.2.2.2.2.2.2 rfl | (exfalso; omega))
        · refine r_tableOut (pc := 34) (tgt := 172) dX8_node_34 (by decide) (by decide) (by decide) ?_
          refine r_aload_0 (pc := 172) dX8_node_172 ?_
          refine gf_X8_125 (pc := 173) rfl (by assumption) dX8_node_173 (fun i_173 => ?_)
          refine r_iload_1 (pc := 176) dX8_node_176 ?_
          refine r_bipush (pc := 177) dX8_node_177 (by decide) ?_
          refine r_isub (pc := 179) dX8_node_179 ?_
          refine r_ishr (pc := 180) dX8_node_180 (fun i_180 => ?_)
          refine r_iconst (pc := 181) dX8_node_181 ?_
          refine r_iand (pc := 182) dX8_node_182 (fun i_182 => ?_)
          refine r_iret (pc := 183) hret dX8_node_183 rfl rfl rfl ?_
          first
          | exact hB (fun z => c_5 z.1)
          | exact hB (fun z => c_28 (by have := z.2; rw [if_pos c_16] at this; exact this))
          | exact hB (fun z => c_28 (by have := z.2; rw [if_neg c_16] at this; exact this))
          | (have z := hQ ⟨c_5, by first | (rw [if_pos c_16]; exact c_28) | (rw [if_neg c_16]; exact c_28)⟩
             first | exact z.1 rfl | exact (z.2.1 rfl).1 c_79 | exact (z.2.1 rfl).2 c_79 | exact z.2.2.2.1 rfl | exact z.2.2.2.2.1 rfl | exact z.2.2.2.2.2.1 rfl | exact z.2.2.2.2.2.2 rfl | (exfalso; omega))
      · refine r_iconst (pc := 31) dX8_node_31 ?_
        refine r_iret (pc := 32) hret dX8_node_32 rfl rfl rfl ?_
        first
        | exact hB (fun z => c_5 z.1)
        | exact hB (fun z => c_28 (by have := z.2; rw [if_pos c_16] at this; exact this))
        | exact hB (fun z => c_28 (by have := z.2; rw [if_neg c_16] at this; exact this))
        | (have z := hQ ⟨c_5, by first | (rw [if_pos c_16]; exact c_28) | (rw [if_neg c_16]; exact c_28)⟩
           first | exact z.1 rfl | exact (z.2.1 rfl).1 c_79 | exact (z.2.1 rfl).2 c_79 | exact z.2.2.2.1 rfl | exact z.2.2.2.2.1 rfl | exact z.2.2.2.2.2.1 rfl | exact z.2.2.2.2.2.2 rfl | (exfalso; omega))

theorem gcd_of {a c y : Int} (h0 : 0 < a) (h1 : y ∣ a) (h2 : y ∣ c) (h3 : 1 ≤ y) (h4 : ∀ x : Nat, y < x → (x : Int) ≤ a → (x : Int) ∣ a → (x : Int) ∣ c → False) : y = (Int.gcd a c : Nat) := by
  have g1 : ((Int.gcd a c : Nat) : Int) ∣ a := Int.gcd_dvd_left _ _
  have g2 : ((Int.gcd a c : Nat) : Int) ∣ c := Int.gcd_dvd_right _ _
  have g3 : y ∣ ((Int.gcd a c : Nat) : Int) := Int.dvd_coe_gcd h1 h2
  have g4 : ((Int.gcd a c : Nat) : Int) ≤ a := Int.le_of_dvd h0 g1
  have g5 : 0 < ((Int.gcd a c : Nat) : Int) := by
    have : 0 < Int.gcd a c := Int.gcd_pos_of_ne_zero_left _ (by omega)
    omega
  have g6 : y ≤ ((Int.gcd a c : Nat) : Int) := Int.le_of_dvd g5 g3
  rcases Int.lt_or_le y ((Int.gcd a c : Nat) : Int) with q | q
  · exact absurd (h4 _ q g4 g1 g2) id
  · omega
theorem dX8_share_0 : decode cX8_share 0 = .ok (.aload_n 0, 1) := by decide +kernel
theorem dX8_share_1 : decode cX8_share 1 = .ok (.iload_n 1, 1) := by decide +kernel
theorem dX8_share_2 : decode cX8_share 2 = .ok (.invokevirtual 154, 3) := by decide +kernel
theorem dX8_share_5 : decode cX8_share 5 = .ok (.ifCond .eq 13, 3) := by decide +kernel
theorem dX8_share_8 : decode cX8_share 8 = .ok (.aload_n 0, 1) := by decide +kernel
theorem dX8_share_9 : decode cX8_share 9 = .ok (.iload_n 2, 1) := by decide +kernel
theorem dX8_share_10 : decode cX8_share 10 = .ok (.iconst 0, 1) := by decide +kernel
theorem dX8_share_11 : decode cX8_share 11 = .ok (.iconst 1, 1) := by decide +kernel
theorem dX8_share_12 : decode cX8_share 12 = .ok (.invokevirtual 137, 3) := by decide +kernel
theorem dX8_share_15 : decode cX8_share 15 = .ok (.ifCond .ne 5, 3) := by decide +kernel
theorem dX8_share_18 : decode cX8_share 18 = .ok (.iconst (-1), 1) := by decide +kernel
theorem dX8_share_19 : decode cX8_share 19 = .ok (.ireturn, 1) := by decide +kernel
theorem dX8_share_20 : decode cX8_share 20 = .ok (.aload_n 0, 1) := by decide +kernel
theorem dX8_share_21 : decode cX8_share 21 = .ok (.iconst 0, 1) := by decide +kernel
theorem dX8_share_22 : decode cX8_share 22 = .ok (.invokevirtual 157, 3) := by decide +kernel
theorem dX8_share_25 : decode cX8_share 25 = .ok (.istore_n 3, 1) := by decide +kernel
theorem dX8_share_26 : decode cX8_share 26 = .ok (.iload_n 3, 1) := by decide +kernel
theorem dX8_share_27 : decode cX8_share 27 = .ok (.ifCond .ne 6, 3) := by decide +kernel
theorem dX8_share_30 : decode cX8_share 30 = .ok (.bipush (-4), 2) := by decide +kernel
theorem dX8_share_32 : decode cX8_share 32 = .ok (.ireturn, 1) := by decide +kernel
theorem dX8_share_33 : decode cX8_share 33 = .ok (.aload_n 0, 1) := by decide +kernel
theorem dX8_share_34 : decode cX8_share 34 = .ok (.iload_n 1, 1) := by decide +kernel
theorem dX8_share_35 : decode cX8_share 35 = .ok (.invokevirtual 157, 3) := by decide +kernel
theorem dX8_share_38 : decode cX8_share 38 = .ok (.istore 4, 2) := by decide +kernel
theorem dX8_share_40 : decode cX8_share 40 = .ok (.iload_n 3, 1) := by decide +kernel
theorem dX8_share_41 : decode cX8_share 41 = .ok (.istore 5, 2) := by decide +kernel
theorem dX8_share_43 : decode cX8_share 43 = .ok (.iload 4, 2) := by decide +kernel
theorem dX8_share_45 : decode cX8_share 45 = .ok (.iload 5, 2) := by decide +kernel
theorem dX8_share_47 : decode cX8_share 47 = .ok (.irem, 1) := by decide +kernel
theorem dX8_share_48 : decode cX8_share 48 = .ok (.ifCond .ne 10, 3) := by decide +kernel
theorem dX8_share_51 : decode cX8_share 51 = .ok (.iload_n 3, 1) := by decide +kernel
theorem dX8_share_52 : decode cX8_share 52 = .ok (.iload 5, 2) := by decide +kernel
theorem dX8_share_54 : decode cX8_share 54 = .ok (.irem, 1) := by decide +kernel
theorem dX8_share_55 : decode cX8_share 55 = .ok (.ifCond .eq 9, 3) := by decide +kernel
theorem dX8_share_58 : decode cX8_share 58 = .ok (.iinc 5 (-1), 3) := by decide +kernel
theorem dX8_share_61 : decode cX8_share 61 = .ok (.goto (-18), 3) := by decide +kernel
theorem dX8_share_64 : decode cX8_share 64 = .ok (.iload_n 2, 1) := by decide +kernel
theorem dX8_share_65 : decode cX8_share 65 = .ok (.ifCond .ne 11, 3) := by decide +kernel
theorem dX8_share_68 : decode cX8_share 68 = .ok (.iload 4, 2) := by decide +kernel
theorem dX8_share_70 : decode cX8_share 70 = .ok (.iload 5, 2) := by decide +kernel
theorem dX8_share_72 : decode cX8_share 72 = .ok (.idiv, 1) := by decide +kernel
theorem dX8_share_73 : decode cX8_share 73 = .ok (.goto 7, 3) := by decide +kernel
theorem dX8_share_76 : decode cX8_share 76 = .ok (.iload_n 3, 1) := by decide +kernel
theorem dX8_share_77 : decode cX8_share 77 = .ok (.iload 5, 2) := by decide +kernel
theorem dX8_share_79 : decode cX8_share 79 = .ok (.idiv, 1) := by decide +kernel
theorem dX8_share_80 : decode cX8_share 80 = .ok (.ireturn, 1) := by decide +kernel
set_option maxHeartbeats 4000000 in
set_option maxRecDepth 20000 in
theorem c_X8_share : ConI mX8_share (fun args N lay r h Q => ∃ (b : Nat) (mp : Int → Int) (n p : Int), args = [.ref b, vI n, vI p] ∧ MdAt lay r b ∧ h (b + 2) = mp ∧ TrM mp ∧ RlM mp ∧ (-2147483648 ≤ n ∧ n < 2147483648) ∧ (-2147483648 ≤ p ∧ p < 2147483648) ∧ (¬ (isNd mp n ∧ (0 ≤ p ∧ p ≤ 1)) → Q (-1) N lay r h) ∧ ((isNd mp n ∧ (0 ≤ p ∧ p ≤ 1)) → (wt mp 0 = 0 → Q (-4) N lay r h) ∧ (wt mp 0 ≠ 0 → (p = 0 → Q (wt mp n / (Int.gcd (wt mp 0) (wt mp n) : Nat)) N lay r h) ∧ (p ≠ 0 → Q (wt mp 0 / (Int.gcd (wt mp 0) (wt mp n) : Nat)) N lay r h)))) := by
  refine ConI.of (by decide) (by rintro _ N lay r h Q ⟨b, mp, n, p, rfl, hM, hmp, hT, hR, hn, hp, hB, hQ⟩; exact ⟨rfl, Nat.le_of_ble_eq_true rfl⟩) ?_
  rintro E _ N lay r h Q ⟨b, mp, n, p, rfl, hM, hmp, hT, hR, hn, hp, hB, hQ⟩ hret
  obtain ⟨ml0, ml1, ml2, ml3, ml4, ml5, ml6, ml7, ml8, ml9, ml10, ml11, ml12, ml13, ml14, ml15, ml16, ml17, ml18, ml19, ml20, mr1, mr2, mr3, mr4, mr5, mr6, mr7, mr8, mr9, mr10, mr11, mr12, mr13, mr14, mr15, mr16, mr17, mr18, mr19, mr20⟩ := id hM
  obtain ⟨t1, t2, t3, t4, t5, t6, t7⟩ := id hT
  obtain ⟨r1, r2, r3, r4, r5, r6, r7⟩ := id hR
  show St E mX8_share 0 [some (.ref b), some (vI n), some (vI p), none, none, none] [] (0, 0) N lay r h
  have lp : ∀ (hc0 : isNd mp n ∧ (0 ≤ p ∧ p ≤ 1)) (hz0 : wt mp 0 ≠ 0) (n_ : Nat) (by_ : Int), by_.toNat = n_ → (1 ≤ by_ ∧ by_ ≤ wt mp 0) → (∀ x : Nat, by_ < x → (x : Int) ≤ wt mp 0 → ¬ ((x : Int) ∣ wt mp n ∧ (x : Int) ∣ wt mp 0)) → St E mX8_share 43 [some (.ref b), some (vI n), some (vI p), some (vI (wt mp 0)), some (vI (wt mp n)), some (vI by_)] [] (0, 0) N lay r h := by
    intro hc0 hz0 n_
    induction n_ using Nat.strongRecOn with
    | ind n_ ih =>
      intro by_ hn_ hby hno
      have hb1 : by_ ≤ wt mp 0 := hby.2
      have wn0 := wt_r hT n
      have wr0 := wt_r hT 0
      have md1 := Int.emod_nonneg (wt mp n) (show by_ ≠ 0 by omega)
      have md2 := Int.emod_lt_of_pos (wt mp n) (show 0 < by_ by omega)
      have md3 := Int.emod_nonneg (wt mp 0) (show by_ ≠ 0 by omega)
      have md4 := Int.emod_lt_of_pos (wt mp 0) (show 0 < by_ by omega)
      refine r_iload_4 (pc := 43) dX8_share_43 ?_
      refine r_iload_5 (pc := 45) dX8_share_45 ?_
      refine r_irem (pc := 47) dX8_share_47 (by omega) (by omega) ?_
      refine r_if_ne (pc := 48) (tgt := 58) dX8_share_48 (by decide) (by omega) (fun c_48 => ?_) (fun c_48 => ?_)
      · refine r_iinc_5 (pc := 58) dX8_share_58 rfl ?_
        refine r_goto (pc := 61) (tgt := 43) dX8_share_61 (by decide) ?_
        have hne : by_ ≠ 1 := fun e => by
          subst e
          first | exact c_48 (Int.emod_one _) | exact c_55 (Int.emod_one _)
        refine ih _ (by omega) (by_ + (-1)) rfl (by omega) (fun x hx1 hx2 z => ?_)
        by_cases e : (x : Int) = by_
        · rw [e] at z
          first | exact c_48 (Int.emod_eq_zero_of_dvd z.1) | exact c_55 (Int.emod_eq_zero_of_dvd z.2)
        · exact hno x (by omega) hx2 z
      · refine r_iload_3 (pc := 51) dX8_share_51 ?_
        refine r_iload_5 (pc := 52) dX8_share_52 ?_
        refine r_irem (pc := 54) dX8_share_54 (by omega) (by omega) ?_
        refine r_if_eq (pc := 55) (tgt := 64) dX8_share_55 (by decide) (by omega) (fun c_55 => ?_) (fun c_55 => ?_)
        · refine r_iload_2 (pc := 64) dX8_share_64 ?_
          refine r_if_ne (pc := 65) (tgt := 76) dX8_share_65 (by decide) (by omega) (fun c_65 => ?_) (fun c_65 => ?_)
          · refine r_iload_3 (pc := 76) dX8_share_76 ?_
            refine r_iload_5 (pc := 77) dX8_share_77 ?_
            refine r_idiv (pc := 79) dX8_share_79 (by omega) (by omega) ?_
            refine r_iret (pc := 80) hret dX8_share_80 rfl rfl rfl ?_
            have hd1 : by_ ∣ wt mp n := Int.dvd_of_emod_eq_zero c_48
            have hd2 : by_ ∣ wt mp 0 := Int.dvd_of_emod_eq_zero c_55
            have hg : by_ = (Int.gcd (wt mp 0) (wt mp n) : Nat) := gcd_of (by omega) hd2 hd1 (by omega) (fun x hx1 hx2 h1 h2 => hno x hx1 hx2 ⟨h2, h1⟩)
            have z := (hQ hc0).2 hz0
            rw [← hg] at z
            first | exact z.1 (by omega) | exact z.2 (by omega)
          · refine r_iload_4 (pc := 68) dX8_share_68 ?_
            refine r_iload_5 (pc := 70) dX8_share_70 ?_
            refine r_idiv (pc := 72) dX8_share_72 (by omega) (by omega) ?_
            refine r_goto (pc := 73) (tgt := 80) dX8_share_73 (by decide) ?_
            refine r_iret (pc := 80) hret dX8_share_80 rfl rfl rfl ?_
            have hd1 : by_ ∣ wt mp n := Int.dvd_of_emod_eq_zero c_48
            have hd2 : by_ ∣ wt mp 0 := Int.dvd_of_emod_eq_zero c_55
            have hg : by_ = (Int.gcd (wt mp 0) (wt mp n) : Nat) := gcd_of (by omega) hd2 hd1 (by omega) (fun x hx1 hx2 h1 h2 => hno x hx1 hx2 ⟨h2, h1⟩)
            have z := (hQ hc0).2 hz0
            rw [← hg] at z
            first | exact z.1 (by omega) | exact z.2 (by omega)
        · refine r_iinc_5 (pc := 58) dX8_share_58 rfl ?_
          refine r_goto (pc := 61) (tgt := 43) dX8_share_61 (by decide) ?_
          have hne : by_ ≠ 1 := fun e => by
            subst e
            first | exact c_48 (Int.emod_one _) | exact c_55 (Int.emod_one _)
          refine ih _ (by omega) (by_ + (-1)) rfl (by omega) (fun x hx1 hx2 z => ?_)
          by_cases e : (x : Int) = by_
          · rw [e] at z
            first | exact c_48 (Int.emod_eq_zero_of_dvd z.1) | exact c_55 (Int.emod_eq_zero_of_dvd z.2)
          · exact hno x (by omega) hx2 z
  refine r_aload_0 (pc := 0) dX8_share_0 ?_
  refine r_iload_1 (pc := 1) dX8_share_1 ?_
  refine k_VI1 (pc := 2) c_X8_isNode lk_X8_154 ⟨Nat.le_of_ble_eq_true rfl, Nat.le_of_ble_eq_true rfl⟩ ⟨rfl, rfl⟩ ⟨Nat.le_of_ble_eq_true rfl, Nat.le_of_ble_eq_true rfl⟩ (k := 8) rfl (by decide) (by assumption) dX8_share_2 (Nat.le_of_ble_eq_true rfl) ?_
  refine ⟨_, _, _, rfl, by assumption, by first | assumption | exact rfl, by omega, by assumption, ?_⟩
  refine r_ifeq_b (pc := 5) (tgt := 18) dX8_share_5 (by decide) (fun c_5 => ?_) (fun c_5 => ?_)
  · refine r_iconst (pc := 18) dX8_share_18 ?_
    refine r_iret (pc := 19) hret dX8_share_19 rfl rfl rfl ?_
    first | exact hB (fun z => c_5 z.1) | exact hB (fun z => c_15 z.2) | exact (hQ ⟨c_5, c_15⟩).1 c_27
  · refine r_aload_0 (pc := 8) dX8_share_8 ?_
    refine r_iload_2 (pc := 9) dX8_share_9 ?_
    refine r_iconst (pc := 10) dX8_share_10 ?_
    refine r_iconst (pc := 11) dX8_share_11 ?_
    refine k_VI3 (pc := 12) c_X8_isIn lk_X8_137 ⟨Nat.le_of_ble_eq_true rfl, Nat.le_of_ble_eq_true rfl⟩ ⟨rfl, rfl⟩ ⟨Nat.le_of_ble_eq_true rfl, Nat.le_of_ble_eq_true rfl⟩ (k := 8) rfl (by decide) (by assumption) dX8_share_12 (Nat.le_of_ble_eq_true rfl) ?_
    refine ⟨_, _, _, _, rfl, by omega, by omega, by omega, ?_⟩
    refine r_ifne_b (pc := 15) (tgt := 20) dX8_share_15 (by decide) (fun c_15 => ?_) (fun c_15 => ?_)
    · refine r_aload_0 (pc := 20) dX8_share_20 ?_
      refine r_iconst (pc := 21) dX8_share_21 ?_
      refine k_VI1 (pc := 22) c_X8_weightOf lk_X8_157 ⟨Nat.le_of_ble_eq_true rfl, Nat.le_of_ble_eq_true rfl⟩ ⟨rfl, rfl⟩ ⟨Nat.le_of_ble_eq_true rfl, Nat.le_of_ble_eq_true rfl⟩ (k := 8) rfl (by decide) (by assumption) dX8_share_22 (Nat.le_of_ble_eq_true rfl) ?_
      refine ⟨_, _, _, rfl, by assumption, by first | assumption | exact rfl, by assumption, by omega, ?_⟩
      refine r_istore_3 (pc := 25) dX8_share_25 rfl ?_
      refine r_iload_3 (pc := 26) dX8_share_26 ?_
      have wr0 := wt_r hT 0
      refine r_if_ne (pc := 27) (tgt := 33) dX8_share_27 (by decide) (by omega) (fun c_27 => ?_) (fun c_27 => ?_)
      · refine r_aload_0 (pc := 33) dX8_share_33 ?_
        refine r_iload_1 (pc := 34) dX8_share_34 ?_
        refine k_VI1 (pc := 35) c_X8_weightOf lk_X8_157 ⟨Nat.le_of_ble_eq_true rfl, Nat.le_of_ble_eq_true rfl⟩ ⟨rfl, rfl⟩ ⟨Nat.le_of_ble_eq_true rfl, Nat.le_of_ble_eq_true rfl⟩ (k := 8) rfl (by decide) (by assumption) dX8_share_35 (Nat.le_of_ble_eq_true rfl) ?_
        refine ⟨_, _, _, rfl, by assumption, by first | assumption | exact rfl, by assumption, by omega, ?_⟩
        refine r_istore_4 (pc := 38) dX8_share_38 rfl ?_
        refine r_iload_3 (pc := 40) dX8_share_40 ?_
        refine r_istore_5 (pc := 41) dX8_share_41 rfl ?_
        exact lp ⟨c_5, c_15⟩ c_27 _ (wt mp 0) rfl (by omega) (fun x hx1 hx2 => by omega)
      · refine r_bipush (pc := 30) dX8_share_30 (by decide) ?_
        refine r_iret (pc := 32) hret dX8_share_32 rfl rfl rfl ?_
        first | exact hB (fun z => c_5 z.1) | exact hB (fun z => c_15 z.2) | exact (hQ ⟨c_5, c_15⟩).1 c_27
    · refine r_iconst (pc := 18) dX8_share_18 ?_
      refine r_iret (pc := 19) hret dX8_share_19 rfl rfl rfl ?_
      first | exact hB (fun z => c_5 z.1) | exact hB (fun z => c_15 z.2) | exact (hQ ⟨c_5, c_15⟩).1 c_27

theorem dX8_count_0 : decode cX8_count 0 = .ok (.iload_n 1, 1) := by decide +kernel
theorem dX8_count_1 : decode cX8_count 1 = .ok (.tableswitch 136 0 16 #[83, 83, 83, 83, 83, 83, 83, 83, 94, 99, 104, 112, 117, 117, 117, 126, 131], 83) := by decide +kernel
theorem dX8_count_84 : decode cX8_count 84 = .ok (.aload_n 0, 1) := by decide +kernel
theorem dX8_count_85 : decode cX8_count 85 = .ok (.getfield 13, 3) := by decide +kernel
theorem dX8_count_88 : decode cX8_count 88 = .ok (.sipush 128, 3) := by decide +kernel
theorem dX8_count_91 : decode cX8_count 91 = .ok (.iload_n 1, 1) := by decide +kernel
theorem dX8_count_92 : decode cX8_count 92 = .ok (.iadd, 1) := by decide +kernel
theorem dX8_count_93 : decode cX8_count 93 = .ok (.iaload, 1) := by decide +kernel
theorem dX8_count_94 : decode cX8_count 94 = .ok (.ireturn, 1) := by decide +kernel
theorem dX8_count_95 : decode cX8_count 95 = .ok (.aload_n 0, 1) := by decide +kernel
theorem dX8_count_96 : decode cX8_count 96 = .ok (.getfield 116, 3) := by decide +kernel
theorem dX8_count_99 : decode cX8_count 99 = .ok (.ireturn, 1) := by decide +kernel
theorem dX8_count_100 : decode cX8_count 100 = .ok (.aload_n 0, 1) := by decide +kernel
theorem dX8_count_101 : decode cX8_count 101 = .ok (.invokevirtual 266, 3) := by decide +kernel
theorem dX8_count_104 : decode cX8_count 104 = .ok (.ireturn, 1) := by decide +kernel
theorem dX8_count_105 : decode cX8_count 105 = .ok (.aload_n 0, 1) := by decide +kernel
theorem dX8_count_106 : decode cX8_count 106 = .ok (.getfield 125, 3) := by decide +kernel
theorem dX8_count_109 : decode cX8_count 109 = .ok (.invokestatic 242, 3) := by decide +kernel
theorem dX8_count_112 : decode cX8_count 112 = .ok (.ireturn, 1) := by decide +kernel
theorem dX8_count_113 : decode cX8_count 113 = .ok (.aload_n 0, 1) := by decide +kernel
theorem dX8_count_114 : decode cX8_count 114 = .ok (.invokevirtual 269, 3) := by decide +kernel
theorem dX8_count_117 : decode cX8_count 117 = .ok (.ireturn, 1) := by decide +kernel
theorem dX8_count_118 : decode cX8_count 118 = .ok (.aload_n 0, 1) := by decide +kernel
theorem dX8_count_119 : decode cX8_count 119 = .ok (.iload_n 1, 1) := by decide +kernel
theorem dX8_count_120 : decode cX8_count 120 = .ok (.bipush 12, 2) := by decide +kernel
theorem dX8_count_122 : decode cX8_count 122 = .ok (.isub, 1) := by decide +kernel
theorem dX8_count_123 : decode cX8_count 123 = .ok (.invokevirtual 272, 3) := by decide +kernel
theorem dX8_count_126 : decode cX8_count 126 = .ok (.ireturn, 1) := by decide +kernel
theorem dX8_count_127 : decode cX8_count 127 = .ok (.aload_n 0, 1) := by decide +kernel
theorem dX8_count_128 : decode cX8_count 128 = .ok (.getfield 131, 3) := by decide +kernel
theorem dX8_count_131 : decode cX8_count 131 = .ok (.ireturn, 1) := by decide +kernel
theorem dX8_count_132 : decode cX8_count 132 = .ok (.aload_n 0, 1) := by decide +kernel
theorem dX8_count_133 : decode cX8_count 133 = .ok (.getfield 85, 3) := by decide +kernel
theorem dX8_count_136 : decode cX8_count 136 = .ok (.ireturn, 1) := by decide +kernel
theorem dX8_count_137 : decode cX8_count 137 = .ok (.iconst (-1), 1) := by decide +kernel
theorem dX8_count_138 : decode cX8_count 138 = .ok (.ireturn, 1) := by decide +kernel
set_option maxHeartbeats 4000000 in
set_option maxRecDepth 20000 in
theorem c_X8_count : ConI mX8_count (fun args N lay r h Q => ∃ (b : Nat) (mp : Int → Int) (w : Int), args = [.ref b, vI w] ∧ MdAt lay r b ∧ h (b + 2) = mp ∧ TrM mp ∧ RlM mp ∧ (-2147483648 ≤ w ∧ w < 2147483648) ∧ (¬ (0 ≤ w ∧ w ≤ 16) → Q (-1) N lay r h) ∧ ((0 ≤ w ∧ w ≤ 16) → (w < 8 → Q (mp (128 + w)) N lay r h) ∧ (w = 8 → Q (h b 5) N lay r h) ∧ (w = 9 → Q (sm (fun k => bI (0 < h (b + 4) k)) 5) N lay r h) ∧ (w = 10 → Q (bts (h b 17)) N lay r h) ∧ (w = 11 → Q (sm (fun k => mp (88 + (10 + k))) (mp 130).toNat) N lay r h) ∧ (12 ≤ w → w ≤ 14 → Q (sm (fun g => if w - 12 = 0 then bI (h (b + 14) g = 0) else if w - 12 = 1 then bI (iA (h (b + 14) g) (h b 17) = 0) else bI (wan (h (b + 12)) (h b 17) (h (b + 14)) g = true)) 16) N lay r h) ∧ (w = 15 → Q (h b 19) N lay r h) ∧ (w = 16 → Q (h b 0) N lay r h))) := by
  refine ConI.of (by decide) (by rintro _ N lay r h Q ⟨b, mp, w, rfl, hM, hmp, hT, hR, hw, hB, hQ⟩; exact ⟨rfl, Nat.le_of_ble_eq_true rfl⟩) ?_
  rintro E _ N lay r h Q ⟨b, mp, w, rfl, hM, hmp, hT, hR, hw, hB, hQ⟩ hret
  obtain ⟨ml0, ml1, ml2, ml3, ml4, ml5, ml6, ml7, ml8, ml9, ml10, ml11, ml12, ml13, ml14, ml15, ml16, ml17, ml18, ml19, ml20, mr1, mr2, mr3, mr4, mr5, mr6, mr7, mr8, mr9, mr10, mr11, mr12, mr13, mr14, mr15, mr16, mr17, mr18, mr19, mr20⟩ := id hM
  obtain ⟨t1, t2, t3, t4, t5, t6, t7⟩ := id hT
  obtain ⟨r1, r2, r3, r4, r5, r6, r7⟩ := id hR
  show St E mX8_count 0 [some (.ref b), some (vI w)] [] (0, 0) N lay r h
  refine r_iload_1 (pc := 0) dX8_count_0 ?_
  rcases (show w = 0 ∨ w = 1 ∨ w = 2 ∨ w = 3 ∨ w = 4 ∨ w = 5 ∨ w = 6 ∨ w = 7 ∨ w = 8 ∨ w = 9 ∨ w = 10 ∨ w = 11 ∨ w = 12 ∨ w = 13 ∨ w = 14 ∨ w = 15 ∨ w = 16 ∨ (w < 0 ∨ 16 < w) by omega) with rfl | rfl | rfl | rfl | rfl | rfl | rfl | rfl | rfl | rfl | rfl | rfl | rfl | rfl | rfl | rfl | rfl | hsw
  · refine r_tableIn (pc := 1) (off := 83) (tgt := 84) dX8_count_1 (by decide) (by decide) (by decide) (by decide) (by decide) ?_
    refine r_aload_0 (pc := 84) dX8_count_84 ?_
    refine gf_X8_13 (pc := 85) rfl (by assumption) dX8_count_85 (by assumption) ?_
    refine r_sipush (pc := 88) dX8_count_88 (by decide) ?_
    refine r_iload_1 (pc := 91) dX8_count_91 ?_
    refine r_iadd (pc := 92) dX8_count_92 ?_
    refine r_ialdE (pc := 93) (by assumption) (by first | assumption | exact rfl) dX8_count_93 (by omega) (by omega) (fun i_93 => ?_)
    refine r_iret (pc := 94) hret dX8_count_94 rfl rfl rfl ?_
    first
    | exact hB (by omega)
    | (have z := hQ (by omega)
       first | exact z.1 (by omega) | exact z.2.1 rfl | exact z.2.2.1 rfl | exact z.2.2.2.1 rfl | exact z.2.2.2.2.1 rfl | exact z.2.2.2.2.2.1 (by omega) (by omega) | exact z.2.2.2.2.2.2.1 rfl | exact z.2.2.2.2.2.2.2 rfl)
  · refine r_tableIn (pc := 1) (off := 83) (tgt := 84) dX8_count_1 (by decide) (by decide) (by decide) (by decide) (by decide) ?_
    refine r_aload_0 (pc := 84) dX8_count_84 ?_
    refine gf_X8_13 (pc := 85) rfl (by assumption) dX8_count_85 (by assumption) ?_
    refine r_sipush (pc := 88) dX8_count_88 (by decide) ?_
    refine r_iload_1 (pc := 91) dX8_count_91 ?_
    refine r_iadd (pc := 92) dX8_count_92 ?_
    refine r_ialdE (pc := 93) (by assumption) (by first | assumption | exact rfl) dX8_count_93 (by omega) (by omega) (fun i_93 => ?_)
    refine r_iret (pc := 94) hret dX8_count_94 rfl rfl rfl ?_
    first
    | exact hB (by omega)
    | (have z := hQ (by omega)
       first | exact z.1 (by omega) | exact z.2.1 rfl | exact z.2.2.1 rfl | exact z.2.2.2.1 rfl | exact z.2.2.2.2.1 rfl | exact z.2.2.2.2.2.1 (by omega) (by omega) | exact z.2.2.2.2.2.2.1 rfl | exact z.2.2.2.2.2.2.2 rfl)
  · refine r_tableIn (pc := 1) (off := 83) (tgt := 84) dX8_count_1 (by decide) (by decide) (by decide) (by decide) (by decide) ?_
    refine r_aload_0 (pc := 84) dX8_count_84 ?_
    refine gf_X8_13 (pc := 85) rfl (by assumption) dX8_count_85 (by assumption) ?_
    refine r_sipush (pc := 88) dX8_count_88 (by decide) ?_
    refine r_iload_1 (pc := 91) dX8_count_91 ?_
    refine r_iadd (pc := 92) dX8_count_92 ?_
    refine r_ialdE (pc := 93) (by assumption) (by first | assumption | exact rfl) dX8_count_93 (by omega) (by omega) (fun i_93 => ?_)
    refine r_iret (pc := 94) hret dX8_count_94 rfl rfl rfl ?_
    first
    | exact hB (by omega)
    | (have z := hQ (by omega)
       first | exact z.1 (by omega) | exact z.2.1 rfl | exact z.2.2.1 rfl | exact z.2.2.2.1 rfl | exact z.2.2.2.2.1 rfl | exact z.2.2.2.2.2.1 (by omega) (by omega) | exact z.2.2.2.2.2.2.1 rfl | exact z.2.2.2.2.2.2.2 rfl)
  · refine r_tableIn (pc := 1) (off := 83) (tgt := 84) dX8_count_1 (by decide) (by decide) (by decide) (by decide) (by decide) ?_
    refine r_aload_0 (pc := 84) dX8_count_84 ?_
    refine gf_X8_13 (pc := 85) rfl (by assumption) dX8_count_85 (by assumption) ?_
    refine r_sipush (pc := 88) dX8_count_88 (by decide) ?_
    refine r_iload_1 (pc := 91) dX8_count_91 ?_
    refine r_iadd (pc := 92) dX8_count_92 ?_
    refine r_ialdE (pc := 93) (by assumption) (by first | assumption | exact rfl) dX8_count_93 (by omega) (by omega) (fun i_93 => ?_)
    refine r_iret (pc := 94) hret dX8_count_94 rfl rfl rfl ?_
    first
    | exact hB (by omega)
    | (have z := hQ (by omega)
       first | exact z.1 (by omega) | exact z.2.1 rfl | exact z.2.2.1 rfl | exact z.2.2.2.1 rfl | exact z.2.2.2.2.1 rfl | exact z.2.2.2.2.2.1 (by omega) (by omega) | exact z.2.2.2.2.2.2.1 rfl | exact z.2.2.2.2.2.2.2 rfl)
  · refine r_tableIn (pc := 1) (off := 83) (tgt := 84) dX8_count_1 (by decide) (by decide) (by decide) (by decide) (by decide) ?_
    refine r_aload_0 (pc := 84) dX8_count_84 ?_
    refine gf_X8_13 (pc := 85) rfl (by assumption) dX8_count_85 (by assumption) ?_
    refine r_sipush (pc := 88) dX8_count_88 (by decide) ?_
    refine r_iload_1 (pc := 91) dX8_count_91 ?_
    refine r_iadd (pc := 92) dX8_count_92 ?_
    refine r_ialdE (pc := 93) (by assumption) (by first | assumption | exact rfl) dX8_count_93 (by omega) (by omega) (fun i_93 => ?_)
    refine r_iret (pc := 94) hret dX8_count_94 rfl rfl rfl ?_
    first
    | exact hB (by omega)
    | (have z := hQ (by omega)
       first | exact z.1 (by omega) | exact z.2.1 rfl | exact z.2.2.1 rfl | exact z.2.2.2.1 rfl | exact z.2.2.2.2.1 rfl | exact z.2.2.2.2.2.1 (by omega) (by omega) | exact z.2.2.2.2.2.2.1 rfl | exact z.2.2.2.2.2.2.2 rfl)
  · refine r_tableIn (pc := 1) (off := 83) (tgt := 84) dX8_count_1 (by decide) (by decide) (by decide) (by decide) (by decide) ?_
    refine r_aload_0 (pc := 84) dX8_count_84 ?_
    refine gf_X8_13 (pc := 85) rfl (by assumption) dX8_count_85 (by assumption) ?_
    refine r_sipush (pc := 88) dX8_count_88 (by decide) ?_
    refine r_iload_1 (pc := 91) dX8_count_91 ?_
    refine r_iadd (pc := 92) dX8_count_92 ?_
    refine r_ialdE (pc := 93) (by assumption) (by first | assumption | exact rfl) dX8_count_93 (by omega) (by omega) (fun i_93 => ?_)
    refine r_iret (pc := 94) hret dX8_count_94 rfl rfl rfl ?_
    first
    | exact hB (by omega)
    | (have z := hQ (by omega)
       first | exact z.1 (by omega) | exact z.2.1 rfl | exact z.2.2.1 rfl | exact z.2.2.2.1 rfl | exact z.2.2.2.2.1 rfl | exact z.2.2.2.2.2.1 (by omega) (by omega) | exact z.2.2.2.2.2.2.1 rfl | exact z.2.2.2.2.2.2.2 rfl)
  · refine r_tableIn (pc := 1) (off := 83) (tgt := 84) dX8_count_1 (by decide) (by decide) (by decide) (by decide) (by decide) ?_
    refine r_aload_0 (pc := 84) dX8_count_84 ?_
    refine gf_X8_13 (pc := 85) rfl (by assumption) dX8_count_85 (by assumption) ?_
    refine r_sipush (pc := 88) dX8_count_88 (by decide) ?_
    refine r_iload_1 (pc := 91) dX8_count_91 ?_
    refine r_iadd (pc := 92) dX8_count_92 ?_
    refine r_ialdE (pc := 93) (by assumption) (by first | assumption | exact rfl) dX8_count_93 (by omega) (by omega) (fun i_93 => ?_)
    refine r_iret (pc := 94) hret dX8_count_94 rfl rfl rfl ?_
    first
    | exact hB (by omega)
    | (have z := hQ (by omega)
       first | exact z.1 (by omega) | exact z.2.1 rfl | exact z.2.2.1 rfl | exact z.2.2.2.1 rfl | exact z.2.2.2.2.1 rfl | exact z.2.2.2.2.2.1 (by omega) (by omega) | exact z.2.2.2.2.2.2.1 rfl | exact z.2.2.2.2.2.2.2 rfl)
  · refine r_tableIn (pc := 1) (off := 83) (tgt := 84) dX8_count_1 (by decide) (by decide) (by decide) (by decide) (by decide) ?_
    refine r_aload_0 (pc := 84) dX8_count_84 ?_
    refine gf_X8_13 (pc := 85) rfl (by assumption) dX8_count_85 (by assumption) ?_
    refine r_sipush (pc := 88) dX8_count_88 (by decide) ?_
    refine r_iload_1 (pc := 91) dX8_count_91 ?_
    refine r_iadd (pc := 92) dX8_count_92 ?_
    refine r_ialdE (pc := 93) (by assumption) (by first | assumption | exact rfl) dX8_count_93 (by omega) (by omega) (fun i_93 => ?_)
    refine r_iret (pc := 94) hret dX8_count_94 rfl rfl rfl ?_
    first
    | exact hB (by omega)
    | (have z := hQ (by omega)
       first | exact z.1 (by omega) | exact z.2.1 rfl | exact z.2.2.1 rfl | exact z.2.2.2.1 rfl | exact z.2.2.2.2.1 rfl | exact z.2.2.2.2.2.1 (by omega) (by omega) | exact z.2.2.2.2.2.2.1 rfl | exact z.2.2.2.2.2.2.2 rfl)
  · refine r_tableIn (pc := 1) (off := 94) (tgt := 95) dX8_count_1 (by decide) (by decide) (by decide) (by decide) (by decide) ?_
    refine r_aload_0 (pc := 95) dX8_count_95 ?_
    refine gf_X8_116 (pc := 96) rfl (by assumption) dX8_count_96 (fun i_96 => ?_)
    refine r_iret (pc := 99) hret dX8_count_99 rfl rfl rfl ?_
    first
    | exact hB (by omega)
    | (have z := hQ (by omega)
       first | exact z.1 (by omega) | exact z.2.1 rfl | exact z.2.2.1 rfl | exact z.2.2.2.1 rfl | exact z.2.2.2.2.1 rfl | exact z.2.2.2.2.2.1 (by omega) (by omega) | exact z.2.2.2.2.2.2.1 rfl | exact z.2.2.2.2.2.2.2 rfl)
  · refine r_tableIn (pc := 1) (off := 99) (tgt := 100) dX8_count_1 (by decide) (by decide) (by decide) (by decide) (by decide) ?_
    refine r_aload_0 (pc := 100) dX8_count_100 ?_
    refine k_VI0 (pc := 101) c_X8_known lk_X8_266 ⟨Nat.le_of_ble_eq_true rfl, Nat.le_of_ble_eq_true rfl⟩ ⟨rfl, rfl⟩ ⟨Nat.le_of_ble_eq_true rfl, Nat.le_of_ble_eq_true rfl⟩ (k := 8) rfl (by decide) (by assumption) dX8_count_101 (Nat.le_of_ble_eq_true rfl) ?_
    refine ⟨_, rfl, by assumption, ?_⟩
    refine r_iret (pc := 104) hret dX8_count_104 rfl rfl rfl ?_
    first
    | exact hB (by omega)
    | (have z := hQ (by omega)
       first | exact z.1 (by omega) | exact z.2.1 rfl | exact z.2.2.1 rfl | exact z.2.2.2.1 rfl | exact z.2.2.2.2.1 rfl | exact z.2.2.2.2.2.1 (by omega) (by omega) | exact z.2.2.2.2.2.2.1 rfl | exact z.2.2.2.2.2.2.2 rfl)
  · refine r_tableIn (pc := 1) (off := 104) (tgt := 105) dX8_count_1 (by decide) (by decide) (by decide) (by decide) (by decide) ?_
    refine r_aload_0 (pc := 105) dX8_count_105 ?_
    refine gf_X8_125 (pc := 106) rfl (by assumption) dX8_count_106 (fun i_106 => ?_)
    refine k_SI1 (pc := 109) c_X8_bitsIn lk_X8_242 ⟨Nat.le_of_ble_eq_true rfl, Nat.le_of_ble_eq_true rfl⟩ ⟨rfl, rfl⟩ ⟨Nat.le_of_ble_eq_true rfl, Nat.le_of_ble_eq_true rfl⟩ dX8_count_109 (Nat.le_of_ble_eq_true rfl) ?_
    refine ⟨_, rfl, ?_⟩
    refine r_iret (pc := 112) hret dX8_count_112 rfl rfl rfl ?_
    first
    | exact hB (by omega)
    | (have z := hQ (by omega)
       first | exact z.1 (by omega) | exact z.2.1 rfl | exact z.2.2.1 rfl | exact z.2.2.2.1 rfl | exact z.2.2.2.2.1 rfl | exact z.2.2.2.2.2.1 (by omega) (by omega) | exact z.2.2.2.2.2.2.1 rfl | exact z.2.2.2.2.2.2.2 rfl)
  · refine r_tableIn (pc := 1) (off := 112) (tgt := 113) dX8_count_1 (by decide) (by decide) (by decide) (by decide) (by decide) ?_
    refine r_aload_0 (pc := 113) dX8_count_113 ?_
    refine k_VI0 (pc := 114) c_X8_full lk_X8_269 ⟨Nat.le_of_ble_eq_true rfl, Nat.le_of_ble_eq_true rfl⟩ ⟨rfl, rfl⟩ ⟨Nat.le_of_ble_eq_true rfl, Nat.le_of_ble_eq_true rfl⟩ (k := 8) rfl (by decide) (by assumption) dX8_count_114 (Nat.le_of_ble_eq_true rfl) ?_
    refine ⟨_, _, rfl, by assumption, by first | assumption | exact rfl, by omega, ?_⟩
    refine r_iret (pc := 117) hret dX8_count_117 rfl rfl rfl ?_
    first
    | exact hB (by omega)
    | (have z := hQ (by omega)
       first | exact z.1 (by omega) | exact z.2.1 rfl | exact z.2.2.1 rfl | exact z.2.2.2.1 rfl | exact z.2.2.2.2.1 rfl | exact z.2.2.2.2.2.1 (by omega) (by omega) | exact z.2.2.2.2.2.2.1 rfl | exact z.2.2.2.2.2.2.2 rfl)
  · refine r_tableIn (pc := 1) (off := 117) (tgt := 118) dX8_count_1 (by decide) (by decide) (by decide) (by decide) (by decide) ?_
    refine r_aload_0 (pc := 118) dX8_count_118 ?_
    refine r_iload_1 (pc := 119) dX8_count_119 ?_
    refine r_bipush (pc := 120) dX8_count_120 (by decide) ?_
    refine r_isub (pc := 122) dX8_count_122 ?_
    refine k_VI1 (pc := 123) c_X8_groupsThat lk_X8_272 ⟨Nat.le_of_ble_eq_true rfl, Nat.le_of_ble_eq_true rfl⟩ ⟨rfl, rfl⟩ ⟨Nat.le_of_ble_eq_true rfl, Nat.le_of_ble_eq_true rfl⟩ (k := 8) rfl (by decide) (by assumption) dX8_count_123 (Nat.le_of_ble_eq_true rfl) ?_
    refine ⟨_, _, rfl, by assumption, by omega, ?_⟩
    refine r_iret (pc := 126) hret dX8_count_126 rfl rfl rfl ?_
    first
    | exact hB (by omega)
    | (have z := hQ (by omega)
       first | exact z.1 (by omega) | exact z.2.1 rfl | exact z.2.2.1 rfl | exact z.2.2.2.1 rfl | exact z.2.2.2.2.1 rfl | exact z.2.2.2.2.2.1 (by omega) (by omega) | exact z.2.2.2.2.2.2.1 rfl | exact z.2.2.2.2.2.2.2 rfl)
  · refine r_tableIn (pc := 1) (off := 117) (tgt := 118) dX8_count_1 (by decide) (by decide) (by decide) (by decide) (by decide) ?_
    refine r_aload_0 (pc := 118) dX8_count_118 ?_
    refine r_iload_1 (pc := 119) dX8_count_119 ?_
    refine r_bipush (pc := 120) dX8_count_120 (by decide) ?_
    refine r_isub (pc := 122) dX8_count_122 ?_
    refine k_VI1 (pc := 123) c_X8_groupsThat lk_X8_272 ⟨Nat.le_of_ble_eq_true rfl, Nat.le_of_ble_eq_true rfl⟩ ⟨rfl, rfl⟩ ⟨Nat.le_of_ble_eq_true rfl, Nat.le_of_ble_eq_true rfl⟩ (k := 8) rfl (by decide) (by assumption) dX8_count_123 (Nat.le_of_ble_eq_true rfl) ?_
    refine ⟨_, _, rfl, by assumption, by omega, ?_⟩
    refine r_iret (pc := 126) hret dX8_count_126 rfl rfl rfl ?_
    first
    | exact hB (by omega)
    | (have z := hQ (by omega)
       first | exact z.1 (by omega) | exact z.2.1 rfl | exact z.2.2.1 rfl | exact z.2.2.2.1 rfl | exact z.2.2.2.2.1 rfl | exact z.2.2.2.2.2.1 (by omega) (by omega) | exact z.2.2.2.2.2.2.1 rfl | exact z.2.2.2.2.2.2.2 rfl)
  · refine r_tableIn (pc := 1) (off := 117) (tgt := 118) dX8_count_1 (by decide) (by decide) (by decide) (by decide) (by decide) ?_
    refine r_aload_0 (pc := 118) dX8_count_118 ?_
    refine r_iload_1 (pc := 119) dX8_count_119 ?_
    refine r_bipush (pc := 120) dX8_count_120 (by decide) ?_
    refine r_isub (pc := 122) dX8_count_122 ?_
    refine k_VI1 (pc := 123) c_X8_groupsThat lk_X8_272 ⟨Nat.le_of_ble_eq_true rfl, Nat.le_of_ble_eq_true rfl⟩ ⟨rfl, rfl⟩ ⟨Nat.le_of_ble_eq_true rfl, Nat.le_of_ble_eq_true rfl⟩ (k := 8) rfl (by decide) (by assumption) dX8_count_123 (Nat.le_of_ble_eq_true rfl) ?_
    refine ⟨_, _, rfl, by assumption, by omega, ?_⟩
    refine r_iret (pc := 126) hret dX8_count_126 rfl rfl rfl ?_
    first
    | exact hB (by omega)
    | (have z := hQ (by omega)
       first | exact z.1 (by omega) | exact z.2.1 rfl | exact z.2.2.1 rfl | exact z.2.2.2.1 rfl | exact z.2.2.2.2.1 rfl | exact z.2.2.2.2.2.1 (by omega) (by omega) | exact z.2.2.2.2.2.2.1 rfl | exact z.2.2.2.2.2.2.2 rfl)
  · refine r_tableIn (pc := 1) (off := 126) (tgt := 127) dX8_count_1 (by decide) (by decide) (by decide) (by decide) (by decide) ?_
    refine r_aload_0 (pc := 127) dX8_count_127 ?_
    refine gf_X8_131 (pc := 128) rfl (by assumption) dX8_count_128 (fun i_128 => ?_)
    refine r_iret (pc := 131) hret dX8_count_131 rfl rfl rfl ?_
    first
    | exact hB (by omega)
    | (have z := hQ (by omega)
       first | exact z.1 (by omega) | exact z.2.1 rfl | exact z.2.2.1 rfl | exact z.2.2.2.1 rfl | exact z.2.2.2.2.1 rfl | exact z.2.2.2.2.2.1 (by omega) (by omega) | exact z.2.2.2.2.2.2.1 rfl | exact z.2.2.2.2.2.2.2 rfl)
  · refine r_tableIn (pc := 1) (off := 131) (tgt := 132) dX8_count_1 (by decide) (by decide) (by decide) (by decide) (by decide) ?_
    refine r_aload_0 (pc := 132) dX8_count_132 ?_
    refine gf_X8_85 (pc := 133) rfl (by assumption) dX8_count_133 (fun i_133 => ?_)
    refine r_iret (pc := 136) hret dX8_count_136 rfl rfl rfl ?_
    first
    | exact hB (by omega)
    | (have z := hQ (by omega)
       first | exact z.1 (by omega) | exact z.2.1 rfl | exact z.2.2.1 rfl | exact z.2.2.2.1 rfl | exact z.2.2.2.2.1 rfl | exact z.2.2.2.2.2.1 (by omega) (by omega) | exact z.2.2.2.2.2.2.1 rfl | exact z.2.2.2.2.2.2.2 rfl)
  · refine r_tableOut (pc := 1) (tgt := 137) dX8_count_1 (by omega) (by omega) (by decide) ?_
    refine r_iconst (pc := 137) dX8_count_137 ?_
    refine r_iret (pc := 138) hret dX8_count_138 rfl rfl rfl ?_
    first
    | exact hB (by omega)
    | (have z := hQ (by omega)
       first | exact z.1 (by omega) | exact z.2.1 rfl | exact z.2.2.1 rfl | exact z.2.2.2.1 rfl | exact z.2.2.2.2.1 rfl | exact z.2.2.2.2.2.1 (by omega) (by omega) | exact z.2.2.2.2.2.2.1 rfl | exact z.2.2.2.2.2.2.2 rfl)

theorem dX8_old_0 : decode cX8_old 0 = .ok (.iload_n 2, 1) := by decide +kernel
theorem dX8_old_1 : decode cX8_old 1 = .ok (.invokestatic 183, 3) := by decide +kernel
theorem dX8_old_4 : decode cX8_old 4 = .ok (.ifCond .eq 13, 3) := by decide +kernel
theorem dX8_old_7 : decode cX8_old 7 = .ok (.aload_n 0, 1) := by decide +kernel
theorem dX8_old_8 : decode cX8_old 8 = .ok (.iload_n 3, 1) := by decide +kernel
theorem dX8_old_9 : decode cX8_old 9 = .ok (.iconst 0, 1) := by decide +kernel
theorem dX8_old_10 : decode cX8_old 10 = .ok (.iconst 3, 1) := by decide +kernel
theorem dX8_old_11 : decode cX8_old 11 = .ok (.invokevirtual 137, 3) := by decide +kernel
theorem dX8_old_14 : decode cX8_old 14 = .ok (.ifCond .ne 5, 3) := by decide +kernel
theorem dX8_old_17 : decode cX8_old 17 = .ok (.iconst (-1), 1) := by decide +kernel
theorem dX8_old_18 : decode cX8_old 18 = .ok (.ireturn, 1) := by decide +kernel
theorem dX8_old_19 : decode cX8_old 19 = .ok (.aload_n 0, 1) := by decide +kernel
theorem dX8_old_20 : decode cX8_old 20 = .ok (.iload_n 1, 1) := by decide +kernel
theorem dX8_old_21 : decode cX8_old 21 = .ok (.invokevirtual 229, 3) := by decide +kernel
theorem dX8_old_24 : decode cX8_old 24 = .ok (.ifCond .ne 6, 3) := by decide +kernel
theorem dX8_old_27 : decode cX8_old 27 = .ok (.bipush (-4), 2) := by decide +kernel
theorem dX8_old_29 : decode cX8_old 29 = .ok (.ireturn, 1) := by decide +kernel
theorem dX8_old_30 : decode cX8_old 30 = .ok (.aload_n 0, 1) := by decide +kernel
theorem dX8_old_31 : decode cX8_old 31 = .ok (.iload_n 1, 1) := by decide +kernel
theorem dX8_old_32 : decode cX8_old 32 = .ok (.invokevirtual 232, 3) := by decide +kernel
theorem dX8_old_35 : decode cX8_old 35 = .ok (.aload_n 0, 1) := by decide +kernel
theorem dX8_old_36 : decode cX8_old 36 = .ok (.getfield 46, 3) := by decide +kernel
theorem dX8_old_39 : decode cX8_old 39 = .ok (.iconst 4, 1) := by decide +kernel
theorem dX8_old_40 : decode cX8_old 40 = .ok (.iload_n 2, 1) := by decide +kernel
theorem dX8_old_41 : decode cX8_old 41 = .ok (.imul, 1) := by decide +kernel
theorem dX8_old_42 : decode cX8_old 42 = .ok (.iload_n 3, 1) := by decide +kernel
theorem dX8_old_43 : decode cX8_old 43 = .ok (.iadd, 1) := by decide +kernel
theorem dX8_old_44 : decode cX8_old 44 = .ok (.iaload, 1) := by decide +kernel
theorem dX8_old_45 : decode cX8_old 45 = .ok (.ireturn, 1) := by decide +kernel
set_option maxHeartbeats 4000000 in
set_option maxRecDepth 20000 in
theorem c_X8_old : ConI mX8_old (fun args N lay r h Q => ∃ (b : Nat) (mp : Int → Int) (e g c : Int), args = [.ref b, vI e, vI g, vI c] ∧ MdAt lay r b ∧ h (b + 2) = mp ∧ TrM mp ∧ RlM mp ∧ (-2147483648 ≤ e ∧ e < 2147483648) ∧ (-2147483648 ≤ g ∧ g < 2147483648) ∧ (-2147483648 ≤ c ∧ c < 2147483648) ∧ WaT (h (b + 7)) ∧ (∀ e, 1 ≤ e → e < 2147483648 → h (b + 4) (e % 5) = e → TrM (cpR (fun k => h (b + 3) (136 * (e % 5) + k)) mp 136) ∧ RlM (cpR (fun k => h (b + 3) (136 * (e % 5) + k)) mp 136)) ∧ (¬ ((0 ≤ g ∧ g < 16) ∧ (0 ≤ c ∧ c ≤ 3)) → Q (-1) N lay r h) ∧ (((0 ≤ g ∧ g < 16) ∧ (0 ≤ c ∧ c ≤ 3)) → (¬ (1 ≤ e ∧ h (b + 4) (e % 5) = e) → Q (-4) N lay r h) ∧ (1 ≤ e ∧ h (b + 4) (e % 5) = e → ∀ h2, Fr h h2 (fun x => x = b + 5 ∨ x = b + 13 ∨ x = b + 8 ∨ x = b + 9 ∨ x = b + 10 ∨ x = b + 11) → Q (plc (cpR (fun k => h (b + 3) (136 * (e % 5) + k)) mp 136) g c) N lay r h2))) := by
  refine ConI.of (by decide) (by rintro _ N lay r h Q ⟨b, mp, e, g, c, rfl, hM, hmp, hT, hR, he, hg, hc, hwa, hkp, hB, hQ⟩; exact ⟨rfl, Nat.le_of_ble_eq_true rfl⟩) ?_
  rintro E _ N lay r h Q ⟨b, mp, e, g, c, rfl, hM, hmp, hT, hR, he, hg, hc, hwa, hkp, hB, hQ⟩ hret
  obtain ⟨ml0, ml1, ml2, ml3, ml4, ml5, ml6, ml7, ml8, ml9, ml10, ml11, ml12, ml13, ml14, ml15, ml16, ml17, ml18, ml19, ml20, mr1, mr2, mr3, mr4, mr5, mr6, mr7, mr8, mr9, mr10, mr11, mr12, mr13, mr14, mr15, mr16, mr17, mr18, mr19, mr20⟩ := id hM
  obtain ⟨t1, t2, t3, t4, t5, t6, t7⟩ := id hT
  obtain ⟨r1, r2, r3, r4, r5, r6, r7⟩ := id hR
  show St E mX8_old 0 [some (.ref b), some (vI e), some (vI g), some (vI c)] [] (0, 0) N lay r h
  refine r_iload_2 (pc := 0) dX8_old_0 ?_
  refine k_SI1 (pc := 1) c_X8_isGroup lk_X8_183 ⟨Nat.le_of_ble_eq_true rfl, Nat.le_of_ble_eq_true rfl⟩ ⟨rfl, rfl⟩ ⟨Nat.le_of_ble_eq_true rfl, Nat.le_of_ble_eq_true rfl⟩ dX8_old_1 (Nat.le_of_ble_eq_true rfl) ?_
  refine ⟨_, rfl, by omega, ?_⟩
  refine r_ifeq_b (pc := 4) (tgt := 17) dX8_old_4 (by decide) (fun c_4 => ?_) (fun c_4 => ?_)
  · refine r_iconst (pc := 17) dX8_old_17 ?_
    refine r_iret (pc := 18) hret dX8_old_18 rfl rfl rfl ?_
    first | exact hB (by omega) | exact (hQ ⟨c_4, c_14⟩).1 c_24 | exact (hQ ⟨c_4, c_14⟩).2 c_24 h_32 f_32
  · refine r_aload_0 (pc := 7) dX8_old_7 ?_
    refine r_iload_3 (pc := 8) dX8_old_8 ?_
    refine r_iconst (pc := 9) dX8_old_9 ?_
    refine r_iconst (pc := 10) dX8_old_10 ?_
    refine k_VI3 (pc := 11) c_X8_isIn lk_X8_137 ⟨Nat.le_of_ble_eq_true rfl, Nat.le_of_ble_eq_true rfl⟩ ⟨rfl, rfl⟩ ⟨Nat.le_of_ble_eq_true rfl, Nat.le_of_ble_eq_true rfl⟩ (k := 8) rfl (by decide) (by assumption) dX8_old_11 (Nat.le_of_ble_eq_true rfl) ?_
    refine ⟨_, _, _, _, rfl, by omega, by omega, by omega, ?_⟩
    refine r_ifne_b (pc := 14) (tgt := 19) dX8_old_14 (by decide) (fun c_14 => ?_) (fun c_14 => ?_)
    · refine r_aload_0 (pc := 19) dX8_old_19 ?_
      refine r_iload_1 (pc := 20) dX8_old_20 ?_
      refine k_VI1 (pc := 21) c_X8_isKept lk_X8_229 ⟨Nat.le_of_ble_eq_true rfl, Nat.le_of_ble_eq_true rfl⟩ ⟨rfl, rfl⟩ ⟨Nat.le_of_ble_eq_true rfl, Nat.le_of_ble_eq_true rfl⟩ (k := 8) rfl (by decide) (by assumption) dX8_old_21 (Nat.le_of_ble_eq_true rfl) ?_
      refine ⟨_, _, rfl, by assumption, by omega, ?_⟩
      refine r_ifne_b (pc := 24) (tgt := 30) dX8_old_24 (by decide) (fun c_24 => ?_) (fun c_24 => ?_)
      · refine r_aload_0 (pc := 30) dX8_old_30 ?_
        refine r_iload_1 (pc := 31) dX8_old_31 ?_
        obtain ⟨hT2, hR2⟩ := hkp e c_24.1 (by omega) c_24.2
        refine k_VV1 (pc := 32) c_X8_placesBy lk_X8_232 ⟨Nat.le_of_ble_eq_true rfl, Nat.le_of_ble_eq_true rfl⟩ ⟨rfl, rfl⟩ ⟨Nat.le_of_ble_eq_true rfl, Nat.le_of_ble_eq_true rfl⟩ (k := 8) rfl (by decide) (by assumption) dX8_old_32 (Nat.le_of_ble_eq_true rfl) ?_
        refine ⟨_, _, _, rfl, by assumption, by first | assumption | exact rfl, by assumption, by assumption, by assumption, by omega, fun h_32 f_32 a_32 => ?_⟩
        have m_32 : h_32 (b + 2) = mp := (f_32 _ (by omega)).trans (by assumption)
        refine r_aload_0 (pc := 35) dX8_old_35 ?_
        refine gf_X8_46 (pc := 36) rfl (by assumption) dX8_old_36 (by assumption) ?_
        refine r_iconst (pc := 39) dX8_old_39 ?_
        refine r_iload_2 (pc := 40) dX8_old_40 ?_
        refine r_imul (pc := 41) dX8_old_41 ?_
        refine r_iload_3 (pc := 42) dX8_old_42 ?_
        refine r_iadd (pc := 43) dX8_old_43 ?_
        refine r_ialdE (pc := 44) (by assumption) rfl dX8_old_44 (by omega) (by omega) (fun i_44 => ?_)
        rw [a_32 _ (by omega) (by omega), show (4 * g + c) / 4 = g by omega, show (4 * g + c) % 4 = c by omega]
        refine r_iret (pc := 45) hret dX8_old_45 rfl rfl rfl ?_
        first | exact hB (by omega) | exact (hQ ⟨c_4, c_14⟩).1 c_24 | exact (hQ ⟨c_4, c_14⟩).2 c_24 h_32 f_32
      · refine r_bipush (pc := 27) dX8_old_27 (by decide) ?_
        refine r_iret (pc := 29) hret dX8_old_29 rfl rfl rfl ?_
        first | exact hB (by omega) | exact (hQ ⟨c_4, c_14⟩).1 c_24 | exact (hQ ⟨c_4, c_14⟩).2 c_24 h_32 f_32
    · refine r_iconst (pc := 17) dX8_old_17 ?_
      refine r_iret (pc := 18) hret dX8_old_18 rfl rfl rfl ?_
      first | exact hB (by omega) | exact (hQ ⟨c_4, c_14⟩).1 c_24 | exact (hQ ⟨c_4, c_14⟩).2 c_24 h_32 f_32

def lsk (mp : Int → Int) (d n : Int) : Nat → Int
  | 0 => -4
  | k + 1 => if lsk mp d n k < 0 ∧ n ≤ gof (plr (up mp (22 + d) k)) d then k else lsk mp d n k
theorem lsk_s (mp : Int → Int) (d n : Int) (k : Nat) : lsk mp d n (k + 1) = if lsk mp d n k < 0 ∧ n ≤ gof (plr (up mp (22 + d) k)) d then (k : Int) else lsk mp d n k := rfl
theorem lsk_st (mp : Int → Int) (d n : Int) (k : Nat) (h : 0 ≤ lsk mp d n k) : ∀ j, lsk mp d n (k + j) = lsk mp d n k
  | 0 => rfl
  | j + 1 => by
    rw [← Nat.add_assoc, lsk_s, if_neg (fun z => by have := z.1; rw [lsk_st mp d n k h j] at this; omega)]
    exact lsk_st mp d n k h j
theorem lsk_m {mp : Int → Int} {d n : Int} : ∀ {k : Nat}, lsk mp d n k < 0 → lsk mp d n k = -4
  | 0, _ => rfl
  | k + 1, h => by
    rw [lsk_s] at h ⊢
    split at h
    · omega
    · rename_i q
      rw [if_neg q]
      exact lsk_m h
def wgk (mp row : Int → Int) (d : Int) (sn : Nat) : Nat → Int × Int × Int
  | 0 => (0, -4, -4)
  | k + 1 => if alk (plr (up mp (22 + d) k)) row sn = true then ((wgk mp row d sn k).1 + 1, (if (wgk mp row d sn k).2.1 < 0 then (k : Int) else (wgk mp row d sn k).2.1), (k : Int)) else wgk mp row d sn k
theorem wgk_r (mp row : Int → Int) (d : Int) (sn : Nat) : ∀ k : Nat, -4 ≤ (wgk mp row d sn k).2.1 ∧ (wgk mp row d sn k).2.1 ≤ k
  | 0 => by simp [wgk]
  | k + 1 => by
    have := wgk_r mp row d sn k
    simp only [wgk]
    split
    · dsimp only
      split <;> omega
    · omega
def ev1 (mp : Int → Int) (d w : Int) (s : Int × Int × Int) : Int × Int × Int := if tp mp d = true ∧ (1 ≤ w ∧ w ≤ 40) ∧ spr mp (plr (up mp (22 + d) w)) < s.1 then (spr mp (plr (up mp (22 + d) w)), d, w) else s
def evk (mp : Int → Int) (s0 : Int) : Nat → Int × Int × Int
  | 0 => (s0, -4, 0)
  | k + 1 => ev1 mp (10 + k) (mp (22 + (10 + k)) + -1) (ev1 mp (10 + k) (mp (22 + (10 + k)) + 1) (evk mp s0 k))
theorem dX8_least_0 : decode cX8_least 0 = .ok (.aload_n 0, 1) := by decide +kernel
theorem dX8_least_1 : decode cX8_least 1 = .ok (.iload_n 1, 1) := by decide +kernel
theorem dX8_least_2 : decode cX8_least 2 = .ok (.invokevirtual 147, 3) := by decide +kernel
theorem dX8_least_5 : decode cX8_least 5 = .ok (.ifCond .eq 14, 3) := by decide +kernel
theorem dX8_least_8 : decode cX8_least 8 = .ok (.aload_n 0, 1) := by decide +kernel
theorem dX8_least_9 : decode cX8_least 9 = .ok (.iload_n 2, 1) := by decide +kernel
theorem dX8_least_10 : decode cX8_least 10 = .ok (.iconst 1, 1) := by decide +kernel
theorem dX8_least_11 : decode cX8_least 11 = .ok (.bipush 16, 2) := by decide +kernel
theorem dX8_least_13 : decode cX8_least 13 = .ok (.invokevirtual 137, 3) := by decide +kernel
theorem dX8_least_16 : decode cX8_least 16 = .ok (.ifCond .ne 5, 3) := by decide +kernel
theorem dX8_least_19 : decode cX8_least 19 = .ok (.iconst (-1), 1) := by decide +kernel
theorem dX8_least_20 : decode cX8_least 20 = .ok (.ireturn, 1) := by decide +kernel
theorem dX8_least_21 : decode cX8_least 21 = .ok (.iconst 0, 1) := by decide +kernel
theorem dX8_least_22 : decode cX8_least 22 = .ok (.istore_n 3, 1) := by decide +kernel
theorem dX8_least_23 : decode cX8_least 23 = .ok (.iload_n 3, 1) := by decide +kernel
theorem dX8_least_24 : decode cX8_least 24 = .ok (.bipush 40, 2) := by decide +kernel
theorem dX8_least_26 : decode cX8_least 26 = .ok (.if_icmp .gt 29, 3) := by decide +kernel
theorem dX8_least_29 : decode cX8_least 29 = .ok (.aload_n 0, 1) := by decide +kernel
theorem dX8_least_30 : decode cX8_least 30 = .ok (.iload_n 1, 1) := by decide +kernel
theorem dX8_least_31 : decode cX8_least 31 = .ok (.iload_n 3, 1) := by decide +kernel
theorem dX8_least_32 : decode cX8_least 32 = .ok (.invokevirtual 235, 3) := by decide +kernel
theorem dX8_least_35 : decode cX8_least 35 = .ok (.aload_n 0, 1) := by decide +kernel
theorem dX8_least_36 : decode cX8_least 36 = .ok (.getfield 46, 3) := by decide +kernel
theorem dX8_least_39 : decode cX8_least 39 = .ok (.iload_n 1, 1) := by decide +kernel
theorem dX8_least_40 : decode cX8_least 40 = .ok (.invokestatic 215, 3) := by decide +kernel
theorem dX8_least_43 : decode cX8_least 43 = .ok (.iload_n 2, 1) := by decide +kernel
theorem dX8_least_44 : decode cX8_least 44 = .ok (.if_icmp .lt 5, 3) := by decide +kernel
theorem dX8_least_47 : decode cX8_least 47 = .ok (.iload_n 3, 1) := by decide +kernel
theorem dX8_least_48 : decode cX8_least 48 = .ok (.ireturn, 1) := by decide +kernel
theorem dX8_least_49 : decode cX8_least 49 = .ok (.iinc 3 1, 3) := by decide +kernel
theorem dX8_least_52 : decode cX8_least 52 = .ok (.goto (-29), 3) := by decide +kernel
theorem dX8_least_55 : decode cX8_least 55 = .ok (.bipush (-4), 2) := by decide +kernel
theorem dX8_least_57 : decode cX8_least 57 = .ok (.ireturn, 1) := by decide +kernel
set_option maxHeartbeats 4000000 in
set_option maxRecDepth 20000 in
theorem c_X8_least : ConI mX8_least (fun args N lay r h Q => ∃ (b : Nat) (mp : Int → Int) (d n : Int), args = [.ref b, vI d, vI n] ∧ MdAt lay r b ∧ h (b + 2) = mp ∧ TrM mp ∧ RlM mp ∧ (-2147483648 ≤ d ∧ d < 2147483648) ∧ (-2147483648 ≤ n ∧ n < 2147483648) ∧ WaT (h (b + 7)) ∧ (¬ ((10 ≤ d ∧ d ≤ 9 + mp 130) ∧ (1 ≤ n ∧ n ≤ 16)) → Q (-1) N lay r h) ∧ (((10 ≤ d ∧ d ≤ 9 + mp 130) ∧ (1 ≤ n ∧ n ≤ 16)) → ∀ h2, Fr h h2 (fun x => x = b + 13 ∨ x = b + 8 ∨ x = b + 9 ∨ x = b + 10 ∨ x = b + 11) → Q (lsk mp d n 41) N lay r h2)) := by
  refine ConI.of (by decide) (by rintro _ N lay r h Q ⟨b, mp, d, n, rfl, hM, hmp, hT, hR, hd, hn, hwa, hB, hQ⟩; exact ⟨rfl, Nat.le_of_ble_eq_true rfl⟩) ?_
  rintro E _ N lay r h Q ⟨b, mp, d, n, rfl, hM, hmp, hT, hR, hd, hn, hwa, hB, hQ⟩ hret
  obtain ⟨ml0, ml1, ml2, ml3, ml4, ml5, ml6, ml7, ml8, ml9, ml10, ml11, ml12, ml13, ml14, ml15, ml16, ml17, ml18, ml19, ml20, mr1, mr2, mr3, mr4, mr5, mr6, mr7, mr8, mr9, mr10, mr11, mr12, mr13, mr14, mr15, mr16, mr17, mr18, mr19, mr20⟩ := id hM
  obtain ⟨t1, t2, t3, t4, t5, t6, t7⟩ := id hT
  obtain ⟨r1, r2, r3, r4, r5, r6, r7⟩ := id hR
  show St E mX8_least 0 [some (.ref b), some (vI d), some (vI n), none] [] (0, 0) N lay r h
  have lp : ∀ (hc0 : (10 ≤ d ∧ d ≤ 9 + mp 130) ∧ (1 ≤ n ∧ n ≤ 16)) (n_ : Nat) (w : Int) (hk : HpT), (41 - w).toNat = n_ → (0 ≤ w ∧ w ≤ 41) → (Fr h hk (fun x => x = b + 13 ∨ x = b + 8 ∨ x = b + 9 ∨ x = b + 10 ∨ x = b + 11)) → (lsk mp d n w.toNat < 0) → St E mX8_least 23 [some (.ref b), some (vI d), some (vI n), some (vI w)] [] (0, 0) N lay r hk := by
    intro hc0 n_
    induction n_ using Nat.strongRecOn with
    | ind n_ ih =>
      intro w hk hn_ hw hf hn2
      obtain ⟨k, rfl⟩ : ∃ k : Nat, w = k := ⟨w.toNat, by omega⟩
      rw [show ((k : Int)).toNat = k by omega] at hn2
      have em : hk (b + 2) = mp := (hf _ (by omega)).trans hmp
      have hwa2 : WaT (hk (b + 7)) := by rw [hf _ (by omega)]; exact hwa
      have e1 := lsk_s mp d n k
      have gr := gof_r (plr (up mp (22 + d) k)) d
      refine r_iload_3 (pc := 23) dX8_least_23 ?_
      refine r_bipush (pc := 24) dX8_least_24 (by decide) ?_
      refine r_icmp_gt (pc := 26) (tgt := 55) dX8_least_26 (by decide) (by omega) (by omega) (fun c_26 => ?_) (fun c_26 => ?_)
      · refine r_bipush (pc := 55) dX8_least_55 (by decide) ?_
        refine r_iret (pc := 57) hret dX8_least_57 rfl rfl rfl ?_
        first
        | (have e9 : lsk mp d n (k + 1) = k := by rw [e1, if_pos (And.intro hn2 c_44)]
           have e8 := lsk_st mp d n (k + 1) (by rw [e9]; omega) (40 - k)
           rw [show k + 1 + (40 - k) = 41 by omega, e9] at e8
           have z := hQ hc0 h_32 (fun x hx => (f_32 x (by omega)).trans (hf x hx))
           rw [e8] at z
           exact z)
        | (have hk9 : k = 41 := by omega
           subst hk9
           have z := hQ hc0 hk hf
           rw [lsk_m hn2] at z
           exact z)
      · refine r_aload_0 (pc := 29) dX8_least_29 ?_
        refine r_iload_1 (pc := 30) dX8_least_30 ?_
        refine r_iload_3 (pc := 31) dX8_least_31 ?_
        refine k_VV2 (pc := 32) c_X8_placesIf lk_X8_235 ⟨Nat.le_of_ble_eq_true rfl, Nat.le_of_ble_eq_true rfl⟩ ⟨rfl, rfl⟩ ⟨Nat.le_of_ble_eq_true rfl, Nat.le_of_ble_eq_true rfl⟩ (k := 8) rfl (by decide) (by assumption) dX8_least_32 (Nat.le_of_ble_eq_true rfl) ?_
        refine ⟨_, _, _, _, rfl, by assumption, by first | assumption | exact rfl, by assumption, by assumption, by assumption, by omega, by omega, fun h_32 f_32 a_32 => ?_⟩
        have m_32 : h_32 (b + 2) = mp := (f_32 _ (by omega)).trans (by assumption)
        refine r_aload_0 (pc := 35) dX8_least_35 ?_
        refine gf_X8_46 (pc := 36) rfl (by assumption) dX8_least_36 (by assumption) ?_
        refine r_iload_1 (pc := 39) dX8_least_39 ?_
        refine k_SI2 (pc := 40) c_X8_groupsOf lk_X8_215 ⟨Nat.le_of_ble_eq_true rfl, Nat.le_of_ble_eq_true rfl⟩ ⟨rfl, rfl⟩ ⟨Nat.le_of_ble_eq_true rfl, Nat.le_of_ble_eq_true rfl⟩ dX8_least_40 (Nat.le_of_ble_eq_true rfl) ?_
        refine ⟨_, _, rfl, by assumption, by omega, ?_⟩
        rw [show sm (fun g => bI (hasB (h_32 (b + 13)) g d = true)) 16 = gof (plr (up mp (22 + d) k)) d from gof_c a_32 d]
        refine r_iload_2 (pc := 43) dX8_least_43 ?_
        refine r_icmp_lt (pc := 44) (tgt := 49) dX8_least_44 (by decide) (by omega) (by omega) (fun c_44 => ?_) (fun c_44 => ?_)
        · refine r_iinc_3 (pc := 49) dX8_least_49 rfl ?_
          refine r_goto (pc := 52) (tgt := 23) dX8_least_52 (by decide) ?_
          refine ih _ (by omega) ((k : Int) + 1) h_32 rfl (by omega) (fun x hx => (f_32 x (by omega)).trans (hf x hx)) ?_
          rw [show ((k : Int) + 1).toNat = k + 1 by omega, e1, if_neg (fun z => by have := z.2; omega)]
          exact hn2
        · refine r_iload_3 (pc := 47) dX8_least_47 ?_
          refine r_iret (pc := 48) hret dX8_least_48 rfl rfl rfl ?_
          first
          | (have e9 : lsk mp d n (k + 1) = k := by rw [e1, if_pos (And.intro hn2 c_44)]
             have e8 := lsk_st mp d n (k + 1) (by rw [e9]; omega) (40 - k)
             rw [show k + 1 + (40 - k) = 41 by omega, e9] at e8
             have z := hQ hc0 h_32 (fun x hx => (f_32 x (by omega)).trans (hf x hx))
             rw [e8] at z
             exact z)
          | (have hk9 : k = 41 := by omega
             subst hk9
             have z := hQ hc0 hk hf
             rw [lsk_m hn2] at z
             exact z)
  refine r_aload_0 (pc := 0) dX8_least_0 ?_
  refine r_iload_1 (pc := 1) dX8_least_1 ?_
  refine k_VI1 (pc := 2) c_X8_isDisk lk_X8_147 ⟨Nat.le_of_ble_eq_true rfl, Nat.le_of_ble_eq_true rfl⟩ ⟨rfl, rfl⟩ ⟨Nat.le_of_ble_eq_true rfl, Nat.le_of_ble_eq_true rfl⟩ (k := 8) rfl (by decide) (by assumption) dX8_least_2 (Nat.le_of_ble_eq_true rfl) ?_
  refine ⟨_, _, _, rfl, by assumption, by first | assumption | exact rfl, by omega, by omega, ?_⟩
  refine r_ifeq_b (pc := 5) (tgt := 19) dX8_least_5 (by decide) (fun c_5 => ?_) (fun c_5 => ?_)
  · refine r_iconst (pc := 19) dX8_least_19 ?_
    refine r_iret (pc := 20) hret dX8_least_20 rfl rfl rfl ?_
    first | exact hB (by omega) | exact hQ (by omega)
  · refine r_aload_0 (pc := 8) dX8_least_8 ?_
    refine r_iload_2 (pc := 9) dX8_least_9 ?_
    refine r_iconst (pc := 10) dX8_least_10 ?_
    refine r_bipush (pc := 11) dX8_least_11 (by decide) ?_
    refine k_VI3 (pc := 13) c_X8_isIn lk_X8_137 ⟨Nat.le_of_ble_eq_true rfl, Nat.le_of_ble_eq_true rfl⟩ ⟨rfl, rfl⟩ ⟨Nat.le_of_ble_eq_true rfl, Nat.le_of_ble_eq_true rfl⟩ (k := 8) rfl (by decide) (by assumption) dX8_least_13 (Nat.le_of_ble_eq_true rfl) ?_
    refine ⟨_, _, _, _, rfl, by omega, by omega, by omega, ?_⟩
    refine r_ifne_b (pc := 16) (tgt := 21) dX8_least_16 (by decide) (fun c_16 => ?_) (fun c_16 => ?_)
    · refine r_iconst (pc := 21) dX8_least_21 ?_
      refine r_istore_3 (pc := 22) dX8_least_22 rfl ?_
      exact lp ⟨c_5, c_16⟩ _ 0 h rfl (by omega) (fun _ _ => rfl) (show (-4 : Int) < 0 by decide)
    · refine r_iconst (pc := 19) dX8_least_19 ?_
      refine r_iret (pc := 20) hret dX8_least_20 rfl rfl rfl ?_
      first | exact hB (by omega) | exact hQ (by omega)

theorem dX8_weights_0 : decode cX8_weights 0 = .ok (.aload_n 0, 1) := by decide +kernel
theorem dX8_weights_1 : decode cX8_weights 1 = .ok (.iload_n 1, 1) := by decide +kernel
theorem dX8_weights_2 : decode cX8_weights 2 = .ok (.invokevirtual 147, 3) := by decide +kernel
theorem dX8_weights_5 : decode cX8_weights 5 = .ok (.ifCond .eq 13, 3) := by decide +kernel
theorem dX8_weights_8 : decode cX8_weights 8 = .ok (.aload_n 0, 1) := by decide +kernel
theorem dX8_weights_9 : decode cX8_weights 9 = .ok (.iload_n 2, 1) := by decide +kernel
theorem dX8_weights_10 : decode cX8_weights 10 = .ok (.iconst 0, 1) := by decide +kernel
theorem dX8_weights_11 : decode cX8_weights 11 = .ok (.iconst 2, 1) := by decide +kernel
theorem dX8_weights_12 : decode cX8_weights 12 = .ok (.invokevirtual 137, 3) := by decide +kernel
theorem dX8_weights_15 : decode cX8_weights 15 = .ok (.ifCond .ne 5, 3) := by decide +kernel
theorem dX8_weights_18 : decode cX8_weights 18 = .ok (.iconst (-1), 1) := by decide +kernel
theorem dX8_weights_19 : decode cX8_weights 19 = .ok (.ireturn, 1) := by decide +kernel
theorem dX8_weights_20 : decode cX8_weights 20 = .ok (.iconst 0, 1) := by decide +kernel
theorem dX8_weights_21 : decode cX8_weights 21 = .ok (.istore_n 3, 1) := by decide +kernel
theorem dX8_weights_22 : decode cX8_weights 22 = .ok (.bipush (-4), 2) := by decide +kernel
theorem dX8_weights_24 : decode cX8_weights 24 = .ok (.istore 4, 2) := by decide +kernel
theorem dX8_weights_26 : decode cX8_weights 26 = .ok (.bipush (-4), 2) := by decide +kernel
theorem dX8_weights_28 : decode cX8_weights 28 = .ok (.istore 5, 2) := by decide +kernel
theorem dX8_weights_30 : decode cX8_weights 30 = .ok (.iconst 0, 1) := by decide +kernel
theorem dX8_weights_31 : decode cX8_weights 31 = .ok (.istore 6, 2) := by decide +kernel
theorem dX8_weights_33 : decode cX8_weights 33 = .ok (.iload 6, 2) := by decide +kernel
theorem dX8_weights_35 : decode cX8_weights 35 = .ok (.bipush 40, 2) := by decide +kernel
theorem dX8_weights_37 : decode cX8_weights 37 = .ok (.if_icmp .gt 44, 3) := by decide +kernel
theorem dX8_weights_40 : decode cX8_weights 40 = .ok (.aload_n 0, 1) := by decide +kernel
theorem dX8_weights_41 : decode cX8_weights 41 = .ok (.iload_n 1, 1) := by decide +kernel
theorem dX8_weights_42 : decode cX8_weights 42 = .ok (.iload 6, 2) := by decide +kernel
theorem dX8_weights_44 : decode cX8_weights 44 = .ok (.invokevirtual 235, 3) := by decide +kernel
theorem dX8_weights_47 : decode cX8_weights 47 = .ok (.aload_n 0, 1) := by decide +kernel
theorem dX8_weights_48 : decode cX8_weights 48 = .ok (.invokevirtual 262, 3) := by decide +kernel
theorem dX8_weights_51 : decode cX8_weights 51 = .ok (.ifCond .eq 24, 3) := by decide +kernel
theorem dX8_weights_54 : decode cX8_weights 54 = .ok (.iinc 3 1, 3) := by decide +kernel
theorem dX8_weights_57 : decode cX8_weights 57 = .ok (.iload 4, 2) := by decide +kernel
theorem dX8_weights_59 : decode cX8_weights 59 = .ok (.ifCond .ge 8, 3) := by decide +kernel
theorem dX8_weights_62 : decode cX8_weights 62 = .ok (.iload 6, 2) := by decide +kernel
theorem dX8_weights_64 : decode cX8_weights 64 = .ok (.goto 5, 3) := by decide +kernel
theorem dX8_weights_67 : decode cX8_weights 67 = .ok (.iload 4, 2) := by decide +kernel
theorem dX8_weights_69 : decode cX8_weights 69 = .ok (.istore 4, 2) := by decide +kernel
theorem dX8_weights_71 : decode cX8_weights 71 = .ok (.iload 6, 2) := by decide +kernel
theorem dX8_weights_73 : decode cX8_weights 73 = .ok (.istore 5, 2) := by decide +kernel
theorem dX8_weights_75 : decode cX8_weights 75 = .ok (.iinc 6 1, 3) := by decide +kernel
theorem dX8_weights_78 : decode cX8_weights 78 = .ok (.goto (-45), 3) := by decide +kernel
theorem dX8_weights_81 : decode cX8_weights 81 = .ok (.iload_n 2, 1) := by decide +kernel
theorem dX8_weights_82 : decode cX8_weights 82 = .ok (.ifCond .ne 7, 3) := by decide +kernel
theorem dX8_weights_85 : decode cX8_weights 85 = .ok (.iload_n 3, 1) := by decide +kernel
theorem dX8_weights_86 : decode cX8_weights 86 = .ok (.goto 15, 3) := by decide +kernel
theorem dX8_weights_89 : decode cX8_weights 89 = .ok (.iload_n 2, 1) := by decide +kernel
theorem dX8_weights_90 : decode cX8_weights 90 = .ok (.iconst 1, 1) := by decide +kernel
theorem dX8_weights_91 : decode cX8_weights 91 = .ok (.if_icmp .ne 8, 3) := by decide +kernel
theorem dX8_weights_94 : decode cX8_weights 94 = .ok (.iload 4, 2) := by decide +kernel
theorem dX8_weights_96 : decode cX8_weights 96 = .ok (.goto 5, 3) := by decide +kernel
theorem dX8_weights_99 : decode cX8_weights 99 = .ok (.iload 5, 2) := by decide +kernel
theorem dX8_weights_101 : decode cX8_weights 101 = .ok (.ireturn, 1) := by decide +kernel
set_option maxHeartbeats 4000000 in
set_option maxRecDepth 20000 in
theorem c_X8_weights : ConI mX8_weights (fun args N lay r h Q => ∃ (b : Nat) (mp : Int → Int) (d p : Int), args = [.ref b, vI d, vI p] ∧ MdAt lay r b ∧ h (b + 2) = mp ∧ TrM mp ∧ RlM mp ∧ (-2147483648 ≤ d ∧ d < 2147483648) ∧ (-2147483648 ≤ p ∧ p < 2147483648) ∧ WaT (h (b + 7)) ∧ SeI (h b 19) (h (b + 17)) ∧ (¬ ((10 ≤ d ∧ d ≤ 9 + mp 130) ∧ (0 ≤ p ∧ p ≤ 2)) → Q (-1) N lay r h) ∧ (((10 ≤ d ∧ d ≤ 9 + mp 130) ∧ (0 ≤ p ∧ p ≤ 2)) → ∀ h2, Fr h h2 (fun x => x = b + 13 ∨ x = b + 8 ∨ x = b + 9 ∨ x = b + 10 ∨ x = b + 11) → (p = 0 → Q (wgk mp (h (b + 17)) d (h b 19).toNat 41).1 N lay r h2) ∧ (p = 1 → Q (wgk mp (h (b + 17)) d (h b 19).toNat 41).2.1 N lay r h2) ∧ (p = 2 → Q (wgk mp (h (b + 17)) d (h b 19).toNat 41).2.2 N lay r h2))) := by
  refine ConI.of (by decide) (by rintro _ N lay r h Q ⟨b, mp, d, p, rfl, hM, hmp, hT, hR, hd, hp, hwa, hS, hB, hQ⟩; exact ⟨rfl, Nat.le_of_ble_eq_true rfl⟩) ?_
  rintro E _ N lay r h Q ⟨b, mp, d, p, rfl, hM, hmp, hT, hR, hd, hp, hwa, hS, hB, hQ⟩ hret
  obtain ⟨ml0, ml1, ml2, ml3, ml4, ml5, ml6, ml7, ml8, ml9, ml10, ml11, ml12, ml13, ml14, ml15, ml16, ml17, ml18, ml19, ml20, mr1, mr2, mr3, mr4, mr5, mr6, mr7, mr8, mr9, mr10, mr11, mr12, mr13, mr14, mr15, mr16, mr17, mr18, mr19, mr20⟩ := id hM
  obtain ⟨t1, t2, t3, t4, t5, t6, t7⟩ := id hT
  obtain ⟨r1, r2, r3, r4, r5, r6, r7⟩ := id hR
  show St E mX8_weights 0 [some (.ref b), some (vI d), some (vI p), none, none, none, none] [] (0, 0) N lay r h
  have lp : ∀ (hc0 : (10 ≤ d ∧ d ≤ 9 + mp 130) ∧ (0 ≤ p ∧ p ≤ 2)) (n_ : Nat) (w : Int) (mn : Int) (lo : Int) (hi : Int) (hk : HpT), (41 - w).toNat = n_ → (0 ≤ w ∧ w ≤ 41) → (Fr h hk (fun x => x = b + 13 ∨ x = b + 8 ∨ x = b + 9 ∨ x = b + 10 ∨ x = b + 11)) → (mn = (wgk mp (h (b + 17)) d (h b 19).toNat w.toNat).1) → (lo = (wgk mp (h (b + 17)) d (h b 19).toNat w.toNat).2.1) → (hi = (wgk mp (h (b + 17)) d (h b 19).toNat w.toNat).2.2) → St E mX8_weights 33 [some (.ref b), some (vI d), some (vI p), some (vI mn), some (vI lo), some (vI hi), some (vI w)] [] (0, 0) N lay r hk := by
    intro hc0 n_
    induction n_ using Nat.strongRecOn with
    | ind n_ ih =>
      intro w mn lo hi hk hn_ hw hf h1 h2 h3
      obtain ⟨k, rfl⟩ : ∃ k : Nat, w = k := ⟨w.toNat, by omega⟩
      rw [show ((k : Int)).toNat = k by omega] at h1 h2 h3
      have em : hk (b + 2) = mp := (hf _ (by omega)).trans hmp
      have hwa2 : WaT (hk (b + 7)) := by rw [hf _ (by omega)]; exact hwa
      have e1 : wgk mp (h (b + 17)) d (h b 19).toNat (k + 1) = if alk (plr (up mp (22 + d) k)) (h (b + 17)) (h b 19).toNat = true then ((wgk mp (h (b + 17)) d (h b 19).toNat k).1 + 1, (if (wgk mp (h (b + 17)) d (h b 19).toNat k).2.1 < 0 then (k : Int) else (wgk mp (h (b + 17)) d (h b 19).toNat k).2.1), (k : Int)) else wgk mp (h (b + 17)) d (h b 19).toNat k := rfl
      have lr := wgk_r mp (h (b + 17)) d (h b 19).toNat k
      have lr2 : -4 ≤ lo ∧ lo ≤ k := by rw [h2]; exact lr
      refine r_iload_6 (pc := 33) dX8_weights_33 ?_
      refine r_bipush (pc := 35) dX8_weights_35 (by decide) ?_
      refine r_icmp_gt (pc := 37) (tgt := 81) dX8_weights_37 (by decide) (by omega) (by omega) (fun c_37 => ?_) (fun c_37 => ?_)
      · refine r_iload_2 (pc := 81) dX8_weights_81 ?_
        refine r_if_ne (pc := 82) (tgt := 89) dX8_weights_82 (by decide) (by omega) (fun c_82 => ?_) (fun c_82 => ?_)
        · refine r_iload_2 (pc := 89) dX8_weights_89 ?_
          refine r_iconst (pc := 90) dX8_weights_90 ?_
          refine r_icmp_ne (pc := 91) (tgt := 99) dX8_weights_91 (by decide) (by omega) (by omega) (fun c_91 => ?_) (fun c_91 => ?_)
          · refine r_iload_5 (pc := 99) dX8_weights_99 ?_
            refine r_iret (pc := 101) hret dX8_weights_101 rfl rfl rfl ?_
            have hk9 : k = 41 := by omega
            subst hk9
            have z := hQ hc0 hk hf
            rw [← h1, ← h2, ← h3] at z
            first | exact z.1 (by omega) | exact z.2.1 (by omega) | exact z.2.2 (by omega)
          · refine r_iload_4 (pc := 94) dX8_weights_94 ?_
            refine r_goto (pc := 96) (tgt := 101) dX8_weights_96 (by decide) ?_
            refine r_iret (pc := 101) hret dX8_weights_101 rfl rfl rfl ?_
            have hk9 : k = 41 := by omega
            subst hk9
            have z := hQ hc0 hk hf
            rw [← h1, ← h2, ← h3] at z
            first | exact z.1 (by omega) | exact z.2.1 (by omega) | exact z.2.2 (by omega)
        · refine r_iload_3 (pc := 85) dX8_weights_85 ?_
          refine r_goto (pc := 86) (tgt := 101) dX8_weights_86 (by decide) ?_
          refine r_iret (pc := 101) hret dX8_weights_101 rfl rfl rfl ?_
          have hk9 : k = 41 := by omega
          subst hk9
          have z := hQ hc0 hk hf
          rw [← h1, ← h2, ← h3] at z
          first | exact z.1 (by omega) | exact z.2.1 (by omega) | exact z.2.2 (by omega)
      · refine r_aload_0 (pc := 40) dX8_weights_40 ?_
        refine r_iload_1 (pc := 41) dX8_weights_41 ?_
        refine r_iload_6 (pc := 42) dX8_weights_42 ?_
        refine k_VV2 (pc := 44) c_X8_placesIf lk_X8_235 ⟨Nat.le_of_ble_eq_true rfl, Nat.le_of_ble_eq_true rfl⟩ ⟨rfl, rfl⟩ ⟨Nat.le_of_ble_eq_true rfl, Nat.le_of_ble_eq_true rfl⟩ (k := 8) rfl (by decide) (by assumption) dX8_weights_44 (Nat.le_of_ble_eq_true rfl) ?_
        refine ⟨_, _, _, _, rfl, by assumption, by first | assumption | exact rfl, by assumption, by assumption, by assumption, by omega, by omega, fun h_44 f_44 a_44 => ?_⟩
        have m_44 : h_44 (b + 2) = mp := (f_44 _ (by omega)).trans (by assumption)
        refine r_aload_0 (pc := 47) dX8_weights_47 ?_
        have eb : h_44 b = h b := (f_44 _ (by omega)).trans (hf _ (by omega))
        have er : h_44 (b + 17) = h (b + 17) := (f_44 _ (by omega)).trans (hf _ (by omega))
        have hS2 : SeI (h_44 b 19) (h_44 (b + 17)) := by rw [eb, er]; exact hS
        have ea : alk (h_44 (b + 13)) (h_44 (b + 17)) (h_44 b 19).toNat = alk (plr (up mp (22 + d) k)) (h (b + 17)) (h b 19).toNat := by rw [eb, er]; exact alk_c a_44 hS _ (by have := hS.1; omega)
        refine k_VI0 (pc := 48) c_X8_isAllSo lk_X8_262 ⟨Nat.le_of_ble_eq_true rfl, Nat.le_of_ble_eq_true rfl⟩ ⟨rfl, rfl⟩ ⟨Nat.le_of_ble_eq_true rfl, Nat.le_of_ble_eq_true rfl⟩ (k := 8) rfl (by decide) (by assumption) dX8_weights_48 (Nat.le_of_ble_eq_true rfl) ?_
        refine ⟨_, rfl, by assumption, by assumption, ?_⟩
        refine r_ifeq_b (pc := 51) (tgt := 75) dX8_weights_51 (by decide) (fun c_51 => ?_) (fun c_51 => ?_)
        · refine r_iinc_6 (pc := 75) dX8_weights_75 rfl ?_
          refine r_goto (pc := 78) (tgt := 33) dX8_weights_78 (by decide) ?_
          first
          | (have e9 : wgk mp (h (b + 17)) d (h b 19).toNat (k + 1) = wgk mp (h (b + 17)) d (h b 19).toNat k := by rw [e1, if_neg (by rw [← ea]; exact c_51)]
             exact ih _ (by omega) ((k : Int) + 1) _ _ _ h_44 rfl (by omega) (fun x hx => (f_44 x (by omega)).trans (hf x hx)) (by rw [show ((k : Int) + 1).toNat = k + 1 by omega, e9]; exact h1) (by rw [show ((k : Int) + 1).toNat = k + 1 by omega, e9]; exact h2) (by rw [show ((k : Int) + 1).toNat = k + 1 by omega, e9]; exact h3))
          | (have e9 : wgk mp (h (b + 17)) d (h b 19).toNat (k + 1) = ((wgk mp (h (b + 17)) d (h b 19).toNat k).1 + 1, (if (wgk mp (h (b + 17)) d (h b 19).toNat k).2.1 < 0 then (k : Int) else (wgk mp (h (b + 17)) d (h b 19).toNat k).2.1), (k : Int)) := by rw [e1, if_pos (by rw [← ea]; exact c_51)]
             refine ih _ (by omega) ((k : Int) + 1) _ _ _ h_44 rfl (by omega) (fun x hx => (f_44 x (by omega)).trans (hf x hx)) (by rw [show ((k : Int) + 1).toNat = k + 1 by omega, e9, h1]) ?_ (by rw [show ((k : Int) + 1).toNat = k + 1 by omega, e9])
             rw [show ((k : Int) + 1).toNat = k + 1 by omega, e9]
             dsimp only
             rw [← h2]
             first | rw [if_pos (show lo < 0 by omega)] | rw [if_neg (show ¬ lo < 0 by omega)])
        · refine r_iinc_3 (pc := 54) dX8_weights_54 rfl ?_
          refine r_iload_4 (pc := 57) dX8_weights_57 ?_
          refine r_if_ge (pc := 59) (tgt := 67) dX8_weights_59 (by decide) (by omega) (fun c_59 => ?_) (fun c_59 => ?_)
          · refine r_iload_4 (pc := 67) dX8_weights_67 ?_
            refine r_istore_4 (pc := 69) dX8_weights_69 rfl ?_
            refine r_iload_6 (pc := 71) dX8_weights_71 ?_
            refine r_istore_5 (pc := 73) dX8_weights_73 rfl ?_
            refine r_iinc_6 (pc := 75) dX8_weights_75 rfl ?_
            refine r_goto (pc := 78) (tgt := 33) dX8_weights_78 (by decide) ?_
            first
            | (have e9 : wgk mp (h (b + 17)) d (h b 19).toNat (k + 1) = wgk mp (h (b + 17)) d (h b 19).toNat k := by rw [e1, if_neg (by rw [← ea]; exact c_51)]
               exact ih _ (by omega) ((k : Int) + 1) _ _ _ h_44 rfl (by omega) (fun x hx => (f_44 x (by omega)).trans (hf x hx)) (by rw [show ((k : Int) + 1).toNat = k + 1 by omega, e9]; exact h1) (by rw [show ((k : Int) + 1).toNat = k + 1 by omega, e9]; exact h2) (by rw [show ((k : Int) + 1).toNat = k + 1 by omega, e9]; exact h3))
            | (have e9 : wgk mp (h (b + 17)) d (h b 19).toNat (k + 1) = ((wgk mp (h (b + 17)) d (h b 19).toNat k).1 + 1, (if (wgk mp (h (b + 17)) d (h b 19).toNat k).2.1 < 0 then (k : Int) else (wgk mp (h (b + 17)) d (h b 19).toNat k).2.1), (k : Int)) := by rw [e1, if_pos (by rw [← ea]; exact c_51)]
               refine ih _ (by omega) ((k : Int) + 1) _ _ _ h_44 rfl (by omega) (fun x hx => (f_44 x (by omega)).trans (hf x hx)) (by rw [show ((k : Int) + 1).toNat = k + 1 by omega, e9, h1]) ?_ (by rw [show ((k : Int) + 1).toNat = k + 1 by omega, e9])
               rw [show ((k : Int) + 1).toNat = k + 1 by omega, e9]
               dsimp only
               rw [← h2]
               first | rw [if_pos (show lo < 0 by omega)] | rw [if_neg (show ¬ lo < 0 by omega)])
          · refine r_iload_6 (pc := 62) dX8_weights_62 ?_
            refine r_goto (pc := 64) (tgt := 69) dX8_weights_64 (by decide) ?_
            refine r_istore_4 (pc := 69) dX8_weights_69 rfl ?_
            refine r_iload_6 (pc := 71) dX8_weights_71 ?_
            refine r_istore_5 (pc := 73) dX8_weights_73 rfl ?_
            refine r_iinc_6 (pc := 75) dX8_weights_75 rfl ?_
            refine r_goto (pc := 78) (tgt := 33) dX8_weights_78 (by decide) ?_
            first
            | (have e9 : wgk mp (h (b + 17)) d (h b 19).toNat (k + 1) = wgk mp (h (b + 17)) d (h b 19).toNat k := by rw [e1, if_neg (by rw [← ea]; exact c_51)]
               exact ih _ (by omega) ((k : Int) + 1) _ _ _ h_44 rfl (by omega) (fun x hx => (f_44 x (by omega)).trans (hf x hx)) (by rw [show ((k : Int) + 1).toNat = k + 1 by omega, e9]; exact h1) (by rw [show ((k : Int) + 1).toNat = k + 1 by omega, e9]; exact h2) (by rw [show ((k : Int) + 1).toNat = k + 1 by omega, e9]; exact h3))
            | (have e9 : wgk mp (h (b + 17)) d (h b 19).toNat (k + 1) = ((wgk mp (h (b + 17)) d (h b 19).toNat k).1 + 1, (if (wgk mp (h (b + 17)) d (h b 19).toNat k).2.1 < 0 then (k : Int) else (wgk mp (h (b + 17)) d (h b 19).toNat k).2.1), (k : Int)) := by rw [e1, if_pos (by rw [← ea]; exact c_51)]
               refine ih _ (by omega) ((k : Int) + 1) _ _ _ h_44 rfl (by omega) (fun x hx => (f_44 x (by omega)).trans (hf x hx)) (by rw [show ((k : Int) + 1).toNat = k + 1 by omega, e9, h1]) ?_ (by rw [show ((k : Int) + 1).toNat = k + 1 by omega, e9])
               rw [show ((k : Int) + 1).toNat = k + 1 by omega, e9]
               dsimp only
               rw [← h2]
               first | rw [if_pos (show lo < 0 by omega)] | rw [if_neg (show ¬ lo < 0 by omega)])
  refine r_aload_0 (pc := 0) dX8_weights_0 ?_
  refine r_iload_1 (pc := 1) dX8_weights_1 ?_
  refine k_VI1 (pc := 2) c_X8_isDisk lk_X8_147 ⟨Nat.le_of_ble_eq_true rfl, Nat.le_of_ble_eq_true rfl⟩ ⟨rfl, rfl⟩ ⟨Nat.le_of_ble_eq_true rfl, Nat.le_of_ble_eq_true rfl⟩ (k := 8) rfl (by decide) (by assumption) dX8_weights_2 (Nat.le_of_ble_eq_true rfl) ?_
  refine ⟨_, _, _, rfl, by assumption, by first | assumption | exact rfl, by omega, by omega, ?_⟩
  refine r_ifeq_b (pc := 5) (tgt := 18) dX8_weights_5 (by decide) (fun c_5 => ?_) (fun c_5 => ?_)
  · refine r_iconst (pc := 18) dX8_weights_18 ?_
    refine r_iret (pc := 19) hret dX8_weights_19 rfl rfl rfl ?_
    first | exact hB (by omega) | exact hQ (by omega)
  · refine r_aload_0 (pc := 8) dX8_weights_8 ?_
    refine r_iload_2 (pc := 9) dX8_weights_9 ?_
    refine r_iconst (pc := 10) dX8_weights_10 ?_
    refine r_iconst (pc := 11) dX8_weights_11 ?_
    refine k_VI3 (pc := 12) c_X8_isIn lk_X8_137 ⟨Nat.le_of_ble_eq_true rfl, Nat.le_of_ble_eq_true rfl⟩ ⟨rfl, rfl⟩ ⟨Nat.le_of_ble_eq_true rfl, Nat.le_of_ble_eq_true rfl⟩ (k := 8) rfl (by decide) (by assumption) dX8_weights_12 (Nat.le_of_ble_eq_true rfl) ?_
    refine ⟨_, _, _, _, rfl, by omega, by omega, by omega, ?_⟩
    refine r_ifne_b (pc := 15) (tgt := 20) dX8_weights_15 (by decide) (fun c_15 => ?_) (fun c_15 => ?_)
    · refine r_iconst (pc := 20) dX8_weights_20 ?_
      refine r_istore_3 (pc := 21) dX8_weights_21 rfl ?_
      refine r_bipush (pc := 22) dX8_weights_22 (by decide) ?_
      refine r_istore_4 (pc := 24) dX8_weights_24 rfl ?_
      refine r_bipush (pc := 26) dX8_weights_26 (by decide) ?_
      refine r_istore_5 (pc := 28) dX8_weights_28 rfl ?_
      refine r_iconst (pc := 30) dX8_weights_30 ?_
      refine r_istore_6 (pc := 31) dX8_weights_31 rfl ?_
      exact lp ⟨c_5, c_15⟩ _ 0 0 (-4) (-4) h rfl (by omega) (fun _ _ => rfl) rfl rfl rfl
    · refine r_iconst (pc := 18) dX8_weights_18 ?_
      refine r_iret (pc := 19) hret dX8_weights_19 rfl rfl rfl ?_
      first | exact hB (by omega) | exact hQ (by omega)

