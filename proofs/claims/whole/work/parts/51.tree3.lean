/-! THE TREE: disks within a node -/
def TreeUp (h : HpT) (t : Nat) (mp : Int → Int) : Prop := (∀ n, 4 ≤ n → n < 4 + mp 129 → h (t + 1) n = mp n) ∧ ∀ d, 10 ≤ d → d < 10 + mp 130 → h (t + 1) d = mp d
def dwm (mp : Int → Int) (n : Int) : Nat → Int
  | 0 => 0
  | k + 1 => if bel mp (10 + k) n then iO (dwm mp n k) (iSl 1 (10 + k - 10)) else dwm mp n k
theorem dwm_s (mp : Int → Int) (n : Int) (k : Nat) : dwm mp n (k + 1) = if bel mp (10 + (k : Int)) n then iO (dwm mp n k) (iSl 1 (10 + (k : Int) - 10)) else dwm mp n k := rfl
theorem dX6_disksWithin_0 : decode cX6_disksWithin 0 = .ok (.iconst 0, 1) := by decide +kernel
theorem dX6_disksWithin_1 : decode cX6_disksWithin 1 = .ok (.istore_n 2, 1) := by decide +kernel
theorem dX6_disksWithin_2 : decode cX6_disksWithin 2 = .ok (.bipush 10, 2) := by decide +kernel
theorem dX6_disksWithin_4 : decode cX6_disksWithin 4 = .ok (.istore_n 3, 1) := by decide +kernel
theorem dX6_disksWithin_5 : decode cX6_disksWithin 5 = .ok (.iload_n 3, 1) := by decide +kernel
theorem dX6_disksWithin_6 : decode cX6_disksWithin 6 = .ok (.aload_n 0, 1) := by decide +kernel
theorem dX6_disksWithin_7 : decode cX6_disksWithin 7 = .ok (.invokevirtual 44, 3) := by decide +kernel
theorem dX6_disksWithin_10 : decode cX6_disksWithin 10 = .ok (.if_icmp .ge 44, 3) := by decide +kernel
theorem dX6_disksWithin_13 : decode cX6_disksWithin 13 = .ok (.iload_n 1, 1) := by decide +kernel
theorem dX6_disksWithin_14 : decode cX6_disksWithin 14 = .ok (.ifCond .eq 27, 3) := by decide +kernel
theorem dX6_disksWithin_17 : decode cX6_disksWithin 17 = .ok (.iload_n 1, 1) := by decide +kernel
theorem dX6_disksWithin_18 : decode cX6_disksWithin 18 = .ok (.iload_n 3, 1) := by decide +kernel
theorem dX6_disksWithin_19 : decode cX6_disksWithin 19 = .ok (.if_icmp .eq 22, 3) := by decide +kernel
theorem dX6_disksWithin_22 : decode cX6_disksWithin 22 = .ok (.iload_n 1, 1) := by decide +kernel
theorem dX6_disksWithin_23 : decode cX6_disksWithin 23 = .ok (.aload_n 0, 1) := by decide +kernel
theorem dX6_disksWithin_24 : decode cX6_disksWithin 24 = .ok (.getfield 9, 3) := by decide +kernel
theorem dX6_disksWithin_27 : decode cX6_disksWithin 27 = .ok (.iload_n 3, 1) := by decide +kernel
theorem dX6_disksWithin_28 : decode cX6_disksWithin 28 = .ok (.iaload, 1) := by decide +kernel
theorem dX6_disksWithin_29 : decode cX6_disksWithin 29 = .ok (.if_icmp .eq 12, 3) := by decide +kernel
theorem dX6_disksWithin_32 : decode cX6_disksWithin 32 = .ok (.iload_n 1, 1) := by decide +kernel
theorem dX6_disksWithin_33 : decode cX6_disksWithin 33 = .ok (.aload_n 0, 1) := by decide +kernel
theorem dX6_disksWithin_34 : decode cX6_disksWithin 34 = .ok (.iload_n 3, 1) := by decide +kernel
theorem dX6_disksWithin_35 : decode cX6_disksWithin 35 = .ok (.invokevirtual 48, 3) := by decide +kernel
theorem dX6_disksWithin_38 : decode cX6_disksWithin 38 = .ok (.if_icmp .ne 10, 3) := by decide +kernel
theorem dX6_disksWithin_41 : decode cX6_disksWithin 41 = .ok (.iload_n 2, 1) := by decide +kernel
theorem dX6_disksWithin_42 : decode cX6_disksWithin 42 = .ok (.iload_n 3, 1) := by decide +kernel
theorem dX6_disksWithin_43 : decode cX6_disksWithin 43 = .ok (.invokestatic 52, 3) := by decide +kernel
theorem dX6_disksWithin_46 : decode cX6_disksWithin 46 = .ok (.ior, 1) := by decide +kernel
theorem dX6_disksWithin_47 : decode cX6_disksWithin 47 = .ok (.istore_n 2, 1) := by decide +kernel
theorem dX6_disksWithin_48 : decode cX6_disksWithin 48 = .ok (.iinc 3 1, 3) := by decide +kernel
theorem dX6_disksWithin_51 : decode cX6_disksWithin 51 = .ok (.goto (-46), 3) := by decide +kernel
theorem dX6_disksWithin_54 : decode cX6_disksWithin 54 = .ok (.iload_n 2, 1) := by decide +kernel
theorem dX6_disksWithin_55 : decode cX6_disksWithin 55 = .ok (.ireturn, 1) := by decide +kernel
set_option maxHeartbeats 4000000 in
set_option maxRecDepth 20000 in
theorem c_X6_disksWithin : ConI mX6_disksWithin (fun args N lay r h Q => ∃ (t : Nat) (mp : Int → Int) (n : Int), args = [.ref t, vI n] ∧ TreeAt lay r t ∧ TreeNo h t mp ∧ TreeUp h t mp ∧ TrM mp ∧ (-2147483648 ≤ n ∧ n < 2147483648) ∧ Q (dwm mp n (mp 130).toNat) N lay r h) := by
  refine ConI.of (by decide) (by rintro _ N lay r h Q ⟨t, mp, n, rfl, hA, hN, hU, hT, hn, hQ⟩; exact ⟨rfl, Nat.le_of_ble_eq_true rfl⟩) ?_
  rintro E _ N lay r h Q ⟨t, mp, n, rfl, hA, hN, hU, hT, hn, hQ⟩ hret
  obtain ⟨tl0, tl1, tl2, tr3, tr4⟩ := id hA
  obtain ⟨n0, n1, n2⟩ := id hN
  obtain ⟨t1, t2, t3, t4, t5, t6, t7⟩ := id hT
  show St E mX6_disksWithin 0 [some (.ref t), some (vI n), none, none] [] (0, 0) N lay r h
  have lp : ∀ (n_ : Nat) (d : Int) (s : Int), (22 - d).toNat = n_ → (10 ≤ d ∧ d ≤ 10 + mp 130) → (s = dwm mp n (d - 10).toNat) → St E mX6_disksWithin 5 [some (.ref t), some (vI n), some (vI s), some (vI d)] [] (0, 0) N lay r h := by
    intro  n_
    induction n_ using Nat.strongRecOn with
    | ind n_ ih =>
      intro d s hn_ hd hs
      obtain ⟨k, rfl⟩ : ∃ k : Nat, d = 10 + k := ⟨(d - 10).toNat, by omega⟩
      rw [show (10 + (k : Int) - 10).toNat = k by omega] at hs
      have e1 := dwm_s mp n k
      refine r_iload_3 (pc := 5) dX6_disksWithin_5 ?_
      refine r_aload_0 (pc := 6) dX6_disksWithin_6 ?_
      refine k_VI0 (pc := 7) c_X6_endOfDisks lk_X6_44 ⟨Nat.le_of_ble_eq_true rfl, Nat.le_of_ble_eq_true rfl⟩ ⟨rfl, rfl⟩ ⟨Nat.le_of_ble_eq_true rfl, Nat.le_of_ble_eq_true rfl⟩ (k := 6) rfl (by decide) (by assumption) dX6_disksWithin_7 (Nat.le_of_ble_eq_true rfl) ?_
      refine ⟨_, _, rfl, by assumption, fun i_7 => ?_⟩
      refine r_icmp_ge (pc := 10) (tgt := 54) dX6_disksWithin_10 (by decide) (by omega) (by omega) (fun c_10 => ?_) (fun c_10 => ?_)
      · refine r_iload_2 (pc := 54) dX6_disksWithin_54 ?_
        refine r_iret (pc := 55) hret dX6_disksWithin_55 rfl rfl rfl ?_
        have hk9 : (mp 130).toNat = k := by omega
        rw [hk9, ← hs] at hQ
        exact hQ
      · have ea : h (t + 1) (10 + (k : Int)) = mp (10 + (k : Int)) := hU.2 _ (by omega) (by omega)
        have q6 := t6 (10 + (k : Int)) (by omega) (by omega)
        have eh : h (t + 1) (h (t + 1) (10 + (k : Int))) = mp (mp (10 + (k : Int))) := by rw [ea]; exact hU.1 _ (by omega) (by omega)
        refine r_iload_1 (pc := 13) dX6_disksWithin_13 ?_
        refine r_if_eq (pc := 14) (tgt := 41) dX6_disksWithin_14 (by decide) (by omega) (fun c_14 => ?_) (fun c_14 => ?_)
        · refine r_iload_2 (pc := 41) dX6_disksWithin_41 ?_
          refine r_iload_3 (pc := 42) dX6_disksWithin_42 ?_
          refine k_SNI1 (pc := 43) c_X7_bitOf lk_X6_52 ⟨Nat.le_of_ble_eq_true rfl, Nat.le_of_ble_eq_true rfl⟩ ⟨rfl, rfl⟩ ⟨Nat.le_of_ble_eq_true rfl, Nat.le_of_ble_eq_true rfl⟩ dX6_disksWithin_43 (Nat.le_of_ble_eq_true rfl) ?_
          refine ⟨_, rfl, fun i_43 => ?_⟩
          refine r_ior (pc := 46) dX6_disksWithin_46 (fun i_46 => ?_)
          refine r_istore_2 (pc := 47) dX6_disksWithin_47 rfl ?_
          refine r_iinc_3 (pc := 48) dX6_disksWithin_48 rfl ?_
          refine r_goto (pc := 51) (tgt := 5) dX6_disksWithin_51 (by decide) ?_
          first
          | (have k9 : bel mp (10 + (k : Int)) n := Or.inl c_14
             exact ih _ (by omega) (10 + (k : Int) + 1) _ rfl (by omega) (by rw [show (10 + (k : Int) + 1 - 10).toNat = k + 1 by omega, e1, if_pos k9, hs]))
          | (have k9 : bel mp (10 + (k : Int)) n := Or.inr (Or.inl c_19)
             exact ih _ (by omega) (10 + (k : Int) + 1) _ rfl (by omega) (by rw [show (10 + (k : Int) + 1 - 10).toNat = k + 1 by omega, e1, if_pos k9, hs]))
          | (have k9 : bel mp (10 + (k : Int)) n := Or.inr (Or.inr (Or.inl (c_29.trans ea)))
             exact ih _ (by omega) (10 + (k : Int) + 1) _ rfl (by omega) (by rw [show (10 + (k : Int) + 1 - 10).toNat = k + 1 by omega, e1, if_pos k9, hs]))
          | (have k9 : bel mp (10 + (k : Int)) n := Or.inr (Or.inr (Or.inr (c_38.trans eh)))
             exact ih _ (by omega) (10 + (k : Int) + 1) _ rfl (by omega) (by rw [show (10 + (k : Int) + 1 - 10).toNat = k + 1 by omega, e1, if_pos k9, hs]))
          | (have k9 : ¬ bel mp (10 + (k : Int)) n := fun z => by
               rcases z with z | z | z | z
               · exact c_14 z
               · exact c_19 z
               · exact c_29 (z.trans ea.symm)
               · exact c_38 (z.trans eh.symm)
             exact ih _ (by omega) (10 + (k : Int) + 1) _ rfl (by omega) (by rw [show (10 + (k : Int) + 1 - 10).toNat = k + 1 by omega, e1, if_neg k9, hs]))
        · refine r_iload_1 (pc := 17) dX6_disksWithin_17 ?_
          refine r_iload_3 (pc := 18) dX6_disksWithin_18 ?_
          refine r_icmp_eq (pc := 19) (tgt := 41) dX6_disksWithin_19 (by decide) (by omega) (by omega) (fun c_19 => ?_) (fun c_19 => ?_)
          · refine r_iload_2 (pc := 41) dX6_disksWithin_41 ?_
            refine r_iload_3 (pc := 42) dX6_disksWithin_42 ?_
            refine k_SNI1 (pc := 43) c_X7_bitOf lk_X6_52 ⟨Nat.le_of_ble_eq_true rfl, Nat.le_of_ble_eq_true rfl⟩ ⟨rfl, rfl⟩ ⟨Nat.le_of_ble_eq_true rfl, Nat.le_of_ble_eq_true rfl⟩ dX6_disksWithin_43 (Nat.le_of_ble_eq_true rfl) ?_
            refine ⟨_, rfl, fun i_43 => ?_⟩
            refine r_ior (pc := 46) dX6_disksWithin_46 (fun i_46 => ?_)
            refine r_istore_2 (pc := 47) dX6_disksWithin_47 rfl ?_
            refine r_iinc_3 (pc := 48) dX6_disksWithin_48 rfl ?_
            refine r_goto (pc := 51) (tgt := 5) dX6_disksWithin_51 (by decide) ?_
            first
            | (have k9 : bel mp (10 + (k : Int)) n := Or.inl c_14
               exact ih _ (by omega) (10 + (k : Int) + 1) _ rfl (by omega) (by rw [show (10 + (k : Int) + 1 - 10).toNat = k + 1 by omega, e1, if_pos k9, hs]))
            | (have k9 : bel mp (10 + (k : Int)) n := Or.inr (Or.inl c_19)
               exact ih _ (by omega) (10 + (k : Int) + 1) _ rfl (by omega) (by rw [show (10 + (k : Int) + 1 - 10).toNat = k + 1 by omega, e1, if_pos k9, hs]))
            | (have k9 : bel mp (10 + (k : Int)) n := Or.inr (Or.inr (Or.inl (c_29.trans ea)))
               exact ih _ (by omega) (10 + (k : Int) + 1) _ rfl (by omega) (by rw [show (10 + (k : Int) + 1 - 10).toNat = k + 1 by omega, e1, if_pos k9, hs]))
            | (have k9 : bel mp (10 + (k : Int)) n := Or.inr (Or.inr (Or.inr (c_38.trans eh)))
               exact ih _ (by omega) (10 + (k : Int) + 1) _ rfl (by omega) (by rw [show (10 + (k : Int) + 1 - 10).toNat = k + 1 by omega, e1, if_pos k9, hs]))
            | (have k9 : ¬ bel mp (10 + (k : Int)) n := fun z => by
                 rcases z with z | z | z | z
                 · exact c_14 z
                 · exact c_19 z
                 · exact c_29 (z.trans ea.symm)
                 · exact c_38 (z.trans eh.symm)
               exact ih _ (by omega) (10 + (k : Int) + 1) _ rfl (by omega) (by rw [show (10 + (k : Int) + 1 - 10).toNat = k + 1 by omega, e1, if_neg k9, hs]))
          · refine r_iload_1 (pc := 22) dX6_disksWithin_22 ?_
            refine r_aload_0 (pc := 23) dX6_disksWithin_23 ?_
            refine gf_X6_9 (pc := 24) rfl (by assumption) dX6_disksWithin_24 (by assumption) ?_
            refine r_iload_3 (pc := 27) dX6_disksWithin_27 ?_
            refine r_ialdE (pc := 28) (by assumption) (by first | assumption | exact rfl) dX6_disksWithin_28 (by omega) (by omega) (fun i_28 => ?_)
            refine r_icmp_eq (pc := 29) (tgt := 41) dX6_disksWithin_29 (by decide) (by omega) (by omega) (fun c_29 => ?_) (fun c_29 => ?_)
            · refine r_iload_2 (pc := 41) dX6_disksWithin_41 ?_
              refine r_iload_3 (pc := 42) dX6_disksWithin_42 ?_
              refine k_SNI1 (pc := 43) c_X7_bitOf lk_X6_52 ⟨Nat.le_of_ble_eq_true rfl, Nat.le_of_ble_eq_true rfl⟩ ⟨rfl, rfl⟩ ⟨Nat.le_of_ble_eq_true rfl, Nat.le_of_ble_eq_true rfl⟩ dX6_disksWithin_43 (Nat.le_of_ble_eq_true rfl) ?_
              refine ⟨_, rfl, fun i_43 => ?_⟩
              refine r_ior (pc := 46) dX6_disksWithin_46 (fun i_46 => ?_)
              refine r_istore_2 (pc := 47) dX6_disksWithin_47 rfl ?_
              refine r_iinc_3 (pc := 48) dX6_disksWithin_48 rfl ?_
              refine r_goto (pc := 51) (tgt := 5) dX6_disksWithin_51 (by decide) ?_
              first
              | (have k9 : bel mp (10 + (k : Int)) n := Or.inl c_14
                 exact ih _ (by omega) (10 + (k : Int) + 1) _ rfl (by omega) (by rw [show (10 + (k : Int) + 1 - 10).toNat = k + 1 by omega, e1, if_pos k9, hs]))
              | (have k9 : bel mp (10 + (k : Int)) n := Or.inr (Or.inl c_19)
                 exact ih _ (by omega) (10 + (k : Int) + 1) _ rfl (by omega) (by rw [show (10 + (k : Int) + 1 - 10).toNat = k + 1 by omega, e1, if_pos k9, hs]))
              | (have k9 : bel mp (10 + (k : Int)) n := Or.inr (Or.inr (Or.inl (c_29.trans ea)))
                 exact ih _ (by omega) (10 + (k : Int) + 1) _ rfl (by omega) (by rw [show (10 + (k : Int) + 1 - 10).toNat = k + 1 by omega, e1, if_pos k9, hs]))
              | (have k9 : bel mp (10 + (k : Int)) n := Or.inr (Or.inr (Or.inr (c_38.trans eh)))
                 exact ih _ (by omega) (10 + (k : Int) + 1) _ rfl (by omega) (by rw [show (10 + (k : Int) + 1 - 10).toNat = k + 1 by omega, e1, if_pos k9, hs]))
              | (have k9 : ¬ bel mp (10 + (k : Int)) n := fun z => by
                   rcases z with z | z | z | z
                   · exact c_14 z
                   · exact c_19 z
                   · exact c_29 (z.trans ea.symm)
                   · exact c_38 (z.trans eh.symm)
                 exact ih _ (by omega) (10 + (k : Int) + 1) _ rfl (by omega) (by rw [show (10 + (k : Int) + 1 - 10).toNat = k + 1 by omega, e1, if_neg k9, hs]))
            · refine r_iload_1 (pc := 32) dX6_disksWithin_32 ?_
              refine r_aload_0 (pc := 33) dX6_disksWithin_33 ?_
              refine r_iload_3 (pc := 34) dX6_disksWithin_34 ?_
              refine k_VI1 (pc := 35) c_X6_hallOf lk_X6_48 ⟨Nat.le_of_ble_eq_true rfl, Nat.le_of_ble_eq_true rfl⟩ ⟨rfl, rfl⟩ ⟨Nat.le_of_ble_eq_true rfl, Nat.le_of_ble_eq_true rfl⟩ (k := 6) rfl (by decide) (by assumption) dX6_disksWithin_35 (Nat.le_of_ble_eq_true rfl) ?_
              refine ⟨_, _, rfl, by assumption, by omega, by omega, fun i_35 => ?_⟩
              refine r_icmp_ne (pc := 38) (tgt := 48) dX6_disksWithin_38 (by decide) (by omega) (by omega) (fun c_38 => ?_) (fun c_38 => ?_)
              · refine r_iinc_3 (pc := 48) dX6_disksWithin_48 rfl ?_
                refine r_goto (pc := 51) (tgt := 5) dX6_disksWithin_51 (by decide) ?_
                first
                | (have k9 : bel mp (10 + (k : Int)) n := Or.inl c_14
                   exact ih _ (by omega) (10 + (k : Int) + 1) _ rfl (by omega) (by rw [show (10 + (k : Int) + 1 - 10).toNat = k + 1 by omega, e1, if_pos k9, hs]))
                | (have k9 : bel mp (10 + (k : Int)) n := Or.inr (Or.inl c_19)
                   exact ih _ (by omega) (10 + (k : Int) + 1) _ rfl (by omega) (by rw [show (10 + (k : Int) + 1 - 10).toNat = k + 1 by omega, e1, if_pos k9, hs]))
                | (have k9 : bel mp (10 + (k : Int)) n := Or.inr (Or.inr (Or.inl (c_29.trans ea)))
                   exact ih _ (by omega) (10 + (k : Int) + 1) _ rfl (by omega) (by rw [show (10 + (k : Int) + 1 - 10).toNat = k + 1 by omega, e1, if_pos k9, hs]))
                | (have k9 : bel mp (10 + (k : Int)) n := Or.inr (Or.inr (Or.inr (c_38.trans eh)))
                   exact ih _ (by omega) (10 + (k : Int) + 1) _ rfl (by omega) (by rw [show (10 + (k : Int) + 1 - 10).toNat = k + 1 by omega, e1, if_pos k9, hs]))
                | (have k9 : ¬ bel mp (10 + (k : Int)) n := fun z => by
                     rcases z with z | z | z | z
                     · exact c_14 z
                     · exact c_19 z
                     · exact c_29 (z.trans ea.symm)
                     · exact c_38 (z.trans eh.symm)
                   exact ih _ (by omega) (10 + (k : Int) + 1) _ rfl (by omega) (by rw [show (10 + (k : Int) + 1 - 10).toNat = k + 1 by omega, e1, if_neg k9, hs]))
              · refine r_iload_2 (pc := 41) dX6_disksWithin_41 ?_
                refine r_iload_3 (pc := 42) dX6_disksWithin_42 ?_
                refine k_SNI1 (pc := 43) c_X7_bitOf lk_X6_52 ⟨Nat.le_of_ble_eq_true rfl, Nat.le_of_ble_eq_true rfl⟩ ⟨rfl, rfl⟩ ⟨Nat.le_of_ble_eq_true rfl, Nat.le_of_ble_eq_true rfl⟩ dX6_disksWithin_43 (Nat.le_of_ble_eq_true rfl) ?_
                refine ⟨_, rfl, fun i_43 => ?_⟩
                refine r_ior (pc := 46) dX6_disksWithin_46 (fun i_46 => ?_)
                refine r_istore_2 (pc := 47) dX6_disksWithin_47 rfl ?_
                refine r_iinc_3 (pc := 48) dX6_disksWithin_48 rfl ?_
                refine r_goto (pc := 51) (tgt := 5) dX6_disksWithin_51 (by decide) ?_
                first
                | (have k9 : bel mp (10 + (k : Int)) n := Or.inl c_14
                   exact ih _ (by omega) (10 + (k : Int) + 1) _ rfl (by omega) (by rw [show (10 + (k : Int) + 1 - 10).toNat = k + 1 by omega, e1, if_pos k9, hs]))
                | (have k9 : bel mp (10 + (k : Int)) n := Or.inr (Or.inl c_19)
                   exact ih _ (by omega) (10 + (k : Int) + 1) _ rfl (by omega) (by rw [show (10 + (k : Int) + 1 - 10).toNat = k + 1 by omega, e1, if_pos k9, hs]))
                | (have k9 : bel mp (10 + (k : Int)) n := Or.inr (Or.inr (Or.inl (c_29.trans ea)))
                   exact ih _ (by omega) (10 + (k : Int) + 1) _ rfl (by omega) (by rw [show (10 + (k : Int) + 1 - 10).toNat = k + 1 by omega, e1, if_pos k9, hs]))
                | (have k9 : bel mp (10 + (k : Int)) n := Or.inr (Or.inr (Or.inr (c_38.trans eh)))
                   exact ih _ (by omega) (10 + (k : Int) + 1) _ rfl (by omega) (by rw [show (10 + (k : Int) + 1 - 10).toNat = k + 1 by omega, e1, if_pos k9, hs]))
                | (have k9 : ¬ bel mp (10 + (k : Int)) n := fun z => by
                     rcases z with z | z | z | z
                     · exact c_14 z
                     · exact c_19 z
                     · exact c_29 (z.trans ea.symm)
                     · exact c_38 (z.trans eh.symm)
                   exact ih _ (by omega) (10 + (k : Int) + 1) _ rfl (by omega) (by rw [show (10 + (k : Int) + 1 - 10).toNat = k + 1 by omega, e1, if_neg k9, hs]))
  refine r_iconst (pc := 0) dX6_disksWithin_0 ?_
  refine r_istore_2 (pc := 1) dX6_disksWithin_1 rfl ?_
  refine r_bipush (pc := 2) dX6_disksWithin_2 (by decide) ?_
  refine r_istore_3 (pc := 4) dX6_disksWithin_4 rfl ?_
  exact lp _ 10 0 rfl (by omega) rfl

