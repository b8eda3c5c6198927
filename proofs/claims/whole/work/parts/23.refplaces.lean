/-! THE REFERENCE: overrides, the placement of a group, of all groups -/
theorem odk_s (mp : Int → Int) (g i : Int) (co : Int → Int) (c : Nat) : odk mp g i co (c + 1) = if odc mp g i (odk mp g i co c).1 c = true ∧ (odk mp g i co c).2 = 0 then (up (odk mp g i co c).1 c (mp (112 + 3 * i)), 1) else odk mp g i co c := rfl
theorem dX8_diverts_0 : decode cX8_diverts 0 = .ok (.iconst 0, 1) := by decide +kernel
theorem dX8_diverts_1 : decode cX8_diverts 1 = .ok (.istore_n 2, 1) := by decide +kernel
theorem dX8_diverts_2 : decode cX8_diverts 2 = .ok (.iload_n 2, 1) := by decide +kernel
theorem dX8_diverts_3 : decode cX8_diverts 3 = .ok (.aload_n 0, 1) := by decide +kernel
theorem dX8_diverts_4 : decode cX8_diverts 4 = .ok (.getfield 13, 3) := by decide +kernel
theorem dX8_diverts_7 : decode cX8_diverts 7 = .ok (.sipush 135, 3) := by decide +kernel
theorem dX8_diverts_10 : decode cX8_diverts 10 = .ok (.iaload, 1) := by decide +kernel
theorem dX8_diverts_11 : decode cX8_diverts 11 = .ok (.if_icmp .ge 149, 3) := by decide +kernel
theorem dX8_diverts_14 : decode cX8_diverts 14 = .ok (.aload_n 0, 1) := by decide +kernel
theorem dX8_diverts_15 : decode cX8_diverts 15 = .ok (.getfield 40, 3) := by decide +kernel
theorem dX8_diverts_18 : decode cX8_diverts 18 = .ok (.iload_n 2, 1) := by decide +kernel
theorem dX8_diverts_19 : decode cX8_diverts 19 = .ok (.iconst 0, 1) := by decide +kernel
theorem dX8_diverts_20 : decode cX8_diverts 20 = .ok (.iastore, 1) := by decide +kernel
theorem dX8_diverts_21 : decode cX8_diverts 21 = .ok (.aload_n 0, 1) := by decide +kernel
theorem dX8_diverts_22 : decode cX8_diverts 22 = .ok (.getfield 13, 3) := by decide +kernel
theorem dX8_diverts_25 : decode cX8_diverts 25 = .ok (.bipush 112, 2) := by decide +kernel
theorem dX8_diverts_27 : decode cX8_diverts 27 = .ok (.iconst 3, 1) := by decide +kernel
theorem dX8_diverts_28 : decode cX8_diverts 28 = .ok (.iload_n 2, 1) := by decide +kernel
theorem dX8_diverts_29 : decode cX8_diverts 29 = .ok (.imul, 1) := by decide +kernel
theorem dX8_diverts_30 : decode cX8_diverts 30 = .ok (.iadd, 1) := by decide +kernel
theorem dX8_diverts_31 : decode cX8_diverts 31 = .ok (.iaload, 1) := by decide +kernel
theorem dX8_diverts_32 : decode cX8_diverts 32 = .ok (.istore_n 3, 1) := by decide +kernel
theorem dX8_diverts_33 : decode cX8_diverts 33 = .ok (.iconst 0, 1) := by decide +kernel
theorem dX8_diverts_34 : decode cX8_diverts 34 = .ok (.istore 4, 2) := by decide +kernel
theorem dX8_diverts_36 : decode cX8_diverts 36 = .ok (.iload 4, 2) := by decide +kernel
theorem dX8_diverts_38 : decode cX8_diverts 38 = .ok (.iconst 4, 1) := by decide +kernel
theorem dX8_diverts_39 : decode cX8_diverts 39 = .ok (.if_icmp .ge 115, 3) := by decide +kernel
theorem dX8_diverts_42 : decode cX8_diverts 42 = .ok (.aload_n 0, 1) := by decide +kernel
theorem dX8_diverts_43 : decode cX8_diverts 43 = .ok (.getfield 13, 3) := by decide +kernel
theorem dX8_diverts_46 : decode cX8_diverts 46 = .ok (.bipush 110, 2) := by decide +kernel
theorem dX8_diverts_48 : decode cX8_diverts 48 = .ok (.iconst 3, 1) := by decide +kernel
theorem dX8_diverts_49 : decode cX8_diverts 49 = .ok (.iload_n 2, 1) := by decide +kernel
theorem dX8_diverts_50 : decode cX8_diverts 50 = .ok (.imul, 1) := by decide +kernel
theorem dX8_diverts_51 : decode cX8_diverts 51 = .ok (.iadd, 1) := by decide +kernel
theorem dX8_diverts_52 : decode cX8_diverts 52 = .ok (.iaload, 1) := by decide +kernel
theorem dX8_diverts_53 : decode cX8_diverts 53 = .ok (.iload_n 1, 1) := by decide +kernel
theorem dX8_diverts_54 : decode cX8_diverts 54 = .ok (.if_icmp .ne 62, 3) := by decide +kernel
theorem dX8_diverts_57 : decode cX8_diverts 57 = .ok (.aload_n 0, 1) := by decide +kernel
theorem dX8_diverts_58 : decode cX8_diverts 58 = .ok (.getfield 34, 3) := by decide +kernel
theorem dX8_diverts_61 : decode cX8_diverts 61 = .ok (.iload 4, 2) := by decide +kernel
theorem dX8_diverts_63 : decode cX8_diverts 63 = .ok (.iaload, 1) := by decide +kernel
theorem dX8_diverts_64 : decode cX8_diverts 64 = .ok (.aload_n 0, 1) := by decide +kernel
theorem dX8_diverts_65 : decode cX8_diverts 65 = .ok (.getfield 13, 3) := by decide +kernel
theorem dX8_diverts_68 : decode cX8_diverts 68 = .ok (.bipush 111, 2) := by decide +kernel
theorem dX8_diverts_70 : decode cX8_diverts 70 = .ok (.iconst 3, 1) := by decide +kernel
theorem dX8_diverts_71 : decode cX8_diverts 71 = .ok (.iload_n 2, 1) := by decide +kernel
theorem dX8_diverts_72 : decode cX8_diverts 72 = .ok (.imul, 1) := by decide +kernel
theorem dX8_diverts_73 : decode cX8_diverts 73 = .ok (.iadd, 1) := by decide +kernel
theorem dX8_diverts_74 : decode cX8_diverts 74 = .ok (.iaload, 1) := by decide +kernel
theorem dX8_diverts_75 : decode cX8_diverts 75 = .ok (.if_icmp .ne 41, 3) := by decide +kernel
theorem dX8_diverts_78 : decode cX8_diverts 78 = .ok (.aload_n 0, 1) := by decide +kernel
theorem dX8_diverts_79 : decode cX8_diverts 79 = .ok (.getfield 13, 3) := by decide +kernel
theorem dX8_diverts_82 : decode cX8_diverts 82 = .ok (.bipush 88, 2) := by decide +kernel
theorem dX8_diverts_84 : decode cX8_diverts 84 = .ok (.iload_n 3, 1) := by decide +kernel
theorem dX8_diverts_85 : decode cX8_diverts 85 = .ok (.iadd, 1) := by decide +kernel
theorem dX8_diverts_86 : decode cX8_diverts 86 = .ok (.iaload, 1) := by decide +kernel
theorem dX8_diverts_87 : decode cX8_diverts 87 = .ok (.ifCond .ne 29, 3) := by decide +kernel
theorem dX8_diverts_90 : decode cX8_diverts 90 = .ok (.aload_n 0, 1) := by decide +kernel
theorem dX8_diverts_91 : decode cX8_diverts 91 = .ok (.getfield 13, 3) := by decide +kernel
theorem dX8_diverts_94 : decode cX8_diverts 94 = .ok (.bipush 66, 2) := by decide +kernel
theorem dX8_diverts_96 : decode cX8_diverts 96 = .ok (.iload_n 3, 1) := by decide +kernel
theorem dX8_diverts_97 : decode cX8_diverts 97 = .ok (.iadd, 1) := by decide +kernel
theorem dX8_diverts_98 : decode cX8_diverts 98 = .ok (.iaload, 1) := by decide +kernel
theorem dX8_diverts_99 : decode cX8_diverts 99 = .ok (.ifCond .le 17, 3) := by decide +kernel
theorem dX8_diverts_102 : decode cX8_diverts 102 = .ok (.aload_n 0, 1) := by decide +kernel
theorem dX8_diverts_103 : decode cX8_diverts 103 = .ok (.iload_n 3, 1) := by decide +kernel
theorem dX8_diverts_104 : decode cX8_diverts 104 = .ok (.iload 4, 2) := by decide +kernel
theorem dX8_diverts_106 : decode cX8_diverts 106 = .ok (.invokevirtual 198, 3) := by decide +kernel
theorem dX8_diverts_109 : decode cX8_diverts 109 = .ok (.ifCond .eq 7, 3) := by decide +kernel
theorem dX8_diverts_112 : decode cX8_diverts 112 = .ok (.iconst 1, 1) := by decide +kernel
theorem dX8_diverts_113 : decode cX8_diverts 113 = .ok (.goto 4, 3) := by decide +kernel
theorem dX8_diverts_116 : decode cX8_diverts 116 = .ok (.iconst 0, 1) := by decide +kernel
theorem dX8_diverts_117 : decode cX8_diverts 117 = .ok (.istore 5, 2) := by decide +kernel
theorem dX8_diverts_119 : decode cX8_diverts 119 = .ok (.iload 5, 2) := by decide +kernel
theorem dX8_diverts_121 : decode cX8_diverts 121 = .ok (.ifCond .eq 27, 3) := by decide +kernel
theorem dX8_diverts_124 : decode cX8_diverts 124 = .ok (.aload_n 0, 1) := by decide +kernel
theorem dX8_diverts_125 : decode cX8_diverts 125 = .ok (.getfield 40, 3) := by decide +kernel
theorem dX8_diverts_128 : decode cX8_diverts 128 = .ok (.iload_n 2, 1) := by decide +kernel
theorem dX8_diverts_129 : decode cX8_diverts 129 = .ok (.iaload, 1) := by decide +kernel
theorem dX8_diverts_130 : decode cX8_diverts 130 = .ok (.ifCond .ne 18, 3) := by decide +kernel
theorem dX8_diverts_133 : decode cX8_diverts 133 = .ok (.aload_n 0, 1) := by decide +kernel
theorem dX8_diverts_134 : decode cX8_diverts 134 = .ok (.getfield 34, 3) := by decide +kernel
theorem dX8_diverts_137 : decode cX8_diverts 137 = .ok (.iload 4, 2) := by decide +kernel
theorem dX8_diverts_139 : decode cX8_diverts 139 = .ok (.iload_n 3, 1) := by decide +kernel
theorem dX8_diverts_140 : decode cX8_diverts 140 = .ok (.iastore, 1) := by decide +kernel
theorem dX8_diverts_141 : decode cX8_diverts 141 = .ok (.aload_n 0, 1) := by decide +kernel
theorem dX8_diverts_142 : decode cX8_diverts 142 = .ok (.getfield 40, 3) := by decide +kernel
theorem dX8_diverts_145 : decode cX8_diverts 145 = .ok (.iload_n 2, 1) := by decide +kernel
theorem dX8_diverts_146 : decode cX8_diverts 146 = .ok (.iconst 1, 1) := by decide +kernel
theorem dX8_diverts_147 : decode cX8_diverts 147 = .ok (.iastore, 1) := by decide +kernel
theorem dX8_diverts_148 : decode cX8_diverts 148 = .ok (.iinc 4 1, 3) := by decide +kernel
theorem dX8_diverts_151 : decode cX8_diverts 151 = .ok (.goto (-115), 3) := by decide +kernel
theorem dX8_diverts_154 : decode cX8_diverts 154 = .ok (.iinc 2 1, 3) := by decide +kernel
theorem dX8_diverts_157 : decode cX8_diverts 157 = .ok (.goto (-155), 3) := by decide +kernel
theorem dX8_diverts_160 : decode cX8_diverts 160 = .ok (.return_, 1) := by decide +kernel
set_option maxHeartbeats 4000000 in
set_option maxRecDepth 20000 in
theorem c_X8_diverts : ConV mX8_diverts (fun args N lay r h Q => ∃ b mp co g, args = [.ref b, vI g] ∧ MdAt lay r b ∧ h (b + 2) = mp ∧ TrM mp ∧ RlM mp ∧ CoI mp co ∧ (∀ c, 0 ≤ c → c < 4 → h (b + 9) c = co c) ∧ (0 ≤ g ∧ g < 16) ∧ ∀ h2, Fr h h2 (fun x => x = b + 9 ∨ x = b + 11) → (∀ q, 0 ≤ q → q < 4 → h2 (b + 9) q = dvk mp g co (mp 135).toNat q) → (∀ j, 0 ≤ j → j < mp 135 → h2 (b + 11) j = (odk mp g j (dvk mp g co j.toNat) 4).2) → Q N lay r h2) := by
  refine ConV.of (by decide) (by rintro _ N lay r h Q ⟨b, mp, co, g, rfl, hM, hmp, hT, hR, hci, hco, hg, hQ⟩; exact ⟨rfl, Nat.le_of_ble_eq_true rfl⟩) ?_
  rintro E _ N lay r h Q ⟨b, mp, co, g, rfl, hM, hmp, hT, hR, hci, hco, hg, hQ⟩ hret
  obtain ⟨ml0, ml1, ml2, ml3, ml4, ml5, ml6, ml7, ml8, ml9, ml10, ml11, ml12, ml13, ml14, ml15, ml16, ml17, ml18, ml19, ml20, mr1, mr2, mr3, mr4, mr5, mr6, mr7, mr8, mr9, mr10, mr11, mr12, mr13, mr14, mr15, mr16, mr17, mr18, mr19, mr20⟩ := id hM
  obtain ⟨t1, t2, t3, t4, t5, t6, t7⟩ := id hT
  obtain ⟨r1, r2, r3, r4, r5, r6, r7⟩ := id hR
  show St E mX8_diverts 0 [some (.ref b), some (vI g), none, none, none, none] [] (0, 0) N lay r h
  have inn : ∀ (i : Int) (hi : 0 ≤ i ∧ i < mp 135) (co1 : Int → Int) (hc1 : CoI mp co1) (ol : Int → Int) (K : ∀ (h3 : HpT) (x5 : Option Value), Fr h h3 (fun x => x = b + 9 ∨ x = b + 11) → (∀ q, 0 ≤ q → q < 4 → h3 (b + 9) q = (odk mp g i co1 4).1 q) → h3 (b + 11) i = (odk mp g i co1 4).2 → (∀ j, 0 ≤ j → j < i → h3 (b + 11) j = ol j) → St E mX8_diverts 154 [some (.ref b), some (vI g), some (vI i), some (vI (mp (112 + 3 * i))), some (vI 4), x5] [] (0, 0) N lay r h3) (n_ : Nat) (c : Int) (hk : HpT) (x5 : Option Value), (4 - c).toNat = n_ → (0 ≤ c ∧ c ≤ 4) → (Fr h hk (fun x => x = b + 9 ∨ x = b + 11)) → (∀ q, 0 ≤ q → q < 4 → hk (b + 9) q = (odk mp g i co1 c.toNat).1 q) → (hk (b + 11) i = (odk mp g i co1 c.toNat).2) → (∀ j, 0 ≤ j → j < i → hk (b + 11) j = ol j) → St E mX8_diverts 36 [some (.ref b), some (vI g), some (vI i), some (vI (mp (112 + 3 * i))), some (vI c), x5] [] (0, 0) N lay r hk := by
    intro i hi co1 hc1 ol K n_
    induction n_ using Nat.strongRecOn with
    | ind n_ ih =>
      intro c hk x5 hn_ hc hf hco hst hol
      obtain ⟨k, rfl⟩ : ∃ k : Nat, c = k := ⟨c.toNat, by omega⟩
      rw [show ((k : Int)).toNat = k by omega] at hst
      simp only [show ((k : Int)).toNat = k by omega] at hco
      have e1 := odk_s mp g i co1 k
      have em : hk (b + 2) = mp := (hf _ (by omega)).trans hmp
      obtain ⟨q1, q2, q3⟩ := r7 i hi.1 hi.2
      have q4 := r6 (mp (112 + 3 * i)) (by omega) (by omega)
      obtain ⟨ci2, sr⟩ := odk_I hR hi (g := g) hc1 k
      have hcok2 := hco k
      have ck := ci2 k
      have hb11 : ∀ j, hk (b + 11) j = hk (b + 11) j := fun _ => rfl
      refine r_iload_4 (pc := 36) dX8_diverts_36 ?_
      refine r_iconst (pc := 38) dX8_diverts_38 ?_
      refine r_icmp_ge (pc := 39) (tgt := 154) dX8_diverts_39 (by decide) (by omega) (by omega) (fun c_39 => ?_) (fun c_39 => ?_)
      · have hk4 : k = 4 := by omega
        subst hk4
        exact K hk _ hf hco hst hol
      · refine r_aload_0 (pc := 42) dX8_diverts_42 ?_
        refine gf_X8_13 (pc := 43) rfl (by assumption) dX8_diverts_43 (by assumption) ?_
        refine r_bipush (pc := 46) dX8_diverts_46 (by decide) ?_
        refine r_iconst (pc := 48) dX8_diverts_48 ?_
        refine r_iload_2 (pc := 49) dX8_diverts_49 ?_
        refine r_imul (pc := 50) dX8_diverts_50 ?_
        refine r_iadd (pc := 51) dX8_diverts_51 ?_
        refine r_ialdE (pc := 52) (by assumption) (by first | assumption | exact rfl) dX8_diverts_52 (by omega) (by omega) (fun i_52 => ?_)
        refine r_iload_1 (pc := 53) dX8_diverts_53 ?_
        refine r_icmp_ne (pc := 54) (tgt := 116) dX8_diverts_54 (by decide) (by omega) (by omega) (fun c_54 => ?_) (fun c_54 => ?_)
        · refine r_iconst (pc := 116) dX8_diverts_116 ?_
          refine r_istore_5 (pc := 117) dX8_diverts_117 rfl ?_
          refine r_iload_5 (pc := 119) dX8_diverts_119 ?_
          refine r_ifeq_T (pc := 121) (tgt := 148) dX8_diverts_121 (by decide) (by decide) ?_
          refine r_iinc_4 (pc := 148) dX8_diverts_148 rfl ?_
          refine r_goto (pc := 151) (tgt := 36) dX8_diverts_151 (by decide) ?_
          first
          | (have e9 : ¬ (odc mp g i (odk mp g i co1 k).1 k = true ∧ (odk mp g i co1 k).2 = 0) := (fun z => c_54 (odc_iff.mp z.1).1)
             refine ih _ (by omega) ((k : Int) + 1) hk _ rfl (by omega) hf (fun q q0 q4 => ?_) ?_ hol
             · rw [show ((k : Int) + 1).toNat = k + 1 by omega, e1, if_neg e9]; exact hco q q0 q4
             · rw [show ((k : Int) + 1).toNat = k + 1 by omega, e1, if_neg e9]; exact hst)
          | (have e9 : ¬ (odc mp g i (odk mp g i co1 k).1 k = true ∧ (odk mp g i co1 k).2 = 0) := (fun z => c_75 (by rw [hcok]; exact (odc_iff.mp z.1).2.1))
             refine ih _ (by omega) ((k : Int) + 1) hk _ rfl (by omega) hf (fun q q0 q4 => ?_) ?_ hol
             · rw [show ((k : Int) + 1).toNat = k + 1 by omega, e1, if_neg e9]; exact hco q q0 q4
             · rw [show ((k : Int) + 1).toNat = k + 1 by omega, e1, if_neg e9]; exact hst)
          | (have e9 : ¬ (odc mp g i (odk mp g i co1 k).1 k = true ∧ (odk mp g i co1 k).2 = 0) := (fun z => c_87 (odc_iff.mp z.1).2.2.1)
             refine ih _ (by omega) ((k : Int) + 1) hk _ rfl (by omega) hf (fun q q0 q4 => ?_) ?_ hol
             · rw [show ((k : Int) + 1).toNat = k + 1 by omega, e1, if_neg e9]; exact hco q q0 q4
             · rw [show ((k : Int) + 1).toNat = k + 1 by omega, e1, if_neg e9]; exact hst)
          | (have e9 : ¬ (odc mp g i (odk mp g i co1 k).1 k = true ∧ (odk mp g i co1 k).2 = 0) := (fun z => by have := (odc_iff.mp z.1).2.2.2.1; omega)
             refine ih _ (by omega) ((k : Int) + 1) hk _ rfl (by omega) hf (fun q q0 q4 => ?_) ?_ hol
             · rw [show ((k : Int) + 1).toNat = k + 1 by omega, e1, if_neg e9]; exact hco q q0 q4
             · rw [show ((k : Int) + 1).toNat = k + 1 by omega, e1, if_neg e9]; exact hst)
          | (have e9 : ¬ (odc mp g i (odk mp g i co1 k).1 k = true ∧ (odk mp g i co1 k).2 = 0) := (fun z => c_109 (odc_iff.mp z.1).2.2.2.2)
             refine ih _ (by omega) ((k : Int) + 1) hk _ rfl (by omega) hf (fun q q0 q4 => ?_) ?_ hol
             · rw [show ((k : Int) + 1).toNat = k + 1 by omega, e1, if_neg e9]; exact hco q q0 q4
             · rw [show ((k : Int) + 1).toNat = k + 1 by omega, e1, if_neg e9]; exact hst)
          | (have e9 : ¬ (odc mp g i (odk mp g i co1 k).1 k = true ∧ (odk mp g i co1 k).2 = 0) := (fun z => c_130 (hst.trans z.2))
             refine ih _ (by omega) ((k : Int) + 1) hk _ rfl (by omega) hf (fun q q0 q4 => ?_) ?_ hol
             · rw [show ((k : Int) + 1).toNat = k + 1 by omega, e1, if_neg e9]; exact hco q q0 q4
             · rw [show ((k : Int) + 1).toNat = k + 1 by omega, e1, if_neg e9]; exact hst)
          | (have e9 : odc mp g i (odk mp g i co1 k).1 k = true ∧ (odk mp g i co1 k).2 = 0 := ⟨odc_iff.mpr ⟨c_54, hcok.symm.trans c_75, c_87, by omega, c_109⟩, hst.symm.trans c_130⟩
             refine ih _ (by omega) ((k : Int) + 1) _ _ rfl (by omega) (fun x hx => by rw [hr_n (by omega), hr_n (by omega)]; exact hf x hx) (fun q q0 q4 => ?_) ?_ (fun j j0 j1 => ?_)
             · rw [show ((k : Int) + 1).toNat = k + 1 by omega, e1, if_pos e9, hr_n (by omega), hr_s]
               dsimp only
               by_cases e : q = k
               · rw [e, up_s, up_s]
               · rw [up_n e, up_n e]; exact hco q q0 q4
             · rw [show ((k : Int) + 1).toNat = k + 1 by omega, e1, if_pos e9, hr_s, up_s]
             · rw [hr_s, up_n (by omega), hr_n (by omega)]; exact hol j j0 j1)
        · refine r_aload_0 (pc := 57) dX8_diverts_57 ?_
          refine gf_X8_34 (pc := 58) rfl (by assumption) dX8_diverts_58 (by assumption) ?_
          refine r_iload_4 (pc := 61) dX8_diverts_61 ?_
          refine r_ialdE (pc := 63) (by assumption) rfl dX8_diverts_63 (by omega) (by omega) (fun i_63 => ?_)
          have hcok := hcok2 (by omega) (by omega)
          refine r_aload_0 (pc := 64) dX8_diverts_64 ?_
          refine gf_X8_13 (pc := 65) rfl (by assumption) dX8_diverts_65 (by assumption) ?_
          refine r_bipush (pc := 68) dX8_diverts_68 (by decide) ?_
          refine r_iconst (pc := 70) dX8_diverts_70 ?_
          refine r_iload_2 (pc := 71) dX8_diverts_71 ?_
          refine r_imul (pc := 72) dX8_diverts_72 ?_
          refine r_iadd (pc := 73) dX8_diverts_73 ?_
          refine r_ialdE (pc := 74) (by assumption) (by first | assumption | exact rfl) dX8_diverts_74 (by omega) (by omega) (fun i_74 => ?_)
          refine r_icmp_ne (pc := 75) (tgt := 116) dX8_diverts_75 (by decide) (by omega) (by omega) (fun c_75 => ?_) (fun c_75 => ?_)
          · refine r_iconst (pc := 116) dX8_diverts_116 ?_
            refine r_istore_5 (pc := 117) dX8_diverts_117 rfl ?_
            refine r_iload_5 (pc := 119) dX8_diverts_119 ?_
            refine r_ifeq_T (pc := 121) (tgt := 148) dX8_diverts_121 (by decide) (by decide) ?_
            refine r_iinc_4 (pc := 148) dX8_diverts_148 rfl ?_
            refine r_goto (pc := 151) (tgt := 36) dX8_diverts_151 (by decide) ?_
            first
            | (have e9 : ¬ (odc mp g i (odk mp g i co1 k).1 k = true ∧ (odk mp g i co1 k).2 = 0) := (fun z => c_54 (odc_iff.mp z.1).1)
               refine ih _ (by omega) ((k : Int) + 1) hk _ rfl (by omega) hf (fun q q0 q4 => ?_) ?_ hol
               · rw [show ((k : Int) + 1).toNat = k + 1 by omega, e1, if_neg e9]; exact hco q q0 q4
               · rw [show ((k : Int) + 1).toNat = k + 1 by omega, e1, if_neg e9]; exact hst)
            | (have e9 : ¬ (odc mp g i (odk mp g i co1 k).1 k = true ∧ (odk mp g i co1 k).2 = 0) := (fun z => c_75 (by rw [hcok]; exact (odc_iff.mp z.1).2.1))
               refine ih _ (by omega) ((k : Int) + 1) hk _ rfl (by omega) hf (fun q q0 q4 => ?_) ?_ hol
               · rw [show ((k : Int) + 1).toNat = k + 1 by omega, e1, if_neg e9]; exact hco q q0 q4
               · rw [show ((k : Int) + 1).toNat = k + 1 by omega, e1, if_neg e9]; exact hst)
            | (have e9 : ¬ (odc mp g i (odk mp g i co1 k).1 k = true ∧ (odk mp g i co1 k).2 = 0) := (fun z => c_87 (odc_iff.mp z.1).2.2.1)
               refine ih _ (by omega) ((k : Int) + 1) hk _ rfl (by omega) hf (fun q q0 q4 => ?_) ?_ hol
               · rw [show ((k : Int) + 1).toNat = k + 1 by omega, e1, if_neg e9]; exact hco q q0 q4
               · rw [show ((k : Int) + 1).toNat = k + 1 by omega, e1, if_neg e9]; exact hst)
            | (have e9 : ¬ (odc mp g i (odk mp g i co1 k).1 k = true ∧ (odk mp g i co1 k).2 = 0) := (fun z => by have := (odc_iff.mp z.1).2.2.2.1; omega)
               refine ih _ (by omega) ((k : Int) + 1) hk _ rfl (by omega) hf (fun q q0 q4 => ?_) ?_ hol
               · rw [show ((k : Int) + 1).toNat = k + 1 by omega, e1, if_neg e9]; exact hco q q0 q4
               · rw [show ((k : Int) + 1).toNat = k + 1 by omega, e1, if_neg e9]; exact hst)
            | (have e9 : ¬ (odc mp g i (odk mp g i co1 k).1 k = true ∧ (odk mp g i co1 k).2 = 0) := (fun z => c_109 (odc_iff.mp z.1).2.2.2.2)
               refine ih _ (by omega) ((k : Int) + 1) hk _ rfl (by omega) hf (fun q q0 q4 => ?_) ?_ hol
               · rw [show ((k : Int) + 1).toNat = k + 1 by omega, e1, if_neg e9]; exact hco q q0 q4
               · rw [show ((k : Int) + 1).toNat = k + 1 by omega, e1, if_neg e9]; exact hst)
            | (have e9 : ¬ (odc mp g i (odk mp g i co1 k).1 k = true ∧ (odk mp g i co1 k).2 = 0) := (fun z => c_130 (hst.trans z.2))
               refine ih _ (by omega) ((k : Int) + 1) hk _ rfl (by omega) hf (fun q q0 q4 => ?_) ?_ hol
               · rw [show ((k : Int) + 1).toNat = k + 1 by omega, e1, if_neg e9]; exact hco q q0 q4
               · rw [show ((k : Int) + 1).toNat = k + 1 by omega, e1, if_neg e9]; exact hst)
            | (have e9 : odc mp g i (odk mp g i co1 k).1 k = true ∧ (odk mp g i co1 k).2 = 0 := ⟨odc_iff.mpr ⟨c_54, hcok.symm.trans c_75, c_87, by omega, c_109⟩, hst.symm.trans c_130⟩
               refine ih _ (by omega) ((k : Int) + 1) _ _ rfl (by omega) (fun x hx => by rw [hr_n (by omega), hr_n (by omega)]; exact hf x hx) (fun q q0 q4 => ?_) ?_ (fun j j0 j1 => ?_)
               · rw [show ((k : Int) + 1).toNat = k + 1 by omega, e1, if_pos e9, hr_n (by omega), hr_s]
                 dsimp only
                 by_cases e : q = k
                 · rw [e, up_s, up_s]
                 · rw [up_n e, up_n e]; exact hco q q0 q4
               · rw [show ((k : Int) + 1).toNat = k + 1 by omega, e1, if_pos e9, hr_s, up_s]
               · rw [hr_s, up_n (by omega), hr_n (by omega)]; exact hol j j0 j1)
          · refine r_aload_0 (pc := 78) dX8_diverts_78 ?_
            refine gf_X8_13 (pc := 79) rfl (by assumption) dX8_diverts_79 (by assumption) ?_
            refine r_bipush (pc := 82) dX8_diverts_82 (by decide) ?_
            refine r_iload_3 (pc := 84) dX8_diverts_84 ?_
            refine r_iadd (pc := 85) dX8_diverts_85 ?_
            refine r_ialdE (pc := 86) (by assumption) (by first | assumption | exact rfl) dX8_diverts_86 (by omega) (by omega) (fun i_86 => ?_)
            refine r_if_ne (pc := 87) (tgt := 116) dX8_diverts_87 (by decide) (by omega) (fun c_87 => ?_) (fun c_87 => ?_)
            · refine r_iconst (pc := 116) dX8_diverts_116 ?_
              refine r_istore_5 (pc := 117) dX8_diverts_117 rfl ?_
              refine r_iload_5 (pc := 119) dX8_diverts_119 ?_
              refine r_ifeq_T (pc := 121) (tgt := 148) dX8_diverts_121 (by decide) (by decide) ?_
              refine r_iinc_4 (pc := 148) dX8_diverts_148 rfl ?_
              refine r_goto (pc := 151) (tgt := 36) dX8_diverts_151 (by decide) ?_
              first
              | (have e9 : ¬ (odc mp g i (odk mp g i co1 k).1 k = true ∧ (odk mp g i co1 k).2 = 0) := (fun z => c_54 (odc_iff.mp z.1).1)
                 refine ih _ (by omega) ((k : Int) + 1) hk _ rfl (by omega) hf (fun q q0 q4 => ?_) ?_ hol
                 · rw [show ((k : Int) + 1).toNat = k + 1 by omega, e1, if_neg e9]; exact hco q q0 q4
                 · rw [show ((k : Int) + 1).toNat = k + 1 by omega, e1, if_neg e9]; exact hst)
              | (have e9 : ¬ (odc mp g i (odk mp g i co1 k).1 k = true ∧ (odk mp g i co1 k).2 = 0) := (fun z => c_75 (by rw [hcok]; exact (odc_iff.mp z.1).2.1))
                 refine ih _ (by omega) ((k : Int) + 1) hk _ rfl (by omega) hf (fun q q0 q4 => ?_) ?_ hol
                 · rw [show ((k : Int) + 1).toNat = k + 1 by omega, e1, if_neg e9]; exact hco q q0 q4
                 · rw [show ((k : Int) + 1).toNat = k + 1 by omega, e1, if_neg e9]; exact hst)
              | (have e9 : ¬ (odc mp g i (odk mp g i co1 k).1 k = true ∧ (odk mp g i co1 k).2 = 0) := (fun z => c_87 (odc_iff.mp z.1).2.2.1)
                 refine ih _ (by omega) ((k : Int) + 1) hk _ rfl (by omega) hf (fun q q0 q4 => ?_) ?_ hol
                 · rw [show ((k : Int) + 1).toNat = k + 1 by omega, e1, if_neg e9]; exact hco q q0 q4
                 · rw [show ((k : Int) + 1).toNat = k + 1 by omega, e1, if_neg e9]; exact hst)
              | (have e9 : ¬ (odc mp g i (odk mp g i co1 k).1 k = true ∧ (odk mp g i co1 k).2 = 0) := (fun z => by have := (odc_iff.mp z.1).2.2.2.1; omega)
                 refine ih _ (by omega) ((k : Int) + 1) hk _ rfl (by omega) hf (fun q q0 q4 => ?_) ?_ hol
                 · rw [show ((k : Int) + 1).toNat = k + 1 by omega, e1, if_neg e9]; exact hco q q0 q4
                 · rw [show ((k : Int) + 1).toNat = k + 1 by omega, e1, if_neg e9]; exact hst)
              | (have e9 : ¬ (odc mp g i (odk mp g i co1 k).1 k = true ∧ (odk mp g i co1 k).2 = 0) := (fun z => c_109 (odc_iff.mp z.1).2.2.2.2)
                 refine ih _ (by omega) ((k : Int) + 1) hk _ rfl (by omega) hf (fun q q0 q4 => ?_) ?_ hol
                 · rw [show ((k : Int) + 1).toNat = k + 1 by omega, e1, if_neg e9]; exact hco q q0 q4
                 · rw [show ((k : Int) + 1).toNat = k + 1 by omega, e1, if_neg e9]; exact hst)
              | (have e9 : ¬ (odc mp g i (odk mp g i co1 k).1 k = true ∧ (odk mp g i co1 k).2 = 0) := (fun z => c_130 (hst.trans z.2))
                 refine ih _ (by omega) ((k : Int) + 1) hk _ rfl (by omega) hf (fun q q0 q4 => ?_) ?_ hol
                 · rw [show ((k : Int) + 1).toNat = k + 1 by omega, e1, if_neg e9]; exact hco q q0 q4
                 · rw [show ((k : Int) + 1).toNat = k + 1 by omega, e1, if_neg e9]; exact hst)
              | (have e9 : odc mp g i (odk mp g i co1 k).1 k = true ∧ (odk mp g i co1 k).2 = 0 := ⟨odc_iff.mpr ⟨c_54, hcok.symm.trans c_75, c_87, by omega, c_109⟩, hst.symm.trans c_130⟩
                 refine ih _ (by omega) ((k : Int) + 1) _ _ rfl (by omega) (fun x hx => by rw [hr_n (by omega), hr_n (by omega)]; exact hf x hx) (fun q q0 q4 => ?_) ?_ (fun j j0 j1 => ?_)
                 · rw [show ((k : Int) + 1).toNat = k + 1 by omega, e1, if_pos e9, hr_n (by omega), hr_s]
                   dsimp only
                   by_cases e : q = k
                   · rw [e, up_s, up_s]
                   · rw [up_n e, up_n e]; exact hco q q0 q4
                 · rw [show ((k : Int) + 1).toNat = k + 1 by omega, e1, if_pos e9, hr_s, up_s]
                 · rw [hr_s, up_n (by omega), hr_n (by omega)]; exact hol j j0 j1)
            · refine r_aload_0 (pc := 90) dX8_diverts_90 ?_
              refine gf_X8_13 (pc := 91) rfl (by assumption) dX8_diverts_91 (by assumption) ?_
              refine r_bipush (pc := 94) dX8_diverts_94 (by decide) ?_
              refine r_iload_3 (pc := 96) dX8_diverts_96 ?_
              refine r_iadd (pc := 97) dX8_diverts_97 ?_
              refine r_ialdE (pc := 98) (by assumption) (by first | assumption | exact rfl) dX8_diverts_98 (by omega) (by omega) (fun i_98 => ?_)
              refine r_if_le (pc := 99) (tgt := 116) dX8_diverts_99 (by decide) (by omega) (fun c_99 => ?_) (fun c_99 => ?_)
              · refine r_iconst (pc := 116) dX8_diverts_116 ?_
                refine r_istore_5 (pc := 117) dX8_diverts_117 rfl ?_
                refine r_iload_5 (pc := 119) dX8_diverts_119 ?_
                refine r_ifeq_T (pc := 121) (tgt := 148) dX8_diverts_121 (by decide) (by decide) ?_
                refine r_iinc_4 (pc := 148) dX8_diverts_148 rfl ?_
                refine r_goto (pc := 151) (tgt := 36) dX8_diverts_151 (by decide) ?_
                first
                | (have e9 : ¬ (odc mp g i (odk mp g i co1 k).1 k = true ∧ (odk mp g i co1 k).2 = 0) := (fun z => c_54 (odc_iff.mp z.1).1)
                   refine ih _ (by omega) ((k : Int) + 1) hk _ rfl (by omega) hf (fun q q0 q4 => ?_) ?_ hol
                   · rw [show ((k : Int) + 1).toNat = k + 1 by omega, e1, if_neg e9]; exact hco q q0 q4
                   · rw [show ((k : Int) + 1).toNat = k + 1 by omega, e1, if_neg e9]; exact hst)
                | (have e9 : ¬ (odc mp g i (odk mp g i co1 k).1 k = true ∧ (odk mp g i co1 k).2 = 0) := (fun z => c_75 (by rw [hcok]; exact (odc_iff.mp z.1).2.1))
                   refine ih _ (by omega) ((k : Int) + 1) hk _ rfl (by omega) hf (fun q q0 q4 => ?_) ?_ hol
                   · rw [show ((k : Int) + 1).toNat = k + 1 by omega, e1, if_neg e9]; exact hco q q0 q4
                   · rw [show ((k : Int) + 1).toNat = k + 1 by omega, e1, if_neg e9]; exact hst)
                | (have e9 : ¬ (odc mp g i (odk mp g i co1 k).1 k = true ∧ (odk mp g i co1 k).2 = 0) := (fun z => c_87 (odc_iff.mp z.1).2.2.1)
                   refine ih _ (by omega) ((k : Int) + 1) hk _ rfl (by omega) hf (fun q q0 q4 => ?_) ?_ hol
                   · rw [show ((k : Int) + 1).toNat = k + 1 by omega, e1, if_neg e9]; exact hco q q0 q4
                   · rw [show ((k : Int) + 1).toNat = k + 1 by omega, e1, if_neg e9]; exact hst)
                | (have e9 : ¬ (odc mp g i (odk mp g i co1 k).1 k = true ∧ (odk mp g i co1 k).2 = 0) := (fun z => by have := (odc_iff.mp z.1).2.2.2.1; omega)
                   refine ih _ (by omega) ((k : Int) + 1) hk _ rfl (by omega) hf (fun q q0 q4 => ?_) ?_ hol
                   · rw [show ((k : Int) + 1).toNat = k + 1 by omega, e1, if_neg e9]; exact hco q q0 q4
                   · rw [show ((k : Int) + 1).toNat = k + 1 by omega, e1, if_neg e9]; exact hst)
                | (have e9 : ¬ (odc mp g i (odk mp g i co1 k).1 k = true ∧ (odk mp g i co1 k).2 = 0) := (fun z => c_109 (odc_iff.mp z.1).2.2.2.2)
                   refine ih _ (by omega) ((k : Int) + 1) hk _ rfl (by omega) hf (fun q q0 q4 => ?_) ?_ hol
                   · rw [show ((k : Int) + 1).toNat = k + 1 by omega, e1, if_neg e9]; exact hco q q0 q4
                   · rw [show ((k : Int) + 1).toNat = k + 1 by omega, e1, if_neg e9]; exact hst)
                | (have e9 : ¬ (odc mp g i (odk mp g i co1 k).1 k = true ∧ (odk mp g i co1 k).2 = 0) := (fun z => c_130 (hst.trans z.2))
                   refine ih _ (by omega) ((k : Int) + 1) hk _ rfl (by omega) hf (fun q q0 q4 => ?_) ?_ hol
                   · rw [show ((k : Int) + 1).toNat = k + 1 by omega, e1, if_neg e9]; exact hco q q0 q4
                   · rw [show ((k : Int) + 1).toNat = k + 1 by omega, e1, if_neg e9]; exact hst)
                | (have e9 : odc mp g i (odk mp g i co1 k).1 k = true ∧ (odk mp g i co1 k).2 = 0 := ⟨odc_iff.mpr ⟨c_54, hcok.symm.trans c_75, c_87, by omega, c_109⟩, hst.symm.trans c_130⟩
                   refine ih _ (by omega) ((k : Int) + 1) _ _ rfl (by omega) (fun x hx => by rw [hr_n (by omega), hr_n (by omega)]; exact hf x hx) (fun q q0 q4 => ?_) ?_ (fun j j0 j1 => ?_)
                   · rw [show ((k : Int) + 1).toNat = k + 1 by omega, e1, if_pos e9, hr_n (by omega), hr_s]
                     dsimp only
                     by_cases e : q = k
                     · rw [e, up_s, up_s]
                     · rw [up_n e, up_n e]; exact hco q q0 q4
                   · rw [show ((k : Int) + 1).toNat = k + 1 by omega, e1, if_pos e9, hr_s, up_s]
                   · rw [hr_s, up_n (by omega), hr_n (by omega)]; exact hol j j0 j1)
              · refine r_aload_0 (pc := 102) dX8_diverts_102 ?_
                refine r_iload_3 (pc := 103) dX8_diverts_103 ?_
                refine r_iload_4 (pc := 104) dX8_diverts_104 ?_
                refine k_VI2 (pc := 106) c_X8_isApart lk_X8_198 ⟨Nat.le_of_ble_eq_true rfl, Nat.le_of_ble_eq_true rfl⟩ ⟨rfl, rfl⟩ ⟨Nat.le_of_ble_eq_true rfl, Nat.le_of_ble_eq_true rfl⟩ (k := 8) rfl (by decide) (by assumption) dX8_diverts_106 (Nat.le_of_ble_eq_true rfl) ?_
                refine ⟨_, _, _, _, _, rfl, by assumption, by first | assumption | exact rfl, by assumption, by assumption, by assumption, by assumption, by omega, by omega, ?_⟩
                refine r_ifeq_b (pc := 109) (tgt := 116) dX8_diverts_109 (by decide) (fun c_109 => ?_) (fun c_109 => ?_)
                · refine r_iconst (pc := 116) dX8_diverts_116 ?_
                  refine r_istore_5 (pc := 117) dX8_diverts_117 rfl ?_
                  refine r_iload_5 (pc := 119) dX8_diverts_119 ?_
                  refine r_ifeq_T (pc := 121) (tgt := 148) dX8_diverts_121 (by decide) (by decide) ?_
                  refine r_iinc_4 (pc := 148) dX8_diverts_148 rfl ?_
                  refine r_goto (pc := 151) (tgt := 36) dX8_diverts_151 (by decide) ?_
                  first
                  | (have e9 : ¬ (odc mp g i (odk mp g i co1 k).1 k = true ∧ (odk mp g i co1 k).2 = 0) := (fun z => c_54 (odc_iff.mp z.1).1)
                     refine ih _ (by omega) ((k : Int) + 1) hk _ rfl (by omega) hf (fun q q0 q4 => ?_) ?_ hol
                     · rw [show ((k : Int) + 1).toNat = k + 1 by omega, e1, if_neg e9]; exact hco q q0 q4
                     · rw [show ((k : Int) + 1).toNat = k + 1 by omega, e1, if_neg e9]; exact hst)
                  | (have e9 : ¬ (odc mp g i (odk mp g i co1 k).1 k = true ∧ (odk mp g i co1 k).2 = 0) := (fun z => c_75 (by rw [hcok]; exact (odc_iff.mp z.1).2.1))
                     refine ih _ (by omega) ((k : Int) + 1) hk _ rfl (by omega) hf (fun q q0 q4 => ?_) ?_ hol
                     · rw [show ((k : Int) + 1).toNat = k + 1 by omega, e1, if_neg e9]; exact hco q q0 q4
                     · rw [show ((k : Int) + 1).toNat = k + 1 by omega, e1, if_neg e9]; exact hst)
                  | (have e9 : ¬ (odc mp g i (odk mp g i co1 k).1 k = true ∧ (odk mp g i co1 k).2 = 0) := (fun z => c_87 (odc_iff.mp z.1).2.2.1)
                     refine ih _ (by omega) ((k : Int) + 1) hk _ rfl (by omega) hf (fun q q0 q4 => ?_) ?_ hol
                     · rw [show ((k : Int) + 1).toNat = k + 1 by omega, e1, if_neg e9]; exact hco q q0 q4
                     · rw [show ((k : Int) + 1).toNat = k + 1 by omega, e1, if_neg e9]; exact hst)
                  | (have e9 : ¬ (odc mp g i (odk mp g i co1 k).1 k = true ∧ (odk mp g i co1 k).2 = 0) := (fun z => by have := (odc_iff.mp z.1).2.2.2.1; omega)
                     refine ih _ (by omega) ((k : Int) + 1) hk _ rfl (by omega) hf (fun q q0 q4 => ?_) ?_ hol
                     · rw [show ((k : Int) + 1).toNat = k + 1 by omega, e1, if_neg e9]; exact hco q q0 q4
                     · rw [show ((k : Int) + 1).toNat = k + 1 by omega, e1, if_neg e9]; exact hst)
                  | (have e9 : ¬ (odc mp g i (odk mp g i co1 k).1 k = true ∧ (odk mp g i co1 k).2 = 0) := (fun z => c_109 (odc_iff.mp z.1).2.2.2.2)
                     refine ih _ (by omega) ((k : Int) + 1) hk _ rfl (by omega) hf (fun q q0 q4 => ?_) ?_ hol
                     · rw [show ((k : Int) + 1).toNat = k + 1 by omega, e1, if_neg e9]; exact hco q q0 q4
                     · rw [show ((k : Int) + 1).toNat = k + 1 by omega, e1, if_neg e9]; exact hst)
                  | (have e9 : ¬ (odc mp g i (odk mp g i co1 k).1 k = true ∧ (odk mp g i co1 k).2 = 0) := (fun z => c_130 (hst.trans z.2))
                     refine ih _ (by omega) ((k : Int) + 1) hk _ rfl (by omega) hf (fun q q0 q4 => ?_) ?_ hol
                     · rw [show ((k : Int) + 1).toNat = k + 1 by omega, e1, if_neg e9]; exact hco q q0 q4
                     · rw [show ((k : Int) + 1).toNat = k + 1 by omega, e1, if_neg e9]; exact hst)
                  | (have e9 : odc mp g i (odk mp g i co1 k).1 k = true ∧ (odk mp g i co1 k).2 = 0 := ⟨odc_iff.mpr ⟨c_54, hcok.symm.trans c_75, c_87, by omega, c_109⟩, hst.symm.trans c_130⟩
                     refine ih _ (by omega) ((k : Int) + 1) _ _ rfl (by omega) (fun x hx => by rw [hr_n (by omega), hr_n (by omega)]; exact hf x hx) (fun q q0 q4 => ?_) ?_ (fun j j0 j1 => ?_)
                     · rw [show ((k : Int) + 1).toNat = k + 1 by omega, e1, if_pos e9, hr_n (by omega), hr_s]
                       dsimp only
                       by_cases e : q = k
                       · rw [e, up_s, up_s]
                       · rw [up_n e, up_n e]; exact hco q q0 q4
                     · rw [show ((k : Int) + 1).toNat = k + 1 by omega, e1, if_pos e9, hr_s, up_s]
                     · rw [hr_s, up_n (by omega), hr_n (by omega)]; exact hol j j0 j1)
                · refine r_iconst (pc := 112) dX8_diverts_112 ?_
                  refine r_goto (pc := 113) (tgt := 117) dX8_diverts_113 (by decide) ?_
                  refine r_istore_5 (pc := 117) dX8_diverts_117 rfl ?_
                  refine r_iload_5 (pc := 119) dX8_diverts_119 ?_
                  refine r_ifeq_F (pc := 121) (tgt := 148) dX8_diverts_121 (by decide) (by decide) ?_
                  refine r_aload_0 (pc := 124) dX8_diverts_124 ?_
                  refine gf_X8_40 (pc := 125) rfl (by assumption) dX8_diverts_125 (by assumption) ?_
                  refine r_iload_2 (pc := 128) dX8_diverts_128 ?_
                  refine r_ialdE (pc := 129) (by assumption) rfl dX8_diverts_129 (by omega) (by omega) (fun i_129 => ?_)
                  refine r_if_ne (pc := 130) (tgt := 148) dX8_diverts_130 (by decide) (by omega) (fun c_130 => ?_) (fun c_130 => ?_)
                  · refine r_iinc_4 (pc := 148) dX8_diverts_148 rfl ?_
                    refine r_goto (pc := 151) (tgt := 36) dX8_diverts_151 (by decide) ?_
                    first
                    | (have e9 : ¬ (odc mp g i (odk mp g i co1 k).1 k = true ∧ (odk mp g i co1 k).2 = 0) := (fun z => c_54 (odc_iff.mp z.1).1)
                       refine ih _ (by omega) ((k : Int) + 1) hk _ rfl (by omega) hf (fun q q0 q4 => ?_) ?_ hol
                       · rw [show ((k : Int) + 1).toNat = k + 1 by omega, e1, if_neg e9]; exact hco q q0 q4
                       · rw [show ((k : Int) + 1).toNat = k + 1 by omega, e1, if_neg e9]; exact hst)
                    | (have e9 : ¬ (odc mp g i (odk mp g i co1 k).1 k = true ∧ (odk mp g i co1 k).2 = 0) := (fun z => c_75 (by rw [hcok]; exact (odc_iff.mp z.1).2.1))
                       refine ih _ (by omega) ((k : Int) + 1) hk _ rfl (by omega) hf (fun q q0 q4 => ?_) ?_ hol
                       · rw [show ((k : Int) + 1).toNat = k + 1 by omega, e1, if_neg e9]; exact hco q q0 q4
                       · rw [show ((k : Int) + 1).toNat = k + 1 by omega, e1, if_neg e9]; exact hst)
                    | (have e9 : ¬ (odc mp g i (odk mp g i co1 k).1 k = true ∧ (odk mp g i co1 k).2 = 0) := (fun z => c_87 (odc_iff.mp z.1).2.2.1)
                       refine ih _ (by omega) ((k : Int) + 1) hk _ rfl (by omega) hf (fun q q0 q4 => ?_) ?_ hol
                       · rw [show ((k : Int) + 1).toNat = k + 1 by omega, e1, if_neg e9]; exact hco q q0 q4
                       · rw [show ((k : Int) + 1).toNat = k + 1 by omega, e1, if_neg e9]; exact hst)
                    | (have e9 : ¬ (odc mp g i (odk mp g i co1 k).1 k = true ∧ (odk mp g i co1 k).2 = 0) := (fun z => by have := (odc_iff.mp z.1).2.2.2.1; omega)
                       refine ih _ (by omega) ((k : Int) + 1) hk _ rfl (by omega) hf (fun q q0 q4 => ?_) ?_ hol
                       · rw [show ((k : Int) + 1).toNat = k + 1 by omega, e1, if_neg e9]; exact hco q q0 q4
                       · rw [show ((k : Int) + 1).toNat = k + 1 by omega, e1, if_neg e9]; exact hst)
                    | (have e9 : ¬ (odc mp g i (odk mp g i co1 k).1 k = true ∧ (odk mp g i co1 k).2 = 0) := (fun z => c_109 (odc_iff.mp z.1).2.2.2.2)
                       refine ih _ (by omega) ((k : Int) + 1) hk _ rfl (by omega) hf (fun q q0 q4 => ?_) ?_ hol
                       · rw [show ((k : Int) + 1).toNat = k + 1 by omega, e1, if_neg e9]; exact hco q q0 q4
                       · rw [show ((k : Int) + 1).toNat = k + 1 by omega, e1, if_neg e9]; exact hst)
                    | (have e9 : ¬ (odc mp g i (odk mp g i co1 k).1 k = true ∧ (odk mp g i co1 k).2 = 0) := (fun z => c_130 (hst.trans z.2))
                       refine ih _ (by omega) ((k : Int) + 1) hk _ rfl (by omega) hf (fun q q0 q4 => ?_) ?_ hol
                       · rw [show ((k : Int) + 1).toNat = k + 1 by omega, e1, if_neg e9]; exact hco q q0 q4
                       · rw [show ((k : Int) + 1).toNat = k + 1 by omega, e1, if_neg e9]; exact hst)
                    | (have e9 : odc mp g i (odk mp g i co1 k).1 k = true ∧ (odk mp g i co1 k).2 = 0 := ⟨odc_iff.mpr ⟨c_54, hcok.symm.trans c_75, c_87, by omega, c_109⟩, hst.symm.trans c_130⟩
                       refine ih _ (by omega) ((k : Int) + 1) _ _ rfl (by omega) (fun x hx => by rw [hr_n (by omega), hr_n (by omega)]; exact hf x hx) (fun q q0 q4 => ?_) ?_ (fun j j0 j1 => ?_)
                       · rw [show ((k : Int) + 1).toNat = k + 1 by omega, e1, if_pos e9, hr_n (by omega), hr_s]
                         dsimp only
                         by_cases e : q = k
                         · rw [e, up_s, up_s]
                         · rw [up_n e, up_n e]; exact hco q q0 q4
                       · rw [show ((k : Int) + 1).toNat = k + 1 by omega, e1, if_pos e9, hr_s, up_s]
                       · rw [hr_s, up_n (by omega), hr_n (by omega)]; exact hol j j0 j1)
                  · refine r_aload_0 (pc := 133) dX8_diverts_133 ?_
                    refine gf_X8_34 (pc := 134) rfl (by assumption) dX8_diverts_134 (by assumption) ?_
                    refine r_iload_4 (pc := 137) dX8_diverts_137 ?_
                    refine r_iload_3 (pc := 139) dX8_diverts_139 ?_
                    refine r_iastE (pc := 140) (by assumption) rfl dX8_diverts_140 (by omega) (by omega) (by omega) ?_
                    refine r_aload_0 (pc := 141) dX8_diverts_141 ?_
                    refine gf_X8_40 (pc := 142) rfl (by assumption) dX8_diverts_142 (by assumption) ?_
                    refine r_iload_2 (pc := 145) dX8_diverts_145 ?_
                    refine r_iconst (pc := 146) dX8_diverts_146 ?_
                    refine r_iastE (pc := 147) (by assumption) rfl dX8_diverts_147 (by omega) (by omega) (by omega) ?_
                    refine r_iinc_4 (pc := 148) dX8_diverts_148 rfl ?_
                    refine r_goto (pc := 151) (tgt := 36) dX8_diverts_151 (by decide) ?_
                    first
                    | (have e9 : ¬ (odc mp g i (odk mp g i co1 k).1 k = true ∧ (odk mp g i co1 k).2 = 0) := (fun z => c_54 (odc_iff.mp z.1).1)
                       refine ih _ (by omega) ((k : Int) + 1) hk _ rfl (by omega) hf (fun q q0 q4 => ?_) ?_ hol
                       · rw [show ((k : Int) + 1).toNat = k + 1 by omega, e1, if_neg e9]; exact hco q q0 q4
                       · rw [show ((k : Int) + 1).toNat = k + 1 by omega, e1, if_neg e9]; exact hst)
                    | (have e9 : ¬ (odc mp g i (odk mp g i co1 k).1 k = true ∧ (odk mp g i co1 k).2 = 0) := (fun z => c_75 (by rw [hcok]; exact (odc_iff.mp z.1).2.1))
                       refine ih _ (by omega) ((k : Int) + 1) hk _ rfl (by omega) hf (fun q q0 q4 => ?_) ?_ hol
                       · rw [show ((k : Int) + 1).toNat = k + 1 by omega, e1, if_neg e9]; exact hco q q0 q4
                       · rw [show ((k : Int) + 1).toNat = k + 1 by omega, e1, if_neg e9]; exact hst)
                    | (have e9 : ¬ (odc mp g i (odk mp g i co1 k).1 k = true ∧ (odk mp g i co1 k).2 = 0) := (fun z => c_87 (odc_iff.mp z.1).2.2.1)
                       refine ih _ (by omega) ((k : Int) + 1) hk _ rfl (by omega) hf (fun q q0 q4 => ?_) ?_ hol
                       · rw [show ((k : Int) + 1).toNat = k + 1 by omega, e1, if_neg e9]; exact hco q q0 q4
                       · rw [show ((k : Int) + 1).toNat = k + 1 by omega, e1, if_neg e9]; exact hst)
                    | (have e9 : ¬ (odc mp g i (odk mp g i co1 k).1 k = true ∧ (odk mp g i co1 k).2 = 0) := (fun z => by have := (odc_iff.mp z.1).2.2.2.1; omega)
                       refine ih _ (by omega) ((k : Int) + 1) hk _ rfl (by omega) hf (fun q q0 q4 => ?_) ?_ hol
                       · rw [show ((k : Int) + 1).toNat = k + 1 by omega, e1, if_neg e9]; exact hco q q0 q4
                       · rw [show ((k : Int) + 1).toNat = k + 1 by omega, e1, if_neg e9]; exact hst)
                    | (have e9 : ¬ (odc mp g i (odk mp g i co1 k).1 k = true ∧ (odk mp g i co1 k).2 = 0) := (fun z => c_109 (odc_iff.mp z.1).2.2.2.2)
                       refine ih _ (by omega) ((k : Int) + 1) hk _ rfl (by omega) hf (fun q q0 q4 => ?_) ?_ hol
                       · rw [show ((k : Int) + 1).toNat = k + 1 by omega, e1, if_neg e9]; exact hco q q0 q4
                       · rw [show ((k : Int) + 1).toNat = k + 1 by omega, e1, if_neg e9]; exact hst)
                    | (have e9 : ¬ (odc mp g i (odk mp g i co1 k).1 k = true ∧ (odk mp g i co1 k).2 = 0) := (fun z => c_130 (hst.trans z.2))
                       refine ih _ (by omega) ((k : Int) + 1) hk _ rfl (by omega) hf (fun q q0 q4 => ?_) ?_ hol
                       · rw [show ((k : Int) + 1).toNat = k + 1 by omega, e1, if_neg e9]; exact hco q q0 q4
                       · rw [show ((k : Int) + 1).toNat = k + 1 by omega, e1, if_neg e9]; exact hst)
                    | (have e9 : odc mp g i (odk mp g i co1 k).1 k = true ∧ (odk mp g i co1 k).2 = 0 := ⟨odc_iff.mpr ⟨c_54, hcok.symm.trans c_75, c_87, by omega, c_109⟩, hst.symm.trans c_130⟩
                       refine ih _ (by omega) ((k : Int) + 1) _ _ rfl (by omega) (fun x hx => by rw [hr_n (by omega), hr_n (by omega)]; exact hf x hx) (fun q q0 q4 => ?_) ?_ (fun j j0 j1 => ?_)
                       · rw [show ((k : Int) + 1).toNat = k + 1 by omega, e1, if_pos e9, hr_n (by omega), hr_s]
                         dsimp only
                         by_cases e : q = k
                         · rw [e, up_s, up_s]
                         · rw [up_n e, up_n e]; exact hco q q0 q4
                       · rw [show ((k : Int) + 1).toNat = k + 1 by omega, e1, if_pos e9, hr_s, up_s]
                       · rw [hr_s, up_n (by omega), hr_n (by omega)]; exact hol j j0 j1)
  have lp : ∀ (n_ : Nat) (i : Int) (hk : HpT) (x3 : Option Value) (x4 : Option Value) (x5 : Option Value), (6 - i).toNat = n_ → (0 ≤ i ∧ i ≤ mp 135) → (Fr h hk (fun x => x = b + 9 ∨ x = b + 11)) → (∀ q, 0 ≤ q → q < 4 → hk (b + 9) q = dvk mp g co i.toNat q) → (∀ j, 0 ≤ j → j < i → hk (b + 11) j = (odk mp g j (dvk mp g co j.toNat) 4).2) → St E mX8_diverts 2 [some (.ref b), some (vI g), some (vI i), x3, x4, x5] [] (0, 0) N lay r hk := by
    intro  n_
    induction n_ using Nat.strongRecOn with
    | ind n_ ih =>
      intro i hk x3 x4 x5 hn_ hi hf hco hol
      obtain ⟨k, rfl⟩ : ∃ k : Nat, i = k := ⟨i.toNat, by omega⟩
      simp only [show ((k : Int)).toNat = k by omega] at hco
      have em : hk (b + 2) = mp := (hf _ (by omega)).trans hmp
      have q7 := r7 k
      have cI := dvk_I hR (g := g) hci k
      refine r_iload_2 (pc := 2) dX8_diverts_2 ?_
      refine r_aload_0 (pc := 3) dX8_diverts_3 ?_
      refine gf_X8_13 (pc := 4) rfl (by assumption) dX8_diverts_4 (by assumption) ?_
      refine r_sipush (pc := 7) dX8_diverts_7 (by decide) ?_
      refine r_ialdE (pc := 10) (by assumption) (by first | assumption | exact rfl) dX8_diverts_10 (by omega) (by omega) (fun i_10 => ?_)
      refine r_icmp_ge (pc := 11) (tgt := 160) dX8_diverts_11 (by decide) (by omega) (by omega) (fun c_11 => ?_) (fun c_11 => ?_)
      · refine r_ret (pc := 160) hret dX8_diverts_160 rfl rfl rfl ?_
        have hk5 : (k : Int) = mp 135 := by omega
        exact hQ hk hf (fun q q0 q4 => by rw [hco q q0 q4, ← hk5, show ((k : Int)).toNat = k by omega]) (fun j j0 j1 => hol j j0 (by omega))
      · refine r_aload_0 (pc := 14) dX8_diverts_14 ?_
        refine gf_X8_40 (pc := 15) rfl (by assumption) dX8_diverts_15 (by assumption) ?_
        refine r_iload_2 (pc := 18) dX8_diverts_18 ?_
        refine r_iconst (pc := 19) dX8_diverts_19 ?_
        refine r_iastE (pc := 20) (by assumption) (by first | assumption | exact rfl) dX8_diverts_20 (by omega) (by omega) (by omega) ?_
        refine r_aload_0 (pc := 21) dX8_diverts_21 ?_
        refine gf_X8_13 (pc := 22) rfl (by assumption) dX8_diverts_22 (by assumption) ?_
        refine r_bipush (pc := 25) dX8_diverts_25 (by decide) ?_
        refine r_iconst (pc := 27) dX8_diverts_27 ?_
        refine r_iload_2 (pc := 28) dX8_diverts_28 ?_
        refine r_imul (pc := 29) dX8_diverts_29 ?_
        refine r_iadd (pc := 30) dX8_diverts_30 ?_
        have hk9 : (k : Int) < mp 135 := by omega
        have q8 := q7 (by omega) (by omega)
        have em2 : hr hk (b + 11) (up (hk (b + 11)) k 0) (b + 2) = mp := by rw [hr_n (by omega)]; exact em
        refine r_ialdE (pc := 31) (by assumption) (by first | assumption | exact rfl) dX8_diverts_31 (by omega) (by omega) (fun i_31 => ?_)
        refine r_istore_3 (pc := 32) dX8_diverts_32 rfl ?_
        refine r_iconst (pc := 33) dX8_diverts_33 ?_
        refine r_istore_4 (pc := 34) dX8_diverts_34 rfl ?_
        have hk9 : (k : Int) < mp 135 := by omega
        have q8 := q7 (by omega) (by omega)
        refine inn k (by omega) (dvk mp g co k) (cI (by omega)) (fun j => (odk mp g j (dvk mp g co j.toNat) 4).2) (fun h3 x5 f3 co3 st3 ol3 => ?_) _ 0 _ _ rfl (by omega) (fun x hx => by rw [hr_n (by omega)]; exact hf x hx) (fun q q0 q4 => by rw [hr_n (by omega)]; exact hco q q0 q4) (by rw [hr_s, up_s]; rfl) (fun j j0 j1 => by rw [hr_s, up_n (by omega)]; exact hol j j0 j1)
        refine r_iinc_2 (pc := 154) dX8_diverts_154 rfl ?_
        refine r_goto (pc := 157) (tgt := 2) dX8_diverts_157 (by decide) ?_
        refine ih _ (by omega) ((k : Int) + 1) h3 _ _ _ rfl (by omega) f3 (fun q q0 q4 => ?_) (fun j j0 j1 => ?_)
        · rw [show ((k : Int) + 1).toNat = k + 1 by omega]; exact co3 q q0 q4
        · by_cases e : j = k
          · subst e; rw [st3, show ((k : Int)).toNat = k by omega]
          · exact ol3 j j0 (by omega)
  refine r_iconst (pc := 0) dX8_diverts_0 ?_
  refine r_istore_2 (pc := 1) dX8_diverts_1 rfl ?_
  exact lp _ 0 h _ _ _ rfl (by omega) (fun _ _ => rfl) hco (fun j j0 j1 => by omega)

theorem dX8_places_0 : decode cX8_places 0 = .ok (.aload_n 0, 1) := by decide +kernel
theorem dX8_places_1 : decode cX8_places 1 = .ok (.getfield 13, 3) := by decide +kernel
theorem dX8_places_4 : decode cX8_places 4 = .ok (.sipush 131, 3) := by decide +kernel
theorem dX8_places_7 : decode cX8_places 7 = .ok (.iaload, 1) := by decide +kernel
theorem dX8_places_8 : decode cX8_places 8 = .ok (.istore_n 2, 1) := by decide +kernel
theorem dX8_places_9 : decode cX8_places 9 = .ok (.iconst 0, 1) := by decide +kernel
theorem dX8_places_10 : decode cX8_places 10 = .ok (.istore_n 3, 1) := by decide +kernel
theorem dX8_places_11 : decode cX8_places 11 = .ok (.iload_n 3, 1) := by decide +kernel
theorem dX8_places_12 : decode cX8_places 12 = .ok (.iconst 4, 1) := by decide +kernel
theorem dX8_places_13 : decode cX8_places 13 = .ok (.if_icmp .ge 25, 3) := by decide +kernel
theorem dX8_places_16 : decode cX8_places 16 = .ok (.aload_n 0, 1) := by decide +kernel
theorem dX8_places_17 : decode cX8_places 17 = .ok (.getfield 34, 3) := by decide +kernel
theorem dX8_places_20 : decode cX8_places 20 = .ok (.iload_n 3, 1) := by decide +kernel
theorem dX8_places_21 : decode cX8_places 21 = .ok (.bipush (-4), 2) := by decide +kernel
theorem dX8_places_23 : decode cX8_places 23 = .ok (.iastore, 1) := by decide +kernel
theorem dX8_places_24 : decode cX8_places 24 = .ok (.aload_n 0, 1) := by decide +kernel
theorem dX8_places_25 : decode cX8_places 25 = .ok (.getfield 37, 3) := by decide +kernel
theorem dX8_places_28 : decode cX8_places 28 = .ok (.iload_n 3, 1) := by decide +kernel
theorem dX8_places_29 : decode cX8_places 29 = .ok (.bipush (-4), 2) := by decide +kernel
theorem dX8_places_31 : decode cX8_places 31 = .ok (.iastore, 1) := by decide +kernel
theorem dX8_places_32 : decode cX8_places 32 = .ok (.iinc 3 1, 3) := by decide +kernel
theorem dX8_places_35 : decode cX8_places 35 = .ok (.goto (-24), 3) := by decide +kernel
theorem dX8_places_38 : decode cX8_places 38 = .ok (.iconst 0, 1) := by decide +kernel
theorem dX8_places_39 : decode cX8_places 39 = .ok (.istore_n 3, 1) := by decide +kernel
theorem dX8_places_40 : decode cX8_places 40 = .ok (.iconst 0, 1) := by decide +kernel
theorem dX8_places_41 : decode cX8_places 41 = .ok (.istore 4, 2) := by decide +kernel
theorem dX8_places_43 : decode cX8_places 43 = .ok (.iload 4, 2) := by decide +kernel
theorem dX8_places_45 : decode cX8_places 45 = .ok (.aload_n 0, 1) := by decide +kernel
theorem dX8_places_46 : decode cX8_places 46 = .ok (.getfield 13, 3) := by decide +kernel
theorem dX8_places_49 : decode cX8_places 49 = .ok (.sipush 134, 3) := by decide +kernel
theorem dX8_places_52 : decode cX8_places 52 = .ok (.iaload, 1) := by decide +kernel
theorem dX8_places_53 : decode cX8_places 53 = .ok (.if_icmp .ge 77, 3) := by decide +kernel
theorem dX8_places_56 : decode cX8_places 56 = .ok (.aload_n 0, 1) := by decide +kernel
theorem dX8_places_57 : decode cX8_places 57 = .ok (.getfield 13, 3) := by decide +kernel
theorem dX8_places_60 : decode cX8_places 60 = .ok (.sipush 133, 3) := by decide +kernel
theorem dX8_places_63 : decode cX8_places 63 = .ok (.iaload, 1) := by decide +kernel
theorem dX8_places_64 : decode cX8_places 64 = .ok (.iconst 1, 1) := by decide +kernel
theorem dX8_places_65 : decode cX8_places 65 = .ok (.if_icmp .ne 29, 3) := by decide +kernel
theorem dX8_places_68 : decode cX8_places 68 = .ok (.aload_n 0, 1) := by decide +kernel
theorem dX8_places_69 : decode cX8_places 69 = .ok (.getfield 34, 3) := by decide +kernel
theorem dX8_places_72 : decode cX8_places 72 = .ok (.iload 4, 2) := by decide +kernel
theorem dX8_places_74 : decode cX8_places 74 = .ok (.iload_n 2, 1) := by decide +kernel
theorem dX8_places_75 : decode cX8_places 75 = .ok (.irem, 1) := by decide +kernel
theorem dX8_places_76 : decode cX8_places 76 = .ok (.iaload, 1) := by decide +kernel
theorem dX8_places_77 : decode cX8_places 77 = .ok (.ifCond .ge 47, 3) := by decide +kernel
theorem dX8_places_80 : decode cX8_places 80 = .ok (.aload_n 0, 1) := by decide +kernel
theorem dX8_places_81 : decode cX8_places 81 = .ok (.iload_n 1, 1) := by decide +kernel
theorem dX8_places_82 : decode cX8_places 82 = .ok (.iload 4, 2) := by decide +kernel
theorem dX8_places_84 : decode cX8_places 84 = .ok (.iload_n 2, 1) := by decide +kernel
theorem dX8_places_85 : decode cX8_places 85 = .ok (.irem, 1) := by decide +kernel
theorem dX8_places_86 : decode cX8_places 86 = .ok (.iload 4, 2) := by decide +kernel
theorem dX8_places_88 : decode cX8_places 88 = .ok (.invokevirtual 201, 3) := by decide +kernel
theorem dX8_places_91 : decode cX8_places 91 = .ok (.goto 33, 3) := by decide +kernel
theorem dX8_places_94 : decode cX8_places 94 = .ok (.iload_n 3, 1) := by decide +kernel
theorem dX8_places_95 : decode cX8_places 95 = .ok (.iload_n 2, 1) := by decide +kernel
theorem dX8_places_96 : decode cX8_places 96 = .ok (.if_icmp .ge 28, 3) := by decide +kernel
theorem dX8_places_99 : decode cX8_places 99 = .ok (.aload_n 0, 1) := by decide +kernel
theorem dX8_places_100 : decode cX8_places 100 = .ok (.iload_n 1, 1) := by decide +kernel
theorem dX8_places_101 : decode cX8_places 101 = .ok (.iload_n 3, 1) := by decide +kernel
theorem dX8_places_102 : decode cX8_places 102 = .ok (.iload 4, 2) := by decide +kernel
theorem dX8_places_104 : decode cX8_places 104 = .ok (.invokevirtual 201, 3) := by decide +kernel
theorem dX8_places_107 : decode cX8_places 107 = .ok (.iload_n 3, 1) := by decide +kernel
theorem dX8_places_108 : decode cX8_places 108 = .ok (.aload_n 0, 1) := by decide +kernel
theorem dX8_places_109 : decode cX8_places 109 = .ok (.getfield 34, 3) := by decide +kernel
theorem dX8_places_112 : decode cX8_places 112 = .ok (.iload_n 3, 1) := by decide +kernel
theorem dX8_places_113 : decode cX8_places 113 = .ok (.iaload, 1) := by decide +kernel
theorem dX8_places_114 : decode cX8_places 114 = .ok (.ifCond .lt 7, 3) := by decide +kernel
theorem dX8_places_117 : decode cX8_places 117 = .ok (.iconst 1, 1) := by decide +kernel
theorem dX8_places_118 : decode cX8_places 118 = .ok (.goto 4, 3) := by decide +kernel
theorem dX8_places_121 : decode cX8_places 121 = .ok (.iconst 0, 1) := by decide +kernel
theorem dX8_places_122 : decode cX8_places 122 = .ok (.iadd, 1) := by decide +kernel
theorem dX8_places_123 : decode cX8_places 123 = .ok (.istore_n 3, 1) := by decide +kernel
theorem dX8_places_124 : decode cX8_places 124 = .ok (.iinc 4 1, 3) := by decide +kernel
theorem dX8_places_127 : decode cX8_places 127 = .ok (.goto (-84), 3) := by decide +kernel
theorem dX8_places_130 : decode cX8_places 130 = .ok (.aload_n 0, 1) := by decide +kernel
theorem dX8_places_131 : decode cX8_places 131 = .ok (.iload_n 1, 1) := by decide +kernel
theorem dX8_places_132 : decode cX8_places 132 = .ok (.invokevirtual 205, 3) := by decide +kernel
theorem dX8_places_135 : decode cX8_places 135 = .ok (.return_, 1) := by decide +kernel
set_option maxHeartbeats 4000000 in
set_option maxRecDepth 20000 in
theorem c_X8_places : ConV mX8_places (fun args N lay r h Q => ∃ b mp g, args = [.ref b, vI g] ∧ MdAt lay r b ∧ h (b + 2) = mp ∧ TrM mp ∧ RlM mp ∧ (∀ n, 0 ≤ n → n < 22 → h (b + 8) n = wg mp n) ∧ WaT (h (b + 7)) ∧ (0 ≤ g ∧ g < 16) ∧ ∀ h2, Fr h h2 (fun x => x = b + 9 ∨ x = b + 10 ∨ x = b + 11) → (∀ q, 0 ≤ q → q < 4 → h2 (b + 9) q = plc mp g q) → (∀ q, 0 ≤ q → q < 4 → h2 (b + 10) q = trs mp g q) → (∀ j, 0 ≤ j → j < mp 135 → h2 (b + 11) j = std mp g j.toNat) → Q N lay r h2) := by
  refine ConV.of (by decide) (by rintro _ N lay r h Q ⟨b, mp, g, rfl, hM, hmp, hT, hR, hw, hwa, hg, hQ⟩; exact ⟨rfl, Nat.le_of_ble_eq_true rfl⟩) ?_
  rintro E _ N lay r h Q ⟨b, mp, g, rfl, hM, hmp, hT, hR, hw, hwa, hg, hQ⟩ hret
  obtain ⟨ml0, ml1, ml2, ml3, ml4, ml5, ml6, ml7, ml8, ml9, ml10, ml11, ml12, ml13, ml14, ml15, ml16, ml17, ml18, ml19, ml20, mr1, mr2, mr3, mr4, mr5, mr6, mr7, mr8, mr9, mr10, mr11, mr12, mr13, mr14, mr15, mr16, mr17, mr18, mr19, mr20⟩ := id hM
  obtain ⟨t1, t2, t3, t4, t5, t6, t7⟩ := id hT
  obtain ⟨r1, r2, r3, r4, r5, r6, r7⟩ := id hR
  show St E mX8_places 0 [some (.ref b), some (vI g), none, none, none] [] (0, 0) N lay r h
  have lp2 : ∀ (n_ : Nat) (t : Int) (mn : Int) (hk : HpT), (24 - t).toNat = n_ → (0 ≤ t ∧ t ≤ mp 134) → (mn = if mp 133 = 1 then 0 else (pst mp g t.toNat).2.2) → (Fr h hk (fun x => x = b + 9 ∨ x = b + 10)) → (∀ q, 0 ≤ q → q < 4 → hk (b + 9) q = (pst mp g t.toNat).1 q) → (∀ q, 0 ≤ q → q < 4 → hk (b + 10) q = (pst mp g t.toNat).2.1 q) → St E mX8_places 43 [some (.ref b), some (vI g), some (vI (mp 131)), some (vI mn), some (vI t)] [] (0, 0) N lay r hk := by
    intro  n_
    induction n_ using Nat.strongRecOn with
    | ind n_ ih =>
      intro t mn hk hn_ ht hm hf hco htr
      obtain ⟨k, rfl⟩ : ∃ k : Nat, t = k := ⟨t.toNat, by omega⟩
      simp only [show ((k : Int)).toNat = k by omega] at hco htr hm
      obtain ⟨i1, i2, i3, i4, i5, i6⟩ := pst_I hT hR g k (by omega)
      have em : hk (b + 2) = mp := (hf _ (by omega)).trans hmp
      have hpA : mp 133 = 1 → pat mp k (pst mp g k) = (k : Int) % mp 131 := fun q => if_pos q
      have hpO : mp 133 ≠ 1 → pat mp k (pst mp g k) = (pst mp g k).2.2 := fun q => if_neg q
      have e1 : pst mp g (k + 1) = pstep mp g k (pst mp g k) := rfl
      have hw2 : ∀ n, 0 ≤ n → n < 22 → hk (b + 8) n = wg mp n := fun n n0 n1 => by rw [hf _ (by omega)]; exact hw n n0 n1
      have hwa2 : WaT (hk (b + 7)) := by rw [hf _ (by omega)]; exact hwa
      have md1 := Int.emod_nonneg (k : Int) (show mp 131 ≠ 0 by omega)
      have md2 := Int.emod_lt_of_pos (k : Int) (show 0 < mp 131 by omega)
      have cI : CoI mp (pst mp g k).1 := i1
      have dk := try_dk hT g k
      have hmr : 0 ≤ mn ∧ mn ≤ mp 131 := by
        rw [hm]
        split
        · omega
        · rename_i q
          have := (i3 q).1
          omega
      refine r_iload_4 (pc := 43) dX8_places_43 ?_
      refine r_aload_0 (pc := 45) dX8_places_45 ?_
      refine gf_X8_13 (pc := 46) rfl (by assumption) dX8_places_46 (by assumption) ?_
      refine r_sipush (pc := 49) dX8_places_49 (by decide) ?_
      refine r_ialdE (pc := 52) (by assumption) (by first | assumption | exact rfl) dX8_places_52 (by omega) (by omega) (fun i_52 => ?_)
      refine r_icmp_ge (pc := 53) (tgt := 130) dX8_places_53 (by decide) (by omega) (by omega) (fun c_53 => ?_) (fun c_53 => ?_)
      · refine r_aload_0 (pc := 130) dX8_places_130 ?_
        refine r_iload_1 (pc := 131) dX8_places_131 ?_
        refine k_VV1 (pc := 132) c_X8_diverts lk_X8_205 ⟨Nat.le_of_ble_eq_true rfl, Nat.le_of_ble_eq_true rfl⟩ ⟨rfl, rfl⟩ ⟨Nat.le_of_ble_eq_true rfl, Nat.le_of_ble_eq_true rfl⟩ (k := 8) rfl (by decide) (by assumption) dX8_places_132 (Nat.le_of_ble_eq_true rfl) ?_
        refine ⟨_, _, _, _, rfl, by assumption, by first | assumption | exact rfl, by assumption, by assumption, by assumption, by assumption, by omega, fun h_132 f_132 a_132 b_132 => ?_⟩
        have m_132 : h_132 (b + 2) = mp := (f_132 _ (by omega)).trans (by assumption)
        refine r_ret (pc := 135) hret dX8_places_135 rfl rfl rfl ?_
        have hk4 : (k : Int) = mp 134 := by omega
        refine hQ h_132 (fun x hx => (f_132 x (by omega)).trans (hf x (by omega))) (fun q q0 q4 => ?_) (fun q q0 q4 => ?_) (fun j j0 j1 => ?_)
        · rw [a_132 q q0 q4]
          unfold plc co0
          rw [← hk4, show ((k : Int)).toNat = k by omega]
        · rw [f_132 _ (by omega), htr q q0 q4]
          unfold trs
          rw [← hk4, show ((k : Int)).toNat = k by omega]
        · rw [b_132 j j0 j1]
          unfold std co0
          rw [← hk4, show ((k : Int)).toNat = k by omega, show ((j.toNat : Nat) : Int) = j by omega]
      · refine r_aload_0 (pc := 56) dX8_places_56 ?_
        refine gf_X8_13 (pc := 57) rfl (by assumption) dX8_places_57 (by assumption) ?_
        refine r_sipush (pc := 60) dX8_places_60 (by decide) ?_
        refine r_ialdE (pc := 63) (by assumption) (by first | assumption | exact rfl) dX8_places_63 (by omega) (by omega) (fun i_63 => ?_)
        refine r_iconst (pc := 64) dX8_places_64 ?_
        refine r_icmp_ne (pc := 65) (tgt := 94) dX8_places_65 (by decide) (by omega) (by omega) (fun c_65 => ?_) (fun c_65 => ?_)
        · refine r_iload_3 (pc := 94) dX8_places_94 ?_
          refine r_iload_2 (pc := 95) dX8_places_95 ?_
          refine r_icmp_ge (pc := 96) (tgt := 124) dX8_places_96 (by decide) (by omega) (by omega) (fun c_96 => ?_) (fun c_96 => ?_)
          · refine r_iinc_4 (pc := 124) dX8_places_124 rfl ?_
            refine r_goto (pc := 127) (tgt := 43) dX8_places_127 (by decide) ?_
            first
            | (have e9 : ¬ pcd mp g k (pst mp g k) = true := fun z => by
                 have z2 := (pcd_iff.mp z).2.1
                 rw [hpA c_65, ← hco _ md1 (by omega)] at z2
                 omega
               have e8 : pst mp g (k + 1) = pst mp g k := by rw [e1]; exact if_neg e9
               exact ih _ (by omega) ((k : Int) + 1) _ hk rfl (by omega) (by rw [show ((k : Int) + 1).toNat = k + 1 by omega, e8]; exact hm) hf (fun q q0 q4 => by rw [show ((k : Int) + 1).toNat = k + 1 by omega, e8]; exact hco q q0 q4) (fun q q0 q4 => by rw [show ((k : Int) + 1).toNat = k + 1 by omega, e8]; exact htr q q0 q4))
            | (have e8 : pst mp g (k + 1) = if tk mp g k (pst mp g k).1 = true then (up (pst mp g k).1 ((k : Int) % mp 131) (tryS mp g k), up (pst mp g k).2.1 ((k : Int) % mp 131) k, (pst mp g k).2.2 + 1) else pst mp g k := by
                 rw [e1]
                 unfold pstep
                 rw [hpA c_65]
                 by_cases z : tk mp g k (pst mp g k).1 = true
                 · rw [if_pos z, if_pos (pcd_iff.mpr ⟨Or.inl c_65, by rw [hpA c_65, ← hco _ md1 (by omega)]; exact c_77, z⟩)]
                 · rw [if_neg z, if_neg (fun y => z (pcd_iff.mp y).2.2)]
               refine ih _ (by omega) ((k : Int) + 1) _ h_88 rfl (by omega) (by rw [show ((k : Int) + 1).toNat = k + 1 by omega, if_pos c_65]; rw [if_pos c_65] at hm; exact hm) (fun x hx => (f_88 x (by omega)).trans (hf x hx)) (fun q q0 q4 => ?_) (fun q q0 q4 => ?_)
               · rw [show ((k : Int) + 1).toNat = k + 1 by omega, e8, a_88 q q0 q4]
                 split <;> rfl
               · rw [show ((k : Int) + 1).toNat = k + 1 by omega, e8, b_88 q q0 q4]
                 split <;> rfl)
            | (have e9 : ¬ pcd mp g k (pst mp g k) = true := fun z => by
                 rcases (pcd_iff.mp z).1 with z2 | z2
                 · exact c_65 z2
                 · rw [if_neg c_65] at hm
                   omega
               have e8 : pst mp g (k + 1) = pst mp g k := by rw [e1]; exact if_neg e9
               exact ih _ (by omega) ((k : Int) + 1) _ hk rfl (by omega) (by rw [show ((k : Int) + 1).toNat = k + 1 by omega, e8]; exact hm) hf (fun q q0 q4 => by rw [show ((k : Int) + 1).toNat = k + 1 by omega, e8]; exact hco q q0 q4) (fun q q0 q4 => by rw [show ((k : Int) + 1).toNat = k + 1 by omega, e8]; exact htr q q0 q4))
            | (rw [if_neg c_65] at hm
               obtain ⟨i3a, i3b⟩ := i3 c_65
               have hmn := i3b mn (by omega)
               have e8 : pst mp g (k + 1) = if tk mp g k (pst mp g k).1 = true then (up (pst mp g k).1 mn (tryS mp g k), up (pst mp g k).2.1 mn k, (pst mp g k).2.2 + 1) else pst mp g k := by
                 rw [e1]
                 unfold pstep
                 rw [hpO c_65, ← hm]
                 by_cases z : tk mp g k (pst mp g k).1 = true
                 · rw [if_pos z, if_pos (pcd_iff.mpr ⟨Or.inr (by omega), by rw [hpO c_65, ← hm]; omega, z⟩)]
                 · rw [if_neg z, if_neg (fun y => z (pcd_iff.mp y).2.2)]
               have a9 := a_104 mn (by omega) (by omega)
               refine ih _ (by omega) ((k : Int) + 1) _ h_104 rfl (by omega) ?_ (fun x hx => (f_104 x (by omega)).trans (hf x hx)) (fun q q0 q4 => ?_) (fun q q0 q4 => ?_)
               · rw [show ((k : Int) + 1).toNat = k + 1 by omega, if_neg c_65, e8]
                 by_cases z : tk mp g k (pst mp g k).1 = true
                 · rw [if_pos z]
                   rw [if_pos z, up_s] at a9
                   have := (tk_iff.mp z).1
                   dsimp only
                   omega
                 · rw [if_neg z]
                   rw [if_neg z, hmn] at a9
                   omega
               · rw [show ((k : Int) + 1).toNat = k + 1 by omega, e8, a_104 q q0 q4]
                 split <;> rfl
               · rw [show ((k : Int) + 1).toNat = k + 1 by omega, e8, b_104 q q0 q4]
                 split <;> rfl)
          · refine r_aload_0 (pc := 99) dX8_places_99 ?_
            refine r_iload_1 (pc := 100) dX8_places_100 ?_
            refine r_iload_3 (pc := 101) dX8_places_101 ?_
            refine r_iload_4 (pc := 102) dX8_places_102 ?_
            have hmr : 0 ≤ mn := by rw [hm]; split <;> omega
            refine k_VV3 (pc := 104) c_X8_takes lk_X8_201 ⟨Nat.le_of_ble_eq_true rfl, Nat.le_of_ble_eq_true rfl⟩ ⟨rfl, rfl⟩ ⟨Nat.le_of_ble_eq_true rfl, Nat.le_of_ble_eq_true rfl⟩ (k := 8) rfl (by decide) (by assumption) dX8_places_104 (Nat.le_of_ble_eq_true rfl) ?_
            refine ⟨_, _, _, _, _, _, _, rfl, by assumption, by first | assumption | exact rfl, by assumption, by assumption, by assumption, by assumption, by assumption, by assumption, by assumption, by omega, by omega, by omega, fun h_104 f_104 a_104 b_104 => ?_⟩
            have m_104 : h_104 (b + 2) = mp := (f_104 _ (by omega)).trans (by assumption)
            refine r_iload_3 (pc := 107) dX8_places_107 ?_
            refine r_aload_0 (pc := 108) dX8_places_108 ?_
            refine gf_X8_34 (pc := 109) rfl (by assumption) dX8_places_109 (by assumption) ?_
            refine r_iload_3 (pc := 112) dX8_places_112 ?_
            refine r_ialdE (pc := 113) (by assumption) rfl dX8_places_113 (by omega) (by omega) (fun i_113 => ?_)
            refine r_if_lt (pc := 114) (tgt := 121) dX8_places_114 (by decide) (by omega) (fun c_114 => ?_) (fun c_114 => ?_)
            · refine r_iconst (pc := 121) dX8_places_121 ?_
              refine r_iadd (pc := 122) dX8_places_122 ?_
              refine r_istore_3 (pc := 123) dX8_places_123 rfl ?_
              refine r_iinc_4 (pc := 124) dX8_places_124 rfl ?_
              refine r_goto (pc := 127) (tgt := 43) dX8_places_127 (by decide) ?_
              first
              | (have e9 : ¬ pcd mp g k (pst mp g k) = true := fun z => by
                   have z2 := (pcd_iff.mp z).2.1
                   rw [hpA c_65, ← hco _ md1 (by omega)] at z2
                   omega
                 have e8 : pst mp g (k + 1) = pst mp g k := by rw [e1]; exact if_neg e9
                 exact ih _ (by omega) ((k : Int) + 1) _ hk rfl (by omega) (by rw [show ((k : Int) + 1).toNat = k + 1 by omega, e8]; exact hm) hf (fun q q0 q4 => by rw [show ((k : Int) + 1).toNat = k + 1 by omega, e8]; exact hco q q0 q4) (fun q q0 q4 => by rw [show ((k : Int) + 1).toNat = k + 1 by omega, e8]; exact htr q q0 q4))
              | (have e8 : pst mp g (k + 1) = if tk mp g k (pst mp g k).1 = true then (up (pst mp g k).1 ((k : Int) % mp 131) (tryS mp g k), up (pst mp g k).2.1 ((k : Int) % mp 131) k, (pst mp g k).2.2 + 1) else pst mp g k := by
                   rw [e1]
                   unfold pstep
                   rw [hpA c_65]
                   by_cases z : tk mp g k (pst mp g k).1 = true
                   · rw [if_pos z, if_pos (pcd_iff.mpr ⟨Or.inl c_65, by rw [hpA c_65, ← hco _ md1 (by omega)]; exact c_77, z⟩)]
                   · rw [if_neg z, if_neg (fun y => z (pcd_iff.mp y).2.2)]
                 refine ih _ (by omega) ((k : Int) + 1) _ h_88 rfl (by omega) (by rw [show ((k : Int) + 1).toNat = k + 1 by omega, if_pos c_65]; rw [if_pos c_65] at hm; exact hm) (fun x hx => (f_88 x (by omega)).trans (hf x hx)) (fun q q0 q4 => ?_) (fun q q0 q4 => ?_)
                 · rw [show ((k : Int) + 1).toNat = k + 1 by omega, e8, a_88 q q0 q4]
                   split <;> rfl
                 · rw [show ((k : Int) + 1).toNat = k + 1 by omega, e8, b_88 q q0 q4]
                   split <;> rfl)
              | (have e9 : ¬ pcd mp g k (pst mp g k) = true := fun z => by
                   rcases (pcd_iff.mp z).1 with z2 | z2
                   · exact c_65 z2
                   · rw [if_neg c_65] at hm
                     omega
                 have e8 : pst mp g (k + 1) = pst mp g k := by rw [e1]; exact if_neg e9
                 exact ih _ (by omega) ((k : Int) + 1) _ hk rfl (by omega) (by rw [show ((k : Int) + 1).toNat = k + 1 by omega, e8]; exact hm) hf (fun q q0 q4 => by rw [show ((k : Int) + 1).toNat = k + 1 by omega, e8]; exact hco q q0 q4) (fun q q0 q4 => by rw [show ((k : Int) + 1).toNat = k + 1 by omega, e8]; exact htr q q0 q4))
              | (rw [if_neg c_65] at hm
                 obtain ⟨i3a, i3b⟩ := i3 c_65
                 have hmn := i3b mn (by omega)
                 have e8 : pst mp g (k + 1) = if tk mp g k (pst mp g k).1 = true then (up (pst mp g k).1 mn (tryS mp g k), up (pst mp g k).2.1 mn k, (pst mp g k).2.2 + 1) else pst mp g k := by
                   rw [e1]
                   unfold pstep
                   rw [hpO c_65, ← hm]
                   by_cases z : tk mp g k (pst mp g k).1 = true
                   · rw [if_pos z, if_pos (pcd_iff.mpr ⟨Or.inr (by omega), by rw [hpO c_65, ← hm]; omega, z⟩)]
                   · rw [if_neg z, if_neg (fun y => z (pcd_iff.mp y).2.2)]
                 have a9 := a_104 mn (by omega) (by omega)
                 refine ih _ (by omega) ((k : Int) + 1) _ h_104 rfl (by omega) ?_ (fun x hx => (f_104 x (by omega)).trans (hf x hx)) (fun q q0 q4 => ?_) (fun q q0 q4 => ?_)
                 · rw [show ((k : Int) + 1).toNat = k + 1 by omega, if_neg c_65, e8]
                   by_cases z : tk mp g k (pst mp g k).1 = true
                   · rw [if_pos z]
                     rw [if_pos z, up_s] at a9
                     have := (tk_iff.mp z).1
                     dsimp only
                     omega
                   · rw [if_neg z]
                     rw [if_neg z, hmn] at a9
                     omega
                 · rw [show ((k : Int) + 1).toNat = k + 1 by omega, e8, a_104 q q0 q4]
                   split <;> rfl
                 · rw [show ((k : Int) + 1).toNat = k + 1 by omega, e8, b_104 q q0 q4]
                   split <;> rfl)
            · refine r_iconst (pc := 117) dX8_places_117 ?_
              refine r_goto (pc := 118) (tgt := 122) dX8_places_118 (by decide) ?_
              refine r_iadd (pc := 122) dX8_places_122 ?_
              refine r_istore_3 (pc := 123) dX8_places_123 rfl ?_
              refine r_iinc_4 (pc := 124) dX8_places_124 rfl ?_
              refine r_goto (pc := 127) (tgt := 43) dX8_places_127 (by decide) ?_
              first
              | (have e9 : ¬ pcd mp g k (pst mp g k) = true := fun z => by
                   have z2 := (pcd_iff.mp z).2.1
                   rw [hpA c_65, ← hco _ md1 (by omega)] at z2
                   omega
                 have e8 : pst mp g (k + 1) = pst mp g k := by rw [e1]; exact if_neg e9
                 exact ih _ (by omega) ((k : Int) + 1) _ hk rfl (by omega) (by rw [show ((k : Int) + 1).toNat = k + 1 by omega, e8]; exact hm) hf (fun q q0 q4 => by rw [show ((k : Int) + 1).toNat = k + 1 by omega, e8]; exact hco q q0 q4) (fun q q0 q4 => by rw [show ((k : Int) + 1).toNat = k + 1 by omega, e8]; exact htr q q0 q4))
              | (have e8 : pst mp g (k + 1) = if tk mp g k (pst mp g k).1 = true then (up (pst mp g k).1 ((k : Int) % mp 131) (tryS mp g k), up (pst mp g k).2.1 ((k : Int) % mp 131) k, (pst mp g k).2.2 + 1) else pst mp g k := by
                   rw [e1]
                   unfold pstep
                   rw [hpA c_65]
                   by_cases z : tk mp g k (pst mp g k).1 = true
                   · rw [if_pos z, if_pos (pcd_iff.mpr ⟨Or.inl c_65, by rw [hpA c_65, ← hco _ md1 (by omega)]; exact c_77, z⟩)]
                   · rw [if_neg z, if_neg (fun y => z (pcd_iff.mp y).2.2)]
                 refine ih _ (by omega) ((k : Int) + 1) _ h_88 rfl (by omega) (by rw [show ((k : Int) + 1).toNat = k + 1 by omega, if_pos c_65]; rw [if_pos c_65] at hm; exact hm) (fun x hx => (f_88 x (by omega)).trans (hf x hx)) (fun q q0 q4 => ?_) (fun q q0 q4 => ?_)
                 · rw [show ((k : Int) + 1).toNat = k + 1 by omega, e8, a_88 q q0 q4]
                   split <;> rfl
                 · rw [show ((k : Int) + 1).toNat = k + 1 by omega, e8, b_88 q q0 q4]
                   split <;> rfl)
              | (have e9 : ¬ pcd mp g k (pst mp g k) = true := fun z => by
                   rcases (pcd_iff.mp z).1 with z2 | z2
                   · exact c_65 z2
                   · rw [if_neg c_65] at hm
                     omega
                 have e8 : pst mp g (k + 1) = pst mp g k := by rw [e1]; exact if_neg e9
                 exact ih _ (by omega) ((k : Int) + 1) _ hk rfl (by omega) (by rw [show ((k : Int) + 1).toNat = k + 1 by omega, e8]; exact hm) hf (fun q q0 q4 => by rw [show ((k : Int) + 1).toNat = k + 1 by omega, e8]; exact hco q q0 q4) (fun q q0 q4 => by rw [show ((k : Int) + 1).toNat = k + 1 by omega, e8]; exact htr q q0 q4))
              | (rw [if_neg c_65] at hm
                 obtain ⟨i3a, i3b⟩ := i3 c_65
                 have hmn := i3b mn (by omega)
                 have e8 : pst mp g (k + 1) = if tk mp g k (pst mp g k).1 = true then (up (pst mp g k).1 mn (tryS mp g k), up (pst mp g k).2.1 mn k, (pst mp g k).2.2 + 1) else pst mp g k := by
                   rw [e1]
                   unfold pstep
                   rw [hpO c_65, ← hm]
                   by_cases z : tk mp g k (pst mp g k).1 = true
                   · rw [if_pos z, if_pos (pcd_iff.mpr ⟨Or.inr (by omega), by rw [hpO c_65, ← hm]; omega, z⟩)]
                   · rw [if_neg z, if_neg (fun y => z (pcd_iff.mp y).2.2)]
                 have a9 := a_104 mn (by omega) (by omega)
                 refine ih _ (by omega) ((k : Int) + 1) _ h_104 rfl (by omega) ?_ (fun x hx => (f_104 x (by omega)).trans (hf x hx)) (fun q q0 q4 => ?_) (fun q q0 q4 => ?_)
                 · rw [show ((k : Int) + 1).toNat = k + 1 by omega, if_neg c_65, e8]
                   by_cases z : tk mp g k (pst mp g k).1 = true
                   · rw [if_pos z]
                     rw [if_pos z, up_s] at a9
                     have := (tk_iff.mp z).1
                     dsimp only
                     omega
                   · rw [if_neg z]
                     rw [if_neg z, hmn] at a9
                     omega
                 · rw [show ((k : Int) + 1).toNat = k + 1 by omega, e8, a_104 q q0 q4]
                   split <;> rfl
                 · rw [show ((k : Int) + 1).toNat = k + 1 by omega, e8, b_104 q q0 q4]
                   split <;> rfl)
        · refine r_aload_0 (pc := 68) dX8_places_68 ?_
          refine gf_X8_34 (pc := 69) rfl (by assumption) dX8_places_69 (by assumption) ?_
          refine r_iload_4 (pc := 72) dX8_places_72 ?_
          refine r_iload_2 (pc := 74) dX8_places_74 ?_
          refine r_irem (pc := 75) dX8_places_75 (by omega) (by omega) ?_
          refine r_ialdE (pc := 76) (by assumption) rfl dX8_places_76 (by omega) (by omega) (fun i_76 => ?_)
          refine r_if_ge (pc := 77) (tgt := 124) dX8_places_77 (by decide) (by omega) (fun c_77 => ?_) (fun c_77 => ?_)
          · refine r_iinc_4 (pc := 124) dX8_places_124 rfl ?_
            refine r_goto (pc := 127) (tgt := 43) dX8_places_127 (by decide) ?_
            first
            | (have e9 : ¬ pcd mp g k (pst mp g k) = true := fun z => by
                 have z2 := (pcd_iff.mp z).2.1
                 rw [hpA c_65, ← hco _ md1 (by omega)] at z2
                 omega
               have e8 : pst mp g (k + 1) = pst mp g k := by rw [e1]; exact if_neg e9
               exact ih _ (by omega) ((k : Int) + 1) _ hk rfl (by omega) (by rw [show ((k : Int) + 1).toNat = k + 1 by omega, e8]; exact hm) hf (fun q q0 q4 => by rw [show ((k : Int) + 1).toNat = k + 1 by omega, e8]; exact hco q q0 q4) (fun q q0 q4 => by rw [show ((k : Int) + 1).toNat = k + 1 by omega, e8]; exact htr q q0 q4))
            | (have e8 : pst mp g (k + 1) = if tk mp g k (pst mp g k).1 = true then (up (pst mp g k).1 ((k : Int) % mp 131) (tryS mp g k), up (pst mp g k).2.1 ((k : Int) % mp 131) k, (pst mp g k).2.2 + 1) else pst mp g k := by
                 rw [e1]
                 unfold pstep
                 rw [hpA c_65]
                 by_cases z : tk mp g k (pst mp g k).1 = true
                 · rw [if_pos z, if_pos (pcd_iff.mpr ⟨Or.inl c_65, by rw [hpA c_65, ← hco _ md1 (by omega)]; exact c_77, z⟩)]
                 · rw [if_neg z, if_neg (fun y => z (pcd_iff.mp y).2.2)]
               refine ih _ (by omega) ((k : Int) + 1) _ h_88 rfl (by omega) (by rw [show ((k : Int) + 1).toNat = k + 1 by omega, if_pos c_65]; rw [if_pos c_65] at hm; exact hm) (fun x hx => (f_88 x (by omega)).trans (hf x hx)) (fun q q0 q4 => ?_) (fun q q0 q4 => ?_)
               · rw [show ((k : Int) + 1).toNat = k + 1 by omega, e8, a_88 q q0 q4]
                 split <;> rfl
               · rw [show ((k : Int) + 1).toNat = k + 1 by omega, e8, b_88 q q0 q4]
                 split <;> rfl)
            | (have e9 : ¬ pcd mp g k (pst mp g k) = true := fun z => by
                 rcases (pcd_iff.mp z).1 with z2 | z2
                 · exact c_65 z2
                 · rw [if_neg c_65] at hm
                   omega
               have e8 : pst mp g (k + 1) = pst mp g k := by rw [e1]; exact if_neg e9
               exact ih _ (by omega) ((k : Int) + 1) _ hk rfl (by omega) (by rw [show ((k : Int) + 1).toNat = k + 1 by omega, e8]; exact hm) hf (fun q q0 q4 => by rw [show ((k : Int) + 1).toNat = k + 1 by omega, e8]; exact hco q q0 q4) (fun q q0 q4 => by rw [show ((k : Int) + 1).toNat = k + 1 by omega, e8]; exact htr q q0 q4))
            | (rw [if_neg c_65] at hm
               obtain ⟨i3a, i3b⟩ := i3 c_65
               have hmn := i3b mn (by omega)
               have e8 : pst mp g (k + 1) = if tk mp g k (pst mp g k).1 = true then (up (pst mp g k).1 mn (tryS mp g k), up (pst mp g k).2.1 mn k, (pst mp g k).2.2 + 1) else pst mp g k := by
                 rw [e1]
                 unfold pstep
                 rw [hpO c_65, ← hm]
                 by_cases z : tk mp g k (pst mp g k).1 = true
                 · rw [if_pos z, if_pos (pcd_iff.mpr ⟨Or.inr (by omega), by rw [hpO c_65, ← hm]; omega, z⟩)]
                 · rw [if_neg z, if_neg (fun y => z (pcd_iff.mp y).2.2)]
               have a9 := a_104 mn (by omega) (by omega)
               refine ih _ (by omega) ((k : Int) + 1) _ h_104 rfl (by omega) ?_ (fun x hx => (f_104 x (by omega)).trans (hf x hx)) (fun q q0 q4 => ?_) (fun q q0 q4 => ?_)
               · rw [show ((k : Int) + 1).toNat = k + 1 by omega, if_neg c_65, e8]
                 by_cases z : tk mp g k (pst mp g k).1 = true
                 · rw [if_pos z]
                   rw [if_pos z, up_s] at a9
                   have := (tk_iff.mp z).1
                   dsimp only
                   omega
                 · rw [if_neg z]
                   rw [if_neg z, hmn] at a9
                   omega
               · rw [show ((k : Int) + 1).toNat = k + 1 by omega, e8, a_104 q q0 q4]
                 split <;> rfl
               · rw [show ((k : Int) + 1).toNat = k + 1 by omega, e8, b_104 q q0 q4]
                 split <;> rfl)
          · refine r_aload_0 (pc := 80) dX8_places_80 ?_
            refine r_iload_1 (pc := 81) dX8_places_81 ?_
            refine r_iload_4 (pc := 82) dX8_places_82 ?_
            refine r_iload_2 (pc := 84) dX8_places_84 ?_
            refine r_irem (pc := 85) dX8_places_85 (by omega) (by omega) ?_
            refine r_iload_4 (pc := 86) dX8_places_86 ?_
            refine k_VV3 (pc := 88) c_X8_takes lk_X8_201 ⟨Nat.le_of_ble_eq_true rfl, Nat.le_of_ble_eq_true rfl⟩ ⟨rfl, rfl⟩ ⟨Nat.le_of_ble_eq_true rfl, Nat.le_of_ble_eq_true rfl⟩ (k := 8) rfl (by decide) (by assumption) dX8_places_88 (Nat.le_of_ble_eq_true rfl) ?_
            refine ⟨_, _, _, _, _, _, _, rfl, by assumption, by first | assumption | exact rfl, by assumption, by assumption, by assumption, by assumption, by assumption, by assumption, by assumption, by omega, by omega, by omega, fun h_88 f_88 a_88 b_88 => ?_⟩
            have m_88 : h_88 (b + 2) = mp := (f_88 _ (by omega)).trans (by assumption)
            refine r_goto (pc := 91) (tgt := 124) dX8_places_91 (by decide) ?_
            refine r_iinc_4 (pc := 124) dX8_places_124 rfl ?_
            refine r_goto (pc := 127) (tgt := 43) dX8_places_127 (by decide) ?_
            first
            | (have e9 : ¬ pcd mp g k (pst mp g k) = true := fun z => by
                 have z2 := (pcd_iff.mp z).2.1
                 rw [hpA c_65, ← hco _ md1 (by omega)] at z2
                 omega
               have e8 : pst mp g (k + 1) = pst mp g k := by rw [e1]; exact if_neg e9
               exact ih _ (by omega) ((k : Int) + 1) _ hk rfl (by omega) (by rw [show ((k : Int) + 1).toNat = k + 1 by omega, e8]; exact hm) hf (fun q q0 q4 => by rw [show ((k : Int) + 1).toNat = k + 1 by omega, e8]; exact hco q q0 q4) (fun q q0 q4 => by rw [show ((k : Int) + 1).toNat = k + 1 by omega, e8]; exact htr q q0 q4))
            | (have e8 : pst mp g (k + 1) = if tk mp g k (pst mp g k).1 = true then (up (pst mp g k).1 ((k : Int) % mp 131) (tryS mp g k), up (pst mp g k).2.1 ((k : Int) % mp 131) k, (pst mp g k).2.2 + 1) else pst mp g k := by
                 rw [e1]
                 unfold pstep
                 rw [hpA c_65]
                 by_cases z : tk mp g k (pst mp g k).1 = true
                 · rw [if_pos z, if_pos (pcd_iff.mpr ⟨Or.inl c_65, by rw [hpA c_65, ← hco _ md1 (by omega)]; exact c_77, z⟩)]
                 · rw [if_neg z, if_neg (fun y => z (pcd_iff.mp y).2.2)]
               refine ih _ (by omega) ((k : Int) + 1) _ h_88 rfl (by omega) (by rw [show ((k : Int) + 1).toNat = k + 1 by omega, if_pos c_65]; rw [if_pos c_65] at hm; exact hm) (fun x hx => (f_88 x (by omega)).trans (hf x hx)) (fun q q0 q4 => ?_) (fun q q0 q4 => ?_)
               · rw [show ((k : Int) + 1).toNat = k + 1 by omega, e8, a_88 q q0 q4]
                 split <;> rfl
               · rw [show ((k : Int) + 1).toNat = k + 1 by omega, e8, b_88 q q0 q4]
                 split <;> rfl)
            | (have e9 : ¬ pcd mp g k (pst mp g k) = true := fun z => by
                 rcases (pcd_iff.mp z).1 with z2 | z2
                 · exact c_65 z2
                 · rw [if_neg c_65] at hm
                   omega
               have e8 : pst mp g (k + 1) = pst mp g k := by rw [e1]; exact if_neg e9
               exact ih _ (by omega) ((k : Int) + 1) _ hk rfl (by omega) (by rw [show ((k : Int) + 1).toNat = k + 1 by omega, e8]; exact hm) hf (fun q q0 q4 => by rw [show ((k : Int) + 1).toNat = k + 1 by omega, e8]; exact hco q q0 q4) (fun q q0 q4 => by rw [show ((k : Int) + 1).toNat = k + 1 by omega, e8]; exact htr q q0 q4))
            | (rw [if_neg c_65] at hm
               obtain ⟨i3a, i3b⟩ := i3 c_65
               have hmn := i3b mn (by omega)
               have e8 : pst mp g (k + 1) = if tk mp g k (pst mp g k).1 = true then (up (pst mp g k).1 mn (tryS mp g k), up (pst mp g k).2.1 mn k, (pst mp g k).2.2 + 1) else pst mp g k := by
                 rw [e1]
                 unfold pstep
                 rw [hpO c_65, ← hm]
                 by_cases z : tk mp g k (pst mp g k).1 = true
                 · rw [if_pos z, if_pos (pcd_iff.mpr ⟨Or.inr (by omega), by rw [hpO c_65, ← hm]; omega, z⟩)]
                 · rw [if_neg z, if_neg (fun y => z (pcd_iff.mp y).2.2)]
               have a9 := a_104 mn (by omega) (by omega)
               refine ih _ (by omega) ((k : Int) + 1) _ h_104 rfl (by omega) ?_ (fun x hx => (f_104 x (by omega)).trans (hf x hx)) (fun q q0 q4 => ?_) (fun q q0 q4 => ?_)
               · rw [show ((k : Int) + 1).toNat = k + 1 by omega, if_neg c_65, e8]
                 by_cases z : tk mp g k (pst mp g k).1 = true
                 · rw [if_pos z]
                   rw [if_pos z, up_s] at a9
                   have := (tk_iff.mp z).1
                   dsimp only
                   omega
                 · rw [if_neg z]
                   rw [if_neg z, hmn] at a9
                   omega
               · rw [show ((k : Int) + 1).toNat = k + 1 by omega, e8, a_104 q q0 q4]
                 split <;> rfl
               · rw [show ((k : Int) + 1).toNat = k + 1 by omega, e8, b_104 q q0 q4]
                 split <;> rfl)
  have lp1 : ∀ (n_ : Nat) (c : Int) (hk : HpT), (4 - c).toNat = n_ → (0 ≤ c ∧ c ≤ 4) → (Fr h hk (fun x => x = b + 9 ∨ x = b + 10)) → (∀ q, 0 ≤ q → q < c → hk (b + 9) q = -4) → (∀ q, 0 ≤ q → q < c → hk (b + 10) q = -4) → St E mX8_places 11 [some (.ref b), some (vI g), some (vI (mp 131)), some (vI c), none] [] (0, 0) N lay r hk := by
    intro  n_
    induction n_ using Nat.strongRecOn with
    | ind n_ ih =>
      intro c hk hn_ hc hf hco htr
      refine r_iload_3 (pc := 11) dX8_places_11 ?_
      refine r_iconst (pc := 12) dX8_places_12 ?_
      refine r_icmp_ge (pc := 13) (tgt := 38) dX8_places_13 (by decide) (by omega) (by omega) (fun c_13 => ?_) (fun c_13 => ?_)
      · refine r_iconst (pc := 38) dX8_places_38 ?_
        refine r_istore_3 (pc := 39) dX8_places_39 rfl ?_
        refine r_iconst (pc := 40) dX8_places_40 ?_
        refine r_istore_4 (pc := 41) dX8_places_41 rfl ?_
        exact lp2 _ 0 0 hk rfl (by omega) (by simp [pst]) hf (fun q q0 q4 => hco q q0 (by omega)) (fun q q0 q4 => htr q q0 (by omega))
      · refine r_aload_0 (pc := 16) dX8_places_16 ?_
        refine gf_X8_34 (pc := 17) rfl (by assumption) dX8_places_17 (by assumption) ?_
        refine r_iload_3 (pc := 20) dX8_places_20 ?_
        refine r_bipush (pc := 21) dX8_places_21 (by decide) ?_
        refine r_iastE (pc := 23) (by assumption) (by first | assumption | exact rfl) dX8_places_23 (by omega) (by omega) (by omega) ?_
        refine r_aload_0 (pc := 24) dX8_places_24 ?_
        refine gf_X8_37 (pc := 25) rfl (by assumption) dX8_places_25 (by assumption) ?_
        refine r_iload_3 (pc := 28) dX8_places_28 ?_
        refine r_bipush (pc := 29) dX8_places_29 (by decide) ?_
        refine r_iastE (pc := 31) (by assumption) (by first | assumption | exact rfl) dX8_places_31 (by omega) (by omega) (by omega) ?_
        refine r_iinc_3 (pc := 32) dX8_places_32 rfl ?_
        refine r_goto (pc := 35) (tgt := 11) dX8_places_35 (by decide) ?_
        refine ih _ (by omega) (c + 1) _ rfl (by omega) (fun x hx => by rw [hr_n (by omega), hr_n (by omega)]; exact hf x hx) (fun q q0 q1 => ?_) (fun q q0 q1 => ?_)
        · rw [hr_n (by omega), hr_s]
          by_cases e : q = c
          · rw [e, up_s]
          · rw [up_n e]; exact hco q q0 (by omega)
        · rw [hr_s, hr_n (by omega)]
          by_cases e : q = c
          · rw [e, up_s]
          · rw [up_n e]; exact htr q q0 (by omega)
  refine r_aload_0 (pc := 0) dX8_places_0 ?_
  refine gf_X8_13 (pc := 1) rfl (by assumption) dX8_places_1 (by assumption) ?_
  refine r_sipush (pc := 4) dX8_places_4 (by decide) ?_
  refine r_ialdE (pc := 7) (by assumption) (by first | assumption | exact rfl) dX8_places_7 (by omega) (by omega) (fun i_7 => ?_)
  refine r_istore_2 (pc := 8) dX8_places_8 rfl ?_
  refine r_iconst (pc := 9) dX8_places_9 ?_
  refine r_istore_3 (pc := 10) dX8_places_10 rfl ?_
  exact lp1 _ 0 h rfl (by omega) (fun _ _ => rfl) (fun q q0 q1 => by omega) (fun q q0 q1 => by omega)

