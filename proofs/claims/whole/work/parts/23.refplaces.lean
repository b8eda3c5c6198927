/-! THE REFERENCE: overrides, the placement of a group, of all groups -/
theorem odk_s (mp : Int → Int) (g i : Int) (co : Int → Int) (c : Nat) : odk mp g i co (c + 1) = if odc mp g i (odk mp g i co c).1 c = true ∧ (odk mp g i co c).2 = 0 then (up (odk mp g i co c).1 c (mp (112 + 3 * i)), 1) else odk mp g i co c := rfl
theorem dX8_diverts_0 : decode cX8_diverts 0 = .ok (.iconst 0, 1) := by decide +kernel
theorem dX8_diverts_1 : decode cX8_diverts 1 = .ok (.istore_n 2, 1) := by decide +kernel
theorem dX8_diverts_2 : decode cX8_diverts 2 = .ok (.iload_n 2, 1) := by decide +kernel
theorem dX8_diverts_3 : decode cX8_diverts 3 = .ok (.aload_n 0, 1) := by decide +kernel
theorem dX8_diverts_4 : decode cX8_diverts 4 = .ok (.getfield 13, 3) := by decide +kernel
theorem dX8_diverts_7 : decode cX8_diverts 7 = .ok (.sipush 135, 3) := by decide +kernel
theorem dX8_diverts_10 : decode cX8_diverts 10 = .ok (.iaload, 1) := by decide +kernel
theorem dX8_diverts_11 : decode cX8_diverts 11 = .ok (.if_icmp .ge 149, 3) := by decide +kernel
theorem dX8_diverts_14 : decode cX8_diverts 14 = .ok (.aload_n 0, 1) := by decide +kernel
theorem dX8_diverts_15 : decode cX8_diverts 15 = .ok (.getfield 40, 3) := by decide +kernel
theorem dX8_diverts_18 : decode cX8_diverts 18 = .ok (.iload_n 2, 1) := by decide +kernel
theorem dX8_diverts_19 : decode cX8_diverts 19 = .ok (.iconst 0, 1) := by decide +kernel
theorem dX8_diverts_20 : decode cX8_diverts 20 = .ok (.iastore, 1) := by decide +kernel
theorem dX8_diverts_21 : decode cX8_diverts 21 = .ok (.aload_n 0, 1) := by decide +kernel
theorem dX8_diverts_22 : decode cX8_diverts 22 = .ok (.getfield 13, 3) := by decide +kernel
theorem dX8_diverts_25 : decode cX8_diverts 25 = .ok (.bipush 112, 2) := by decide +kernel
theorem dX8_diverts_27 : decode cX8_diverts 27 = .ok (.iconst 3, 1) := by decide +kernel
theorem dX8_diverts_28 : decode cX8_diverts 28 = .ok (.iload_n 2, 1) := by decide +kernel
theorem dX8_diverts_29 : decode cX8_diverts 29 = .ok (.imul, 1) := by decide +kernel
theorem dX8_diverts_30 : decode cX8_diverts 30 = .ok (.iadd, 1) := by decide +kernel
theorem dX8_diverts_31 : decode cX8_diverts 31 = .ok (.iaload, 1) := by decide +kernel
theorem dX8_diverts_32 : decode cX8_diverts 32 = .ok (.istore_n 3, 1) := by decide +kernel
theorem dX8_diverts_33 : decode cX8_diverts 33 = .ok (.iconst 0, 1) := by decide +kernel
theorem dX8_diverts_34 : decode cX8_diverts 34 = .ok (.istore 4, 2) := by decide +kernel
theorem dX8_diverts_36 : decode cX8_diverts 36 = .ok (.iload 4, 2) := by decide +kernel
theorem dX8_diverts_38 : decode cX8_diverts 38 = .ok (.iconst 4, 1) := by decide +kernel
theorem dX8_diverts_39 : decode cX8_diverts 39 = .ok (.if_icmp .ge 115, 3) := by decide +kernel
theorem dX8_diverts_42 : decode cX8_diverts 42 = .ok (.aload_n 0, 1) := by decide +kernel
theorem dX8_diverts_43 : decode cX8_diverts 43 = .ok (.getfield 13, 3) := by decide +kernel
theorem dX8_diverts_46 : decode cX8_diverts 46 = .ok (.bipush 110, 2) := by decide +kernel
theorem dX8_diverts_48 : decode cX8_diverts 48 = .ok (.iconst 3, 1) := by decide +kernel
theorem dX8_diverts_49 : decode cX8_diverts 49 = .ok (.iload_n 2, 1) := by decide +kernel
theorem dX8_diverts_50 : decode cX8_diverts 50 = .ok (.imul, 1) := by decide +kernel
theorem dX8_diverts_51 : decode cX8_diverts 51 = .ok (.iadd, 1) := by decide +kernel
theorem dX8_diverts_52 : decode cX8_diverts 52 = .ok (.iaload, 1) := by decide +kernel
theorem dX8_diverts_53 : decode cX8_diverts 53 = .ok (.iload_n 1, 1) := by decide +kernel
theorem dX8_diverts_54 : decode cX8_diverts 54 = .ok (.if_icmp .ne 62, 3) := by decide +kernel
theorem dX8_diverts_57 : decode cX8_diverts 57 = .ok (.aload_n 0, 1) := by decide +kernel
theorem dX8_diverts_58 : decode cX8_diverts 58 = .ok (.getfield 34, 3) := by decide +kernel
theorem dX8_diverts_61 : decode cX8_diverts 61 = .ok (.iload 4, 2) := by decide +kernel
theorem dX8_diverts_63 : decode cX8_diverts 63 = .ok (.iaload, 1) := by decide +kernel
theorem dX8_diverts_64 : decode cX8_diverts 64 = .ok (.aload_n 0, 1) := by decide +kernel
theorem dX8_diverts_65 : decode cX8_diverts 65 = .ok (.getfield 13, 3) := by decide +kernel
theorem dX8_diverts_68 : decode cX8_diverts 68 = .ok (.bipush 111, 2) := by decide +kernel
theorem dX8_diverts_70 : decode cX8_diverts 70 = .ok (.iconst 3, 1) := by decide +kernel
theorem dX8_diverts_71 : decode cX8_diverts 71 = .ok (.iload_n 2, 1) := by decide +kernel
theorem dX8_diverts_72 : decode cX8_diverts 72 = .ok (.imul, 1) := by decide +kernel
theorem dX8_diverts_73 : decode cX8_diverts 73 = .ok (.iadd, 1) := by decide +kernel
theorem dX8_diverts_74 : decode cX8_diverts 74 = .ok (.iaload, 1) := by decide +kernel
theorem dX8_diverts_75 : decode cX8_diverts 75 = .ok (.if_icmp .ne 41, 3) := by decide +kernel
theorem dX8_diverts_78 : decode cX8_diverts 78 = .ok (.aload_n 0, 1) := by decide +kernel
theorem dX8_diverts_79 : decode cX8_diverts 79 = .ok (.getfield 13, 3) := by decide +kernel
theorem dX8_diverts_82 : decode cX8_diverts 82 = .ok (.bipush 88, 2) := by decide +kernel
theorem dX8_diverts_84 : decode cX8_diverts 84 = .ok (.iload_n 3, 1) := by decide +kernel
theorem dX8_diverts_85 : decode cX8_diverts 85 = .ok (.iadd, 1) := by decide +kernel
theorem dX8_diverts_86 : decode cX8_diverts 86 = .ok (.iaload, 1) := by decide +kernel
theorem dX8_diverts_87 : decode cX8_diverts 87 = .ok (.ifCond .ne 29, 3) := by decide +kernel
theorem dX8_diverts_90 : decode cX8_diverts 90 = .ok (.aload_n 0, 1) := by decide +kernel
theorem dX8_diverts_91 : decode cX8_diverts 91 = .ok (.getfield 13, 3) := by decide +kernel
theorem dX8_diverts_94 : decode cX8_diverts 94 = .ok (.bipush 66, 2) := by decide +kernel
theorem dX8_diverts_96 : decode cX8_diverts 96 = .ok (.iload_n 3, 1) := by decide +kernel
theorem dX8_diverts_97 : decode cX8_diverts 97 = .ok (.iadd, 1) := by decide +kernel
theorem dX8_diverts_98 : decode cX8_diverts 98 = .ok (.iaload, 1) := by decide +kernel
theorem dX8_diverts_99 : decode cX8_diverts 99 = .ok (.ifCond .le 17, 3) := by decide +kernel
theorem dX8_diverts_102 : decode cX8_diverts 102 = .ok (.aload_n 0, 1) := by decide +kernel
theorem dX8_diverts_103 : decode cX8_diverts 103 = .ok (.iload_n 3, 1) := by decide +kernel
theorem dX8_diverts_104 : decode cX8_diverts 104 = .ok (.iload 4, 2) := by decide +kernel
theorem dX8_diverts_106 : decode cX8_diverts 106 = .ok (.invokevirtual 198, 3) := by decide +kernel
theorem dX8_diverts_109 : decode cX8_diverts 109 = .ok (.ifCond .eq 7, 3) := by decide +kernel
theorem dX8_diverts_112 : decode cX8_diverts 112 = .ok (.iconst 1, 1) := by decide +kernel
theorem dX8_diverts_113 : decode cX8_diverts 113 = .ok (.goto 4, 3) := by decide +kernel
theorem dX8_diverts_116 : decode cX8_diverts 116 = .ok (.iconst 0, 1) := by decide +kernel
theorem dX8_diverts_117 : decode cX8_diverts 117 = .ok (.istore 5, 2) := by decide +kernel
theorem dX8_diverts_119 : decode cX8_diverts 119 = .ok (.iload 5, 2) := by decide +kernel
theorem dX8_diverts_121 : decode cX8_diverts 121 = .ok (.ifCond .eq 27, 3) := by decide +kernel
theorem dX8_diverts_124 : decode cX8_diverts 124 = .ok (.aload_n 0, 1) := by decide +kernel
theorem dX8_diverts_125 : decode cX8_diverts 125 = .ok (.getfield 40, 3) := by decide +kernel
theorem dX8_diverts_128 : decode cX8_diverts 128 = .ok (.iload_n 2, 1) := by decide +kernel
theorem dX8_diverts_129 : decode cX8_diverts 129 = .ok (.iaload, 1) := by decide +kernel
theorem dX8_diverts_130 : decode cX8_diverts 130 = .ok (.ifCond .ne 18, 3) := by decide +kernel
theorem dX8_diverts_133 : decode cX8_diverts 133 = .ok (.aload_n 0, 1) := by decide +kernel
theorem dX8_diverts_134 : decode cX8_diverts 134 = .ok (.getfield 34, 3) := by decide +kernel
theorem dX8_diverts_137 : decode cX8_diverts 137 = .ok (.iload 4, 2) := by decide +kernel
theorem dX8_diverts_139 : decode cX8_diverts 139 = .ok (.iload_n 3, 1) := by decide +kernel
theorem dX8_diverts_140 : decode cX8_diverts 140 = .ok (.iastore, 1) := by decide +kernel
theorem dX8_diverts_141 : decode cX8_diverts 141 = .ok (.aload_n 0, 1) := by decide +kernel
theorem dX8_diverts_142 : decode cX8_diverts 142 = .ok (.getfield 40, 3) := by decide +kernel
theorem dX8_diverts_145 : decode cX8_diverts 145 = .ok (.iload_n 2, 1) := by decide +kernel
theorem dX8_diverts_146 : decode cX8_diverts 146 = .ok (.iconst 1, 1) := by decide +kernel
theorem dX8_diverts_147 : decode cX8_diverts 147 = .ok (.iastore, 1) := by decide +kernel
theorem dX8_diverts_148 : decode cX8_diverts 148 = .ok (.iinc 4 1, 3) := by decide +kernel
theorem dX8_diverts_151 : decode cX8_diverts 151 = .ok (.goto (-115), 3) := by decide +kernel
theorem dX8_diverts_154 : decode cX8_diverts 154 = .ok (.iinc 2 1, 3) := by decide +kernel
theorem dX8_diverts_157 : decode cX8_diverts 157 = .ok (.goto (-155), 3) := by decide +kernel
theorem dX8_diverts_160 : decode cX8_diverts 160 = .ok (.return_, 1) := by decide +kernel
set_option maxHeartbeats 4000000 in
set_option maxRecDepth 20000 in
theorem c_X8_diverts : ConV mX8_diverts (fun args N lay r h Q => ∃ b mp co g, args = [.ref b, vI g] ∧ MdAt lay r b ∧ h (b + 2) = mp ∧ TrM mp ∧ RlM mp ∧ CoI mp co ∧ (∀ c, 0 ≤ c → c < 4 → h (b + 9) c = co c) ∧ (0 ≤ g ∧ g < 16) ∧ ∀ h2, Fr h h2 (fun x => x = b + 9 ∨ x = b + 11) → (∀ q, 0 ≤ q → q < 4 → h2 (b + 9) q = dvk mp g co (mp 135).toNat q) → (∀ j, 0 ≤ j → j < mp 135 → h2 (b + 11) j = (odk mp g j (dvk mp g co j.toNat) 4).2) → Q N lay r h2) := by
  refine ConV.of (by decide) (by rintro _ N lay r h Q ⟨b, mp, co, g, rfl, hM, hmp, hT, hR, hci, hco, hg, hQ⟩; exact ⟨rfl, Nat.le_of_ble_eq_true rfl⟩) ?_
  rintro E _ N lay r h Q ⟨b, mp, co, g, rfl, hM, hmp, hT, hR, hci, hco, hg, hQ⟩ hret
  obtain ⟨ml0, ml1, ml2, ml3, ml4, ml5, ml6, ml7, ml8, ml9, ml10, ml11, ml12, ml13, ml14, ml15, ml16, ml17, ml18, ml19, ml20, mr1, mr2, mr3, mr4, mr5, mr6, mr7, mr8, mr9, mr10, mr11, mr12, mr13, mr14, mr15, mr16, mr17, mr18, mr19, mr20⟩ := id hM
  obtain ⟨t1, t2, t3, t4, t5, t6, t7⟩ := id hT
  obtain ⟨r1, r2, r3, r4, r5, r6, r7⟩ := id hR
  show St E mX8_diverts 0 [some (.ref b), some (vI g), none, none, none, none] [] (0, 0) N lay r h
  have inn : ∀ (i : Int) (hi : 0 ≤ i ∧ i < mp 135) (co1 : Int → Int) (hc1 : CoI mp co1) (ol : Int → Int) (K : ∀ (h3 : HpT) (x5 : Option Value), Fr h h3 (fun x => x = b + 9 ∨ x = b + 11) → (∀ q, 0 ≤ q → q < 4 → h3 (b + 9) q = (odk mp g i co1 4).1 q) → h3 (b + 11) i = (odk mp g i co1 4).2 → (∀ j, 0 ≤ j → j < i → h3 (b + 11) j = ol j) → St E mX8_diverts 154 [some (.ref b), some (vI g), some (vI i), some (vI (mp (112 + 3 * i))), some (vI 4), x5] [] (0, 0) N lay r h3) (n_ : Nat) (c : Int) (hk : HpT) (x5 : Option Value), (4 - c).toNat = n_ → (0 ≤ c ∧ c ≤ 4) → (Fr h hk (fun x => x = b + 9 ∨ x = b + 11)) → (∀ q, 0 ≤ q → q < 4 → hk (b + 9) q = (odk mp g i co1 c.toNat).1 q) → (hk (b + 11) i = (odk mp g i co1 c.toNat).2) → (∀ j, 0 ≤ j → j < i → hk (b + 11) j = ol j) → St E mX8_diverts 36 [some (.ref b), some (vI g), some (vI i), some (vI (mp (112 + 3 * i))), some (vI c), x5] [] (0, 0) N lay r hk := by
    intro i hi co1 hc1 ol K n_
    induction n_ using Nat.strongRecOn with
    | ind n_ ih =>
      intro c hk x5 hn_ hc hf hco hst hol
      obtain ⟨k, rfl⟩ : ∃ k : Nat, c = k := ⟨c.toNat, by omega⟩
      rw [show ((k : Int)).toNat = k by omega] at hst
      simp only [show ((k : Int)).toNat = k by omega] at hco
      have e1 := odk_s mp g i co1 k
      have em : hk (b + 2) = mp := (hf _ (by omega)).trans hmp
      obtain ⟨q1, q2, q3⟩ := r7 i hi.1 hi.2
      have q4 := r6 (mp (112 + 3 * i)) (by omega) (by omega)
      obtain ⟨ci2, sr⟩ := odk_I hR hi (g := g) hc1 k
      have hcok2 := hco k
      have ck := ci2 k
      have hb11 : ∀ j, hk (b + 11) j = hk (b + 11) j := fun _ => rfl
      refine r_iload_4 (pc := 36) dX8_diverts_36 ?_
      refine r_iconst (pc := 38) dX8_diverts_38 ?_
      refine r_icmp_ge (pc := 39) (tgt := 154) dX8_diverts_39 (by decide) (by omega) (by omega) (fun c_39 => ?_) (fun c_39 => ?_)
      · have hk4 : k = 4 := by omega
        subst hk4
        exact K hk _ hf hco hst hol
      · refine r_aload_0 (pc := 42) dX8_diverts_42 ?_
        refine gf_X8_13 (pc := 43) rfl (by assumption) dX8_diverts_43 (by assumption) ?_
        refine r_bipush (pc := 46) dX8_diverts_46 (by decide) ?_
        refine r_iconst (pc := 48) dX8_diverts_48 ?_
        refine r_iload_2 (pc := 49) dX8_diverts_49 ?_
        refine r_imul (pc := 50) dX8_diverts_50 ?_
        refine r_iadd (pc := 51) dX8_diverts_51 ?_
        refine r_ialdE (pc := 52) (by assumption) (by first | assumption | exact rfl) dX8_diverts_52 (by omega) (by omega) (fun i_52 => ?_)
        refine r_iload_1 (pc := 53) dX8_diverts_53 ?_
        refine r_icmp_ne (pc := 54) (tgt := 116) dX8_diverts_54 (by decide) (by omega) (by omega) (fun c_54 => ?_) (fun c_54 => ?_)
        · refine r_iconst (pc := 116) dX8_diverts_116 ?_
          refine r_istore_5 (pc := 117) dX8_diverts_117 rfl ?_
          refine r_iload_5 (pc := 119) dX8_diverts_119 ?_
          refine r_ifeq_T (pc := 121) (tgt := 148) dX8_diverts_121 (by decide) (by decide) ?_
          refine r_iinc_4 (pc := 148) dX8_diverts_148 rfl ?_
          refine r_goto (pc := 151) (tgt := 36) dX8_diverts_151 (by decide) ?_
          first
          | (have e9 : ¬ (odc mp g i (odk mp g i co1 k).1 k = true ∧ (odk mp g i co1 k).2 = 0) := (fun z => c_54 (odc_iff.mp z.1).1)
             refine ih _ (by omega) ((k : Int) + 1) hk _ rfl (by omega) hf (fun q q0 q4 => ?_) ?_ hol
             · rw [show ((k : Int) + 1).toNat = k + 1 by omega, e1, if_neg e9]; exact hco q q0 q4
             · rw [show ((k : Int) + 1).toNat = k + 1 by omega, e1, if_neg e9]; exact hst)
          | (have e9 : ¬ (odc mp g i (odk mp g i co1 k).1 k = true ∧ (odk mp g i co1 k).2 = 0) := (fun z => c_75 (by rw [hcok]; exact (odc_iff.mp z.1).2.1))
             refine ih _ (by omega) ((k : Int) + 1) hk _ rfl (by omega) hf (fun q q0 q4 => ?_) ?_ hol
             · rw [show ((k : Int) + 1).toNat = k + 1 by omega, e1, if_neg e9]; exact hco q q0 q4
             · rw [show ((k : Int) + 1).toNat = k + 1 by omega, e1, if_neg e9]; exact hst)
          | (have e9 : ¬ (odc mp g i (odk mp g i co1 k).1 k = true ∧ (odk mp g i co1 k).2 = 0) := (fun z => c_87 (odc_iff.mp z.1).2.2.1)
             refine ih _ (by omega) ((k : Int) + 1) hk _ rfl (by omega) hf (fun q q0 q4 => ?_) ?_ hol
             · rw [show ((k : Int) + 1).toNat = k + 1 by omega, e1, if_neg e9]; exact hco q q0 q4
             · rw [show ((k : Int) + 1).toNat = k + 1 by omega, e1, if_neg e9]; exact hst)
          | (have e9 : ¬ (odc mp g i (odk mp g i co1 k).1 k = true ∧ (odk mp g i co1 k).2 = 0) := (fun z => by have := (odc_iff.mp z.1).2.2.2.1; omega)
             refine ih _ (by omega) ((k : Int) + 1) hk _ rfl (by omega) hf (fun q q0 q4 => ?_) ?_ hol
             · rw [show ((k : Int) + 1).toNat = k + 1 by omega, e1, if_neg e9]; exact hco q q0 q4
             · rw [show ((k : Int) + 1).toNat = k + 1 by omega, e1, if_neg e9]; exact hst)
          | (have e9 : ¬ (odc mp g i (odk mp g i co1 k).1 k = true ∧ (odk mp g i co1 k).2 = 0) := (fun z => c_109 (odc_iff.mp z.1).2.2.2.2)
             refine ih _ (by omega) ((k : Int) + 1) hk _ rfl (by omega) hf (fun q q0 q4 => ?_) ?_ hol
             · rw [show ((k : Int) + 1).toNat = k + 1 by omega, e1, if_neg e9]; exact hco q q0 q4
             · rw [show ((k : Int) + 1).toNat = k + 1 by omega, e1, if_neg e9]; exact hst)
          | (have e9 : ¬ (odc mp g i (odk mp g i co1 k).1 k = true ∧ (odk mp g i co1 k).2 = 0) := (fun z => c_130 (hst.trans z.2))
             refine ih _ (by omega) ((k : Int) + 1) hk _ rfl (by omega) hf (fun q q0 q4 => ?_) ?_ hol
             · rw [show ((k : Int) + 1).toNat = k + 1 by omega, e1, if_neg e9]; exact hco q q0 q4
             · rw [show ((k : Int) + 1).toNat = k + 1 by omega, e1, if_neg e9]; exact hst)
          | (have e9 : odc mp g i (odk mp g i co1 k).1 k = true ∧ (odk mp g i co1 k).2 = 0 := ⟨odc_iff.mpr ⟨c_54, hcok.symm.trans c_75, c_87, by omega, c_109⟩, hst.symm.trans c_130⟩
             refine ih _ (by omega) ((k : Int) + 1) _ _ rfl (by omega) (fun x hx => by rw [hr_n (by omega), hr_n (by omega)]; exact hf x hx) (fun q q0 q4 => ?_) ?_ (fun j j0 j1 => ?_)
             · rw [show ((k : Int) + 1).toNat = k + 1 by omega, e1, if_pos e9, hr_n (by omega), hr_s]
               dsimp only
               by_cases e : q = k
               · rw [e, up_s, up_s]
               · rw [up_n e, up_n e]; exact hco q q0 q4
             · rw [show ((k : Int) + 1).toNat = k + 1 by omega, e1, if_pos e9, hr_s, up_s]
             · rw [hr_s, up_n (by omega), hr_n (by omega)]; exact hol j j0 j1)
        · refine r_aload_0 (pc := 57) dX8_diverts_57 ?_
          refine gf_X8_34 (pc := 58) rfl (by assumption) dX8_diverts_58 (by assumption) ?_
          refine r_iload_4 (pc := 61) dX8_diverts_61 ?_
          refine r_ialdE (pc := 63) (by assumption) rfl dX8_diverts_63 (by omega) (by omega) (fun i_63 => ?_)
          have hcok := hcok2 (by omega) (by omega)
          refine r_aload_0 (pc := 64) dX8_diverts_64 ?_
          refine gf_X8_13 (pc := 65) rfl (by assumption) dX8_diverts_65 (by assumption) ?_
          refine r_bipush (pc := 68) dX8_diverts_68 (by decide) ?_
          refine r_iconst (pc := 70) dX8_diverts_70 ?_
          refine r_iload_2 (pc := 71) dX8_diverts_71 ?_
          refine r_imul (pc := 72) dX8_diverts_72 ?_
          refine r_iadd (pc := 73) dX8_diverts_73 ?_
          refine r_ialdE (pc := 74) (by assumption) (by first | assumption | exact rfl) dX8_diverts_74 (by omega) (by omega) (fun i_74 => ?_)
          refine r_icmp_ne (pc := 75) (tgt := 116) dX8_diverts_75 (by decide) (by omega) (by omega) (fun c_75 => ?_) (fun c_75 => ?_)
          · refine r_iconst (pc := 116) dX8_diverts_116 ?_
            refine r_istore_5 (pc := 117) dX8_diverts_117 rfl ?_
            refine r_iload_5 (pc := 119) dX8_diverts_119 ?_
            refine r_ifeq_T (pc := 121) (tgt := 148) dX8_diverts_121 (by decide) (by decide) ?_
            refine r_iinc_4 (pc := 148) dX8_diverts_148 rfl ?_
            refine r_goto (pc := 151) (tgt := 36) dX8_diverts_151 (by decide) ?_
            first
            | (have e9 : ¬ (odc mp g i (odk mp g i co1 k).1 k = true ∧ (odk mp g i co1 k).2 = 0) := (fun z => c_54 (odc_iff.mp z.1).1)
               refine ih _ (by omega) ((k : Int) + 1) hk _ rfl (by omega) hf (fun q q0 q4 => ?_) ?_ hol
               · rw [show ((k : Int) + 1).toNat = k + 1 by omega, e1, if_neg e9]; exact hco q q0 q4
               · rw [show ((k : Int) + 1).toNat = k + 1 by omega, e1, if_neg e9]; exact hst)
            | (have e9 : ¬ (odc mp g i (odk mp g i co1 k).1 k = true ∧ (odk mp g i co1 k).2 = 0) := (fun z => c_75 (by rw [hcok]; exact (odc_iff.mp z.1).2.1))
               refine ih _ (by omega) ((k : Int) + 1) hk _ rfl (by omega) hf (fun q q0 q4 => ?_) ?_ hol
               · rw [show ((k : Int) + 1).toNat = k + 1 by omega, e1, if_neg e9]; exact hco q q0 q4
               · rw [show ((k : Int) + 1).toNat = k + 1 by omega, e1, if_neg e9]; exact hst)
            | (have e9 : ¬ (odc mp g i (odk mp g i co1 k).1 k = true ∧ (odk mp g i co1 k).2 = 0) := (fun z => c_87 (odc_iff.mp z.1).2.2.1)
               refine ih _ (by omega) ((k : Int) + 1) hk _ rfl (by omega) hf (fun q q0 q4 => ?_) ?_ hol
               · rw [show ((k : Int) + 1).toNat = k + 1 by omega, e1, if_neg e9]; exact hco q q0 q4
               · rw [show ((k : Int) + 1).toNat = k + 1 by omega, e1, if_neg e9]; exact hst)
            | (have e9 : ¬ (odc mp g i (odk mp g i co1 k).1 k = true ∧ (odk mp g i co1 k).2 = 0) := (fun z => by have := (odc_iff.mp z.1).2.2.2.1; omega)
               refine ih _ (by omega) ((k : Int) + 1) hk _ rfl (by omega) hf (fun q q0 q4 => ?_) ?_ hol
               · rw [show ((k : Int) + 1).toNat = k + 1 by omega, e1, if_neg e9]; exact hco q q0 q4
               · rw [show ((k : Int) + 1).toNat = k + 1 by omega, e1, if_neg e9]; exact hst)
            | (have e9 : ¬ (odc mp g i (odk mp g i co1 k).1 k = true ∧ (odk mp g i co1 k).2 = 0) := (fun z => c_109 (odc_iff.mp z.1).2.2.2.2)
               refine ih _ (by omega) ((k : Int) + 1) hk _ rfl (by omega) hf (fun q q0 q4 => ?_) ?_ hol
               · rw [show ((k : Int) + 1).toNat = k + 1 by omega, e1, if_neg e9]; exact hco q q0 q4
               · rw [show ((k : Int) + 1).toNat = k + 1 by omega, e1, if_neg e9]; exact hst)
            | (have e9 : ¬ (odc mp g i (odk mp g i co1 k).1 k = true ∧ (odk mp g i co1 k).2 = 0) := (fun z => c_130 (hst.trans z.2))
               refine ih _ (by omega) ((k : Int) + 1) hk _ rfl (by omega) hf (fun q q0 q4 => ?_) ?_ hol
               · rw [show ((k : Int) + 1).toNat = k + 1 by omega, e1, if_neg e9]; exact hco q q0 q4
               · rw [show ((k : Int) + 1).toNat = k + 1 by omega, e1, if_neg e9]; exact hst)
            | (have e9 : odc mp g i (odk mp g i co1 k).1 k = true ∧ (odk mp g i co1 k).2 = 0 := ⟨odc_iff.mpr ⟨c_54, hcok.symm.trans c_75, c_87, by omega, c_109⟩, hst.symm.trans c_130⟩
               refine ih _ (by omega) ((k : Int) + 1) _ _ rfl (by omega) (fun x hx => by rw [hr_n (by omega), hr_n (by omega)]; exact hf x hx) (fun q q0 q4 => ?_) ?_ (fun j j0 j1 => ?_)
               · rw [show ((k : Int) + 1).toNat = k + 1 by omega, e1, if_pos e9, hr_n (by omega), hr_s]
                 dsimp only
                 by_cases e : q = k
                 · rw [e, up_s, up_s]
                 · rw [up_n e, up_n e]; exact hco q q0 q4
               · rw [show ((k : Int) + 1).toNat = k + 1 by omega, e1, if_pos e9, hr_s, up_s]
               · rw [hr_s, up_n (by omega), hr_n (by omega)]; exact hol j j0 j1)
          · refine r_aload_0 (pc := 78) dX8_diverts_78 ?_
            refine gf_X8_13 (pc := 79) rfl (by assumption) dX8_diverts_79 (by assumption) ?_
            refine r_bipush (pc := 82) dX8_diverts_82 (by decide) ?_
            refine r_iload_3 (pc := 84) dX8_diverts_84 ?_
            refine r_iadd (pc := 85) dX8_diverts_85 ?_
            refine r_ialdE (pc := 86) (by assumption) (by first | assumption | exact rfl) dX8_diverts_86 (by omega) (by omega) (fun i_86 => ?_)
            refine r_if_ne (pc := 87) (tgt := 116) dX8_diverts_87 (by decide) (by omega) (fun c_87 => ?_) (fun c_87 => ?_)
            · refine r_iconst (pc := 116) dX8_diverts_116 ?_
              refine r_istore_5 (pc := 117) dX8_diverts_117 rfl ?_
              refine r_iload_5 (pc := 119) dX8_diverts_119 ?_
              refine r_ifeq_T (pc := 121) (tgt := 148) dX8_diverts_121 (by decide) (by decide) ?_
              refine r_iinc_4 (pc := 148) dX8_diverts_148 rfl ?_
              refine r_goto (pc := 151) (tgt := 36) dX8_diverts_151 (by decide) ?_
              first
              | (have e9 : ¬ (odc mp g i (odk mp g i co1 k).1 k = true ∧ (odk mp g i co1 k).2 = 0) := (fun z => c_54 (odc_iff.mp z.1).1)
                 refine ih _ (by omega) ((k : Int) + 1) hk _ rfl (by omega) hf (fun q q0 q4 => ?_) ?_ hol
                 · rw [show ((k : Int) + 1).toNat = k + 1 by omega, e1, if_neg e9]; exact hco q q0 q4
                 · rw [show ((k : Int) + 1).toNat = k + 1 by omega, e1, if_neg e9]; exact hst)
              | (have e9 : ¬ (odc mp g i (odk mp g i co1 k).1 k = true ∧ (odk mp g i co1 k).2 = 0) := (fun z => c_75 (by rw [hcok]; exact (odc_iff.mp z.1).2.1))
                 refine ih _ (by omega) ((k : Int) + 1) hk _ rfl (by omega) hf (fun q q0 q4 => ?_) ?_ hol
                 · rw [show ((k : Int) + 1).toNat = k + 1 by omega, e1, if_neg e9]; exact hco q q0 q4
                 · rw [show ((k : Int) + 1).toNat = k + 1 by omega, e1, if_neg e9]; exact hst)
              | (have e9 : ¬ (odc mp g i (odk mp g i co1 k).1 k = true ∧ (odk mp g i co1 k).2 = 0) := (fun z => c_87 (odc_iff.mp z.1).2.2.1)
                 refine ih _ (by omega) ((k : Int) + 1) hk _ rfl (by omega) hf (fun q q0 q4 => ?_) ?_ hol
                 · rw [show ((k : Int) + 1).toNat = k + 1 by omega, e1, if_neg e9]; exact hco q q0 q4
                 · rw [show ((k : Int) + 1).toNat = k + 1 by omega, e1, if_neg e9]; exact hst)
              | (have e9 : ¬ (odc mp g i (odk mp g i co1 k).1 k = true ∧ (odk mp g i co1 k).2 = 0) := (fun z => by have := (odc_iff.mp z.1).2.2.2.1; omega)
                 refine ih _ (by omega) ((k : Int) + 1) hk _ rfl (by omega) hf (fun q q0 q4 => ?_) ?_ hol
                 · rw [show ((k : Int) + 1).toNat = k + 1 by omega, e1, if_neg e9]; exact hco q q0 q4
                 · rw [show ((k : Int) + 1).toNat = k + 1 by omega, e1, if_neg e9]; exact hst)
              | (have e9 : ¬ (odc mp g i (odk mp g i co1 k).1 k = true ∧ (odk mp g i co1 k).2 = 0) := (fun z => c_109 (odc_iff.mp z.1).2.2.2.2)
                 refine ih _ (by omega) ((k : Int) + 1) hk _ rfl (by omega) hf (fun q q0 q4 => ?_) ?_ hol
                 · rw [show ((k : Int) + 1).toNat = k + 1 by omega, e1, if_neg e9]; exact hco q q0 q4
                 · rw [show ((k : Int) + 1).toNat = k + 1 by omega, e1, if_neg e9]; exact hst)
              | (have e9 : ¬ (odc mp g i (odk mp g i co1 k).1 k = true ∧ (odk mp g i co1 k).2 = 0) := (fun z => c_130 (hst.trans z.2))
                 refine ih _ (by omega) ((k : Int) + 1) hk _ rfl (by omega) hf (fun q q0 q4 => ?_) ?_ hol
                 · rw [show ((k : Int) + 1).toNat = k + 1 by omega, e1, if_neg e9]; exact hco q q0 q4
                 · rw [show ((k : Int) + 1).toNat = k + 1 by omega, e1, if_neg e9]; exact hst)
              | (have e9 : odc mp g i (odk mp g i co1 k).1 k = true ∧ (odk mp g i co1 k).2 = 0 := ⟨odc_iff.mpr ⟨c_54, hcok.symm.trans c_75, c_87, by omega, c_109⟩, hst.symm.trans c_130⟩
                 refine ih _ (by omega) ((k : Int) + 1) _ _ rfl (by omega) (fun x hx => by rw [hr_n (by omega), hr_n (by omega)]; exact hf x hx) (fun q q0 q4 => ?_) ?_ (fun j j0 j1 => ?_)
                 · rw [show ((k : Int) + 1).toNat = k + 1 by omega, e1, if_pos e9, hr_n (by omega), hr_s]
                   dsimp only
                   by_cases e : q = k
                   · rw [e, up_s, up_s]
                   · rw [up_n e, up_n e]; exact hco q q0 q4
                 · rw [show ((k : Int) + 1).toNat = k + 1 by omega, e1, if_pos e9, hr_s, up_s]
                 · rw [hr_s, up_n (by omega), hr_n (by omega)]; exact hol j j0 j1)
            · refine r_aload_0 (pc := 90) dX8_diverts_90 ?_
              refine gf_X8_13 (pc := 91) rfl (by assumption) dX8_diverts_91 (by assumption) ?_
              refine r_bipush (pc := 94) dX8_diverts_94 (by decide) ?_
              refine r_iload_3 (pc := 96) dX8_diverts_96 ?_
              refine r_iadd (pc := 97) dX8_diverts_97 ?_
              refine r_ialdE (pc := 98) (by assumption) (by first | assumption | exact rfl) dX8_diverts_98 (by omega) (by omega) (fun i_98 => ?_)
              refine r_if_le (pc := 99) (tgt := 116) dX8_diverts_99 (by decide) (by omega) (fun c_99 => ?_) (fun c_99 => ?_)
              · refine r_iconst (pc := 116) dX8_diverts_116 ?_
                refine r_istore_5 (pc := 117) dX8_diverts_117 rfl ?_
                refine r_iload_5 (pc := 119) dX8_diverts_119 ?_
                refine r_ifeq_T (pc := 121) (tgt := 148) dX8_diverts_121 (by decide) (by decide) ?_
                refine r_iinc_4 (pc := 148) dX8_diverts_148 rfl ?_
                refine r_goto (pc := 151) (tgt := 36) dX8_diverts_151 (by decide) ?_
                first
                | (have e9 : ¬ (odc mp g i (odk mp g i co1 k).1 k = true ∧ (odk mp g i co1 k).2 = 0) := (fun z => c_54 (odc_iff.mp z.1).1)
                   refine ih _ (by omega) ((k : Int) + 1) hk _ rfl (by omega) hf (fun q q0 q4 => ?_) ?_ hol
                   · rw [show ((k : Int) + 1).toNat = k + 1 by omega, e1, if_neg e9]; exact hco q q0 q4
                   · rw [show ((k : Int) + 1).toNat = k + 1 by omega, e1, if_neg e9]; exact hst)
                | (have e9 : ¬ (odc mp g i (odk mp g i co1 k).1 k = true ∧ (odk mp g i co1 k).2 = 0) := (fun z => c_75 (by rw [hcok]; exact (odc_iff.mp z.1).2.1))
                   refine ih _ (by omega) ((k : Int) + 1) hk _ rfl (by omega) hf (fun q q0 q4 => ?_) ?_ hol
                   · rw [show ((k : Int) + 1).toNat = k + 1 by omega, e1, if_neg e9]; exact hco q q0 q4
                   · rw [show ((k : Int) + 1).toNat = k + 1 by omega, e1, if_neg e9]; exact hst)
                | (have e9 : ¬ (odc mp g i (odk mp g i co1 k).1 k = true ∧ (odk mp g i co1 k).2 = 0) := (fun z => c_87 (odc_iff.mp z.1).2.2.1)
                   refine ih _ (by omega) ((k : Int) + 1) hk _ rfl (by omega) hf (fun q q0 q4 => ?_) ?_ hol
                   · rw [show ((k : Int) + 1).toNat = k + 1 by omega, e1, if_neg e9]; exact hco q q0 q4
                   · rw [show ((k : Int) + 1).toNat = k + 1 by omega, e1, if_neg e9]; exact hst)
                | (have e9 : ¬ (odc mp g i (odk mp g i co1 k).1 k = true ∧ (odk mp g i co1 k).2 = 0) := (fun z => by have := (odc_iff.mp z.1).2.2.2.1; omega)
                   refine ih _ (by omega) ((k : Int) + 1) hk _ rfl (by omega) hf (fun q q0 q4 => ?_) ?_ hol
                   · rw [show ((k : Int) + 1).toNat = k + 1 by omega, e1, if_neg e9]; exact hco q q0 q4
                   · rw [show ((k : Int) + 1).toNat = k + 1 by omega, e1, if_neg e9]; exact hst)
                | (have e9 : ¬ (odc mp g i (odk mp g i co1 k).1 k = true ∧ (odk mp g i co1 k).2 = 0) := (fun z => c_109 (odc_iff.mp z.1).2.2.2.2)
                   refine ih _ (by omega) ((k : Int) + 1) hk _ rfl (by omega) hf (fun q q0 q4 => ?_) ?_ hol
                   · rw [show ((k : Int) + 1).toNat = k + 1 by omega, e1, if_neg e9]; exact hco q q0 q4
                   · rw [show ((k : Int) + 1).toNat = k + 1 by omega, e1, if_neg e9]; exact hst)
                | (have e9 : ¬ (odc mp g i (odk mp g i co1 k).1 k = true ∧ (odk mp g i co1 k).2 = 0) := (fun z => c_130 (hst.trans z.2))
                   refine ih _ (by omega) ((k : Int) + 1) hk _ rfl (by omega) hf (fun q q0 q4 => ?_) ?_ hol
                   · rw [show ((k : Int) + 1).toNat = k + 1 by omega, e1, if_neg e9]; exact hco q q0 q4
                   · rw [show ((k : Int) + 1).toNat = k + 1 by omega, e1, if_neg e9]; exact hst)
                | (have e9 : odc mp g i (odk mp g i co1 k).1 k = true ∧ (odk mp g i co1 k).2 = 0 := ⟨odc_iff.mpr ⟨c_54, hcok.symm.trans c_75, c_87, by omega, c_109⟩, hst.symm.trans c_130⟩
                   refine ih _ (by omega) ((k : Int) + 1) _ _ rfl (by omega) (fun x hx => by rw [hr_n (by omega), hr_n (by omega)]; exact hf x hx) (fun q q0 q4 => ?_) ?_ (fun j j0 j1 => ?_)
                   · rw [show ((k : Int) + 1).toNat = k + 1 by omega, e1, if_pos e9, hr_n (by omega), hr_s]
                     dsimp only
                     by_cases e : q = k
                     · rw [e, up_s, up_s]
                     · rw [up_n e, up_n e]; exact hco q q0 q4
                   · rw [show ((k : Int) + 1).toNat = k + 1 by omega, e1, if_pos e9, hr_s, up_s]
                   · rw [hr_s, up_n (by omega), hr_n (by omega)]; exact hol j j0 j1)
              · refine r_aload_0 (pc := 102) dX8_diverts_102 ?_
                refine r_iload_3 (pc := 103) dX8_diverts_103 ?_
                refine r_iload_4 (pc := 104) dX8_diverts_104 ?_
                refine k_VI2 (pc := 106) c_X8_isApart lk_X8_198 ⟨Nat.le_of_ble_eq_true rfl, Nat.le_of_ble_eq_true rfl⟩ ⟨rfl, rfl⟩ ⟨Nat.le_of_ble_eq_true rfl, Nat.le_of_ble_eq_true rfl⟩ (k := 8) rfl (by decide) (by assumption) dX8_diverts_106 (Nat.le_of_ble_eq_true rfl) ?_
                refine ⟨_, _, _, _, _, rfl, by assumption, by first | assumption | exact rfl, by assumption, by assumption, by assumption, by assumption, by omega, by omega, ?_⟩
                refine r_ifeq_b (pc := 109) (tgt := 116) dX8_diverts_109 (by decide) (fun c_109 => ?_) (fun c_109 => ?_)
                · refine r_iconst (pc := 116) dX8_diverts_116 ?_
                  refine r_istore_5 (pc := 117) dX8_diverts_117 rfl ?_
                  refine r_iload_5 (pc := 119) dX8_diverts_119 ?_
                  refine r_ifeq_T (pc := 121) (tgt := 148) dX8_diverts_121 (by decide) (by decide) ?_
                  refine r_iinc_4 (pc := 148) dX8_diverts_148 rfl ?_
                  refine r_goto (pc := 151) (tgt := 36) dX8_diverts_151 (by decide) ?_
                  first
                  | (have e9 : ¬ (odc mp g i (odk mp g i co1 k).1 k = true ∧ (odk mp g i co1 k).2 = 0) := (fun z => c_54 (odc_iff.mp z.1).1)
                     refine ih _ (by omega) ((k : Int) + 1) hk _ rfl (by omega) hf (fun q q0 q4 => ?_) ?_ hol
                     · rw [show ((k : Int) + 1).toNat = k + 1 by omega, e1, if_neg e9]; exact hco q q0 q4
                     · rw [show ((k : Int) + 1).toNat = k + 1 by omega, e1, if_neg e9]; exact hst)
                  | (have e9 : ¬ (odc mp g i (odk mp g i co1 k).1 k = true ∧ (odk mp g i co1 k).2 = 0) := (fun z => c_75 (by rw [hcok]; exact (odc_iff.mp z.1).2.1))
                     refine ih _ (by omega) ((k : Int) + 1) hk _ rfl (by omega) hf (fun q q0 q4 => ?_) ?_ hol
                     · rw [show ((k : Int) + 1).toNat = k + 1 by omega, e1, if_neg e9]; exact hco q q0 q4
                     · rw [show ((k : Int) + 1).toNat = k + 1 by omega, e1, if_neg e9]; exact hst)
                  | (have e9 : ¬ (odc mp g i (odk mp g i co1 k).1 k = true ∧ (odk mp g i co1 k).2 = 0) := (fun z => c_87 (odc_iff.mp z.1).2.2.1)
                     refine ih _ (by omega) ((k : Int) + 1) hk _ rfl (by omega) hf (fun q q0 q4 => ?_) ?_ hol
                     · rw [show ((k : Int) + 1).toNat = k + 1 by omega, e1, if_neg e9]; exact hco q q0 q4
                     · rw [show ((k : Int) + 1).toNat = k + 1 by omega, e1, if_neg e9]; exact hst)
                  | (have e9 : ¬ (odc mp g i (odk mp g i co1 k).1 k = true ∧ (odk mp g i co1 k).2 = 0) := (fun z => by have := (odc_iff.mp z.1).2.2.2.1; omega)
                     refine ih _ (by omega) ((k : Int) + 1) hk _ rfl (by omega) hf (fun q q0 q4 => ?_) ?_ hol
                     · rw [show ((k : Int) + 1).toNat = k + 1 by omega, e1, if_neg e9]; exact hco q q0 q4
                     · rw [show ((k : Int) + 1).toNat = k + 1 by omega, e1, if_neg e9]; exact hst)
                  | (have e9 : ¬ (odc mp g i (odk mp g i co1 k).1 k = true ∧ (odk mp g i co1 k).2 = 0) := (fun z => c_109 (odc_iff.mp z.1).2.2.2.2)
                     refine ih _ (by omega) ((k : Int) + 1) hk _ rfl (by omega) hf (fun q q0 q4 => ?_) ?_ hol
                     · rw [show ((k : Int) + 1).toNat = k + 1 by omega, e1, if_neg e9]; exact hco q q0 q4
                     · rw [show ((k : Int) + 1).toNat = k + 1 by omega, e1, if_neg e9]; exact hst)
                  | (have e9 : ¬ (odc mp g i (odk mp g i co1 k).1 k = true ∧ (odk mp g i co1 k).2 = 0) := (fun z => c_130 (hst.trans z.2))
                     refine ih _ (by omega) ((k : Int) + 1) hk _ rfl (by omega) hf (fun q q0 q4 => ?_) ?_ hol
                     · rw [show ((k : Int) + 1).toNat = k + 1 by omega, e1, if_neg e9]; exact hco q q0 q4
                     · rw [show ((k : Int) + 1).toNat = k + 1 by omega, e1, if_neg e9]; exact hst)
                  | (have e9 : odc mp g i (odk mp g i co1 k).1 k = true ∧ (odk mp g i co1 k).2 = 0 := ⟨odc_iff.mpr ⟨c_54, hcok.symm.trans c_75, c_87, by omega, c_109⟩, hst.symm.trans c_130⟩
                     refine ih _ (by omega) ((k : Int) + 1) _ _ rfl (by omega) (fun x hx => by rw [hr_n (by omega), hr_n (by omega)]; exact hf x hx) (fun q q0 q4 => ?_) ?_ (fun j j0 j1 => ?_)
                     · rw [show ((k : Int) + 1).toNat = k + 1 by omega, e1, if_pos e9, hr_n (by omega), hr_s]
                       dsimp only
                       by_cases e : q = k
                       · rw [e, up_s, up_s]
                       · rw [up_n e, up_n e]; exact hco q q0 q4
                     · rw [show ((k : Int) + 1).toNat = k + 1 by omega, e1, if_pos e9, hr_s, up_s]
                     · rw [hr_s, up_n (by omega), hr_n (by omega)]; exact hol j j0 j1)
                · refine r_iconst (pc := 112) dX8_diverts_112 ?_
                  refine r_goto (pc := 113) (tgt := 117) dX8_diverts_113 (by decide) ?_
                  refine r_istore_5 (pc := 117) dX8_diverts_117 rfl ?_
                  refine r_iload_5 (pc := 119) dX8_diverts_119 ?_
                  refine r_ifeq_F (pc := 121) (tgt := 148) dX8_diverts_121 (by decide) (by decide) ?_
                  refine r_aload_0 (pc := 124) dX8_diverts_124 ?_
                  refine gf_X8_40 (pc := 125) rfl (by assumption) dX8_diverts_125 (by assumption) ?_
                  refine r_iload_2 (pc := 128) dX8_diverts_128 ?_
                  refine r_ialdE (pc := 129) (by assumption) rfl dX8_diverts_129 (by omega) (by omega) (fun i_129 => ?_)
                  refine r_if_ne (pc := 130) (tgt := 148) dX8_diverts_130 (by decide) (by omega) (fun c_130 => ?_) (fun c_130 => ?_)
                  · refine r_iinc_4 (pc := 148) dX8_diverts_148 rfl ?_
                    refine r_goto (pc := 151) (tgt := 36) dX8_diverts_151 (by decide) ?_
                    first
                    | (have e9 : ¬ (odc mp g i (odk mp g i co1 k).1 k = true ∧ (odk mp g i co1 k).2 = 0) := (fun z => c_54 (odc_iff.mp z.1).1)
                       refine ih _ (by omega) ((k : Int) + 1) hk _ rfl (by omega) hf (fun q q0 q4 => ?_) ?_ hol
                       · rw [show ((k : Int) + 1).toNat = k + 1 by omega, e1, if_neg e9]; exact hco q q0 q4
                       · rw [show ((k : Int) + 1).toNat = k + 1 by omega, e1, if_neg e9]; exact hst)
                    | (have e9 : ¬ (odc mp g i (odk mp g i co1 k).1 k = true ∧ (odk mp g i co1 k).2 = 0) := (fun z => c_75 (by rw [hcok]; exact (odc_iff.mp z.1).2.1))
                       refine ih _ (by omega) ((k : Int) + 1) hk _ rfl (by omega) hf (fun q q0 q4 => ?_) ?_ hol
                       · rw [show ((k : Int) + 1).toNat = k + 1 by omega, e1, if_neg e9]; exact hco q q0 q4
                       · rw [show ((k : Int) + 1).toNat = k + 1 by omega, e1, if_neg e9]; exact hst)
                    | (have e9 : ¬ (odc mp g i (odk mp g i co1 k).1 k = true ∧ (odk mp g i co1 k).2 = 0) := (fun z => c_87 (odc_iff.mp z.1).2.2.1)
                       refine ih _ (by omega) ((k : Int) + 1) hk _ rfl (by omega) hf (fun q q0 q4 => ?_) ?_ hol
                       · rw [show ((k : Int) + 1).toNat = k + 1 by omega, e1, if_neg e9]; exact hco q q0 q4
                       · rw [show ((k : Int) + 1).toNat = k + 1 by omega, e1, if_neg e9]; exact hst)
                    | (have e9 : ¬ (odc mp g i (odk mp g i co1 k).1 k = true ∧ (odk mp g i co1 k).2 = 0) := (fun z => by have := (odc_iff.mp z.1).2.2.2.1; omega)
                       refine ih _ (by omega) ((k : Int) + 1) hk _ rfl (by omega) hf (fun q q0 q4 => ?_) ?_ hol
                       · rw [show ((k : Int) + 1).toNat = k + 1 by omega, e1, if_neg e9]; exact hco q q0 q4
                       · rw [show ((k : Int) + 1).toNat = k + 1 by omega, e1, if_neg e9]; exact hst)
                    | (have e9 : ¬ (odc mp g i (odk mp g i co1 k).1 k = true ∧ (odk mp g i co1 k).2 = 0) := (fun z => c_109 (odc_iff.mp z.1).2.2.2.2)
                       refine ih _ (by omega) ((k : Int) + 1) hk _ rfl (by omega) hf (fun q q0 q4 => ?_) ?_ hol
                       · rw [show ((k : Int) + 1).toNat = k + 1 by omega, e1, if_neg e9]; exact hco q q0 q4
                       · rw [show ((k : Int) + 1).toNat = k + 1 by omega, e1, if_neg e9]; exact hst)
                    | (have e9 : ¬ (odc mp g i (odk mp g i co1 k).1 k = true ∧ (odk mp g i co1 k).2 = 0) := (fun z => c_130 (hst.trans z.2))
                       refine ih _ (by omega) ((k : Int) + 1) hk _ rfl (by omega) hf (fun q q0 q4 => ?_) ?_ hol
                       · rw [show ((k : Int) + 1).toNat = k + 1 by omega, e1, if_neg e9]; exact hco q q0 q4
                       · rw [show ((k : Int) + 1).toNat = k + 1 by omega, e1, if_neg e9]; exact hst)
                    | (have e9 : odc mp g i (odk mp g i co1 k).1 k = true ∧ (odk mp g i co1 k).2 = 0 := ⟨odc_iff.mpr ⟨c_54, hcok.symm.trans c_75, c_87, by omega, c_109⟩, hst.symm.trans c_130⟩
                       refine ih _ (by omega) ((k : Int) + 1) _ _ rfl (by omega) (fun x hx => by rw [hr_n (by omega), hr_n (by omega)]; exact hf x hx) (fun q q0 q4 => ?_) ?_ (fun j j0 j1 => ?_)
                       · rw [show ((k : Int) + 1).toNat = k + 1 by omega, e1, if_pos e9, hr_n (by omega), hr_s]
                         dsimp only
                         by_cases e : q = k
                         · rw [e, up_s, up_s]
                         · rw [up_n e, up_n e]; exact hco q q0 q4
                       · rw [show ((k : Int) + 1).toNat = k + 1 by omega, e1, if_pos e9, hr_s, up_s]
                       · rw [hr_s, up_n (by omega), hr_n (by omega)]; exact hol j j0 j1)
                  · refine r_aload_0 (pc := 133) dX8_diverts_133 ?_
                    refine gf_X8_34 (pc := 134) rfl (by assumption) dX8_diverts_134 (by assumption) ?_
                    refine r_iload_4 (pc := 137) dX8_diverts_137 ?_
                    refine r_iload_3 (pc := 139) dX8_diverts_139 ?_
                    refine r_iastE (pc := 140) (by assumption) rfl dX8_diverts_140 (by omega) (by omega) (by omega) ?_
                    refine r_aload_0 (pc := 141) dX8_diverts_141 ?_
                    refine gf_X8_40 (pc := 142) rfl (by assumption) dX8_diverts_142 (by assumption) ?_
                    refine r_iload_2 (pc := 145) dX8_diverts_145 ?_
                    refine r_iconst (pc := 146) dX8_diverts_146 ?_
                    refine r_iastE (pc := 147) (by assumption) rfl dX8_diverts_147 (by omega) (by omega) (by omega) ?_
                    refine r_iinc_4 (pc := 148) dX8_diverts_148 rfl ?_
                    refine r_goto (pc := 151) (tgt := 36) dX8_diverts_151 (by decide) ?_
                    first
                    | (have e9 : ¬ (odc mp g i (odk mp g i co1 k).1 k = true ∧ (odk mp g i co1 k).2 = 0) := (fun z => c_54 (odc_iff.mp z.1).1)
                       refine ih _ (by omega) ((k : Int) + 1) hk _ rfl (by omega) hf (fun q q0 q4 => ?_) ?_ hol
                       · rw [show ((k : Int) + 1).toNat = k + 1 by omega, e1, if_neg e9]; exact hco q q0 q4
                       · rw [show ((k : Int) + 1).toNat = k + 1 by omega, e1, if_neg e9]; exact hst)
                    | (have e9 : ¬ (odc mp g i (odk mp g i co1 k).1 k = true ∧ (odk mp g i co1 k).2 = 0) := (fun z => c_75 (by rw [hcok]; exact (odc_iff.mp z.1).2.1))
                       refine ih _ (by omega) ((k : Int) + 1) hk _ rfl (by omega) hf (fun q q0 q4 => ?_) ?_ hol
                       · rw [show ((k : Int) + 1).toNat = k + 1 by omega, e1, if_neg e9]; exact hco q q0 q4
                       · rw [show ((k : Int) + 1).toNat = k + 1 by omega, e1, if_neg e9]; exact hst)
                    | (have e9 : ¬ (odc mp g i (odk mp g i co1 k).1 k = true ∧ (odk mp g i co1 k).2 = 0) := (fun z => c_87 (odc_iff.mp z.1).2.2.1)
                       refine ih _ (by omega) ((k : Int) + 1) hk _ rfl (by omega) hf (fun q q0 q4 => ?_) ?_ hol
                       · rw [show ((k : Int) + 1).toNat = k + 1 by omega, e1, if_neg e9]; exact hco q q0 q4
                       · rw [show ((k : Int) + 1).toNat = k + 1 by omega, e1, if_neg e9]; exact hst)
                    | (have e9 : ¬ (odc mp g i (odk mp g i co1 k).1 k = true ∧ (odk mp g i co1 k).2 = 0) := (fun z => by have := (odc_iff.mp z.1).2.2.2.1; omega)
                       refine ih _ (by omega) ((k : Int) + 1) hk _ rfl (by omega) hf (fun q q0 q4 => ?_) ?_ hol
                       · rw [show ((k : Int) + 1).toNat = k + 1 by omega, e1, if_neg e9]; exact hco q q0 q4
                       · rw [show ((k : Int) + 1).toNat = k + 1 by omega, e1, if_neg e9]; exact hst)
                    | (have e9 : ¬ (odc mp g i (odk mp g i co1 k).1 k = true ∧ (odk mp g i co1 k).2 = 0) := (fun z => c_109 (odc_iff.mp z.1).2.2.2.2)
                       refine ih _ (by omega) ((k : Int) + 1) hk _ rfl (by omega) hf (fun q q0 q4 => ?_) ?_ hol
                       · rw [show ((k : Int) + 1).toNat = k + 1 by omega, e1, if_neg e9]; exact hco q q0 q4
                       · rw [show ((k : Int) + 1).toNat = k + 1 by omega, e1, if_neg e9]; exact hst)
                    | (have e9 : ¬ (odc mp g i (odk mp g i co1 k).1 k = true ∧ (odk mp g i co1 k).2 = 0) := (fun z => c_130 (hst.trans z.2))
                       refine ih _ (by omega) ((k : Int) + 1) hk _ rfl (by omega) hf (fun q q0 q4 => ?_) ?_ hol
                       · rw [show ((k : Int) + 1).toNat = k + 1 by omega, e1, if_neg e9]; exact hco q q0 q4
                       · rw [show ((k : Int) + 1).toNat = k + 1 by omega, e1, if_neg e9]; exact hst)
                    | (have e9 : odc mp g i (odk mp g i co1 k).1 k = true ∧ (odk mp g i co1 k).2 = 0 := ⟨odc_iff.mpr ⟨c_54, hcok.symm.trans c_75, c_87, by omega, c_109⟩, hst.symm.trans c_130⟩
                       refine ih _ (by omega) ((k : Int) + 1) _ _ rfl (by omega) (fun x hx => by rw [hr_n (by omega), hr_n (by omega)]; exact hf x hx) (fun q q0 q4 => ?_) ?_ (fun j j0 j1 => ?_)
                       · rw [show ((k : Int) + 1).toNat = k + 1 by omega, e1, if_pos e9, hr_n (by omega), hr_s]
                         dsimp only
                         by_cases e : q = k
                         · rw [e, up_s, up_s]
                         · rw [up_n e, up_n e]; exact hco q q0 q4
                       · rw [show ((k : Int) + 1).toNat = k + 1 by omega, e1, if_pos e9, hr_s, up_s]
                       · rw [hr_s, up_n (by omega), hr_n (by omega)]; exact hol j j0 j1)
  have lp : ∀ (n_ : Nat) (i : Int) (hk : HpT) (x3 : Option Value) (x4 : Option Value) (x5 : Option Value), (6 - i).toNat = n_ → (0 ≤ i ∧ i ≤ mp 135) → (Fr h hk (fun x => x = b + 9 ∨ x = b + 11)) → (∀ q, 0 ≤ q → q < 4 → hk (b + 9) q = dvk mp g co i.toNat q) → (∀ j, 0 ≤ j → j < i → hk (b + 11) j = (odk mp g j (dvk mp g co j.toNat) 4).2) → St E mX8_diverts 2 [some (.ref b), some (vI g), some (vI i), x3, x4, x5] [] (0, 0) N lay r hk := by
    intro  n_
    induction n_ using Nat.strongRecOn with
    | ind n_ ih =>
      intro i hk x3 x4 x5 hn_ hi hf hco hol
      obtain ⟨k, rfl⟩ : ∃ k : Nat, i = k := ⟨i.toNat, by omega⟩
      simp only [show ((k : Int)).toNat = k by omega] at hco
      have em : hk (b + 2) = mp := (hf _ (by omega)).trans hmp
      have q7 := r7 k
      have cI := dvk_I hR (g := g) hci k
      refine r_iload_2 (pc := 2) dX8_diverts_2 ?_
      refine r_aload_0 (pc := 3) dX8_diverts_3 ?_
      refine gf_X8_13 (pc := 4) rfl (by assumption) dX8_diverts_4 (by assumption) ?_
      refine r_sipush (pc := 7) dX8_diverts_7 (by decide) ?_
      refine r_ialdE (pc := 10) (by assumption) (by first | assumption | exact rfl) dX8_diverts_10 (by omega) (by omega) (fun i_10 => ?_)
      refine r_icmp_ge (pc := 11) (tgt := 160) dX8_diverts_11 (by decide) (by omega) (by omega) (fun c_11 => ?_) (fun c_11 => ?_)
      · refine r_ret (pc := 160) hret dX8_diverts_160 rfl rfl rfl ?_
        have hk5 : (k : Int) = mp 135 := by omega
        exact hQ hk hf (fun q q0 q4 => by rw [hco q q0 q4, ← hk5, show ((k : Int)).toNat = k by omega]) (fun j j0 j1 => hol j j0 (by omega))
      · refine r_aload_0 (pc := 14) dX8_diverts_14 ?_
        refine gf_X8_40 (pc := 15) rfl (by assumption) dX8_diverts_15 (by assumption) ?_
        refine r_iload_2 (pc := 18) dX8_diverts_18 ?_
        refine r_iconst (pc := 19) dX8_diverts_19 ?_
        refine r_iastE (pc := 20) (by assumption) (by first | assumption | exact rfl) dX8_diverts_20 (by omega) (by omega) (by omega) ?_
        refine r_aload_0 (pc := 21) dX8_diverts_21 ?_
        refine gf_X8_13 (pc := 22) rfl (by assumption) dX8_diverts_22 (by assumption) ?_
        refine r_bipush (pc := 25) dX8_diverts_25 (by decide) ?_
        refine r_iconst (pc := 27) dX8_diverts_27 ?_
        refine r_iload_2 (pc := 28) dX8_diverts_28 ?_
        refine r_imul (pc := 29) dX8_diverts_29 ?_
        refine r_iadd (pc := 30) dX8_diverts_30 ?_
        have hk9 : (k : Int) < mp 135 := by omega
        have q8 := q7 (by omega) (by omega)
        have em2 : hr hk (b + 11) (up (hk (b + 11)) k 0) (b + 2) = mp := by rw [hr_n (by omega)]; exact em
        refine r_ialdE (pc := 31) (by assumption) (by first | assumption | exact rfl) dX8_diverts_31 (by omega) (by omega) (fun i_31 => ?_)
        refine r_istore_3 (pc := 32) dX8_diverts_32 rfl ?_
        refine r_iconst (pc := 33) dX8_diverts_33 ?_
        refine r_istore_4 (pc := 34) dX8_diverts_34 rfl ?_
        have hk9 : (k : Int) < mp 135 := by omega
        have q8 := q7 (by omega) (by omega)
        refine inn k (by omega) (dvk mp g co k) (cI (by omega)) (fun j => (odk mp g j (dvk mp g co j.toNat) 4).2) (fun h3 x5 f3 co3 st3 ol3 => ?_) _ 0 _ _ rfl (by omega) (fun x hx => by rw [hr_n (by omega)]; exact hf x hx) (fun q q0 q4 => by rw [hr_n (by omega)]; exact hco q q0 q4) (by rw [hr_s, up_s]; rfl) (fun j j0 j1 => by rw [hr_s, up_n (by omega)]; exact hol j j0 j1)
        refine r_iinc_2 (pc := 154) dX8_diverts_154 rfl ?_
        refine r_goto (pc := 157) (tgt := 2) dX8_diverts_157 (by decide) ?_
        refine ih _ (by omega) ((k : Int) + 1) h3 _ _ _ rfl (by omega) f3 (fun q q0 q4 => ?_) (fun j j0 j1 => ?_)
        · rw [show ((k : Int) + 1).toNat = k + 1 by omega]; exact co3 q q0 q4
        · by_cases e : j = k
          · subst e; rw [st3, show ((k : Int)).toNat = k by omega]
          · exact ol3 j j0 (by omega)
  refine r_iconst (pc := 0) dX8_diverts_0 ?_
  refine r_istore_2 (pc := 1) dX8_diverts_1 rfl ?_
  exact lp _ 0 h _ _ _ rfl (by omega) (fun _ _ => rfl) hco (fun j j0 j1 => by omega)

