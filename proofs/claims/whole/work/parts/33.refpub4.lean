/-! THE REFERENCE: even, since, would -/
theorem ev1_r {mp : Int → Int} {d w : Int} {s : Int × Int × Int} (h1 : -2147483648 ≤ s.1 ∧ s.1 < 2147483648) (h2 : -4 ≤ s.2.1 ∧ s.2.1 < 22) (hd : 10 ≤ d ∧ d < 22) : (-2147483648 ≤ (ev1 mp d w s).1 ∧ (ev1 mp d w s).1 < 2147483648) ∧ (-4 ≤ (ev1 mp d w s).2.1 ∧ (ev1 mp d w s).2.1 < 22) := by
  unfold ev1
  split
  · exact ⟨spr_r _ _, by dsimp only; omega⟩
  · exact ⟨h1, h2⟩
theorem evk_r (mp : Int → Int) (s0 : Int) (h0 : -2147483648 ≤ s0 ∧ s0 < 2147483648) : ∀ k : Nat, k ≤ 12 → (-2147483648 ≤ (evk mp s0 k).1 ∧ (evk mp s0 k).1 < 2147483648) ∧ (-4 ≤ (evk mp s0 k).2.1 ∧ (evk mp s0 k).2.1 < 22)
  | 0, _ => ⟨h0, by simp [evk]⟩
  | k + 1, hk => by
    obtain ⟨a1, a2⟩ := evk_r mp s0 h0 k (by omega)
    obtain ⟨b1, b2⟩ := ev1_r (mp := mp) (d := 10 + k) (w := mp (22 + (10 + k)) + 1) a1 a2 (by omega)
    exact ev1_r b1 b2 (by omega)
theorem dX8_even_0 : decode cX8_even 0 = .ok (.aload_n 0, 1) := by decide +kernel
theorem dX8_even_1 : decode cX8_even 1 = .ok (.iload_n 1, 1) := by decide +kernel
theorem dX8_even_2 : decode cX8_even 2 = .ok (.iconst 0, 1) := by decide +kernel
theorem dX8_even_3 : decode cX8_even 3 = .ok (.iconst 2, 1) := by decide +kernel
theorem dX8_even_4 : decode cX8_even 4 = .ok (.invokevirtual 137, 3) := by decide +kernel
theorem dX8_even_7 : decode cX8_even 7 = .ok (.ifCond .ne 5, 3) := by decide +kernel
theorem dX8_even_10 : decode cX8_even 10 = .ok (.iconst (-1), 1) := by decide +kernel
theorem dX8_even_11 : decode cX8_even 11 = .ok (.ireturn, 1) := by decide +kernel
theorem dX8_even_12 : decode cX8_even 12 = .ok (.aload_n 0, 1) := by decide +kernel
theorem dX8_even_13 : decode cX8_even 13 = .ok (.aload_n 0, 1) := by decide +kernel
theorem dX8_even_14 : decode cX8_even 14 = .ok (.getfield 43, 3) := by decide +kernel
theorem dX8_even_17 : decode cX8_even 17 = .ok (.invokevirtual 219, 3) := by decide +kernel
theorem dX8_even_20 : decode cX8_even 20 = .ok (.istore_n 2, 1) := by decide +kernel
theorem dX8_even_21 : decode cX8_even 21 = .ok (.bipush (-4), 2) := by decide +kernel
theorem dX8_even_23 : decode cX8_even 23 = .ok (.istore_n 3, 1) := by decide +kernel
theorem dX8_even_24 : decode cX8_even 24 = .ok (.iconst 0, 1) := by decide +kernel
theorem dX8_even_25 : decode cX8_even 25 = .ok (.istore 4, 2) := by decide +kernel
theorem dX8_even_27 : decode cX8_even 27 = .ok (.bipush 10, 2) := by decide +kernel
theorem dX8_even_29 : decode cX8_even 29 = .ok (.istore 5, 2) := by decide +kernel
theorem dX8_even_31 : decode cX8_even 31 = .ok (.iload 5, 2) := by decide +kernel
theorem dX8_even_33 : decode cX8_even 33 = .ok (.bipush 10, 2) := by decide +kernel
theorem dX8_even_35 : decode cX8_even 35 = .ok (.aload_n 0, 1) := by decide +kernel
theorem dX8_even_36 : decode cX8_even 36 = .ok (.getfield 13, 3) := by decide +kernel
theorem dX8_even_39 : decode cX8_even 39 = .ok (.sipush 130, 3) := by decide +kernel
theorem dX8_even_42 : decode cX8_even 42 = .ok (.iaload, 1) := by decide +kernel
theorem dX8_even_43 : decode cX8_even 43 = .ok (.iadd, 1) := by decide +kernel
theorem dX8_even_44 : decode cX8_even 44 = .ok (.if_icmp .ge 94, 3) := by decide +kernel
theorem dX8_even_47 : decode cX8_even 47 = .ok (.iconst 1, 1) := by decide +kernel
theorem dX8_even_48 : decode cX8_even 48 = .ok (.istore 6, 2) := by decide +kernel
theorem dX8_even_50 : decode cX8_even 50 = .ok (.iload 6, 2) := by decide +kernel
theorem dX8_even_52 : decode cX8_even 52 = .ok (.iconst (-1), 1) := by decide +kernel
theorem dX8_even_53 : decode cX8_even 53 = .ok (.if_icmp .lt 79, 3) := by decide +kernel
theorem dX8_even_56 : decode cX8_even 56 = .ok (.aload_n 0, 1) := by decide +kernel
theorem dX8_even_57 : decode cX8_even 57 = .ok (.getfield 13, 3) := by decide +kernel
theorem dX8_even_60 : decode cX8_even 60 = .ok (.bipush 22, 2) := by decide +kernel
theorem dX8_even_62 : decode cX8_even 62 = .ok (.iload 5, 2) := by decide +kernel
theorem dX8_even_64 : decode cX8_even 64 = .ok (.iadd, 1) := by decide +kernel
theorem dX8_even_65 : decode cX8_even 65 = .ok (.iaload, 1) := by decide +kernel
theorem dX8_even_66 : decode cX8_even 66 = .ok (.iload 6, 2) := by decide +kernel
theorem dX8_even_68 : decode cX8_even 68 = .ok (.iadd, 1) := by decide +kernel
theorem dX8_even_69 : decode cX8_even 69 = .ok (.istore 7, 2) := by decide +kernel
theorem dX8_even_71 : decode cX8_even 71 = .ok (.aload_n 0, 1) := by decide +kernel
theorem dX8_even_72 : decode cX8_even 72 = .ok (.iload 5, 2) := by decide +kernel
theorem dX8_even_74 : decode cX8_even 74 = .ok (.invokevirtual 212, 3) := by decide +kernel
theorem dX8_even_77 : decode cX8_even 77 = .ok (.ifCond .eq 49, 3) := by decide +kernel
theorem dX8_even_80 : decode cX8_even 80 = .ok (.aload_n 0, 1) := by decide +kernel
theorem dX8_even_81 : decode cX8_even 81 = .ok (.iload 7, 2) := by decide +kernel
theorem dX8_even_83 : decode cX8_even 83 = .ok (.iconst 1, 1) := by decide +kernel
theorem dX8_even_84 : decode cX8_even 84 = .ok (.bipush 40, 2) := by decide +kernel
theorem dX8_even_86 : decode cX8_even 86 = .ok (.invokevirtual 137, 3) := by decide +kernel
theorem dX8_even_89 : decode cX8_even 89 = .ok (.ifCond .eq 37, 3) := by decide +kernel
theorem dX8_even_92 : decode cX8_even 92 = .ok (.aload_n 0, 1) := by decide +kernel
theorem dX8_even_93 : decode cX8_even 93 = .ok (.iload 5, 2) := by decide +kernel
theorem dX8_even_95 : decode cX8_even 95 = .ok (.iload 7, 2) := by decide +kernel
theorem dX8_even_97 : decode cX8_even 97 = .ok (.invokevirtual 235, 3) := by decide +kernel
theorem dX8_even_100 : decode cX8_even 100 = .ok (.aload_n 0, 1) := by decide +kernel
theorem dX8_even_101 : decode cX8_even 101 = .ok (.aload_n 0, 1) := by decide +kernel
theorem dX8_even_102 : decode cX8_even 102 = .ok (.getfield 46, 3) := by decide +kernel
theorem dX8_even_105 : decode cX8_even 105 = .ok (.invokevirtual 219, 3) := by decide +kernel
theorem dX8_even_108 : decode cX8_even 108 = .ok (.istore 8, 2) := by decide +kernel
theorem dX8_even_110 : decode cX8_even 110 = .ok (.iload 8, 2) := by decide +kernel
theorem dX8_even_112 : decode cX8_even 112 = .ok (.iload_n 2, 1) := by decide +kernel
theorem dX8_even_113 : decode cX8_even 113 = .ok (.if_icmp .ge 13, 3) := by decide +kernel
theorem dX8_even_116 : decode cX8_even 116 = .ok (.iload 8, 2) := by decide +kernel
theorem dX8_even_118 : decode cX8_even 118 = .ok (.istore_n 2, 1) := by decide +kernel
theorem dX8_even_119 : decode cX8_even 119 = .ok (.iload 5, 2) := by decide +kernel
theorem dX8_even_121 : decode cX8_even 121 = .ok (.istore_n 3, 1) := by decide +kernel
theorem dX8_even_122 : decode cX8_even 122 = .ok (.iload 7, 2) := by decide +kernel
theorem dX8_even_124 : decode cX8_even 124 = .ok (.istore 4, 2) := by decide +kernel
theorem dX8_even_126 : decode cX8_even 126 = .ok (.iinc 6 (-2), 3) := by decide +kernel
theorem dX8_even_129 : decode cX8_even 129 = .ok (.goto (-79), 3) := by decide +kernel
theorem dX8_even_132 : decode cX8_even 132 = .ok (.iinc 5 1, 3) := by decide +kernel
theorem dX8_even_135 : decode cX8_even 135 = .ok (.goto (-104), 3) := by decide +kernel
theorem dX8_even_138 : decode cX8_even 138 = .ok (.iload_n 3, 1) := by decide +kernel
theorem dX8_even_139 : decode cX8_even 139 = .ok (.ifCond .ge 8, 3) := by decide +kernel
theorem dX8_even_142 : decode cX8_even 142 = .ok (.bipush (-4), 2) := by decide +kernel
theorem dX8_even_144 : decode cX8_even 144 = .ok (.goto 22, 3) := by decide +kernel
theorem dX8_even_147 : decode cX8_even 147 = .ok (.iload_n 1, 1) := by decide +kernel
theorem dX8_even_148 : decode cX8_even 148 = .ok (.ifCond .ne 7, 3) := by decide +kernel
theorem dX8_even_151 : decode cX8_even 151 = .ok (.iload_n 3, 1) := by decide +kernel
theorem dX8_even_152 : decode cX8_even 152 = .ok (.goto 14, 3) := by decide +kernel
theorem dX8_even_155 : decode cX8_even 155 = .ok (.iload_n 1, 1) := by decide +kernel
theorem dX8_even_156 : decode cX8_even 156 = .ok (.iconst 1, 1) := by decide +kernel
theorem dX8_even_157 : decode cX8_even 157 = .ok (.if_icmp .ne 8, 3) := by decide +kernel
theorem dX8_even_160 : decode cX8_even 160 = .ok (.iload 4, 2) := by decide +kernel
theorem dX8_even_162 : decode cX8_even 162 = .ok (.goto 4, 3) := by decide +kernel
theorem dX8_even_165 : decode cX8_even 165 = .ok (.iload_n 2, 1) := by decide +kernel
theorem dX8_even_166 : decode cX8_even 166 = .ok (.ireturn, 1) := by decide +kernel
set_option maxHeartbeats 4000000 in
set_option maxRecDepth 20000 in
theorem c_X8_even : ConI mX8_even (fun args N lay r h Q => ∃ (b : Nat) (mp : Int → Int) (p : Int), args = [.ref b, vI p] ∧ MdAt lay r b ∧ h (b + 2) = mp ∧ TrM mp ∧ RlM mp ∧ (-2147483648 ≤ p ∧ p < 2147483648) ∧ WaT (h (b + 7)) ∧ (¬ (0 ≤ p ∧ p ≤ 2) → Q (-1) N lay r h) ∧ ((0 ≤ p ∧ p ≤ 2) → ∀ h2, Fr h h2 (fun x => x = b + 13 ∨ x = b + 8 ∨ x = b + 9 ∨ x = b + 10 ∨ x = b + 11) → ((evk mp (spr mp (h (b + 12))) (mp 130).toNat).2.1 < 0 → Q (-4) N lay r h2) ∧ (0 ≤ (evk mp (spr mp (h (b + 12))) (mp 130).toNat).2.1 → (p = 0 → Q (evk mp (spr mp (h (b + 12))) (mp 130).toNat).2.1 N lay r h2) ∧ (p = 1 → Q (evk mp (spr mp (h (b + 12))) (mp 130).toNat).2.2 N lay r h2) ∧ (p = 2 → Q (evk mp (spr mp (h (b + 12))) (mp 130).toNat).1 N lay r h2)))) := by
  refine ConI.of (by decide) (by rintro _ N lay r h Q ⟨b, mp, p, rfl, hM, hmp, hT, hR, hp, hwa, hB, hQ⟩; exact ⟨rfl, Nat.le_of_ble_eq_true rfl⟩) ?_
  rintro E _ N lay r h Q ⟨b, mp, p, rfl, hM, hmp, hT, hR, hp, hwa, hB, hQ⟩ hret
  obtain ⟨ml0, ml1, ml2, ml3, ml4, ml5, ml6, ml7, ml8, ml9, ml10, ml11, ml12, ml13, ml14, ml15, ml16, ml17, ml18, ml19, ml20, mr1, mr2, mr3, mr4, mr5, mr6, mr7, mr8, mr9, mr10, mr11, mr12, mr13, mr14, mr15, mr16, mr17, mr18, mr19, mr20⟩ := id hM
  obtain ⟨t1, t2, t3, t4, t5, t6, t7⟩ := id hT
  obtain ⟨r1, r2, r3, r4, r5, r6, r7⟩ := id hR
  show St E mX8_even 0 [some (.ref b), some (vI p), none, none, none, none, none, none, none] [] (0, 0) N lay r h
  have stp : ∀ (d u l be y : Int) (hk : HpT) (x7 x8 : Option Value), (10 ≤ d ∧ d < 10 + mp 130) → (u = 1 ∨ u = -1) → (-2147483648 ≤ l ∧ l < 2147483648) → Fr h hk (fun x => x = b + 13 ∨ x = b + 8 ∨ x = b + 9 ∨ x = b + 10 ∨ x = b + 11) → (∀ (h3 : HpT) (x7 x8 : Option Value), Fr h h3 (fun x => x = b + 13 ∨ x = b + 8 ∨ x = b + 9 ∨ x = b + 10 ∨ x = b + 11) → St E mX8_even 50 [some (.ref b), some (vI p), some (vI (ev1 mp d (mp (22 + d) + u) (l, be, y)).1), some (vI (ev1 mp d (mp (22 + d) + u) (l, be, y)).2.1), some (vI (ev1 mp d (mp (22 + d) + u) (l, be, y)).2.2), some (vI d), some (vI (u + -2)), x7, x8] [] (0, 0) N lay r h3) → St E mX8_even 50 [some (.ref b), some (vI p), some (vI l), some (vI be), some (vI y), some (vI d), some (vI u), x7, x8] [] (0, 0) N lay r hk := by
    intro d u l be y hk x7 x8 hd hu hl hf K
    have em : hk (b + 2) = mp := (hf _ (by omega)).trans hmp
    have hwa2 : WaT (hk (b + 7)) := by rw [hf _ (by omega)]; exact hwa
    have q7 := t7 d (by omega) (by omega)
    refine r_iload_6 (pc := 50) dX8_even_50 ?_
    refine r_iconst (pc := 52) dX8_even_52 ?_
    refine r_icmp_lt (pc := 53) (tgt := 132) dX8_even_53 (by decide) (by omega) (by omega) (fun c_53 => ?_) (fun c_53 => ?_)
    · exfalso
      omega
    · refine r_aload_0 (pc := 56) dX8_even_56 ?_
      refine gf_X8_13 (pc := 57) rfl (by assumption) dX8_even_57 (by assumption) ?_
      refine r_bipush (pc := 60) dX8_even_60 (by decide) ?_
      refine r_iload_5 (pc := 62) dX8_even_62 ?_
      refine r_iadd (pc := 64) dX8_even_64 ?_
      refine r_ialdE (pc := 65) (by assumption) (by first | assumption | exact rfl) dX8_even_65 (by omega) (by omega) (fun i_65 => ?_)
      refine r_iload_6 (pc := 66) dX8_even_66 ?_
      refine r_iadd (pc := 68) dX8_even_68 ?_
      refine r_istore_7 (pc := 69) dX8_even_69 rfl ?_
      refine r_aload_0 (pc := 71) dX8_even_71 ?_
      refine r_iload_5 (pc := 72) dX8_even_72 ?_
      skip
      refine k_VI1 (pc := 74) c_X8_takesPart lk_X8_212 ⟨Nat.le_of_ble_eq_true rfl, Nat.le_of_ble_eq_true rfl⟩ ⟨rfl, rfl⟩ ⟨Nat.le_of_ble_eq_true rfl, Nat.le_of_ble_eq_true rfl⟩ (k := 8) rfl (by decide) (by assumption) dX8_even_74 (Nat.le_of_ble_eq_true rfl) ?_
      refine ⟨_, _, _, rfl, by assumption, by first | assumption | exact rfl, by omega, ?_⟩
      refine r_ifeq_b (pc := 77) (tgt := 126) dX8_even_77 (by decide) (fun c_77 => ?_) (fun c_77 => ?_)
      · refine r_iinc_6 (pc := 126) dX8_even_126 rfl ?_
        refine r_goto (pc := 129) (tgt := 50) dX8_even_129 (by decide) ?_
        first
        | (have e9 : (ev1 mp d (mp (22 + d) + u) (l, be, y)) = (l, be, y) := if_neg (fun z => c_77 z.1)
           rw [e9] at K
           exact K hk _ _ hf)
        | (have e9 : (ev1 mp d (mp (22 + d) + u) (l, be, y)) = (l, be, y) := if_neg (fun z => c_89 z.2.1)
           rw [e9] at K
           exact K hk _ _ hf)
        | (have e9 : (ev1 mp d (mp (22 + d) + u) (l, be, y)) = (l, be, y) := if_neg (fun z => by have := z.2.2; dsimp only at this; omega)
           rw [e9] at K
           exact K h_97 _ _ (fun x hx => (f_97 x (by omega)).trans (hf x hx)))
        | (have e9 : (ev1 mp d (mp (22 + d) + u) (l, be, y)) = (spr mp (plr (up mp (22 + d) (mp (22 + d) + u))), d, mp (22 + d) + u) := if_pos ⟨c_77, c_89, c_113⟩
           rw [e9] at K
           exact K h_97 _ _ (fun x hx => (f_97 x (by omega)).trans (hf x hx)))
      · refine r_aload_0 (pc := 80) dX8_even_80 ?_
        refine r_iload_7 (pc := 81) dX8_even_81 ?_
        refine r_iconst (pc := 83) dX8_even_83 ?_
        refine r_bipush (pc := 84) dX8_even_84 (by decide) ?_
        refine k_VI3 (pc := 86) c_X8_isIn lk_X8_137 ⟨Nat.le_of_ble_eq_true rfl, Nat.le_of_ble_eq_true rfl⟩ ⟨rfl, rfl⟩ ⟨Nat.le_of_ble_eq_true rfl, Nat.le_of_ble_eq_true rfl⟩ (k := 8) rfl (by decide) (by assumption) dX8_even_86 (Nat.le_of_ble_eq_true rfl) ?_
        refine ⟨_, _, _, _, rfl, by omega, by omega, by omega, ?_⟩
        refine r_ifeq_b (pc := 89) (tgt := 126) dX8_even_89 (by decide) (fun c_89 => ?_) (fun c_89 => ?_)
        · refine r_iinc_6 (pc := 126) dX8_even_126 rfl ?_
          refine r_goto (pc := 129) (tgt := 50) dX8_even_129 (by decide) ?_
          first
          | (have e9 : (ev1 mp d (mp (22 + d) + u) (l, be, y)) = (l, be, y) := if_neg (fun z => c_77 z.1)
             rw [e9] at K
             exact K hk _ _ hf)
          | (have e9 : (ev1 mp d (mp (22 + d) + u) (l, be, y)) = (l, be, y) := if_neg (fun z => c_89 z.2.1)
             rw [e9] at K
             exact K hk _ _ hf)
          | (have e9 : (ev1 mp d (mp (22 + d) + u) (l, be, y)) = (l, be, y) := if_neg (fun z => by have := z.2.2; dsimp only at this; omega)
             rw [e9] at K
             exact K h_97 _ _ (fun x hx => (f_97 x (by omega)).trans (hf x hx)))
          | (have e9 : (ev1 mp d (mp (22 + d) + u) (l, be, y)) = (spr mp (plr (up mp (22 + d) (mp (22 + d) + u))), d, mp (22 + d) + u) := if_pos ⟨c_77, c_89, c_113⟩
             rw [e9] at K
             exact K h_97 _ _ (fun x hx => (f_97 x (by omega)).trans (hf x hx)))
        · refine r_aload_0 (pc := 92) dX8_even_92 ?_
          refine r_iload_5 (pc := 93) dX8_even_93 ?_
          refine r_iload_7 (pc := 95) dX8_even_95 ?_
          refine k_VV2 (pc := 97) c_X8_placesIf lk_X8_235 ⟨Nat.le_of_ble_eq_true rfl, Nat.le_of_ble_eq_true rfl⟩ ⟨rfl, rfl⟩ ⟨Nat.le_of_ble_eq_true rfl, Nat.le_of_ble_eq_true rfl⟩ (k := 8) rfl (by decide) (by assumption) dX8_even_97 (Nat.le_of_ble_eq_true rfl) ?_
          refine ⟨_, _, _, _, rfl, by assumption, by first | assumption | exact rfl, by assumption, by assumption, by assumption, by omega, by omega, fun h_97 f_97 a_97 => ?_⟩
          have m_97 : h_97 (b + 2) = mp := (f_97 _ (by omega)).trans (by assumption)
          refine r_aload_0 (pc := 100) dX8_even_100 ?_
          refine r_aload_0 (pc := 101) dX8_even_101 ?_
          refine gf_X8_46 (pc := 102) rfl (by assumption) dX8_even_102 (by assumption) ?_
          skip
          refine k_VI1 (pc := 105) c_X8_spreadOf lk_X8_219 ⟨Nat.le_of_ble_eq_true rfl, Nat.le_of_ble_eq_true rfl⟩ ⟨rfl, rfl⟩ ⟨Nat.le_of_ble_eq_true rfl, Nat.le_of_ble_eq_true rfl⟩ (k := 8) rfl (by decide) (by assumption) dX8_even_105 (Nat.le_of_ble_eq_true rfl) ?_
          refine ⟨_, _, _, rfl, by assumption, by first | assumption | exact rfl, by omega, by assumption, ?_⟩
          refine r_istore_8 (pc := 108) dX8_even_108 rfl ?_
          rw [show spr mp (h_97 (b + 13)) = spr mp (plr (up mp (22 + d) (mp (22 + d) + u))) from spr_c a_97]
          have sr := spr_r mp (plr (up mp (22 + d) (mp (22 + d) + u)))
          refine r_iload_8 (pc := 110) dX8_even_110 ?_
          refine r_iload_2 (pc := 112) dX8_even_112 ?_
          refine r_icmp_ge (pc := 113) (tgt := 126) dX8_even_113 (by decide) (by omega) (by omega) (fun c_113 => ?_) (fun c_113 => ?_)
          · refine r_iinc_6 (pc := 126) dX8_even_126 rfl ?_
            refine r_goto (pc := 129) (tgt := 50) dX8_even_129 (by decide) ?_
            first
            | (have e9 : (ev1 mp d (mp (22 + d) + u) (l, be, y)) = (l, be, y) := if_neg (fun z => c_77 z.1)
               rw [e9] at K
               exact K hk _ _ hf)
            | (have e9 : (ev1 mp d (mp (22 + d) + u) (l, be, y)) = (l, be, y) := if_neg (fun z => c_89 z.2.1)
               rw [e9] at K
               exact K hk _ _ hf)
            | (have e9 : (ev1 mp d (mp (22 + d) + u) (l, be, y)) = (l, be, y) := if_neg (fun z => by have := z.2.2; dsimp only at this; omega)
               rw [e9] at K
               exact K h_97 _ _ (fun x hx => (f_97 x (by omega)).trans (hf x hx)))
            | (have e9 : (ev1 mp d (mp (22 + d) + u) (l, be, y)) = (spr mp (plr (up mp (22 + d) (mp (22 + d) + u))), d, mp (22 + d) + u) := if_pos ⟨c_77, c_89, c_113⟩
               rw [e9] at K
               exact K h_97 _ _ (fun x hx => (f_97 x (by omega)).trans (hf x hx)))
          · refine r_iload_8 (pc := 116) dX8_even_116 ?_
            refine r_istore_2 (pc := 118) dX8_even_118 rfl ?_
            refine r_iload_5 (pc := 119) dX8_even_119 ?_
            refine r_istore_3 (pc := 121) dX8_even_121 rfl ?_
            refine r_iload_7 (pc := 122) dX8_even_122 ?_
            refine r_istore_4 (pc := 124) dX8_even_124 rfl ?_
            refine r_iinc_6 (pc := 126) dX8_even_126 rfl ?_
            refine r_goto (pc := 129) (tgt := 50) dX8_even_129 (by decide) ?_
            first
            | (have e9 : (ev1 mp d (mp (22 + d) + u) (l, be, y)) = (l, be, y) := if_neg (fun z => c_77 z.1)
               rw [e9] at K
               exact K hk _ _ hf)
            | (have e9 : (ev1 mp d (mp (22 + d) + u) (l, be, y)) = (l, be, y) := if_neg (fun z => c_89 z.2.1)
               rw [e9] at K
               exact K hk _ _ hf)
            | (have e9 : (ev1 mp d (mp (22 + d) + u) (l, be, y)) = (l, be, y) := if_neg (fun z => by have := z.2.2; dsimp only at this; omega)
               rw [e9] at K
               exact K h_97 _ _ (fun x hx => (f_97 x (by omega)).trans (hf x hx)))
            | (have e9 : (ev1 mp d (mp (22 + d) + u) (l, be, y)) = (spr mp (plr (up mp (22 + d) (mp (22 + d) + u))), d, mp (22 + d) + u) := if_pos ⟨c_77, c_89, c_113⟩
               rw [e9] at K
               exact K h_97 _ _ (fun x hx => (f_97 x (by omega)).trans (hf x hx)))
  have lp : ∀ (hc0 : 0 ≤ p ∧ p ≤ 2) (n_ : Nat) (d : Int) (l : Int) (be : Int) (y : Int) (hk : HpT) (x6 : Option Value) (x7 : Option Value) (x8 : Option Value), (22 - d).toNat = n_ → (10 ≤ d ∧ d ≤ 10 + mp 130) → (Fr h hk (fun x => x = b + 13 ∨ x = b + 8 ∨ x = b + 9 ∨ x = b + 10 ∨ x = b + 11)) → (l = (evk mp (spr mp (h (b + 12))) (d - 10).toNat).1) → (be = (evk mp (spr mp (h (b + 12))) (d - 10).toNat).2.1) → (y = (evk mp (spr mp (h (b + 12))) (d - 10).toNat).2.2) → St E mX8_even 31 [some (.ref b), some (vI p), some (vI l), some (vI be), some (vI y), some (vI d), x6, x7, x8] [] (0, 0) N lay r hk := by
    intro hc0 n_
    induction n_ using Nat.strongRecOn with
    | ind n_ ih =>
      intro d l be y hk x6 x7 x8 hn_ hd hf h1 h2 h3
      obtain ⟨k, rfl⟩ : ∃ k : Nat, d = 10 + k := ⟨(d - 10).toNat, by omega⟩
      rw [show (10 + (k : Int) - 10).toNat = k by omega] at h1 h2 h3
      have em : hk (b + 2) = mp := (hf _ (by omega)).trans hmp
      have er := evk_r mp (spr mp (h (b + 12))) (spr_r _ _) k
      have lr : -2147483648 ≤ l ∧ l < 2147483648 := by rw [h1]; exact (er (by omega)).1
      have br : -4 ≤ be ∧ be < 22 := by rw [h2]; exact (er (by omega)).2
      have e1 : evk mp (spr mp (h (b + 12))) (k + 1) = ev1 mp (10 + k) (mp (22 + (10 + k)) + -1) (ev1 mp (10 + k) (mp (22 + (10 + k)) + 1) (l, be, y)) := by
        have : (evk mp (spr mp (h (b + 12))) k) = (l, be, y) := by rw [h1, h2, h3]
        simp only [evk]
        rw [this]
      refine r_iload_5 (pc := 31) dX8_even_31 ?_
      refine r_bipush (pc := 33) dX8_even_33 (by decide) ?_
      refine r_aload_0 (pc := 35) dX8_even_35 ?_
      refine gf_X8_13 (pc := 36) rfl (by assumption) dX8_even_36 (by assumption) ?_
      refine r_sipush (pc := 39) dX8_even_39 (by decide) ?_
      refine r_ialdE (pc := 42) (by assumption) (by first | assumption | exact rfl) dX8_even_42 (by omega) (by omega) (fun i_42 => ?_)
      refine r_iadd (pc := 43) dX8_even_43 ?_
      refine r_icmp_ge (pc := 44) (tgt := 138) dX8_even_44 (by decide) (by omega) (by omega) (fun c_44 => ?_) (fun c_44 => ?_)
      · refine r_iload_3 (pc := 138) dX8_even_138 ?_
        refine r_if_ge (pc := 139) (tgt := 147) dX8_even_139 (by decide) (by omega) (fun c_139 => ?_) (fun c_139 => ?_)
        · refine r_iload_1 (pc := 147) dX8_even_147 ?_
          refine r_if_ne (pc := 148) (tgt := 155) dX8_even_148 (by decide) (by omega) (fun c_148 => ?_) (fun c_148 => ?_)
          · refine r_iload_1 (pc := 155) dX8_even_155 ?_
            refine r_iconst (pc := 156) dX8_even_156 ?_
            refine r_icmp_ne (pc := 157) (tgt := 165) dX8_even_157 (by decide) (by omega) (by omega) (fun c_157 => ?_) (fun c_157 => ?_)
            · refine r_iload_2 (pc := 165) dX8_even_165 ?_
              refine r_iret (pc := 166) hret dX8_even_166 rfl rfl rfl ?_
              have hk9 : (k : Int) = mp 130 := by omega
              have z := hQ hc0 hk hf
              rw [← hk9, show ((k : Int)).toNat = k by omega, ← h1, ← h2, ← h3] at z
              first | exact z.1 (by omega) | exact (z.2 (by omega)).1 (by omega) | exact (z.2 (by omega)).2.1 (by omega) | exact (z.2 (by omega)).2.2 (by omega)
            · refine r_iload_4 (pc := 160) dX8_even_160 ?_
              refine r_goto (pc := 162) (tgt := 166) dX8_even_162 (by decide) ?_
              refine r_iret (pc := 166) hret dX8_even_166 rfl rfl rfl ?_
              have hk9 : (k : Int) = mp 130 := by omega
              have z := hQ hc0 hk hf
              rw [← hk9, show ((k : Int)).toNat = k by omega, ← h1, ← h2, ← h3] at z
              first | exact z.1 (by omega) | exact (z.2 (by omega)).1 (by omega) | exact (z.2 (by omega)).2.1 (by omega) | exact (z.2 (by omega)).2.2 (by omega)
          · refine r_iload_3 (pc := 151) dX8_even_151 ?_
            refine r_goto (pc := 152) (tgt := 166) dX8_even_152 (by decide) ?_
            refine r_iret (pc := 166) hret dX8_even_166 rfl rfl rfl ?_
            have hk9 : (k : Int) = mp 130 := by omega
            have z := hQ hc0 hk hf
            rw [← hk9, show ((k : Int)).toNat = k by omega, ← h1, ← h2, ← h3] at z
            first | exact z.1 (by omega) | exact (z.2 (by omega)).1 (by omega) | exact (z.2 (by omega)).2.1 (by omega) | exact (z.2 (by omega)).2.2 (by omega)
        · refine r_bipush (pc := 142) dX8_even_142 (by decide) ?_
          refine r_goto (pc := 144) (tgt := 166) dX8_even_144 (by decide) ?_
          refine r_iret (pc := 166) hret dX8_even_166 rfl rfl rfl ?_
          have hk9 : (k : Int) = mp 130 := by omega
          have z := hQ hc0 hk hf
          rw [← hk9, show ((k : Int)).toNat = k by omega, ← h1, ← h2, ← h3] at z
          first | exact z.1 (by omega) | exact (z.2 (by omega)).1 (by omega) | exact (z.2 (by omega)).2.1 (by omega) | exact (z.2 (by omega)).2.2 (by omega)
      · refine r_iconst (pc := 47) dX8_even_47 ?_
        refine r_istore_6 (pc := 48) dX8_even_48 rfl ?_
        have e1r := ev1_r (mp := mp) (d := 10 + k) (w := mp (22 + (10 + k)) + 1) (s := (l, be, y)) lr br (by omega)
        refine stp (10 + k) 1 l be y hk _ _ (by omega) (Or.inl rfl) lr hf (fun h3 y7 y8 f3 => ?_)
        refine stp (10 + k) (-1) _ _ _ h3 _ _ (by omega) (Or.inr rfl) e1r.1 f3 (fun h4 z7 z8 f4 => ?_)
        refine r_iload_6 (pc := 50) dX8_even_50 ?_
        refine r_iconst (pc := 52) dX8_even_52 ?_
        refine r_icmp_lt (pc := 53) (tgt := 132) dX8_even_53 (by decide) (by omega) (by omega) (fun c_53 => ?_) (fun c_53 => ?_)
        · refine r_iinc_5 (pc := 132) dX8_even_132 rfl ?_
          refine r_goto (pc := 135) (tgt := 31) dX8_even_135 (by decide) ?_
          refine ih _ (by omega) (10 + (k : Int) + 1) _ _ _ h4 _ _ _ rfl (by omega) f4 ?_ ?_ ?_
          · rw [show (10 + (k : Int) + 1 - 10).toNat = k + 1 by omega, e1]
          · rw [show (10 + (k : Int) + 1 - 10).toNat = k + 1 by omega, e1]
          · rw [show (10 + (k : Int) + 1 - 10).toNat = k + 1 by omega, e1]
        · exfalso
          omega
  refine r_aload_0 (pc := 0) dX8_even_0 ?_
  refine r_iload_1 (pc := 1) dX8_even_1 ?_
  refine r_iconst (pc := 2) dX8_even_2 ?_
  refine r_iconst (pc := 3) dX8_even_3 ?_
  refine k_VI3 (pc := 4) c_X8_isIn lk_X8_137 ⟨Nat.le_of_ble_eq_true rfl, Nat.le_of_ble_eq_true rfl⟩ ⟨rfl, rfl⟩ ⟨Nat.le_of_ble_eq_true rfl, Nat.le_of_ble_eq_true rfl⟩ (k := 8) rfl (by decide) (by assumption) dX8_even_4 (Nat.le_of_ble_eq_true rfl) ?_
  refine ⟨_, _, _, _, rfl, by omega, by omega, by omega, ?_⟩
  refine r_ifne_b (pc := 7) (tgt := 12) dX8_even_7 (by decide) (fun c_7 => ?_) (fun c_7 => ?_)
  · refine r_aload_0 (pc := 12) dX8_even_12 ?_
    refine r_aload_0 (pc := 13) dX8_even_13 ?_
    refine gf_X8_43 (pc := 14) rfl (by assumption) dX8_even_14 (by assumption) ?_
    refine k_VI1 (pc := 17) c_X8_spreadOf lk_X8_219 ⟨Nat.le_of_ble_eq_true rfl, Nat.le_of_ble_eq_true rfl⟩ ⟨rfl, rfl⟩ ⟨Nat.le_of_ble_eq_true rfl, Nat.le_of_ble_eq_true rfl⟩ (k := 8) rfl (by decide) (by assumption) dX8_even_17 (Nat.le_of_ble_eq_true rfl) ?_
    refine ⟨_, _, _, rfl, by assumption, by first | assumption | exact rfl, by omega, by assumption, ?_⟩
    refine r_istore_2 (pc := 20) dX8_even_20 rfl ?_
    refine r_bipush (pc := 21) dX8_even_21 (by decide) ?_
    refine r_istore_3 (pc := 23) dX8_even_23 rfl ?_
    refine r_iconst (pc := 24) dX8_even_24 ?_
    refine r_istore_4 (pc := 25) dX8_even_25 rfl ?_
    refine r_bipush (pc := 27) dX8_even_27 (by decide) ?_
    refine r_istore_5 (pc := 29) dX8_even_29 rfl ?_
    exact lp c_7 _ 10 _ (-4) 0 h _ _ _ rfl (by omega) (fun _ _ => rfl) rfl rfl rfl
  · refine r_iconst (pc := 10) dX8_even_10 ?_
    refine r_iret (pc := 11) hret dX8_even_11 rfl rfl rfl ?_
    first | exact hB (by omega) | exact hQ (by omega)

