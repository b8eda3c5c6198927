/-! THE REFERENCE: would, since -/
def wdF (mp now t : Int → Int) (p d g : Int) : Int → Int := fun c => bI (0 ≤ t (4 * g + c) ∧ ¬ hasB now g (t (4 * g + c)) = true ∧ (p = 0 ∨ (p = 1 ∧ t (4 * g + c) = d) ∨ (p = 2 ∧ bel mp (t (4 * g + c)) (mp (mp d)))))
def wd (mp now t : Int → Int) (p d : Int) : Int := sm (fun g => sm (wdF mp now t p d g) 4) 16
theorem wd_c {mp now t t' : Int → Int} {p d : Int} (h : ∀ j, 0 ≤ j → j < 64 → t j = t' j) : wd mp now t p d = wd mp now t' p d := by
  unfold wd
  refine sm_c (fun g hg => sm_c (fun c hc => ?_))
  unfold wdF
  rw [h (4 * g + c) (by omega) (by omega)]
theorem plr_r {mp : Int → Int} (hT : TrM mp) (hR : RlM mp) (j : Int) : plr mp j = -4 ∨ (10 ≤ plr mp j ∧ plr mp j < 10 + mp 130) := dvk_I hR (co0_I hT hR (j / 4)) (mp 135).toNat (by have := hR.2.2.2.2.1; omega) (j % 4)
theorem dX8_would_0 : decode cX8_would 0 = .ok (.aload_n 0, 1) := by decide +kernel
theorem dX8_would_1 : decode cX8_would 1 = .ok (.iload_n 1, 1) := by decide +kernel
theorem dX8_would_2 : decode cX8_would 2 = .ok (.invokevirtual 147, 3) := by decide +kernel
theorem dX8_would_5 : decode cX8_would 5 = .ok (.ifCond .eq 24, 3) := by decide +kernel
theorem dX8_would_8 : decode cX8_would 8 = .ok (.aload_n 0, 1) := by decide +kernel
theorem dX8_would_9 : decode cX8_would 9 = .ok (.iload_n 2, 1) := by decide +kernel
theorem dX8_would_10 : decode cX8_would 10 = .ok (.iconst 0, 1) := by decide +kernel
theorem dX8_would_11 : decode cX8_would 11 = .ok (.bipush 40, 2) := by decide +kernel
theorem dX8_would_13 : decode cX8_would 13 = .ok (.invokevirtual 137, 3) := by decide +kernel
theorem dX8_would_16 : decode cX8_would 16 = .ok (.ifCond .eq 13, 3) := by decide +kernel
theorem dX8_would_19 : decode cX8_would 19 = .ok (.aload_n 0, 1) := by decide +kernel
theorem dX8_would_20 : decode cX8_would 20 = .ok (.iload_n 3, 1) := by decide +kernel
theorem dX8_would_21 : decode cX8_would 21 = .ok (.iconst 0, 1) := by decide +kernel
theorem dX8_would_22 : decode cX8_would 22 = .ok (.iconst 2, 1) := by decide +kernel
theorem dX8_would_23 : decode cX8_would 23 = .ok (.invokevirtual 137, 3) := by decide +kernel
theorem dX8_would_26 : decode cX8_would 26 = .ok (.ifCond .ne 5, 3) := by decide +kernel
theorem dX8_would_29 : decode cX8_would 29 = .ok (.iconst (-1), 1) := by decide +kernel
theorem dX8_would_30 : decode cX8_would 30 = .ok (.ireturn, 1) := by decide +kernel
theorem dX8_would_31 : decode cX8_would 31 = .ok (.aload_n 0, 1) := by decide +kernel
theorem dX8_would_32 : decode cX8_would 32 = .ok (.iload_n 1, 1) := by decide +kernel
theorem dX8_would_33 : decode cX8_would 33 = .ok (.iload_n 2, 1) := by decide +kernel
theorem dX8_would_34 : decode cX8_would 34 = .ok (.invokevirtual 235, 3) := by decide +kernel
theorem dX8_would_37 : decode cX8_would 37 = .ok (.aload_n 0, 1) := by decide +kernel
theorem dX8_would_38 : decode cX8_would 38 = .ok (.getfield 13, 3) := by decide +kernel
theorem dX8_would_41 : decode cX8_would 41 = .ok (.aload_n 0, 1) := by decide +kernel
theorem dX8_would_42 : decode cX8_would 42 = .ok (.getfield 13, 3) := by decide +kernel
theorem dX8_would_45 : decode cX8_would 45 = .ok (.iload_n 1, 1) := by decide +kernel
theorem dX8_would_46 : decode cX8_would 46 = .ok (.iaload, 1) := by decide +kernel
theorem dX8_would_47 : decode cX8_would 47 = .ok (.iaload, 1) := by decide +kernel
theorem dX8_would_48 : decode cX8_would 48 = .ok (.istore 4, 2) := by decide +kernel
theorem dX8_would_50 : decode cX8_would 50 = .ok (.iconst 0, 1) := by decide +kernel
theorem dX8_would_51 : decode cX8_would 51 = .ok (.istore 5, 2) := by decide +kernel
theorem dX8_would_53 : decode cX8_would 53 = .ok (.iconst 0, 1) := by decide +kernel
theorem dX8_would_54 : decode cX8_would 54 = .ok (.istore 6, 2) := by decide +kernel
theorem dX8_would_56 : decode cX8_would 56 = .ok (.iload 6, 2) := by decide +kernel
theorem dX8_would_58 : decode cX8_would 58 = .ok (.bipush 16, 2) := by decide +kernel
theorem dX8_would_60 : decode cX8_would 60 = .ok (.if_icmp .ge 96, 3) := by decide +kernel
theorem dX8_would_63 : decode cX8_would 63 = .ok (.iconst 0, 1) := by decide +kernel
theorem dX8_would_64 : decode cX8_would 64 = .ok (.istore 7, 2) := by decide +kernel
theorem dX8_would_66 : decode cX8_would 66 = .ok (.iload 7, 2) := by decide +kernel
theorem dX8_would_68 : decode cX8_would 68 = .ok (.iconst 4, 1) := by decide +kernel
theorem dX8_would_69 : decode cX8_would 69 = .ok (.if_icmp .ge 81, 3) := by decide +kernel
theorem dX8_would_72 : decode cX8_would 72 = .ok (.aload_n 0, 1) := by decide +kernel
theorem dX8_would_73 : decode cX8_would 73 = .ok (.getfield 46, 3) := by decide +kernel
theorem dX8_would_76 : decode cX8_would 76 = .ok (.iconst 4, 1) := by decide +kernel
theorem dX8_would_77 : decode cX8_would 77 = .ok (.iload 6, 2) := by decide +kernel
theorem dX8_would_79 : decode cX8_would 79 = .ok (.imul, 1) := by decide +kernel
theorem dX8_would_80 : decode cX8_would 80 = .ok (.iload 7, 2) := by decide +kernel
theorem dX8_would_82 : decode cX8_would 82 = .ok (.iadd, 1) := by decide +kernel
theorem dX8_would_83 : decode cX8_would 83 = .ok (.iaload, 1) := by decide +kernel
theorem dX8_would_84 : decode cX8_would 84 = .ok (.istore 8, 2) := by decide +kernel
theorem dX8_would_86 : decode cX8_would 86 = .ok (.iload 8, 2) := by decide +kernel
theorem dX8_would_88 : decode cX8_would 88 = .ok (.ifCond .lt 56, 3) := by decide +kernel
theorem dX8_would_91 : decode cX8_would 91 = .ok (.aload_n 0, 1) := by decide +kernel
theorem dX8_would_92 : decode cX8_would 92 = .ok (.getfield 43, 3) := by decide +kernel
theorem dX8_would_95 : decode cX8_would 95 = .ok (.iload 6, 2) := by decide +kernel
theorem dX8_would_97 : decode cX8_would 97 = .ok (.iload 8, 2) := by decide +kernel
theorem dX8_would_99 : decode cX8_would 99 = .ok (.invokestatic 208, 3) := by decide +kernel
theorem dX8_would_102 : decode cX8_would 102 = .ok (.ifCond .ne 42, 3) := by decide +kernel
theorem dX8_would_105 : decode cX8_would 105 = .ok (.iload 5, 2) := by decide +kernel
theorem dX8_would_107 : decode cX8_would 107 = .ok (.iload_n 3, 1) := by decide +kernel
theorem dX8_would_108 : decode cX8_would 108 = .ok (.ifCond .eq 28, 3) := by decide +kernel
theorem dX8_would_111 : decode cX8_would 111 = .ok (.iload_n 3, 1) := by decide +kernel
theorem dX8_would_112 : decode cX8_would 112 = .ok (.iconst 1, 1) := by decide +kernel
theorem dX8_would_113 : decode cX8_would 113 = .ok (.if_icmp .ne 12, 3) := by decide +kernel
theorem dX8_would_116 : decode cX8_would 116 = .ok (.iload 8, 2) := by decide +kernel
theorem dX8_would_118 : decode cX8_would 118 = .ok (.iload_n 1, 1) := by decide +kernel
theorem dX8_would_119 : decode cX8_would 119 = .ok (.if_icmp .ne 21, 3) := by decide +kernel
theorem dX8_would_122 : decode cX8_would 122 = .ok (.goto 14, 3) := by decide +kernel
theorem dX8_would_125 : decode cX8_would 125 = .ok (.aload_n 0, 1) := by decide +kernel
theorem dX8_would_126 : decode cX8_would 126 = .ok (.iload 8, 2) := by decide +kernel
theorem dX8_would_128 : decode cX8_would 128 = .ok (.iload 4, 2) := by decide +kernel
theorem dX8_would_130 : decode cX8_would 130 = .ok (.invokevirtual 150, 3) := by decide +kernel
theorem dX8_would_133 : decode cX8_would 133 = .ok (.ifCond .eq 7, 3) := by decide +kernel
theorem dX8_would_136 : decode cX8_would 136 = .ok (.iconst 1, 1) := by decide +kernel
theorem dX8_would_137 : decode cX8_would 137 = .ok (.goto 4, 3) := by decide +kernel
theorem dX8_would_140 : decode cX8_would 140 = .ok (.iconst 0, 1) := by decide +kernel
theorem dX8_would_141 : decode cX8_would 141 = .ok (.iadd, 1) := by decide +kernel
theorem dX8_would_142 : decode cX8_would 142 = .ok (.istore 5, 2) := by decide +kernel
theorem dX8_would_144 : decode cX8_would 144 = .ok (.iinc 7 1, 3) := by decide +kernel
theorem dX8_would_147 : decode cX8_would 147 = .ok (.goto (-81), 3) := by decide +kernel
theorem dX8_would_150 : decode cX8_would 150 = .ok (.iinc 6 1, 3) := by decide +kernel
theorem dX8_would_153 : decode cX8_would 153 = .ok (.goto (-97), 3) := by decide +kernel
theorem dX8_would_156 : decode cX8_would 156 = .ok (.iload 5, 2) := by decide +kernel
theorem dX8_would_158 : decode cX8_would 158 = .ok (.ireturn, 1) := by decide +kernel
set_option maxHeartbeats 4000000 in
set_option maxRecDepth 20000 in
theorem c_X8_would : ConI mX8_would (fun args N lay r h Q => ∃ (b : Nat) (mp : Int → Int) (d w p : Int), args = [.ref b, vI d, vI w, vI p] ∧ MdAt lay r b ∧ h (b + 2) = mp ∧ TrM mp ∧ RlM mp ∧ (-2147483648 ≤ d ∧ d < 2147483648) ∧ (-2147483648 ≤ w ∧ w < 2147483648) ∧ (-2147483648 ≤ p ∧ p < 2147483648) ∧ WaT (h (b + 7)) ∧ (¬ ((10 ≤ d ∧ d ≤ 9 + mp 130) ∧ (0 ≤ w ∧ w ≤ 40) ∧ (0 ≤ p ∧ p ≤ 2)) → Q (-1) N lay r h) ∧ (((10 ≤ d ∧ d ≤ 9 + mp 130) ∧ (0 ≤ w ∧ w ≤ 40) ∧ (0 ≤ p ∧ p ≤ 2)) → ∀ h2, Fr h h2 (fun x => x = b + 13 ∨ x = b + 8 ∨ x = b + 9 ∨ x = b + 10 ∨ x = b + 11) → Q (wd mp (h (b + 12)) (plr (up mp (22 + d) w)) p d) N lay r h2)) := by
  refine ConI.of (by decide) (by rintro _ N lay r h Q ⟨b, mp, d, w, p, rfl, hM, hmp, hT, hR, hd, hw, hp, hwa, hB, hQ⟩; exact ⟨rfl, Nat.le_of_ble_eq_true rfl⟩) ?_
  rintro E _ N lay r h Q ⟨b, mp, d, w, p, rfl, hM, hmp, hT, hR, hd, hw, hp, hwa, hB, hQ⟩ hret
  obtain ⟨ml0, ml1, ml2, ml3, ml4, ml5, ml6, ml7, ml8, ml9, ml10, ml11, ml12, ml13, ml14, ml15, ml16, ml17, ml18, ml19, ml20, mr1, mr2, mr3, mr4, mr5, mr6, mr7, mr8, mr9, mr10, mr11, mr12, mr13, mr14, mr15, mr16, mr17, mr18, mr19, mr20⟩ := id hM
  obtain ⟨t1, t2, t3, t4, t5, t6, t7⟩ := id hT
  obtain ⟨r1, r2, r3, r4, r5, r6, r7⟩ := id hR
  show St E mX8_would 0 [some (.ref b), some (vI d), some (vI w), some (vI p), none, none, none, none, none] [] (0, 0) N lay r h
  have inn : ∀ (hk : HpT) (hf : Fr h hk (fun x => x = b + 13 ∨ x = b + 8 ∨ x = b + 9 ∨ x = b + 10 ∨ x = b + 11)) (ha : ∀ j, 0 ≤ j → j < 64 → hk (b + 13) j = plr (up mp (22 + d) w) j) (hc0 : (10 ≤ d ∧ d ≤ 9 + mp 130) ∧ (0 ≤ w ∧ w ≤ 40) ∧ (0 ≤ p ∧ p ≤ 2)) (g : Int) (s0 : Int) (hg : 0 ≤ g ∧ g < 16) (K : ∀ x8, St E mX8_would 150 [some (.ref b), some (vI d), some (vI w), some (vI p), some (vI (mp (mp d))), some (vI (s0 + sm (wdF mp (hk (b + 12)) (hk (b + 13)) p d g) 4)), some (vI g), some (vI 4), x8] [] (0, 0) N lay r hk) (n_ : Nat) (c : Int) (s : Int) (x8 : Option Value), (4 - c).toNat = n_ → (0 ≤ c ∧ c ≤ 4) → (s = s0 + sm (wdF mp (hk (b + 12)) (hk (b + 13)) p d g) c.toNat) → St E mX8_would 66 [some (.ref b), some (vI d), some (vI w), some (vI p), some (vI (mp (mp d))), some (vI s), some (vI g), some (vI c), x8] [] (0, 0) N lay r hk := by
    intro hk hf ha hc0 g s0 hg K n_
    induction n_ using Nat.strongRecOn with
    | ind n_ ih =>
      intro c s x8 hn_ hc hs
      have q6 := t6 d (by omega) (by omega)
      have q5 := t5 (mp d) (by omega) (by omega)
      have em : hk (b + 2) = mp := (hf _ (by omega)).trans hmp
      have e1 : sm (wdF mp (hk (b + 12)) (hk (b + 13)) p d g) (c + 1).toNat = sm (wdF mp (hk (b + 12)) (hk (b + 13)) p d g) c.toNat + (wdF mp (hk (b + 12)) (hk (b + 13)) p d g) c := sm_z (by omega)
      have pr := plr_r (TrM_w hT (show 10 ≤ d ∧ d < 10 + mp 130 by omega) hc0.2.1) (RlM_w (w := w) hR (show 10 ≤ d ∧ d < 22 by omega)) (4 * g + c)
      have h130 : up mp (22 + d) w 130 = mp 130 := up_n (by omega)
      rw [h130] at pr
      refine r_iload_7 (pc := 66) dX8_would_66 ?_
      refine r_iconst (pc := 68) dX8_would_68 ?_
      refine r_icmp_ge (pc := 69) (tgt := 150) dX8_would_69 (by decide) (by omega) (by omega) (fun c_69 => ?_) (fun c_69 => ?_)
      · have hc9 : c = 4 := by omega
        subst hc9
        rw [hs]
        exact K _
      · refine r_aload_0 (pc := 72) dX8_would_72 ?_
        refine gf_X8_46 (pc := 73) rfl (by assumption) dX8_would_73 (by assumption) ?_
        refine r_iconst (pc := 76) dX8_would_76 ?_
        refine r_iload_6 (pc := 77) dX8_would_77 ?_
        refine r_imul (pc := 79) dX8_would_79 ?_
        refine r_iload_7 (pc := 80) dX8_would_80 ?_
        refine r_iadd (pc := 82) dX8_would_82 ?_
        refine r_ialdE (pc := 83) (by assumption) (by first | assumption | exact rfl) dX8_would_83 (by omega) (by omega) (fun i_83 => ?_)
        refine r_istore_8 (pc := 84) dX8_would_84 rfl ?_
        refine r_iload_8 (pc := 86) dX8_would_86 ?_
        refine r_if_lt (pc := 88) (tgt := 144) dX8_would_88 (by decide) (by omega) (fun c_88 => ?_) (fun c_88 => ?_)
        · refine r_iinc_7 (pc := 144) dX8_would_144 rfl ?_
          refine r_goto (pc := 147) (tgt := 66) dX8_would_147 (by decide) ?_
          first
          | (have e9 : (wdF mp (hk (b + 12)) (hk (b + 13)) p d g) c = 0 := bI_f (fun z => by have := z.1; omega)
             exact ih _ (by omega) (c + 1) _ _ rfl (by omega) (by rw [e1, hs, e9]; omega))
          | (have e9 : (wdF mp (hk (b + 12)) (hk (b + 13)) p d g) c = 0 := bI_f (fun z => z.2.1 c_102)
             exact ih _ (by omega) (c + 1) _ _ rfl (by omega) (by rw [e1, hs, e9]; omega))
          | (have e9 : (wdF mp (hk (b + 12)) (hk (b + 13)) p d g) c = 1 := bI_t ⟨c_88, c_102, Or.inl c_108⟩
             exact ih _ (by omega) (c + 1) _ _ rfl (by omega) (by rw [e1, hs, e9]; omega))
          | (have e9 : (wdF mp (hk (b + 12)) (hk (b + 13)) p d g) c = 1 := bI_t ⟨c_88, c_102, Or.inr (Or.inr ⟨by omega, c_133⟩)⟩
             exact ih _ (by omega) (c + 1) _ _ rfl (by omega) (by rw [e1, hs, e9]; omega))
          | (have e9 : (wdF mp (hk (b + 12)) (hk (b + 13)) p d g) c = 0 := bI_f (fun z => by rcases z.2.2 with q | q | q; exact c_108 q; exact c_113 q.1; exact c_133 q.2)
             exact ih _ (by omega) (c + 1) _ _ rfl (by omega) (by rw [e1, hs, e9]; omega))
          | (have e9 : (wdF mp (hk (b + 12)) (hk (b + 13)) p d g) c = 1 := bI_t ⟨c_88, c_102, Or.inr (Or.inl ⟨c_113, c_119⟩)⟩
             exact ih _ (by omega) (c + 1) _ _ rfl (by omega) (by rw [e1, hs, e9]; omega))
          | (have e9 : (wdF mp (hk (b + 12)) (hk (b + 13)) p d g) c = 0 := bI_f (fun z => by rcases z.2.2 with q | q | q; exact c_108 q; exact c_119 q.2; omega)
             exact ih _ (by omega) (c + 1) _ _ rfl (by omega) (by rw [e1, hs, e9]; omega))
        · refine r_aload_0 (pc := 91) dX8_would_91 ?_
          refine gf_X8_43 (pc := 92) rfl (by assumption) dX8_would_92 (by assumption) ?_
          refine r_iload_6 (pc := 95) dX8_would_95 ?_
          refine r_iload_8 (pc := 97) dX8_would_97 ?_
          refine k_SI3 (pc := 99) c_X8_has lk_X8_208 ⟨Nat.le_of_ble_eq_true rfl, Nat.le_of_ble_eq_true rfl⟩ ⟨rfl, rfl⟩ ⟨Nat.le_of_ble_eq_true rfl, Nat.le_of_ble_eq_true rfl⟩ dX8_would_99 (Nat.le_of_ble_eq_true rfl) ?_
          refine ⟨_, _, _, rfl, by assumption, by omega, by omega, ?_⟩
          refine r_ifne_b (pc := 102) (tgt := 144) dX8_would_102 (by decide) (fun c_102 => ?_) (fun c_102 => ?_)
          · refine r_iinc_7 (pc := 144) dX8_would_144 rfl ?_
            refine r_goto (pc := 147) (tgt := 66) dX8_would_147 (by decide) ?_
            first
            | (have e9 : (wdF mp (hk (b + 12)) (hk (b + 13)) p d g) c = 0 := bI_f (fun z => by have := z.1; omega)
               exact ih _ (by omega) (c + 1) _ _ rfl (by omega) (by rw [e1, hs, e9]; omega))
            | (have e9 : (wdF mp (hk (b + 12)) (hk (b + 13)) p d g) c = 0 := bI_f (fun z => z.2.1 c_102)
               exact ih _ (by omega) (c + 1) _ _ rfl (by omega) (by rw [e1, hs, e9]; omega))
            | (have e9 : (wdF mp (hk (b + 12)) (hk (b + 13)) p d g) c = 1 := bI_t ⟨c_88, c_102, Or.inl c_108⟩
               exact ih _ (by omega) (c + 1) _ _ rfl (by omega) (by rw [e1, hs, e9]; omega))
            | (have e9 : (wdF mp (hk (b + 12)) (hk (b + 13)) p d g) c = 1 := bI_t ⟨c_88, c_102, Or.inr (Or.inr ⟨by omega, c_133⟩)⟩
               exact ih _ (by omega) (c + 1) _ _ rfl (by omega) (by rw [e1, hs, e9]; omega))
            | (have e9 : (wdF mp (hk (b + 12)) (hk (b + 13)) p d g) c = 0 := bI_f (fun z => by rcases z.2.2 with q | q | q; exact c_108 q; exact c_113 q.1; exact c_133 q.2)
               exact ih _ (by omega) (c + 1) _ _ rfl (by omega) (by rw [e1, hs, e9]; omega))
            | (have e9 : (wdF mp (hk (b + 12)) (hk (b + 13)) p d g) c = 1 := bI_t ⟨c_88, c_102, Or.inr (Or.inl ⟨c_113, c_119⟩)⟩
               exact ih _ (by omega) (c + 1) _ _ rfl (by omega) (by rw [e1, hs, e9]; omega))
            | (have e9 : (wdF mp (hk (b + 12)) (hk (b + 13)) p d g) c = 0 := bI_f (fun z => by rcases z.2.2 with q | q | q; exact c_108 q; exact c_119 q.2; omega)
               exact ih _ (by omega) (c + 1) _ _ rfl (by omega) (by rw [e1, hs, e9]; omega))
          · refine r_iload_5 (pc := 105) dX8_would_105 ?_
            refine r_iload_3 (pc := 107) dX8_would_107 ?_
            refine r_if_eq (pc := 108) (tgt := 136) dX8_would_108 (by decide) (by omega) (fun c_108 => ?_) (fun c_108 => ?_)
            · refine r_iconst (pc := 136) dX8_would_136 ?_
              refine r_goto (pc := 137) (tgt := 141) dX8_would_137 (by decide) ?_
              refine r_iadd (pc := 141) dX8_would_141 ?_
              refine r_istore_5 (pc := 142) dX8_would_142 rfl ?_
              refine r_iinc_7 (pc := 144) dX8_would_144 rfl ?_
              refine r_goto (pc := 147) (tgt := 66) dX8_would_147 (by decide) ?_
              first
              | (have e9 : (wdF mp (hk (b + 12)) (hk (b + 13)) p d g) c = 0 := bI_f (fun z => by have := z.1; omega)
                 exact ih _ (by omega) (c + 1) _ _ rfl (by omega) (by rw [e1, hs, e9]; omega))
              | (have e9 : (wdF mp (hk (b + 12)) (hk (b + 13)) p d g) c = 0 := bI_f (fun z => z.2.1 c_102)
                 exact ih _ (by omega) (c + 1) _ _ rfl (by omega) (by rw [e1, hs, e9]; omega))
              | (have e9 : (wdF mp (hk (b + 12)) (hk (b + 13)) p d g) c = 1 := bI_t ⟨c_88, c_102, Or.inl c_108⟩
                 exact ih _ (by omega) (c + 1) _ _ rfl (by omega) (by rw [e1, hs, e9]; omega))
              | (have e9 : (wdF mp (hk (b + 12)) (hk (b + 13)) p d g) c = 1 := bI_t ⟨c_88, c_102, Or.inr (Or.inr ⟨by omega, c_133⟩)⟩
                 exact ih _ (by omega) (c + 1) _ _ rfl (by omega) (by rw [e1, hs, e9]; omega))
              | (have e9 : (wdF mp (hk (b + 12)) (hk (b + 13)) p d g) c = 0 := bI_f (fun z => by rcases z.2.2 with q | q | q; exact c_108 q; exact c_113 q.1; exact c_133 q.2)
                 exact ih _ (by omega) (c + 1) _ _ rfl (by omega) (by rw [e1, hs, e9]; omega))
              | (have e9 : (wdF mp (hk (b + 12)) (hk (b + 13)) p d g) c = 1 := bI_t ⟨c_88, c_102, Or.inr (Or.inl ⟨c_113, c_119⟩)⟩
                 exact ih _ (by omega) (c + 1) _ _ rfl (by omega) (by rw [e1, hs, e9]; omega))
              | (have e9 : (wdF mp (hk (b + 12)) (hk (b + 13)) p d g) c = 0 := bI_f (fun z => by rcases z.2.2 with q | q | q; exact c_108 q; exact c_119 q.2; omega)
                 exact ih _ (by omega) (c + 1) _ _ rfl (by omega) (by rw [e1, hs, e9]; omega))
            · refine r_iload_3 (pc := 111) dX8_would_111 ?_
              refine r_iconst (pc := 112) dX8_would_112 ?_
              refine r_icmp_ne (pc := 113) (tgt := 125) dX8_would_113 (by decide) (by omega) (by omega) (fun c_113 => ?_) (fun c_113 => ?_)
              · have nw2 : isNd mp (hk (b + 13) (4 * g + c)) := by
                  have e3 := ha (4 * g + c) (by omega) (by omega)
                  exact Or.inr (Or.inr (Or.inr (by omega)))
                refine r_aload_0 (pc := 125) dX8_would_125 ?_
                refine r_iload_8 (pc := 126) dX8_would_126 ?_
                refine r_iload_4 (pc := 128) dX8_would_128 ?_
                refine k_VI2 (pc := 130) c_X8_isBelow lk_X8_150 ⟨Nat.le_of_ble_eq_true rfl, Nat.le_of_ble_eq_true rfl⟩ ⟨rfl, rfl⟩ ⟨Nat.le_of_ble_eq_true rfl, Nat.le_of_ble_eq_true rfl⟩ (k := 8) rfl (by decide) (by assumption) dX8_would_130 (Nat.le_of_ble_eq_true rfl) ?_
                refine ⟨_, _, _, _, rfl, by assumption, by first | assumption | exact rfl, by assumption, by omega, by omega, ?_⟩
                refine r_ifeq_b (pc := 133) (tgt := 140) dX8_would_133 (by decide) (fun c_133 => ?_) (fun c_133 => ?_)
                · refine r_iconst (pc := 140) dX8_would_140 ?_
                  refine r_iadd (pc := 141) dX8_would_141 ?_
                  refine r_istore_5 (pc := 142) dX8_would_142 rfl ?_
                  refine r_iinc_7 (pc := 144) dX8_would_144 rfl ?_
                  refine r_goto (pc := 147) (tgt := 66) dX8_would_147 (by decide) ?_
                  first
                  | (have e9 : (wdF mp (hk (b + 12)) (hk (b + 13)) p d g) c = 0 := bI_f (fun z => by have := z.1; omega)
                     exact ih _ (by omega) (c + 1) _ _ rfl (by omega) (by rw [e1, hs, e9]; omega))
                  | (have e9 : (wdF mp (hk (b + 12)) (hk (b + 13)) p d g) c = 0 := bI_f (fun z => z.2.1 c_102)
                     exact ih _ (by omega) (c + 1) _ _ rfl (by omega) (by rw [e1, hs, e9]; omega))
                  | (have e9 : (wdF mp (hk (b + 12)) (hk (b + 13)) p d g) c = 1 := bI_t ⟨c_88, c_102, Or.inl c_108⟩
                     exact ih _ (by omega) (c + 1) _ _ rfl (by omega) (by rw [e1, hs, e9]; omega))
                  | (have e9 : (wdF mp (hk (b + 12)) (hk (b + 13)) p d g) c = 1 := bI_t ⟨c_88, c_102, Or.inr (Or.inr ⟨by omega, c_133⟩)⟩
                     exact ih _ (by omega) (c + 1) _ _ rfl (by omega) (by rw [e1, hs, e9]; omega))
                  | (have e9 : (wdF mp (hk (b + 12)) (hk (b + 13)) p d g) c = 0 := bI_f (fun z => by rcases z.2.2 with q | q | q; exact c_108 q; exact c_113 q.1; exact c_133 q.2)
                     exact ih _ (by omega) (c + 1) _ _ rfl (by omega) (by rw [e1, hs, e9]; omega))
                  | (have e9 : (wdF mp (hk (b + 12)) (hk (b + 13)) p d g) c = 1 := bI_t ⟨c_88, c_102, Or.inr (Or.inl ⟨c_113, c_119⟩)⟩
                     exact ih _ (by omega) (c + 1) _ _ rfl (by omega) (by rw [e1, hs, e9]; omega))
                  | (have e9 : (wdF mp (hk (b + 12)) (hk (b + 13)) p d g) c = 0 := bI_f (fun z => by rcases z.2.2 with q | q | q; exact c_108 q; exact c_119 q.2; omega)
                     exact ih _ (by omega) (c + 1) _ _ rfl (by omega) (by rw [e1, hs, e9]; omega))
                · refine r_iconst (pc := 136) dX8_would_136 ?_
                  refine r_goto (pc := 137) (tgt := 141) dX8_would_137 (by decide) ?_
                  refine r_iadd (pc := 141) dX8_would_141 ?_
                  refine r_istore_5 (pc := 142) dX8_would_142 rfl ?_
                  refine r_iinc_7 (pc := 144) dX8_would_144 rfl ?_
                  refine r_goto (pc := 147) (tgt := 66) dX8_would_147 (by decide) ?_
                  first
                  | (have e9 : (wdF mp (hk (b + 12)) (hk (b + 13)) p d g) c = 0 := bI_f (fun z => by have := z.1; omega)
                     exact ih _ (by omega) (c + 1) _ _ rfl (by omega) (by rw [e1, hs, e9]; omega))
                  | (have e9 : (wdF mp (hk (b + 12)) (hk (b + 13)) p d g) c = 0 := bI_f (fun z => z.2.1 c_102)
                     exact ih _ (by omega) (c + 1) _ _ rfl (by omega) (by rw [e1, hs, e9]; omega))
                  | (have e9 : (wdF mp (hk (b + 12)) (hk (b + 13)) p d g) c = 1 := bI_t ⟨c_88, c_102, Or.inl c_108⟩
                     exact ih _ (by omega) (c + 1) _ _ rfl (by omega) (by rw [e1, hs, e9]; omega))
                  | (have e9 : (wdF mp (hk (b + 12)) (hk (b + 13)) p d g) c = 1 := bI_t ⟨c_88, c_102, Or.inr (Or.inr ⟨by omega, c_133⟩)⟩
                     exact ih _ (by omega) (c + 1) _ _ rfl (by omega) (by rw [e1, hs, e9]; omega))
                  | (have e9 : (wdF mp (hk (b + 12)) (hk (b + 13)) p d g) c = 0 := bI_f (fun z => by rcases z.2.2 with q | q | q; exact c_108 q; exact c_113 q.1; exact c_133 q.2)
                     exact ih _ (by omega) (c + 1) _ _ rfl (by omega) (by rw [e1, hs, e9]; omega))
                  | (have e9 : (wdF mp (hk (b + 12)) (hk (b + 13)) p d g) c = 1 := bI_t ⟨c_88, c_102, Or.inr (Or.inl ⟨c_113, c_119⟩)⟩
                     exact ih _ (by omega) (c + 1) _ _ rfl (by omega) (by rw [e1, hs, e9]; omega))
                  | (have e9 : (wdF mp (hk (b + 12)) (hk (b + 13)) p d g) c = 0 := bI_f (fun z => by rcases z.2.2 with q | q | q; exact c_108 q; exact c_119 q.2; omega)
                     exact ih _ (by omega) (c + 1) _ _ rfl (by omega) (by rw [e1, hs, e9]; omega))
              · refine r_iload_8 (pc := 116) dX8_would_116 ?_
                refine r_iload_1 (pc := 118) dX8_would_118 ?_
                refine r_icmp_ne (pc := 119) (tgt := 140) dX8_would_119 (by decide) (by omega) (by omega) (fun c_119 => ?_) (fun c_119 => ?_)
                · refine r_iconst (pc := 140) dX8_would_140 ?_
                  refine r_iadd (pc := 141) dX8_would_141 ?_
                  refine r_istore_5 (pc := 142) dX8_would_142 rfl ?_
                  refine r_iinc_7 (pc := 144) dX8_would_144 rfl ?_
                  refine r_goto (pc := 147) (tgt := 66) dX8_would_147 (by decide) ?_
                  first
                  | (have e9 : (wdF mp (hk (b + 12)) (hk (b + 13)) p d g) c = 0 := bI_f (fun z => by have := z.1; omega)
                     exact ih _ (by omega) (c + 1) _ _ rfl (by omega) (by rw [e1, hs, e9]; omega))
                  | (have e9 : (wdF mp (hk (b + 12)) (hk (b + 13)) p d g) c = 0 := bI_f (fun z => z.2.1 c_102)
                     exact ih _ (by omega) (c + 1) _ _ rfl (by omega) (by rw [e1, hs, e9]; omega))
                  | (have e9 : (wdF mp (hk (b + 12)) (hk (b + 13)) p d g) c = 1 := bI_t ⟨c_88, c_102, Or.inl c_108⟩
                     exact ih _ (by omega) (c + 1) _ _ rfl (by omega) (by rw [e1, hs, e9]; omega))
                  | (have e9 : (wdF mp (hk (b + 12)) (hk (b + 13)) p d g) c = 1 := bI_t ⟨c_88, c_102, Or.inr (Or.inr ⟨by omega, c_133⟩)⟩
                     exact ih _ (by omega) (c + 1) _ _ rfl (by omega) (by rw [e1, hs, e9]; omega))
                  | (have e9 : (wdF mp (hk (b + 12)) (hk (b + 13)) p d g) c = 0 := bI_f (fun z => by rcases z.2.2 with q | q | q; exact c_108 q; exact c_113 q.1; exact c_133 q.2)
                     exact ih _ (by omega) (c + 1) _ _ rfl (by omega) (by rw [e1, hs, e9]; omega))
                  | (have e9 : (wdF mp (hk (b + 12)) (hk (b + 13)) p d g) c = 1 := bI_t ⟨c_88, c_102, Or.inr (Or.inl ⟨c_113, c_119⟩)⟩
                     exact ih _ (by omega) (c + 1) _ _ rfl (by omega) (by rw [e1, hs, e9]; omega))
                  | (have e9 : (wdF mp (hk (b + 12)) (hk (b + 13)) p d g) c = 0 := bI_f (fun z => by rcases z.2.2 with q | q | q; exact c_108 q; exact c_119 q.2; omega)
                     exact ih _ (by omega) (c + 1) _ _ rfl (by omega) (by rw [e1, hs, e9]; omega))
                · refine r_goto (pc := 122) (tgt := 136) dX8_would_122 (by decide) ?_
                  refine r_iconst (pc := 136) dX8_would_136 ?_
                  refine r_goto (pc := 137) (tgt := 141) dX8_would_137 (by decide) ?_
                  refine r_iadd (pc := 141) dX8_would_141 ?_
                  refine r_istore_5 (pc := 142) dX8_would_142 rfl ?_
                  refine r_iinc_7 (pc := 144) dX8_would_144 rfl ?_
                  refine r_goto (pc := 147) (tgt := 66) dX8_would_147 (by decide) ?_
                  first
                  | (have e9 : (wdF mp (hk (b + 12)) (hk (b + 13)) p d g) c = 0 := bI_f (fun z => by have := z.1; omega)
                     exact ih _ (by omega) (c + 1) _ _ rfl (by omega) (by rw [e1, hs, e9]; omega))
                  | (have e9 : (wdF mp (hk (b + 12)) (hk (b + 13)) p d g) c = 0 := bI_f (fun z => z.2.1 c_102)
                     exact ih _ (by omega) (c + 1) _ _ rfl (by omega) (by rw [e1, hs, e9]; omega))
                  | (have e9 : (wdF mp (hk (b + 12)) (hk (b + 13)) p d g) c = 1 := bI_t ⟨c_88, c_102, Or.inl c_108⟩
                     exact ih _ (by omega) (c + 1) _ _ rfl (by omega) (by rw [e1, hs, e9]; omega))
                  | (have e9 : (wdF mp (hk (b + 12)) (hk (b + 13)) p d g) c = 1 := bI_t ⟨c_88, c_102, Or.inr (Or.inr ⟨by omega, c_133⟩)⟩
                     exact ih _ (by omega) (c + 1) _ _ rfl (by omega) (by rw [e1, hs, e9]; omega))
                  | (have e9 : (wdF mp (hk (b + 12)) (hk (b + 13)) p d g) c = 0 := bI_f (fun z => by rcases z.2.2 with q | q | q; exact c_108 q; exact c_113 q.1; exact c_133 q.2)
                     exact ih _ (by omega) (c + 1) _ _ rfl (by omega) (by rw [e1, hs, e9]; omega))
                  | (have e9 : (wdF mp (hk (b + 12)) (hk (b + 13)) p d g) c = 1 := bI_t ⟨c_88, c_102, Or.inr (Or.inl ⟨c_113, c_119⟩)⟩
                     exact ih _ (by omega) (c + 1) _ _ rfl (by omega) (by rw [e1, hs, e9]; omega))
                  | (have e9 : (wdF mp (hk (b + 12)) (hk (b + 13)) p d g) c = 0 := bI_f (fun z => by rcases z.2.2 with q | q | q; exact c_108 q; exact c_119 q.2; omega)
                     exact ih _ (by omega) (c + 1) _ _ rfl (by omega) (by rw [e1, hs, e9]; omega))
  have lp : ∀ (hk : HpT) (hf : Fr h hk (fun x => x = b + 13 ∨ x = b + 8 ∨ x = b + 9 ∨ x = b + 10 ∨ x = b + 11)) (ha : ∀ j, 0 ≤ j → j < 64 → hk (b + 13) j = plr (up mp (22 + d) w) j) (hc0 : (10 ≤ d ∧ d ≤ 9 + mp 130) ∧ (0 ≤ w ∧ w ≤ 40) ∧ (0 ≤ p ∧ p ≤ 2)) (n_ : Nat) (g : Int) (s : Int) (x7 : Option Value) (x8 : Option Value), (16 - g).toNat = n_ → (0 ≤ g ∧ g ≤ 16) → (s = sm (fun g => sm (wdF mp (hk (b + 12)) (hk (b + 13)) p d g) 4) g.toNat) → St E mX8_would 56 [some (.ref b), some (vI d), some (vI w), some (vI p), some (vI (mp (mp d))), some (vI s), some (vI g), x7, x8] [] (0, 0) N lay r hk := by
    intro hk hf ha hc0 n_
    induction n_ using Nat.strongRecOn with
    | ind n_ ih =>
      intro g s x7 x8 hn_ hg hs
      have e1 : sm (fun g => sm (wdF mp (hk (b + 12)) (hk (b + 13)) p d g) 4) (g + 1).toNat = sm (fun g => sm (wdF mp (hk (b + 12)) (hk (b + 13)) p d g) 4) g.toNat + (fun g => sm (wdF mp (hk (b + 12)) (hk (b + 13)) p d g) 4) g := sm_z (by omega)
      dsimp only at e1
      refine r_iload_6 (pc := 56) dX8_would_56 ?_
      refine r_bipush (pc := 58) dX8_would_58 (by decide) ?_
      refine r_icmp_ge (pc := 60) (tgt := 156) dX8_would_60 (by decide) (by omega) (by omega) (fun c_60 => ?_) (fun c_60 => ?_)
      · refine r_iload_5 (pc := 156) dX8_would_156 ?_
        refine r_iret (pc := 158) hret dX8_would_158 rfl rfl rfl ?_
        have hg9 : g = 16 := by omega
        subst hg9
        have z := hQ hc0 hk hf
        rw [← wd_c ha, ← hf (b + 12) (by omega)] at z
        rw [hs]
        exact z
      · refine r_iconst (pc := 63) dX8_would_63 ?_
        refine r_istore_7 (pc := 64) dX8_would_64 rfl ?_
        refine inn hk hf ha hc0 g s (by omega) (fun y8 => ?_) _ 0 s _ rfl (by omega) (by simp [sm])
        refine r_iinc_6 (pc := 150) dX8_would_150 rfl ?_
        refine r_goto (pc := 153) (tgt := 56) dX8_would_153 (by decide) ?_
        exact ih _ (by omega) (g + 1) _ _ _ rfl (by omega) (by rw [e1, hs])
  refine r_aload_0 (pc := 0) dX8_would_0 ?_
  refine r_iload_1 (pc := 1) dX8_would_1 ?_
  refine k_VI1 (pc := 2) c_X8_isDisk lk_X8_147 ⟨Nat.le_of_ble_eq_true rfl, Nat.le_of_ble_eq_true rfl⟩ ⟨rfl, rfl⟩ ⟨Nat.le_of_ble_eq_true rfl, Nat.le_of_ble_eq_true rfl⟩ (k := 8) rfl (by decide) (by assumption) dX8_would_2 (Nat.le_of_ble_eq_true rfl) ?_
  refine ⟨_, _, _, rfl, by assumption, by first | assumption | exact rfl, by omega, by omega, ?_⟩
  refine r_ifeq_b (pc := 5) (tgt := 29) dX8_would_5 (by decide) (fun c_5 => ?_) (fun c_5 => ?_)
  · refine r_iconst (pc := 29) dX8_would_29 ?_
    refine r_iret (pc := 30) hret dX8_would_30 rfl rfl rfl ?_
    first | exact hB (by omega) | exact hQ (by omega)
  · refine r_aload_0 (pc := 8) dX8_would_8 ?_
    refine r_iload_2 (pc := 9) dX8_would_9 ?_
    refine r_iconst (pc := 10) dX8_would_10 ?_
    refine r_bipush (pc := 11) dX8_would_11 (by decide) ?_
    refine k_VI3 (pc := 13) c_X8_isIn lk_X8_137 ⟨Nat.le_of_ble_eq_true rfl, Nat.le_of_ble_eq_true rfl⟩ ⟨rfl, rfl⟩ ⟨Nat.le_of_ble_eq_true rfl, Nat.le_of_ble_eq_true rfl⟩ (k := 8) rfl (by decide) (by assumption) dX8_would_13 (Nat.le_of_ble_eq_true rfl) ?_
    refine ⟨_, _, _, _, rfl, by omega, by omega, by omega, ?_⟩
    refine r_ifeq_b (pc := 16) (tgt := 29) dX8_would_16 (by decide) (fun c_16 => ?_) (fun c_16 => ?_)
    · refine r_iconst (pc := 29) dX8_would_29 ?_
      refine r_iret (pc := 30) hret dX8_would_30 rfl rfl rfl ?_
      first | exact hB (by omega) | exact hQ (by omega)
    · refine r_aload_0 (pc := 19) dX8_would_19 ?_
      refine r_iload_3 (pc := 20) dX8_would_20 ?_
      refine r_iconst (pc := 21) dX8_would_21 ?_
      refine r_iconst (pc := 22) dX8_would_22 ?_
      refine k_VI3 (pc := 23) c_X8_isIn lk_X8_137 ⟨Nat.le_of_ble_eq_true rfl, Nat.le_of_ble_eq_true rfl⟩ ⟨rfl, rfl⟩ ⟨Nat.le_of_ble_eq_true rfl, Nat.le_of_ble_eq_true rfl⟩ (k := 8) rfl (by decide) (by assumption) dX8_would_23 (Nat.le_of_ble_eq_true rfl) ?_
      refine ⟨_, _, _, _, rfl, by omega, by omega, by omega, ?_⟩
      refine r_ifne_b (pc := 26) (tgt := 31) dX8_would_26 (by decide) (fun c_26 => ?_) (fun c_26 => ?_)
      · refine r_aload_0 (pc := 31) dX8_would_31 ?_
        refine r_iload_1 (pc := 32) dX8_would_32 ?_
        refine r_iload_2 (pc := 33) dX8_would_33 ?_
        have q6 := t6 d (by omega) (by omega)
        have q5 := t5 (mp d) (by omega) (by omega)
        refine k_VV2 (pc := 34) c_X8_placesIf lk_X8_235 ⟨Nat.le_of_ble_eq_true rfl, Nat.le_of_ble_eq_true rfl⟩ ⟨rfl, rfl⟩ ⟨Nat.le_of_ble_eq_true rfl, Nat.le_of_ble_eq_true rfl⟩ (k := 8) rfl (by decide) (by assumption) dX8_would_34 (Nat.le_of_ble_eq_true rfl) ?_
        refine ⟨_, _, _, _, rfl, by assumption, by first | assumption | exact rfl, by assumption, by assumption, by assumption, by omega, by omega, fun h_34 f_34 a_34 => ?_⟩
        have m_34 : h_34 (b + 2) = mp := (f_34 _ (by omega)).trans (by assumption)
        refine r_aload_0 (pc := 37) dX8_would_37 ?_
        refine gf_X8_13 (pc := 38) rfl (by assumption) dX8_would_38 (by assumption) ?_
        refine r_aload_0 (pc := 41) dX8_would_41 ?_
        refine gf_X8_13 (pc := 42) rfl (by assumption) dX8_would_42 (by assumption) ?_
        refine r_iload_1 (pc := 45) dX8_would_45 ?_
        refine r_ialdE (pc := 46) (by assumption) (by first | assumption | exact rfl) dX8_would_46 (by omega) (by omega) (fun i_46 => ?_)
        refine r_ialdE (pc := 47) (by assumption) (by first | assumption | exact rfl) dX8_would_47 (by omega) (by omega) (fun i_47 => ?_)
        refine r_istore_4 (pc := 48) dX8_would_48 rfl ?_
        refine r_iconst (pc := 50) dX8_would_50 ?_
        refine r_istore_5 (pc := 51) dX8_would_51 rfl ?_
        refine r_iconst (pc := 53) dX8_would_53 ?_
        refine r_istore_6 (pc := 54) dX8_would_54 rfl ?_
        exact lp h_34 f_34 a_34 (by omega) _ 0 0 _ _ rfl (by omega) rfl
      · refine r_iconst (pc := 29) dX8_would_29 ?_
        refine r_iret (pc := 30) hret dX8_would_30 rfl rfl rfl ?_
        first | exact hB (by omega) | exact hQ (by omega)

def ncF (f t : Int → Int) (g : Int) : Int → Int := fun c => bI (0 ≤ f (4 * g + c) ∧ ¬ hasB t g (f (4 * g + c)) = true)
def scF (f t : Int → Int) (g : Int) : Int → Int := fun c => bI (0 ≤ f (4 * g + c) ∧ hasB t g (f (4 * g + c)) = true)
def alq (f t : Int → Int) (g : Int) : Nat → Bool
  | 0 => true
  | c + 1 => alq f t g c && decide (f (4 * g + c) = t (4 * g + c))
theorem alq_1 {f t : Int → Int} {g : Int} {c : Nat} (h : alq f t g (c + 1) = true) : alq f t g c = true := by
  simp only [alq, Bool.and_eq_true] at h
  exact h.1
theorem alq_2 {f t : Int → Int} {g : Int} {c : Nat} (h : alq f t g (c + 1) = true) : f (4 * g + c) = t (4 * g + c) := by
  simp only [alq, Bool.and_eq_true] at h
  exact of_decide_eq_true h.2
theorem alq_3 {f t : Int → Int} {g : Int} {c : Nat} (h : alq f t g c = true) (h2 : f (4 * g + c) = t (4 * g + c)) : alq f t g (c + 1) = true := by
  simp only [alq, Bool.and_eq_true]
  exact ⟨h, decide_eq_true h2⟩
theorem alq_c {f t t' : Int → Int} (h : ∀ j, 0 ≤ j → j < 64 → t j = t' j) {g : Int} (hg : 0 ≤ g ∧ g < 16) : ∀ c : Nat, c ≤ 4 → alq f t g c = alq f t' g c
  | 0, _ => rfl
  | c + 1, hc => by
    simp only [alq]
    rw [alq_c h hg c (by omega), h _ (by omega) (by omega)]
def snN (f t : Int → Int) : Int := sm (fun g => sm (ncF f t g) 4) 16
def snS (f t : Int → Int) : Int := sm (fun g => sm (scF f t g) 4) 16
def snA (f t : Int → Int) : Int := sm (fun g => if alq f t g 4 = true then iSl 1 g else 0) 16
theorem snN_c {f t t' : Int → Int} (h : ∀ j, 0 ≤ j → j < 64 → t j = t' j) : snN f t = snN f t' := by
  unfold snN
  refine sm_c (fun g hg => sm_c (fun c hc => ?_))
  unfold ncF
  rw [hasB_c h (by omega)]
theorem snS_c {f t t' : Int → Int} (h : ∀ j, 0 ≤ j → j < 64 → t j = t' j) : snS f t = snS f t' := by
  unfold snS
  refine sm_c (fun g hg => sm_c (fun c hc => ?_))
  unfold scF
  rw [hasB_c h (by omega)]
theorem snA_c {f t t' : Int → Int} (h : ∀ j, 0 ≤ j → j < 64 → t j = t' j) : snA f t = snA f t' := by
  unfold snA
  refine sm_c (fun g hg => ?_)
  rw [alq_c h (by omega) 4 (by omega)]
theorem dX8_since_0 : decode cX8_since 0 = .ok (.aload_n 0, 1) := by decide +kernel
theorem dX8_since_1 : decode cX8_since 1 = .ok (.iload_n 2, 1) := by decide +kernel
theorem dX8_since_2 : decode cX8_since 2 = .ok (.iconst 0, 1) := by decide +kernel
theorem dX8_since_3 : decode cX8_since 3 = .ok (.iconst 2, 1) := by decide +kernel
theorem dX8_since_4 : decode cX8_since 4 = .ok (.invokevirtual 137, 3) := by decide +kernel
theorem dX8_since_7 : decode cX8_since 7 = .ok (.ifCond .ne 5, 3) := by decide +kernel
theorem dX8_since_10 : decode cX8_since 10 = .ok (.iconst (-1), 1) := by decide +kernel
theorem dX8_since_11 : decode cX8_since 11 = .ok (.ireturn, 1) := by decide +kernel
theorem dX8_since_12 : decode cX8_since 12 = .ok (.aload_n 0, 1) := by decide +kernel
theorem dX8_since_13 : decode cX8_since 13 = .ok (.iload_n 1, 1) := by decide +kernel
theorem dX8_since_14 : decode cX8_since 14 = .ok (.invokevirtual 229, 3) := by decide +kernel
theorem dX8_since_17 : decode cX8_since 17 = .ok (.ifCond .ne 6, 3) := by decide +kernel
theorem dX8_since_20 : decode cX8_since 20 = .ok (.bipush (-4), 2) := by decide +kernel
theorem dX8_since_22 : decode cX8_since 22 = .ok (.ireturn, 1) := by decide +kernel
theorem dX8_since_23 : decode cX8_since 23 = .ok (.aload_n 0, 1) := by decide +kernel
theorem dX8_since_24 : decode cX8_since 24 = .ok (.iload_n 1, 1) := by decide +kernel
theorem dX8_since_25 : decode cX8_since 25 = .ok (.invokevirtual 232, 3) := by decide +kernel
theorem dX8_since_28 : decode cX8_since 28 = .ok (.iconst 0, 1) := by decide +kernel
theorem dX8_since_29 : decode cX8_since 29 = .ok (.istore_n 3, 1) := by decide +kernel
theorem dX8_since_30 : decode cX8_since 30 = .ok (.iconst 0, 1) := by decide +kernel
theorem dX8_since_31 : decode cX8_since 31 = .ok (.istore 4, 2) := by decide +kernel
theorem dX8_since_33 : decode cX8_since 33 = .ok (.iconst 0, 1) := by decide +kernel
theorem dX8_since_34 : decode cX8_since 34 = .ok (.istore 5, 2) := by decide +kernel
theorem dX8_since_36 : decode cX8_since 36 = .ok (.iconst 0, 1) := by decide +kernel
theorem dX8_since_37 : decode cX8_since 37 = .ok (.istore 6, 2) := by decide +kernel
theorem dX8_since_39 : decode cX8_since 39 = .ok (.iload 6, 2) := by decide +kernel
theorem dX8_since_41 : decode cX8_since 41 = .ok (.bipush 16, 2) := by decide +kernel
theorem dX8_since_43 : decode cX8_since 43 = .ok (.if_icmp .ge 134, 3) := by decide +kernel
theorem dX8_since_46 : decode cX8_since 46 = .ok (.iconst 1, 1) := by decide +kernel
theorem dX8_since_47 : decode cX8_since 47 = .ok (.istore 7, 2) := by decide +kernel
theorem dX8_since_49 : decode cX8_since 49 = .ok (.iconst 0, 1) := by decide +kernel
theorem dX8_since_50 : decode cX8_since 50 = .ok (.istore 8, 2) := by decide +kernel
theorem dX8_since_52 : decode cX8_since 52 = .ok (.iload 8, 2) := by decide +kernel
theorem dX8_since_54 : decode cX8_since 54 = .ok (.iconst 4, 1) := by decide +kernel
theorem dX8_since_55 : decode cX8_since 55 = .ok (.if_icmp .ge 98, 3) := by decide +kernel
theorem dX8_since_58 : decode cX8_since 58 = .ok (.aload_n 0, 1) := by decide +kernel
theorem dX8_since_59 : decode cX8_since 59 = .ok (.getfield 43, 3) := by decide +kernel
theorem dX8_since_62 : decode cX8_since 62 = .ok (.iconst 4, 1) := by decide +kernel
theorem dX8_since_63 : decode cX8_since 63 = .ok (.iload 6, 2) := by decide +kernel
theorem dX8_since_65 : decode cX8_since 65 = .ok (.imul, 1) := by decide +kernel
theorem dX8_since_66 : decode cX8_since 66 = .ok (.iload 8, 2) := by decide +kernel
theorem dX8_since_68 : decode cX8_since 68 = .ok (.iadd, 1) := by decide +kernel
theorem dX8_since_69 : decode cX8_since 69 = .ok (.iaload, 1) := by decide +kernel
theorem dX8_since_70 : decode cX8_since 70 = .ok (.istore 9, 2) := by decide +kernel
theorem dX8_since_72 : decode cX8_since 72 = .ok (.iload 7, 2) := by decide +kernel
theorem dX8_since_74 : decode cX8_since 74 = .ok (.ifCond .eq 24, 3) := by decide +kernel
theorem dX8_since_77 : decode cX8_since 77 = .ok (.iload 9, 2) := by decide +kernel
theorem dX8_since_79 : decode cX8_since 79 = .ok (.aload_n 0, 1) := by decide +kernel
theorem dX8_since_80 : decode cX8_since 80 = .ok (.getfield 46, 3) := by decide +kernel
theorem dX8_since_83 : decode cX8_since 83 = .ok (.iconst 4, 1) := by decide +kernel
theorem dX8_since_84 : decode cX8_since 84 = .ok (.iload 6, 2) := by decide +kernel
theorem dX8_since_86 : decode cX8_since 86 = .ok (.imul, 1) := by decide +kernel
theorem dX8_since_87 : decode cX8_since 87 = .ok (.iload 8, 2) := by decide +kernel
theorem dX8_since_89 : decode cX8_since 89 = .ok (.iadd, 1) := by decide +kernel
theorem dX8_since_90 : decode cX8_since 90 = .ok (.iaload, 1) := by decide +kernel
theorem dX8_since_91 : decode cX8_since 91 = .ok (.if_icmp .ne 7, 3) := by decide +kernel
theorem dX8_since_94 : decode cX8_since 94 = .ok (.iconst 1, 1) := by decide +kernel
theorem dX8_since_95 : decode cX8_since 95 = .ok (.goto 4, 3) := by decide +kernel
theorem dX8_since_98 : decode cX8_since 98 = .ok (.iconst 0, 1) := by decide +kernel
theorem dX8_since_99 : decode cX8_since 99 = .ok (.istore 7, 2) := by decide +kernel
theorem dX8_since_101 : decode cX8_since 101 = .ok (.iload 9, 2) := by decide +kernel
theorem dX8_since_103 : decode cX8_since 103 = .ok (.ifCond .lt 44, 3) := by decide +kernel
theorem dX8_since_106 : decode cX8_since 106 = .ok (.aload_n 0, 1) := by decide +kernel
theorem dX8_since_107 : decode cX8_since 107 = .ok (.getfield 46, 3) := by decide +kernel
theorem dX8_since_110 : decode cX8_since 110 = .ok (.iload 6, 2) := by decide +kernel
theorem dX8_since_112 : decode cX8_since 112 = .ok (.iload 9, 2) := by decide +kernel
theorem dX8_since_114 : decode cX8_since 114 = .ok (.invokestatic 208, 3) := by decide +kernel
theorem dX8_since_117 : decode cX8_since 117 = .ok (.istore 10, 2) := by decide +kernel
theorem dX8_since_119 : decode cX8_since 119 = .ok (.iload_n 3, 1) := by decide +kernel
theorem dX8_since_120 : decode cX8_since 120 = .ok (.iload 10, 2) := by decide +kernel
theorem dX8_since_122 : decode cX8_since 122 = .ok (.ifCond .eq 7, 3) := by decide +kernel
theorem dX8_since_125 : decode cX8_since 125 = .ok (.iconst 0, 1) := by decide +kernel
theorem dX8_since_126 : decode cX8_since 126 = .ok (.goto 4, 3) := by decide +kernel
theorem dX8_since_129 : decode cX8_since 129 = .ok (.iconst 1, 1) := by decide +kernel
theorem dX8_since_130 : decode cX8_since 130 = .ok (.iadd, 1) := by decide +kernel
theorem dX8_since_131 : decode cX8_since 131 = .ok (.istore_n 3, 1) := by decide +kernel
theorem dX8_since_132 : decode cX8_since 132 = .ok (.iload 4, 2) := by decide +kernel
theorem dX8_since_134 : decode cX8_since 134 = .ok (.iload 10, 2) := by decide +kernel
theorem dX8_since_136 : decode cX8_since 136 = .ok (.ifCond .eq 7, 3) := by decide +kernel
theorem dX8_since_139 : decode cX8_since 139 = .ok (.iconst 1, 1) := by decide +kernel
theorem dX8_since_140 : decode cX8_since 140 = .ok (.goto 4, 3) := by decide +kernel
theorem dX8_since_143 : decode cX8_since 143 = .ok (.iconst 0, 1) := by decide +kernel
theorem dX8_since_144 : decode cX8_since 144 = .ok (.iadd, 1) := by decide +kernel
theorem dX8_since_145 : decode cX8_since 145 = .ok (.istore 4, 2) := by decide +kernel
theorem dX8_since_147 : decode cX8_since 147 = .ok (.iinc 8 1, 3) := by decide +kernel
theorem dX8_since_150 : decode cX8_since 150 = .ok (.goto (-98), 3) := by decide +kernel
theorem dX8_since_153 : decode cX8_since 153 = .ok (.iload 5, 2) := by decide +kernel
theorem dX8_since_155 : decode cX8_since 155 = .ok (.iload 7, 2) := by decide +kernel
theorem dX8_since_157 : decode cX8_since 157 = .ok (.ifCond .eq 10, 3) := by decide +kernel
theorem dX8_since_160 : decode cX8_since 160 = .ok (.iconst 1, 1) := by decide +kernel
theorem dX8_since_161 : decode cX8_since 161 = .ok (.iload 6, 2) := by decide +kernel
theorem dX8_since_163 : decode cX8_since 163 = .ok (.ishl, 1) := by decide +kernel
theorem dX8_since_164 : decode cX8_since 164 = .ok (.goto 4, 3) := by decide +kernel
theorem dX8_since_167 : decode cX8_since 167 = .ok (.iconst 0, 1) := by decide +kernel
theorem dX8_since_168 : decode cX8_since 168 = .ok (.iadd, 1) := by decide +kernel
theorem dX8_since_169 : decode cX8_since 169 = .ok (.istore 5, 2) := by decide +kernel
theorem dX8_since_171 : decode cX8_since 171 = .ok (.iinc 6 1, 3) := by decide +kernel
theorem dX8_since_174 : decode cX8_since 174 = .ok (.goto (-135), 3) := by decide +kernel
theorem dX8_since_177 : decode cX8_since 177 = .ok (.iload_n 2, 1) := by decide +kernel
theorem dX8_since_178 : decode cX8_since 178 = .ok (.ifCond .ne 7, 3) := by decide +kernel
theorem dX8_since_181 : decode cX8_since 181 = .ok (.iload_n 3, 1) := by decide +kernel
theorem dX8_since_182 : decode cX8_since 182 = .ok (.goto 15, 3) := by decide +kernel
theorem dX8_since_185 : decode cX8_since 185 = .ok (.iload_n 2, 1) := by decide +kernel
theorem dX8_since_186 : decode cX8_since 186 = .ok (.iconst 1, 1) := by decide +kernel
theorem dX8_since_187 : decode cX8_since 187 = .ok (.if_icmp .ne 8, 3) := by decide +kernel
theorem dX8_since_190 : decode cX8_since 190 = .ok (.iload 4, 2) := by decide +kernel
theorem dX8_since_192 : decode cX8_since 192 = .ok (.goto 5, 3) := by decide +kernel
theorem dX8_since_195 : decode cX8_since 195 = .ok (.iload 5, 2) := by decide +kernel
theorem dX8_since_197 : decode cX8_since 197 = .ok (.ireturn, 1) := by decide +kernel
set_option maxHeartbeats 4000000 in
set_option maxRecDepth 20000 in
theorem c_X8_since : ConI mX8_since (fun args N lay r h Q => ∃ (b : Nat) (mp : Int → Int) (e p : Int), args = [.ref b, vI e, vI p] ∧ MdAt lay r b ∧ h (b + 2) = mp ∧ TrM mp ∧ RlM mp ∧ (-2147483648 ≤ e ∧ e < 2147483648) ∧ (-2147483648 ≤ p ∧ p < 2147483648) ∧ WaT (h (b + 7)) ∧ (∀ e, 1 ≤ e → e < 2147483648 → h (b + 4) (e % 5) = e → TrM (cpR (fun k => h (b + 3) (136 * (e % 5) + k)) mp 136) ∧ RlM (cpR (fun k => h (b + 3) (136 * (e % 5) + k)) mp 136)) ∧ (¬ (0 ≤ p ∧ p ≤ 2) → Q (-1) N lay r h) ∧ ((0 ≤ p ∧ p ≤ 2) → (¬ (1 ≤ e ∧ h (b + 4) (e % 5) = e) → Q (-4) N lay r h) ∧ (1 ≤ e ∧ h (b + 4) (e % 5) = e → ∀ h2, Fr h h2 (fun x => x = b + 5 ∨ x = b + 13 ∨ x = b + 8 ∨ x = b + 9 ∨ x = b + 10 ∨ x = b + 11) → (p = 0 → Q (snN (h (b + 12)) (plr (cpR (fun k => h (b + 3) (136 * (e % 5) + k)) mp 136))) N lay r h2) ∧ (p = 1 → Q (snS (h (b + 12)) (plr (cpR (fun k => h (b + 3) (136 * (e % 5) + k)) mp 136))) N lay r h2) ∧ (p = 2 → Q (snA (h (b + 12)) (plr (cpR (fun k => h (b + 3) (136 * (e % 5) + k)) mp 136))) N lay r h2)))) := by
  refine ConI.of (by decide) (by rintro _ N lay r h Q ⟨b, mp, e, p, rfl, hM, hmp, hT, hR, he, hp, hwa, hkp, hB, hQ⟩; exact ⟨rfl, Nat.le_of_ble_eq_true rfl⟩) ?_
  rintro E _ N lay r h Q ⟨b, mp, e, p, rfl, hM, hmp, hT, hR, he, hp, hwa, hkp, hB, hQ⟩ hret
  obtain ⟨ml0, ml1, ml2, ml3, ml4, ml5, ml6, ml7, ml8, ml9, ml10, ml11, ml12, ml13, ml14, ml15, ml16, ml17, ml18, ml19, ml20, mr1, mr2, mr3, mr4, mr5, mr6, mr7, mr8, mr9, mr10, mr11, mr12, mr13, mr14, mr15, mr16, mr17, mr18, mr19, mr20⟩ := id hM
  obtain ⟨t1, t2, t3, t4, t5, t6, t7⟩ := id hT
  obtain ⟨r1, r2, r3, r4, r5, r6, r7⟩ := id hR
  show St E mX8_since 0 [some (.ref b), some (vI e), some (vI p), none, none, none, none, none, none, none, none] [] (0, 0) N lay r h
  have inn : ∀ (hk : HpT) (hf : Fr h hk (fun x => x = b + 5 ∨ x = b + 13 ∨ x = b + 8 ∨ x = b + 9 ∨ x = b + 10 ∨ x = b + 11)) (g : Int) (n0 : Int) (s0 : Int) (bt : Int) (hg : 0 ≤ g ∧ g < 16) (K : ∀ x9 x10, St E mX8_since 153 [some (.ref b), some (vI e), some (vI p), some (vI (n0 + sm (ncF (hk (b + 12)) (hk (b + 13)) g) 4)), some (vI (s0 + sm (scF (hk (b + 12)) (hk (b + 13)) g) 4)), some (vI bt), some (vI g), some (vI (bI (alq (hk (b + 12)) (hk (b + 13)) g 4 = true))), some (vI 4), x9, x10] [] (0, 0) N lay r hk) (n_ : Nat) (c : Int) (nc : Int) (sc : Int) (al : Int) (x9 : Option Value) (x10 : Option Value), (4 - c).toNat = n_ → (0 ≤ c ∧ c ≤ 4) → (nc = n0 + sm (ncF (hk (b + 12)) (hk (b + 13)) g) c.toNat) → (sc = s0 + sm (scF (hk (b + 12)) (hk (b + 13)) g) c.toNat) → (al = bI (alq (hk (b + 12)) (hk (b + 13)) g c.toNat = true)) → St E mX8_since 52 [some (.ref b), some (vI e), some (vI p), some (vI nc), some (vI sc), some (vI bt), some (vI g), some (vI al), some (vI c), x9, x10] [] (0, 0) N lay r hk := by
    intro hk hf g n0 s0 bt hg K n_
    induction n_ using Nat.strongRecOn with
    | ind n_ ih =>
      intro c nc sc al x9 x10 hn_ hc hnc hsc hal
      obtain ⟨k, rfl⟩ : ∃ k : Nat, c = k := ⟨c.toNat, by omega⟩
      rw [show ((k : Int)).toNat = k by omega] at hnc hsc hal
      subst hal
      have e2 : sm (ncF (hk (b + 12)) (hk (b + 13)) g) (k + 1) = sm (ncF (hk (b + 12)) (hk (b + 13)) g) k + (ncF (hk (b + 12)) (hk (b + 13)) g) k := rfl
      have e3 : sm (scF (hk (b + 12)) (hk (b + 13)) g) (k + 1) = sm (scF (hk (b + 12)) (hk (b + 13)) g) k + (scF (hk (b + 12)) (hk (b + 13)) g) k := rfl
      refine r_iload_8 (pc := 52) dX8_since_52 ?_
      refine r_iconst (pc := 54) dX8_since_54 ?_
      refine r_icmp_ge (pc := 55) (tgt := 153) dX8_since_55 (by decide) (by omega) (by omega) (fun c_55 => ?_) (fun c_55 => ?_)
      · have hk9 : k = 4 := by omega
        subst hk9
        rw [hnc, hsc]
        exact K _ _
      · refine r_aload_0 (pc := 58) dX8_since_58 ?_
        refine gf_X8_43 (pc := 59) rfl (by assumption) dX8_since_59 (by assumption) ?_
        refine r_iconst (pc := 62) dX8_since_62 ?_
        refine r_iload_6 (pc := 63) dX8_since_63 ?_
        refine r_imul (pc := 65) dX8_since_65 ?_
        refine r_iload_8 (pc := 66) dX8_since_66 ?_
        refine r_iadd (pc := 68) dX8_since_68 ?_
        refine r_ialdE (pc := 69) (by assumption) (by first | assumption | exact rfl) dX8_since_69 (by omega) (by omega) (fun i_69 => ?_)
        refine r_istore_9 (pc := 70) dX8_since_70 rfl ?_
        refine r_iload_7 (pc := 72) dX8_since_72 ?_
        refine r_ifeq_b (pc := 74) (tgt := 98) dX8_since_74 (by decide) (fun c_74 => ?_) (fun c_74 => ?_)
        · refine r_iconst (pc := 98) dX8_since_98 ?_
          refine r_istore_7 (pc := 99) dX8_since_99 rfl ?_
          refine r_iload_9 (pc := 101) dX8_since_101 ?_
          refine r_if_lt (pc := 103) (tgt := 147) dX8_since_103 (by decide) (by omega) (fun c_103 => ?_) (fun c_103 => ?_)
          · refine r_iinc_8 (pc := 147) dX8_since_147 rfl ?_
            refine r_goto (pc := 150) (tgt := 52) dX8_since_150 (by decide) ?_
            first | exact absurd c_136 c_122 | exact absurd c_122 c_136 | exact ih _ (by omega) ((k : Int) + 1) _ _ _ _ _ rfl (by omega) (by first | (have e9 : (ncF (hk (b + 12)) (hk (b + 13)) g) k = 0 := bI_f (fun z => by have := z.1; omega); rw [show ((k : Int) + 1).toNat = k + 1 by omega, e2, hnc, e9]; omega) | (have e9 : (ncF (hk (b + 12)) (hk (b + 13)) g) k = 0 := bI_f (fun z => z.2 c_122); rw [show ((k : Int) + 1).toNat = k + 1 by omega, e2, hnc, e9]; omega) | (have e9 : (ncF (hk (b + 12)) (hk (b + 13)) g) k = 1 := bI_t ⟨c_103, c_122⟩; rw [show ((k : Int) + 1).toNat = k + 1 by omega, e2, hnc, e9]; omega)) (by first | (have e9 : (scF (hk (b + 12)) (hk (b + 13)) g) k = 0 := bI_f (fun z => by have := z.1; omega); rw [show ((k : Int) + 1).toNat = k + 1 by omega, e3, hsc, e9]; omega) | (have e9 : (scF (hk (b + 12)) (hk (b + 13)) g) k = 0 := bI_f (fun z => c_122 z.2); rw [show ((k : Int) + 1).toNat = k + 1 by omega, e3, hsc, e9]; omega) | (have e9 : (scF (hk (b + 12)) (hk (b + 13)) g) k = 1 := bI_t ⟨c_103, c_122⟩; rw [show ((k : Int) + 1).toNat = k + 1 by omega, e3, hsc, e9]; omega)) (by rw [show ((k : Int) + 1).toNat = k + 1 by omega]; first | exact (bI_f (fun z => c_74 (alq_1 z))).symm | exact (bI_f (fun z => c_91 (alq_2 z))).symm | exact (bI_t (alq_3 c_74 c_91)).symm)
          · refine r_aload_0 (pc := 106) dX8_since_106 ?_
            refine gf_X8_46 (pc := 107) rfl (by assumption) dX8_since_107 (by assumption) ?_
            refine r_iload_6 (pc := 110) dX8_since_110 ?_
            refine r_iload_9 (pc := 112) dX8_since_112 ?_
            refine k_SI3 (pc := 114) c_X8_has lk_X8_208 ⟨Nat.le_of_ble_eq_true rfl, Nat.le_of_ble_eq_true rfl⟩ ⟨rfl, rfl⟩ ⟨Nat.le_of_ble_eq_true rfl, Nat.le_of_ble_eq_true rfl⟩ dX8_since_114 (Nat.le_of_ble_eq_true rfl) ?_
            refine ⟨_, _, _, rfl, by assumption, by omega, by omega, ?_⟩
            refine r_istore_10 (pc := 117) dX8_since_117 rfl ?_
            refine r_iload_3 (pc := 119) dX8_since_119 ?_
            refine r_iload_10 (pc := 120) dX8_since_120 ?_
            refine r_ifeq_b (pc := 122) (tgt := 129) dX8_since_122 (by decide) (fun c_122 => ?_) (fun c_122 => ?_)
            · refine r_iconst (pc := 129) dX8_since_129 ?_
              refine r_iadd (pc := 130) dX8_since_130 ?_
              refine r_istore_3 (pc := 131) dX8_since_131 rfl ?_
              refine r_iload_4 (pc := 132) dX8_since_132 ?_
              refine r_iload_10 (pc := 134) dX8_since_134 ?_
              refine r_ifeq_b (pc := 136) (tgt := 143) dX8_since_136 (by decide) (fun c_136 => ?_) (fun c_136 => ?_)
              · refine r_iconst (pc := 143) dX8_since_143 ?_
                refine r_iadd (pc := 144) dX8_since_144 ?_
                refine r_istore_4 (pc := 145) dX8_since_145 rfl ?_
                refine r_iinc_8 (pc := 147) dX8_since_147 rfl ?_
                refine r_goto (pc := 150) (tgt := 52) dX8_since_150 (by decide) ?_
                first | exact absurd c_136 c_122 | exact absurd c_122 c_136 | exact ih _ (by omega) ((k : Int) + 1) _ _ _ _ _ rfl (by omega) (by first | (have e9 : (ncF (hk (b + 12)) (hk (b + 13)) g) k = 0 := bI_f (fun z => by have := z.1; omega); rw [show ((k : Int) + 1).toNat = k + 1 by omega, e2, hnc, e9]; omega) | (have e9 : (ncF (hk (b + 12)) (hk (b + 13)) g) k = 0 := bI_f (fun z => z.2 c_122); rw [show ((k : Int) + 1).toNat = k + 1 by omega, e2, hnc, e9]; omega) | (have e9 : (ncF (hk (b + 12)) (hk (b + 13)) g) k = 1 := bI_t ⟨c_103, c_122⟩; rw [show ((k : Int) + 1).toNat = k + 1 by omega, e2, hnc, e9]; omega)) (by first | (have e9 : (scF (hk (b + 12)) (hk (b + 13)) g) k = 0 := bI_f (fun z => by have := z.1; omega); rw [show ((k : Int) + 1).toNat = k + 1 by omega, e3, hsc, e9]; omega) | (have e9 : (scF (hk (b + 12)) (hk (b + 13)) g) k = 0 := bI_f (fun z => c_122 z.2); rw [show ((k : Int) + 1).toNat = k + 1 by omega, e3, hsc, e9]; omega) | (have e9 : (scF (hk (b + 12)) (hk (b + 13)) g) k = 1 := bI_t ⟨c_103, c_122⟩; rw [show ((k : Int) + 1).toNat = k + 1 by omega, e3, hsc, e9]; omega)) (by rw [show ((k : Int) + 1).toNat = k + 1 by omega]; first | exact (bI_f (fun z => c_74 (alq_1 z))).symm | exact (bI_f (fun z => c_91 (alq_2 z))).symm | exact (bI_t (alq_3 c_74 c_91)).symm)
              · refine r_iconst (pc := 139) dX8_since_139 ?_
                refine r_goto (pc := 140) (tgt := 144) dX8_since_140 (by decide) ?_
                refine r_iadd (pc := 144) dX8_since_144 ?_
                refine r_istore_4 (pc := 145) dX8_since_145 rfl ?_
                refine r_iinc_8 (pc := 147) dX8_since_147 rfl ?_
                refine r_goto (pc := 150) (tgt := 52) dX8_since_150 (by decide) ?_
                first | exact absurd c_136 c_122 | exact absurd c_122 c_136 | exact ih _ (by omega) ((k : Int) + 1) _ _ _ _ _ rfl (by omega) (by first | (have e9 : (ncF (hk (b + 12)) (hk (b + 13)) g) k = 0 := bI_f (fun z => by have := z.1; omega); rw [show ((k : Int) + 1).toNat = k + 1 by omega, e2, hnc, e9]; omega) | (have e9 : (ncF (hk (b + 12)) (hk (b + 13)) g) k = 0 := bI_f (fun z => z.2 c_122); rw [show ((k : Int) + 1).toNat = k + 1 by omega, e2, hnc, e9]; omega) | (have e9 : (ncF (hk (b + 12)) (hk (b + 13)) g) k = 1 := bI_t ⟨c_103, c_122⟩; rw [show ((k : Int) + 1).toNat = k + 1 by omega, e2, hnc, e9]; omega)) (by first | (have e9 : (scF (hk (b + 12)) (hk (b + 13)) g) k = 0 := bI_f (fun z => by have := z.1; omega); rw [show ((k : Int) + 1).toNat = k + 1 by omega, e3, hsc, e9]; omega) | (have e9 : (scF (hk (b + 12)) (hk (b + 13)) g) k = 0 := bI_f (fun z => c_122 z.2); rw [show ((k : Int) + 1).toNat = k + 1 by omega, e3, hsc, e9]; omega) | (have e9 : (scF (hk (b + 12)) (hk (b + 13)) g) k = 1 := bI_t ⟨c_103, c_122⟩; rw [show ((k : Int) + 1).toNat = k + 1 by omega, e3, hsc, e9]; omega)) (by rw [show ((k : Int) + 1).toNat = k + 1 by omega]; first | exact (bI_f (fun z => c_74 (alq_1 z))).symm | exact (bI_f (fun z => c_91 (alq_2 z))).symm | exact (bI_t (alq_3 c_74 c_91)).symm)
            · refine r_iconst (pc := 125) dX8_since_125 ?_
              refine r_goto (pc := 126) (tgt := 130) dX8_since_126 (by decide) ?_
              refine r_iadd (pc := 130) dX8_since_130 ?_
              refine r_istore_3 (pc := 131) dX8_since_131 rfl ?_
              refine r_iload_4 (pc := 132) dX8_since_132 ?_
              refine r_iload_10 (pc := 134) dX8_since_134 ?_
              refine r_ifeq_b (pc := 136) (tgt := 143) dX8_since_136 (by decide) (fun c_136 => ?_) (fun c_136 => ?_)
              · refine r_iconst (pc := 143) dX8_since_143 ?_
                refine r_iadd (pc := 144) dX8_since_144 ?_
                refine r_istore_4 (pc := 145) dX8_since_145 rfl ?_
                refine r_iinc_8 (pc := 147) dX8_since_147 rfl ?_
                refine r_goto (pc := 150) (tgt := 52) dX8_since_150 (by decide) ?_
                first | exact absurd c_136 c_122 | exact absurd c_122 c_136 | exact ih _ (by omega) ((k : Int) + 1) _ _ _ _ _ rfl (by omega) (by first | (have e9 : (ncF (hk (b + 12)) (hk (b + 13)) g) k = 0 := bI_f (fun z => by have := z.1; omega); rw [show ((k : Int) + 1).toNat = k + 1 by omega, e2, hnc, e9]; omega) | (have e9 : (ncF (hk (b + 12)) (hk (b + 13)) g) k = 0 := bI_f (fun z => z.2 c_122); rw [show ((k : Int) + 1).toNat = k + 1 by omega, e2, hnc, e9]; omega) | (have e9 : (ncF (hk (b + 12)) (hk (b + 13)) g) k = 1 := bI_t ⟨c_103, c_122⟩; rw [show ((k : Int) + 1).toNat = k + 1 by omega, e2, hnc, e9]; omega)) (by first | (have e9 : (scF (hk (b + 12)) (hk (b + 13)) g) k = 0 := bI_f (fun z => by have := z.1; omega); rw [show ((k : Int) + 1).toNat = k + 1 by omega, e3, hsc, e9]; omega) | (have e9 : (scF (hk (b + 12)) (hk (b + 13)) g) k = 0 := bI_f (fun z => c_122 z.2); rw [show ((k : Int) + 1).toNat = k + 1 by omega, e3, hsc, e9]; omega) | (have e9 : (scF (hk (b + 12)) (hk (b + 13)) g) k = 1 := bI_t ⟨c_103, c_122⟩; rw [show ((k : Int) + 1).toNat = k + 1 by omega, e3, hsc, e9]; omega)) (by rw [show ((k : Int) + 1).toNat = k + 1 by omega]; first | exact (bI_f (fun z => c_74 (alq_1 z))).symm | exact (bI_f (fun z => c_91 (alq_2 z))).symm | exact (bI_t (alq_3 c_74 c_91)).symm)
              · refine r_iconst (pc := 139) dX8_since_139 ?_
                refine r_goto (pc := 140) (tgt := 144) dX8_since_140 (by decide) ?_
                refine r_iadd (pc := 144) dX8_since_144 ?_
                refine r_istore_4 (pc := 145) dX8_since_145 rfl ?_
                refine r_iinc_8 (pc := 147) dX8_since_147 rfl ?_
                refine r_goto (pc := 150) (tgt := 52) dX8_since_150 (by decide) ?_
                first | exact absurd c_136 c_122 | exact absurd c_122 c_136 | exact ih _ (by omega) ((k : Int) + 1) _ _ _ _ _ rfl (by omega) (by first | (have e9 : (ncF (hk (b + 12)) (hk (b + 13)) g) k = 0 := bI_f (fun z => by have := z.1; omega); rw [show ((k : Int) + 1).toNat = k + 1 by omega, e2, hnc, e9]; omega) | (have e9 : (ncF (hk (b + 12)) (hk (b + 13)) g) k = 0 := bI_f (fun z => z.2 c_122); rw [show ((k : Int) + 1).toNat = k + 1 by omega, e2, hnc, e9]; omega) | (have e9 : (ncF (hk (b + 12)) (hk (b + 13)) g) k = 1 := bI_t ⟨c_103, c_122⟩; rw [show ((k : Int) + 1).toNat = k + 1 by omega, e2, hnc, e9]; omega)) (by first | (have e9 : (scF (hk (b + 12)) (hk (b + 13)) g) k = 0 := bI_f (fun z => by have := z.1; omega); rw [show ((k : Int) + 1).toNat = k + 1 by omega, e3, hsc, e9]; omega) | (have e9 : (scF (hk (b + 12)) (hk (b + 13)) g) k = 0 := bI_f (fun z => c_122 z.2); rw [show ((k : Int) + 1).toNat = k + 1 by omega, e3, hsc, e9]; omega) | (have e9 : (scF (hk (b + 12)) (hk (b + 13)) g) k = 1 := bI_t ⟨c_103, c_122⟩; rw [show ((k : Int) + 1).toNat = k + 1 by omega, e3, hsc, e9]; omega)) (by rw [show ((k : Int) + 1).toNat = k + 1 by omega]; first | exact (bI_f (fun z => c_74 (alq_1 z))).symm | exact (bI_f (fun z => c_91 (alq_2 z))).symm | exact (bI_t (alq_3 c_74 c_91)).symm)
        · refine r_iload_9 (pc := 77) dX8_since_77 ?_
          refine r_aload_0 (pc := 79) dX8_since_79 ?_
          refine gf_X8_46 (pc := 80) rfl (by assumption) dX8_since_80 (by assumption) ?_
          refine r_iconst (pc := 83) dX8_since_83 ?_
          refine r_iload_6 (pc := 84) dX8_since_84 ?_
          refine r_imul (pc := 86) dX8_since_86 ?_
          refine r_iload_8 (pc := 87) dX8_since_87 ?_
          refine r_iadd (pc := 89) dX8_since_89 ?_
          refine r_ialdE (pc := 90) (by assumption) (by first | assumption | exact rfl) dX8_since_90 (by omega) (by omega) (fun i_90 => ?_)
          refine r_icmp_ne (pc := 91) (tgt := 98) dX8_since_91 (by decide) (by omega) (by omega) (fun c_91 => ?_) (fun c_91 => ?_)
          · refine r_iconst (pc := 98) dX8_since_98 ?_
            refine r_istore_7 (pc := 99) dX8_since_99 rfl ?_
            refine r_iload_9 (pc := 101) dX8_since_101 ?_
            refine r_if_lt (pc := 103) (tgt := 147) dX8_since_103 (by decide) (by omega) (fun c_103 => ?_) (fun c_103 => ?_)
            · refine r_iinc_8 (pc := 147) dX8_since_147 rfl ?_
              refine r_goto (pc := 150) (tgt := 52) dX8_since_150 (by decide) ?_
              first | exact absurd c_136 c_122 | exact absurd c_122 c_136 | exact ih _ (by omega) ((k : Int) + 1) _ _ _ _ _ rfl (by omega) (by first | (have e9 : (ncF (hk (b + 12)) (hk (b + 13)) g) k = 0 := bI_f (fun z => by have := z.1; omega); rw [show ((k : Int) + 1).toNat = k + 1 by omega, e2, hnc, e9]; omega) | (have e9 : (ncF (hk (b + 12)) (hk (b + 13)) g) k = 0 := bI_f (fun z => z.2 c_122); rw [show ((k : Int) + 1).toNat = k + 1 by omega, e2, hnc, e9]; omega) | (have e9 : (ncF (hk (b + 12)) (hk (b + 13)) g) k = 1 := bI_t ⟨c_103, c_122⟩; rw [show ((k : Int) + 1).toNat = k + 1 by omega, e2, hnc, e9]; omega)) (by first | (have e9 : (scF (hk (b + 12)) (hk (b + 13)) g) k = 0 := bI_f (fun z => by have := z.1; omega); rw [show ((k : Int) + 1).toNat = k + 1 by omega, e3, hsc, e9]; omega) | (have e9 : (scF (hk (b + 12)) (hk (b + 13)) g) k = 0 := bI_f (fun z => c_122 z.2); rw [show ((k : Int) + 1).toNat = k + 1 by omega, e3, hsc, e9]; omega) | (have e9 : (scF (hk (b + 12)) (hk (b + 13)) g) k = 1 := bI_t ⟨c_103, c_122⟩; rw [show ((k : Int) + 1).toNat = k + 1 by omega, e3, hsc, e9]; omega)) (by rw [show ((k : Int) + 1).toNat = k + 1 by omega]; first | exact (bI_f (fun z => c_74 (alq_1 z))).symm | exact (bI_f (fun z => c_91 (alq_2 z))).symm | exact (bI_t (alq_3 c_74 c_91)).symm)
            · refine r_aload_0 (pc := 106) dX8_since_106 ?_
              refine gf_X8_46 (pc := 107) rfl (by assumption) dX8_since_107 (by assumption) ?_
              refine r_iload_6 (pc := 110) dX8_since_110 ?_
              refine r_iload_9 (pc := 112) dX8_since_112 ?_
              refine k_SI3 (pc := 114) c_X8_has lk_X8_208 ⟨Nat.le_of_ble_eq_true rfl, Nat.le_of_ble_eq_true rfl⟩ ⟨rfl, rfl⟩ ⟨Nat.le_of_ble_eq_true rfl, Nat.le_of_ble_eq_true rfl⟩ dX8_since_114 (Nat.le_of_ble_eq_true rfl) ?_
              refine ⟨_, _, _, rfl, by assumption, by omega, by omega, ?_⟩
              refine r_istore_10 (pc := 117) dX8_since_117 rfl ?_
              refine r_iload_3 (pc := 119) dX8_since_119 ?_
              refine r_iload_10 (pc := 120) dX8_since_120 ?_
              refine r_ifeq_b (pc := 122) (tgt := 129) dX8_since_122 (by decide) (fun c_122 => ?_) (fun c_122 => ?_)
              · refine r_iconst (pc := 129) dX8_since_129 ?_
                refine r_iadd (pc := 130) dX8_since_130 ?_
                refine r_istore_3 (pc := 131) dX8_since_131 rfl ?_
                refine r_iload_4 (pc := 132) dX8_since_132 ?_
                refine r_iload_10 (pc := 134) dX8_since_134 ?_
                refine r_ifeq_b (pc := 136) (tgt := 143) dX8_since_136 (by decide) (fun c_136 => ?_) (fun c_136 => ?_)
                · refine r_iconst (pc := 143) dX8_since_143 ?_
                  refine r_iadd (pc := 144) dX8_since_144 ?_
                  refine r_istore_4 (pc := 145) dX8_since_145 rfl ?_
                  refine r_iinc_8 (pc := 147) dX8_since_147 rfl ?_
                  refine r_goto (pc := 150) (tgt := 52) dX8_since_150 (by decide) ?_
                  first | exact absurd c_136 c_122 | exact absurd c_122 c_136 | exact ih _ (by omega) ((k : Int) + 1) _ _ _ _ _ rfl (by omega) (by first | (have e9 : (ncF (hk (b + 12)) (hk (b + 13)) g) k = 0 := bI_f (fun z => by have := z.1; omega); rw [show ((k : Int) + 1).toNat = k + 1 by omega, e2, hnc, e9]; omega) | (have e9 : (ncF (hk (b + 12)) (hk (b + 13)) g) k = 0 := bI_f (fun z => z.2 c_122); rw [show ((k : Int) + 1).toNat = k + 1 by omega, e2, hnc, e9]; omega) | (have e9 : (ncF (hk (b + 12)) (hk (b + 13)) g) k = 1 := bI_t ⟨c_103, c_122⟩; rw [show ((k : Int) + 1).toNat = k + 1 by omega, e2, hnc, e9]; omega)) (by first | (have e9 : (scF (hk (b + 12)) (hk (b + 13)) g) k = 0 := bI_f (fun z => by have := z.1; omega); rw [show ((k : Int) + 1).toNat = k + 1 by omega, e3, hsc, e9]; omega) | (have e9 : (scF (hk (b + 12)) (hk (b + 13)) g) k = 0 := bI_f (fun z => c_122 z.2); rw [show ((k : Int) + 1).toNat = k + 1 by omega, e3, hsc, e9]; omega) | (have e9 : (scF (hk (b + 12)) (hk (b + 13)) g) k = 1 := bI_t ⟨c_103, c_122⟩; rw [show ((k : Int) + 1).toNat = k + 1 by omega, e3, hsc, e9]; omega)) (by rw [show ((k : Int) + 1).toNat = k + 1 by omega]; first | exact (bI_f (fun z => c_74 (alq_1 z))).symm | exact (bI_f (fun z => c_91 (alq_2 z))).symm | exact (bI_t (alq_3 c_74 c_91)).symm)
                · refine r_iconst (pc := 139) dX8_since_139 ?_
                  refine r_goto (pc := 140) (tgt := 144) dX8_since_140 (by decide) ?_
                  refine r_iadd (pc := 144) dX8_since_144 ?_
                  refine r_istore_4 (pc := 145) dX8_since_145 rfl ?_
                  refine r_iinc_8 (pc := 147) dX8_since_147 rfl ?_
                  refine r_goto (pc := 150) (tgt := 52) dX8_since_150 (by decide) ?_
                  first | exact absurd c_136 c_122 | exact absurd c_122 c_136 | exact ih _ (by omega) ((k : Int) + 1) _ _ _ _ _ rfl (by omega) (by first | (have e9 : (ncF (hk (b + 12)) (hk (b + 13)) g) k = 0 := bI_f (fun z => by have := z.1; omega); rw [show ((k : Int) + 1).toNat = k + 1 by omega, e2, hnc, e9]; omega) | (have e9 : (ncF (hk (b + 12)) (hk (b + 13)) g) k = 0 := bI_f (fun z => z.2 c_122); rw [show ((k : Int) + 1).toNat = k + 1 by omega, e2, hnc, e9]; omega) | (have e9 : (ncF (hk (b + 12)) (hk (b + 13)) g) k = 1 := bI_t ⟨c_103, c_122⟩; rw [show ((k : Int) + 1).toNat = k + 1 by omega, e2, hnc, e9]; omega)) (by first | (have e9 : (scF (hk (b + 12)) (hk (b + 13)) g) k = 0 := bI_f (fun z => by have := z.1; omega); rw [show ((k : Int) + 1).toNat = k + 1 by omega, e3, hsc, e9]; omega) | (have e9 : (scF (hk (b + 12)) (hk (b + 13)) g) k = 0 := bI_f (fun z => c_122 z.2); rw [show ((k : Int) + 1).toNat = k + 1 by omega, e3, hsc, e9]; omega) | (have e9 : (scF (hk (b + 12)) (hk (b + 13)) g) k = 1 := bI_t ⟨c_103, c_122⟩; rw [show ((k : Int) + 1).toNat = k + 1 by omega, e3, hsc, e9]; omega)) (by rw [show ((k : Int) + 1).toNat = k + 1 by omega]; first | exact (bI_f (fun z => c_74 (alq_1 z))).symm | exact (bI_f (fun z => c_91 (alq_2 z))).symm | exact (bI_t (alq_3 c_74 c_91)).symm)
              · refine r_iconst (pc := 125) dX8_since_125 ?_
                refine r_goto (pc := 126) (tgt := 130) dX8_since_126 (by decide) ?_
                refine r_iadd (pc := 130) dX8_since_130 ?_
                refine r_istore_3 (pc := 131) dX8_since_131 rfl ?_
                refine r_iload_4 (pc := 132) dX8_since_132 ?_
                refine r_iload_10 (pc := 134) dX8_since_134 ?_
                refine r_ifeq_b (pc := 136) (tgt := 143) dX8_since_136 (by decide) (fun c_136 => ?_) (fun c_136 => ?_)
                · refine r_iconst (pc := 143) dX8_since_143 ?_
                  refine r_iadd (pc := 144) dX8_since_144 ?_
                  refine r_istore_4 (pc := 145) dX8_since_145 rfl ?_
                  refine r_iinc_8 (pc := 147) dX8_since_147 rfl ?_
                  refine r_goto (pc := 150) (tgt := 52) dX8_since_150 (by decide) ?_
                  first | exact absurd c_136 c_122 | exact absurd c_122 c_136 | exact ih _ (by omega) ((k : Int) + 1) _ _ _ _ _ rfl (by omega) (by first | (have e9 : (ncF (hk (b + 12)) (hk (b + 13)) g) k = 0 := bI_f (fun z => by have := z.1; omega); rw [show ((k : Int) + 1).toNat = k + 1 by omega, e2, hnc, e9]; omega) | (have e9 : (ncF (hk (b + 12)) (hk (b + 13)) g) k = 0 := bI_f (fun z => z.2 c_122); rw [show ((k : Int) + 1).toNat = k + 1 by omega, e2, hnc, e9]; omega) | (have e9 : (ncF (hk (b + 12)) (hk (b + 13)) g) k = 1 := bI_t ⟨c_103, c_122⟩; rw [show ((k : Int) + 1).toNat = k + 1 by omega, e2, hnc, e9]; omega)) (by first | (have e9 : (scF (hk (b + 12)) (hk (b + 13)) g) k = 0 := bI_f (fun z => by have := z.1; omega); rw [show ((k : Int) + 1).toNat = k + 1 by omega, e3, hsc, e9]; omega) | (have e9 : (scF (hk (b + 12)) (hk (b + 13)) g) k = 0 := bI_f (fun z => c_122 z.2); rw [show ((k : Int) + 1).toNat = k + 1 by omega, e3, hsc, e9]; omega) | (have e9 : (scF (hk (b + 12)) (hk (b + 13)) g) k = 1 := bI_t ⟨c_103, c_122⟩; rw [show ((k : Int) + 1).toNat = k + 1 by omega, e3, hsc, e9]; omega)) (by rw [show ((k : Int) + 1).toNat = k + 1 by omega]; first | exact (bI_f (fun z => c_74 (alq_1 z))).symm | exact (bI_f (fun z => c_91 (alq_2 z))).symm | exact (bI_t (alq_3 c_74 c_91)).symm)
                · refine r_iconst (pc := 139) dX8_since_139 ?_
                  refine r_goto (pc := 140) (tgt := 144) dX8_since_140 (by decide) ?_
                  refine r_iadd (pc := 144) dX8_since_144 ?_
                  refine r_istore_4 (pc := 145) dX8_since_145 rfl ?_
                  refine r_iinc_8 (pc := 147) dX8_since_147 rfl ?_
                  refine r_goto (pc := 150) (tgt := 52) dX8_since_150 (by decide) ?_
                  first | exact absurd c_136 c_122 | exact absurd c_122 c_136 | exact ih _ (by omega) ((k : Int) + 1) _ _ _ _ _ rfl (by omega) (by first | (have e9 : (ncF (hk (b + 12)) (hk (b + 13)) g) k = 0 := bI_f (fun z => by have := z.1; omega); rw [show ((k : Int) + 1).toNat = k + 1 by omega, e2, hnc, e9]; omega) | (have e9 : (ncF (hk (b + 12)) (hk (b + 13)) g) k = 0 := bI_f (fun z => z.2 c_122); rw [show ((k : Int) + 1).toNat = k + 1 by omega, e2, hnc, e9]; omega) | (have e9 : (ncF (hk (b + 12)) (hk (b + 13)) g) k = 1 := bI_t ⟨c_103, c_122⟩; rw [show ((k : Int) + 1).toNat = k + 1 by omega, e2, hnc, e9]; omega)) (by first | (have e9 : (scF (hk (b + 12)) (hk (b + 13)) g) k = 0 := bI_f (fun z => by have := z.1; omega); rw [show ((k : Int) + 1).toNat = k + 1 by omega, e3, hsc, e9]; omega) | (have e9 : (scF (hk (b + 12)) (hk (b + 13)) g) k = 0 := bI_f (fun z => c_122 z.2); rw [show ((k : Int) + 1).toNat = k + 1 by omega, e3, hsc, e9]; omega) | (have e9 : (scF (hk (b + 12)) (hk (b + 13)) g) k = 1 := bI_t ⟨c_103, c_122⟩; rw [show ((k : Int) + 1).toNat = k + 1 by omega, e3, hsc, e9]; omega)) (by rw [show ((k : Int) + 1).toNat = k + 1 by omega]; first | exact (bI_f (fun z => c_74 (alq_1 z))).symm | exact (bI_f (fun z => c_91 (alq_2 z))).symm | exact (bI_t (alq_3 c_74 c_91)).symm)
          · refine r_iconst (pc := 94) dX8_since_94 ?_
            refine r_goto (pc := 95) (tgt := 99) dX8_since_95 (by decide) ?_
            refine r_istore_7 (pc := 99) dX8_since_99 rfl ?_
            refine r_iload_9 (pc := 101) dX8_since_101 ?_
            refine r_if_lt (pc := 103) (tgt := 147) dX8_since_103 (by decide) (by omega) (fun c_103 => ?_) (fun c_103 => ?_)
            · refine r_iinc_8 (pc := 147) dX8_since_147 rfl ?_
              refine r_goto (pc := 150) (tgt := 52) dX8_since_150 (by decide) ?_
              first | exact absurd c_136 c_122 | exact absurd c_122 c_136 | exact ih _ (by omega) ((k : Int) + 1) _ _ _ _ _ rfl (by omega) (by first | (have e9 : (ncF (hk (b + 12)) (hk (b + 13)) g) k = 0 := bI_f (fun z => by have := z.1; omega); rw [show ((k : Int) + 1).toNat = k + 1 by omega, e2, hnc, e9]; omega) | (have e9 : (ncF (hk (b + 12)) (hk (b + 13)) g) k = 0 := bI_f (fun z => z.2 c_122); rw [show ((k : Int) + 1).toNat = k + 1 by omega, e2, hnc, e9]; omega) | (have e9 : (ncF (hk (b + 12)) (hk (b + 13)) g) k = 1 := bI_t ⟨c_103, c_122⟩; rw [show ((k : Int) + 1).toNat = k + 1 by omega, e2, hnc, e9]; omega)) (by first | (have e9 : (scF (hk (b + 12)) (hk (b + 13)) g) k = 0 := bI_f (fun z => by have := z.1; omega); rw [show ((k : Int) + 1).toNat = k + 1 by omega, e3, hsc, e9]; omega) | (have e9 : (scF (hk (b + 12)) (hk (b + 13)) g) k = 0 := bI_f (fun z => c_122 z.2); rw [show ((k : Int) + 1).toNat = k + 1 by omega, e3, hsc, e9]; omega) | (have e9 : (scF (hk (b + 12)) (hk (b + 13)) g) k = 1 := bI_t ⟨c_103, c_122⟩; rw [show ((k : Int) + 1).toNat = k + 1 by omega, e3, hsc, e9]; omega)) (by rw [show ((k : Int) + 1).toNat = k + 1 by omega]; first | exact (bI_f (fun z => c_74 (alq_1 z))).symm | exact (bI_f (fun z => c_91 (alq_2 z))).symm | exact (bI_t (alq_3 c_74 c_91)).symm)
            · refine r_aload_0 (pc := 106) dX8_since_106 ?_
              refine gf_X8_46 (pc := 107) rfl (by assumption) dX8_since_107 (by assumption) ?_
              refine r_iload_6 (pc := 110) dX8_since_110 ?_
              refine r_iload_9 (pc := 112) dX8_since_112 ?_
              refine k_SI3 (pc := 114) c_X8_has lk_X8_208 ⟨Nat.le_of_ble_eq_true rfl, Nat.le_of_ble_eq_true rfl⟩ ⟨rfl, rfl⟩ ⟨Nat.le_of_ble_eq_true rfl, Nat.le_of_ble_eq_true rfl⟩ dX8_since_114 (Nat.le_of_ble_eq_true rfl) ?_
              refine ⟨_, _, _, rfl, by assumption, by omega, by omega, ?_⟩
              refine r_istore_10 (pc := 117) dX8_since_117 rfl ?_
              refine r_iload_3 (pc := 119) dX8_since_119 ?_
              refine r_iload_10 (pc := 120) dX8_since_120 ?_
              refine r_ifeq_b (pc := 122) (tgt := 129) dX8_since_122 (by decide) (fun c_122 => ?_) (fun c_122 => ?_)
              · refine r_iconst (pc := 129) dX8_since_129 ?_
                refine r_iadd (pc := 130) dX8_since_130 ?_
                refine r_istore_3 (pc := 131) dX8_since_131 rfl ?_
                refine r_iload_4 (pc := 132) dX8_since_132 ?_
                refine r_iload_10 (pc := 134) dX8_since_134 ?_
                refine r_ifeq_b (pc := 136) (tgt := 143) dX8_since_136 (by decide) (fun c_136 => ?_) (fun c_136 => ?_)
                · refine r_iconst (pc := 143) dX8_since_143 ?_
                  refine r_iadd (pc := 144) dX8_since_144 ?_
                  refine r_istore_4 (pc := 145) dX8_since_145 rfl ?_
                  refine r_iinc_8 (pc := 147) dX8_since_147 rfl ?_
                  refine r_goto (pc := 150) (tgt := 52) dX8_since_150 (by decide) ?_
                  first | exact absurd c_136 c_122 | exact absurd c_122 c_136 | exact ih _ (by omega) ((k : Int) + 1) _ _ _ _ _ rfl (by omega) (by first | (have e9 : (ncF (hk (b + 12)) (hk (b + 13)) g) k = 0 := bI_f (fun z => by have := z.1; omega); rw [show ((k : Int) + 1).toNat = k + 1 by omega, e2, hnc, e9]; omega) | (have e9 : (ncF (hk (b + 12)) (hk (b + 13)) g) k = 0 := bI_f (fun z => z.2 c_122); rw [show ((k : Int) + 1).toNat = k + 1 by omega, e2, hnc, e9]; omega) | (have e9 : (ncF (hk (b + 12)) (hk (b + 13)) g) k = 1 := bI_t ⟨c_103, c_122⟩; rw [show ((k : Int) + 1).toNat = k + 1 by omega, e2, hnc, e9]; omega)) (by first | (have e9 : (scF (hk (b + 12)) (hk (b + 13)) g) k = 0 := bI_f (fun z => by have := z.1; omega); rw [show ((k : Int) + 1).toNat = k + 1 by omega, e3, hsc, e9]; omega) | (have e9 : (scF (hk (b + 12)) (hk (b + 13)) g) k = 0 := bI_f (fun z => c_122 z.2); rw [show ((k : Int) + 1).toNat = k + 1 by omega, e3, hsc, e9]; omega) | (have e9 : (scF (hk (b + 12)) (hk (b + 13)) g) k = 1 := bI_t ⟨c_103, c_122⟩; rw [show ((k : Int) + 1).toNat = k + 1 by omega, e3, hsc, e9]; omega)) (by rw [show ((k : Int) + 1).toNat = k + 1 by omega]; first | exact (bI_f (fun z => c_74 (alq_1 z))).symm | exact (bI_f (fun z => c_91 (alq_2 z))).symm | exact (bI_t (alq_3 c_74 c_91)).symm)
                · refine r_iconst (pc := 139) dX8_since_139 ?_
                  refine r_goto (pc := 140) (tgt := 144) dX8_since_140 (by decide) ?_
                  refine r_iadd (pc := 144) dX8_since_144 ?_
                  refine r_istore_4 (pc := 145) dX8_since_145 rfl ?_
                  refine r_iinc_8 (pc := 147) dX8_since_147 rfl ?_
                  refine r_goto (pc := 150) (tgt := 52) dX8_since_150 (by decide) ?_
                  first | exact absurd c_136 c_122 | exact absurd c_122 c_136 | exact ih _ (by omega) ((k : Int) + 1) _ _ _ _ _ rfl (by omega) (by first | (have e9 : (ncF (hk (b + 12)) (hk (b + 13)) g) k = 0 := bI_f (fun z => by have := z.1; omega); rw [show ((k : Int) + 1).toNat = k + 1 by omega, e2, hnc, e9]; omega) | (have e9 : (ncF (hk (b + 12)) (hk (b + 13)) g) k = 0 := bI_f (fun z => z.2 c_122); rw [show ((k : Int) + 1).toNat = k + 1 by omega, e2, hnc, e9]; omega) | (have e9 : (ncF (hk (b + 12)) (hk (b + 13)) g) k = 1 := bI_t ⟨c_103, c_122⟩; rw [show ((k : Int) + 1).toNat = k + 1 by omega, e2, hnc, e9]; omega)) (by first | (have e9 : (scF (hk (b + 12)) (hk (b + 13)) g) k = 0 := bI_f (fun z => by have := z.1; omega); rw [show ((k : Int) + 1).toNat = k + 1 by omega, e3, hsc, e9]; omega) | (have e9 : (scF (hk (b + 12)) (hk (b + 13)) g) k = 0 := bI_f (fun z => c_122 z.2); rw [show ((k : Int) + 1).toNat = k + 1 by omega, e3, hsc, e9]; omega) | (have e9 : (scF (hk (b + 12)) (hk (b + 13)) g) k = 1 := bI_t ⟨c_103, c_122⟩; rw [show ((k : Int) + 1).toNat = k + 1 by omega, e3, hsc, e9]; omega)) (by rw [show ((k : Int) + 1).toNat = k + 1 by omega]; first | exact (bI_f (fun z => c_74 (alq_1 z))).symm | exact (bI_f (fun z => c_91 (alq_2 z))).symm | exact (bI_t (alq_3 c_74 c_91)).symm)
              · refine r_iconst (pc := 125) dX8_since_125 ?_
                refine r_goto (pc := 126) (tgt := 130) dX8_since_126 (by decide) ?_
                refine r_iadd (pc := 130) dX8_since_130 ?_
                refine r_istore_3 (pc := 131) dX8_since_131 rfl ?_
                refine r_iload_4 (pc := 132) dX8_since_132 ?_
                refine r_iload_10 (pc := 134) dX8_since_134 ?_
                refine r_ifeq_b (pc := 136) (tgt := 143) dX8_since_136 (by decide) (fun c_136 => ?_) (fun c_136 => ?_)
                · refine r_iconst (pc := 143) dX8_since_143 ?_
                  refine r_iadd (pc := 144) dX8_since_144 ?_
                  refine r_istore_4 (pc := 145) dX8_since_145 rfl ?_
                  refine r_iinc_8 (pc := 147) dX8_since_147 rfl ?_
                  refine r_goto (pc := 150) (tgt := 52) dX8_since_150 (by decide) ?_
                  first | exact absurd c_136 c_122 | exact absurd c_122 c_136 | exact ih _ (by omega) ((k : Int) + 1) _ _ _ _ _ rfl (by omega) (by first | (have e9 : (ncF (hk (b + 12)) (hk (b + 13)) g) k = 0 := bI_f (fun z => by have := z.1; omega); rw [show ((k : Int) + 1).toNat = k + 1 by omega, e2, hnc, e9]; omega) | (have e9 : (ncF (hk (b + 12)) (hk (b + 13)) g) k = 0 := bI_f (fun z => z.2 c_122); rw [show ((k : Int) + 1).toNat = k + 1 by omega, e2, hnc, e9]; omega) | (have e9 : (ncF (hk (b + 12)) (hk (b + 13)) g) k = 1 := bI_t ⟨c_103, c_122⟩; rw [show ((k : Int) + 1).toNat = k + 1 by omega, e2, hnc, e9]; omega)) (by first | (have e9 : (scF (hk (b + 12)) (hk (b + 13)) g) k = 0 := bI_f (fun z => by have := z.1; omega); rw [show ((k : Int) + 1).toNat = k + 1 by omega, e3, hsc, e9]; omega) | (have e9 : (scF (hk (b + 12)) (hk (b + 13)) g) k = 0 := bI_f (fun z => c_122 z.2); rw [show ((k : Int) + 1).toNat = k + 1 by omega, e3, hsc, e9]; omega) | (have e9 : (scF (hk (b + 12)) (hk (b + 13)) g) k = 1 := bI_t ⟨c_103, c_122⟩; rw [show ((k : Int) + 1).toNat = k + 1 by omega, e3, hsc, e9]; omega)) (by rw [show ((k : Int) + 1).toNat = k + 1 by omega]; first | exact (bI_f (fun z => c_74 (alq_1 z))).symm | exact (bI_f (fun z => c_91 (alq_2 z))).symm | exact (bI_t (alq_3 c_74 c_91)).symm)
                · refine r_iconst (pc := 139) dX8_since_139 ?_
                  refine r_goto (pc := 140) (tgt := 144) dX8_since_140 (by decide) ?_
                  refine r_iadd (pc := 144) dX8_since_144 ?_
                  refine r_istore_4 (pc := 145) dX8_since_145 rfl ?_
                  refine r_iinc_8 (pc := 147) dX8_since_147 rfl ?_
                  refine r_goto (pc := 150) (tgt := 52) dX8_since_150 (by decide) ?_
                  first | exact absurd c_136 c_122 | exact absurd c_122 c_136 | exact ih _ (by omega) ((k : Int) + 1) _ _ _ _ _ rfl (by omega) (by first | (have e9 : (ncF (hk (b + 12)) (hk (b + 13)) g) k = 0 := bI_f (fun z => by have := z.1; omega); rw [show ((k : Int) + 1).toNat = k + 1 by omega, e2, hnc, e9]; omega) | (have e9 : (ncF (hk (b + 12)) (hk (b + 13)) g) k = 0 := bI_f (fun z => z.2 c_122); rw [show ((k : Int) + 1).toNat = k + 1 by omega, e2, hnc, e9]; omega) | (have e9 : (ncF (hk (b + 12)) (hk (b + 13)) g) k = 1 := bI_t ⟨c_103, c_122⟩; rw [show ((k : Int) + 1).toNat = k + 1 by omega, e2, hnc, e9]; omega)) (by first | (have e9 : (scF (hk (b + 12)) (hk (b + 13)) g) k = 0 := bI_f (fun z => by have := z.1; omega); rw [show ((k : Int) + 1).toNat = k + 1 by omega, e3, hsc, e9]; omega) | (have e9 : (scF (hk (b + 12)) (hk (b + 13)) g) k = 0 := bI_f (fun z => c_122 z.2); rw [show ((k : Int) + 1).toNat = k + 1 by omega, e3, hsc, e9]; omega) | (have e9 : (scF (hk (b + 12)) (hk (b + 13)) g) k = 1 := bI_t ⟨c_103, c_122⟩; rw [show ((k : Int) + 1).toNat = k + 1 by omega, e3, hsc, e9]; omega)) (by rw [show ((k : Int) + 1).toNat = k + 1 by omega]; first | exact (bI_f (fun z => c_74 (alq_1 z))).symm | exact (bI_f (fun z => c_91 (alq_2 z))).symm | exact (bI_t (alq_3 c_74 c_91)).symm)
  have lp : ∀ (hk : HpT) (hf : Fr h hk (fun x => x = b + 5 ∨ x = b + 13 ∨ x = b + 8 ∨ x = b + 9 ∨ x = b + 10 ∨ x = b + 11)) (hp0 : 0 ≤ p ∧ p ≤ 2) (K : (p = 0 → Q (snN (hk (b + 12)) (hk (b + 13))) N lay r hk) ∧ (p = 1 → Q (snS (hk (b + 12)) (hk (b + 13))) N lay r hk) ∧ (p = 2 → Q (snA (hk (b + 12)) (hk (b + 13))) N lay r hk)) (n_ : Nat) (g : Int) (nc : Int) (sc : Int) (bt : Int) (x7 : Option Value) (x8 : Option Value) (x9 : Option Value) (x10 : Option Value), (16 - g).toNat = n_ → (0 ≤ g ∧ g ≤ 16) → (nc = sm (fun g => sm (ncF (hk (b + 12)) (hk (b + 13)) g) 4) g.toNat) → (sc = sm (fun g => sm (scF (hk (b + 12)) (hk (b + 13)) g) 4) g.toNat) → (bt = sm (fun g => if alq (hk (b + 12)) (hk (b + 13)) g 4 = true then iSl 1 g else 0) g.toNat) → St E mX8_since 39 [some (.ref b), some (vI e), some (vI p), some (vI nc), some (vI sc), some (vI bt), some (vI g), x7, x8, x9, x10] [] (0, 0) N lay r hk := by
    intro hk hf hp0 K n_
    induction n_ using Nat.strongRecOn with
    | ind n_ ih =>
      intro g nc sc bt x7 x8 x9 x10 hn_ hg h1 h2 h3
      have e1 : sm (fun g => sm (ncF (hk (b + 12)) (hk (b + 13)) g) 4) (g + 1).toNat = sm (fun g => sm (ncF (hk (b + 12)) (hk (b + 13)) g) 4) g.toNat + (fun g => sm (ncF (hk (b + 12)) (hk (b + 13)) g) 4) g := sm_z (by omega)
      dsimp only at e1
      have e2 : sm (fun g => sm (scF (hk (b + 12)) (hk (b + 13)) g) 4) (g + 1).toNat = sm (fun g => sm (scF (hk (b + 12)) (hk (b + 13)) g) 4) g.toNat + (fun g => sm (scF (hk (b + 12)) (hk (b + 13)) g) 4) g := sm_z (by omega)
      dsimp only at e2
      have e3 : sm (fun g => if alq (hk (b + 12)) (hk (b + 13)) g 4 = true then iSl 1 g else 0) (g + 1).toNat = sm (fun g => if alq (hk (b + 12)) (hk (b + 13)) g 4 = true then iSl 1 g else 0) g.toNat + (fun g => if alq (hk (b + 12)) (hk (b + 13)) g 4 = true then iSl 1 g else 0) g := sm_z (by omega)
      dsimp only at e3
      refine r_iload_6 (pc := 39) dX8_since_39 ?_
      refine r_bipush (pc := 41) dX8_since_41 (by decide) ?_
      refine r_icmp_ge (pc := 43) (tgt := 177) dX8_since_43 (by decide) (by omega) (by omega) (fun c_43 => ?_) (fun c_43 => ?_)
      · refine r_iload_2 (pc := 177) dX8_since_177 ?_
        refine r_if_ne (pc := 178) (tgt := 185) dX8_since_178 (by decide) (by omega) (fun c_178 => ?_) (fun c_178 => ?_)
        · refine r_iload_2 (pc := 185) dX8_since_185 ?_
          refine r_iconst (pc := 186) dX8_since_186 ?_
          refine r_icmp_ne (pc := 187) (tgt := 195) dX8_since_187 (by decide) (by omega) (by omega) (fun c_187 => ?_) (fun c_187 => ?_)
          · refine r_iload_5 (pc := 195) dX8_since_195 ?_
            refine r_iret (pc := 197) hret dX8_since_197 rfl rfl rfl ?_
            have hg9 : g = 16 := by omega
            subst hg9
            rw [show (16 : Int).toNat = 16 from rfl] at h1 h2 h3
            first
            | (rw [h1]; exact K.1 (by omega))
            | (rw [h2]; exact K.2.1 (by omega))
            | (rw [h3]; exact K.2.2 (by omega))
          · refine r_iload_4 (pc := 190) dX8_since_190 ?_
            refine r_goto (pc := 192) (tgt := 197) dX8_since_192 (by decide) ?_
            refine r_iret (pc := 197) hret dX8_since_197 rfl rfl rfl ?_
            have hg9 : g = 16 := by omega
            subst hg9
            rw [show (16 : Int).toNat = 16 from rfl] at h1 h2 h3
            first
            | (rw [h1]; exact K.1 (by omega))
            | (rw [h2]; exact K.2.1 (by omega))
            | (rw [h3]; exact K.2.2 (by omega))
        · refine r_iload_3 (pc := 181) dX8_since_181 ?_
          refine r_goto (pc := 182) (tgt := 197) dX8_since_182 (by decide) ?_
          refine r_iret (pc := 197) hret dX8_since_197 rfl rfl rfl ?_
          have hg9 : g = 16 := by omega
          subst hg9
          rw [show (16 : Int).toNat = 16 from rfl] at h1 h2 h3
          first
          | (rw [h1]; exact K.1 (by omega))
          | (rw [h2]; exact K.2.1 (by omega))
          | (rw [h3]; exact K.2.2 (by omega))
      · refine r_iconst (pc := 46) dX8_since_46 ?_
        refine r_istore_7 (pc := 47) dX8_since_47 rfl ?_
        refine r_iconst (pc := 49) dX8_since_49 ?_
        refine r_istore_8 (pc := 50) dX8_since_50 rfl ?_
        refine inn hk hf g nc sc bt (by omega) (fun y9 y10 => ?_) _ 0 nc sc 1 _ _ rfl (by omega) (by simp [sm]) (by simp [sm]) (bI_t rfl).symm
        refine r_iload_5 (pc := 153) dX8_since_153 ?_
        refine r_iload_7 (pc := 155) dX8_since_155 ?_
        refine r_ifeq_b (pc := 157) (tgt := 167) dX8_since_157 (by decide) (fun c_157 => ?_) (fun c_157 => ?_)
        · refine r_iconst (pc := 167) dX8_since_167 ?_
          refine r_iadd (pc := 168) dX8_since_168 ?_
          refine r_istore_5 (pc := 169) dX8_since_169 rfl ?_
          refine r_iinc_6 (pc := 171) dX8_since_171 rfl ?_
          refine r_goto (pc := 174) (tgt := 39) dX8_since_174 (by decide) ?_
          exact ih _ (by omega) (g + 1) _ _ _ _ _ _ _ rfl (by omega) (by rw [e1, h1]) (by rw [e2, h2]) (by first | rw [e3, h3, if_pos c_157] | rw [e3, h3, if_neg c_157])
        · refine r_iconst (pc := 160) dX8_since_160 ?_
          refine r_iload_6 (pc := 161) dX8_since_161 ?_
          refine r_ishl (pc := 163) dX8_since_163 (fun i_163 => ?_)
          refine r_goto (pc := 164) (tgt := 168) dX8_since_164 (by decide) ?_
          refine r_iadd (pc := 168) dX8_since_168 ?_
          refine r_istore_5 (pc := 169) dX8_since_169 rfl ?_
          refine r_iinc_6 (pc := 171) dX8_since_171 rfl ?_
          refine r_goto (pc := 174) (tgt := 39) dX8_since_174 (by decide) ?_
          exact ih _ (by omega) (g + 1) _ _ _ _ _ _ _ rfl (by omega) (by rw [e1, h1]) (by rw [e2, h2]) (by first | rw [e3, h3, if_pos c_157] | rw [e3, h3, if_neg c_157])
  refine r_aload_0 (pc := 0) dX8_since_0 ?_
  refine r_iload_2 (pc := 1) dX8_since_1 ?_
  refine r_iconst (pc := 2) dX8_since_2 ?_
  refine r_iconst (pc := 3) dX8_since_3 ?_
  refine k_VI3 (pc := 4) c_X8_isIn lk_X8_137 ⟨Nat.le_of_ble_eq_true rfl, Nat.le_of_ble_eq_true rfl⟩ ⟨rfl, rfl⟩ ⟨Nat.le_of_ble_eq_true rfl, Nat.le_of_ble_eq_true rfl⟩ (k := 8) rfl (by decide) (by assumption) dX8_since_4 (Nat.le_of_ble_eq_true rfl) ?_
  refine ⟨_, _, _, _, rfl, by omega, by omega, by omega, ?_⟩
  refine r_ifne_b (pc := 7) (tgt := 12) dX8_since_7 (by decide) (fun c_7 => ?_) (fun c_7 => ?_)
  · refine r_aload_0 (pc := 12) dX8_since_12 ?_
    refine r_iload_1 (pc := 13) dX8_since_13 ?_
    refine k_VI1 (pc := 14) c_X8_isKept lk_X8_229 ⟨Nat.le_of_ble_eq_true rfl, Nat.le_of_ble_eq_true rfl⟩ ⟨rfl, rfl⟩ ⟨Nat.le_of_ble_eq_true rfl, Nat.le_of_ble_eq_true rfl⟩ (k := 8) rfl (by decide) (by assumption) dX8_since_14 (Nat.le_of_ble_eq_true rfl) ?_
    refine ⟨_, _, rfl, by assumption, by omega, ?_⟩
    refine r_ifne_b (pc := 17) (tgt := 23) dX8_since_17 (by decide) (fun c_17 => ?_) (fun c_17 => ?_)
    · refine r_aload_0 (pc := 23) dX8_since_23 ?_
      refine r_iload_1 (pc := 24) dX8_since_24 ?_
      obtain ⟨hT2, hR2⟩ := hkp e c_17.1 (by omega) c_17.2
      refine k_VV1 (pc := 25) c_X8_placesBy lk_X8_232 ⟨Nat.le_of_ble_eq_true rfl, Nat.le_of_ble_eq_true rfl⟩ ⟨rfl, rfl⟩ ⟨Nat.le_of_ble_eq_true rfl, Nat.le_of_ble_eq_true rfl⟩ (k := 8) rfl (by decide) (by assumption) dX8_since_25 (Nat.le_of_ble_eq_true rfl) ?_
      refine ⟨_, _, _, rfl, by assumption, by first | assumption | exact rfl, by assumption, by assumption, by assumption, by omega, fun h_25 f_25 a_25 => ?_⟩
      have m_25 : h_25 (b + 2) = mp := (f_25 _ (by omega)).trans (by assumption)
      refine r_iconst (pc := 28) dX8_since_28 ?_
      refine r_istore_3 (pc := 29) dX8_since_29 rfl ?_
      refine r_iconst (pc := 30) dX8_since_30 ?_
      refine r_istore_4 (pc := 31) dX8_since_31 rfl ?_
      refine r_iconst (pc := 33) dX8_since_33 ?_
      refine r_istore_5 (pc := 34) dX8_since_34 rfl ?_
      refine r_iconst (pc := 36) dX8_since_36 ?_
      refine r_istore_6 (pc := 37) dX8_since_37 rfl ?_
      refine lp h_25 f_25 c_7 ?_ _ 0 0 0 0 _ _ _ _ rfl (by omega) rfl rfl rfl
      rw [snN_c a_25, snS_c a_25, snA_c a_25, f_25 (b + 12) (by omega)]
      exact (hQ c_7).2 c_17 h_25 f_25
    · refine r_bipush (pc := 20) dX8_since_20 (by decide) ?_
      refine r_iret (pc := 22) hret dX8_since_22 rfl rfl rfl ?_
      first | exact hB (by omega) | exact (hQ c_7).1 c_17
  · refine r_iconst (pc := 10) dX8_since_10 ?_
    refine r_iret (pc := 11) hret dX8_since_11 rfl rfl rfl ?_
    first | exact hB (by omega) | exact (hQ c_7).1 c_17

