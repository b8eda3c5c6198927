/-! THE REFERENCE: laying a map; the maps of other epochs and weights -/
theorem sl_r {n : Int} (h : 0 ≤ n ∧ n ≤ 12) : 0 ≤ iSl 1 n ∧ iSl 1 n ≤ 4096 := by
  obtain ⟨k, rfl⟩ : ∃ k : Nat, n = k := ⟨n.toNat, by omega⟩
  have h1 : (2 : Int) ^ k ≤ 4096 := by
    have h5 : ((2 ^ k : Nat) : Int) ≤ ((2 ^ 12 : Nat) : Int) := Int.ofNat_le.mpr (Nat.pow_le_pow_right (by omega) (by omega))
    rwa [Int.natCast_pow] at h5
  have h2 : (0 : Int) < 2 ^ k := Int.pow_pos (by omega)
  rw [iSl_mul k (by omega) (by omega) (by omega)]
  omega
theorem dX8_lays_0 : decode cX8_lays 0 = .ok (.iconst 0, 1) := by decide +kernel
theorem dX8_lays_1 : decode cX8_lays 1 = .ok (.istore_n 1, 1) := by decide +kernel
theorem dX8_lays_2 : decode cX8_lays 2 = .ok (.iload_n 1, 1) := by decide +kernel
theorem dX8_lays_3 : decode cX8_lays 3 = .ok (.iconst 5, 1) := by decide +kernel
theorem dX8_lays_4 : decode cX8_lays 4 = .ok (.if_icmp .ge 16, 3) := by decide +kernel
theorem dX8_lays_7 : decode cX8_lays 7 = .ok (.aload_n 0, 1) := by decide +kernel
theorem dX8_lays_8 : decode cX8_lays 8 = .ok (.getfield 19, 3) := by decide +kernel
theorem dX8_lays_11 : decode cX8_lays 11 = .ok (.iload_n 1, 1) := by decide +kernel
theorem dX8_lays_12 : decode cX8_lays 12 = .ok (.iconst 0, 1) := by decide +kernel
theorem dX8_lays_13 : decode cX8_lays 13 = .ok (.iastore, 1) := by decide +kernel
theorem dX8_lays_14 : decode cX8_lays 14 = .ok (.iinc 1 1, 3) := by decide +kernel
theorem dX8_lays_17 : decode cX8_lays 17 = .ok (.goto (-15), 3) := by decide +kernel
theorem dX8_lays_20 : decode cX8_lays 20 = .ok (.aload_n 0, 1) := by decide +kernel
theorem dX8_lays_21 : decode cX8_lays 21 = .ok (.iconst 1, 1) := by decide +kernel
theorem dX8_lays_22 : decode cX8_lays 22 = .ok (.putfield 116, 3) := by decide +kernel
theorem dX8_lays_25 : decode cX8_lays 25 = .ok (.aload_n 0, 1) := by decide +kernel
theorem dX8_lays_26 : decode cX8_lays 26 = .ok (.invokevirtual 122, 3) := by decide +kernel
theorem dX8_lays_29 : decode cX8_lays 29 = .ok (.aload_n 0, 1) := by decide +kernel
theorem dX8_lays_30 : decode cX8_lays 30 = .ok (.iconst 1, 1) := by decide +kernel
theorem dX8_lays_31 : decode cX8_lays 31 = .ok (.aload_n 0, 1) := by decide +kernel
theorem dX8_lays_32 : decode cX8_lays 32 = .ok (.getfield 13, 3) := by decide +kernel
theorem dX8_lays_35 : decode cX8_lays 35 = .ok (.sipush 130, 3) := by decide +kernel
theorem dX8_lays_38 : decode cX8_lays 38 = .ok (.iaload, 1) := by decide +kernel
theorem dX8_lays_39 : decode cX8_lays 39 = .ok (.ishl, 1) := by decide +kernel
theorem dX8_lays_40 : decode cX8_lays 40 = .ok (.iconst 1, 1) := by decide +kernel
theorem dX8_lays_41 : decode cX8_lays 41 = .ok (.isub, 1) := by decide +kernel
theorem dX8_lays_42 : decode cX8_lays 42 = .ok (.putfield 125, 3) := by decide +kernel
theorem dX8_lays_45 : decode cX8_lays 45 = .ok (.iconst 0, 1) := by decide +kernel
theorem dX8_lays_46 : decode cX8_lays 46 = .ok (.istore_n 1, 1) := by decide +kernel
theorem dX8_lays_47 : decode cX8_lays 47 = .ok (.iload_n 1, 1) := by decide +kernel
theorem dX8_lays_48 : decode cX8_lays 48 = .ok (.bipush 16, 2) := by decide +kernel
theorem dX8_lays_50 : decode cX8_lays 50 = .ok (.if_icmp .ge 27, 3) := by decide +kernel
theorem dX8_lays_53 : decode cX8_lays 53 = .ok (.aload_n 0, 1) := by decide +kernel
theorem dX8_lays_54 : decode cX8_lays 54 = .ok (.getfield 49, 3) := by decide +kernel
theorem dX8_lays_57 : decode cX8_lays 57 = .ok (.iload_n 1, 1) := by decide +kernel
theorem dX8_lays_58 : decode cX8_lays 58 = .ok (.aload_n 0, 1) := by decide +kernel
theorem dX8_lays_59 : decode cX8_lays 59 = .ok (.iload_n 1, 1) := by decide +kernel
theorem dX8_lays_60 : decode cX8_lays 60 = .ok (.invokevirtual 128, 3) := by decide +kernel
theorem dX8_lays_63 : decode cX8_lays 63 = .ok (.iastore, 1) := by decide +kernel
theorem dX8_lays_64 : decode cX8_lays 64 = .ok (.aload_n 0, 1) := by decide +kernel
theorem dX8_lays_65 : decode cX8_lays 65 = .ok (.getfield 52, 3) := by decide +kernel
theorem dX8_lays_68 : decode cX8_lays 68 = .ok (.iload_n 1, 1) := by decide +kernel
theorem dX8_lays_69 : decode cX8_lays 69 = .ok (.iconst 0, 1) := by decide +kernel
theorem dX8_lays_70 : decode cX8_lays 70 = .ok (.iastore, 1) := by decide +kernel
theorem dX8_lays_71 : decode cX8_lays 71 = .ok (.iinc 1 1, 3) := by decide +kernel
theorem dX8_lays_74 : decode cX8_lays 74 = .ok (.goto (-27), 3) := by decide +kernel
theorem dX8_lays_77 : decode cX8_lays 77 = .ok (.aload_n 0, 1) := by decide +kernel
theorem dX8_lays_78 : decode cX8_lays 78 = .ok (.iconst 0, 1) := by decide +kernel
theorem dX8_lays_79 : decode cX8_lays 79 = .ok (.putfield 131, 3) := by decide +kernel
theorem dX8_lays_82 : decode cX8_lays 82 = .ok (.return_, 1) := by decide +kernel
set_option maxHeartbeats 4000000 in
set_option maxRecDepth 20000 in
theorem c_X8_lays : ConV mX8_lays (fun args N lay r h Q => ∃ (b : Nat) (mp : Int → Int), args = [.ref b] ∧ MdAt lay r b ∧ h (b + 2) = mp ∧ TrM mp ∧ RlM mp ∧ WaT (h (b + 7)) ∧ ∀ h2, Fr h h2 (fun x => x = b ∨ x = b + 3 ∨ x = b + 4 ∨ x = b + 8 ∨ x = b + 9 ∨ x = b + 10 ∨ x = b + 11 ∨ x = b + 12 ∨ x = b + 14 ∨ x = b + 15) → h2 b = up (up (up (h b) 5 1) 17 (iSl 1 (mp 130) - 1)) 19 0 → (∀ q, 0 ≤ q → q < 5 → h2 (b + 4) q = if q = 1 then 1 else 0) → h2 (b + 3) = kpR (h (b + 3)) mp 1 136 → (∀ j, 0 ≤ j → j < 64 → h2 (b + 12) j = plc mp (j / 4) (j % 4)) → (∀ q, 0 ≤ q → q < 16 → h2 (b + 14) q = pb (h2 (b + 12)) q) → (∀ q, 0 ≤ q → q < 16 → h2 (b + 15) q = 0) → Q N lay r h2) := by
  refine ConV.of (by decide) (by rintro _ N lay r h Q ⟨b, mp, rfl, hM, hmp, hT, hR, hwa, hQ⟩; exact ⟨rfl, Nat.le_of_ble_eq_true rfl⟩) ?_
  rintro E _ N lay r h Q ⟨b, mp, rfl, hM, hmp, hT, hR, hwa, hQ⟩ hret
  obtain ⟨ml0, ml1, ml2, ml3, ml4, ml5, ml6, ml7, ml8, ml9, ml10, ml11, ml12, ml13, ml14, ml15, ml16, ml17, ml18, ml19, ml20, mr1, mr2, mr3, mr4, mr5, mr6, mr7, mr8, mr9, mr10, mr11, mr12, mr13, mr14, mr15, mr16, mr17, mr18, mr19, mr20⟩ := id hM
  obtain ⟨t1, t2, t3, t4, t5, t6, t7⟩ := id hT
  obtain ⟨r1, r2, r3, r4, r5, r6, r7⟩ := id hR
  show St E mX8_lays 0 [some (.ref b), none] [] (0, 0) N lay r h
  have lp2 : ∀ (h3 : HpT) (K : ∀ h4, Fr h3 h4 (fun x => x = b ∨ x = b + 14 ∨ x = b + 15) → h4 b = up (h3 b) 19 0 → (∀ q, 0 ≤ q → q < 16 → h4 (b + 14) q = pb (h3 (b + 12)) q) → (∀ q, 0 ≤ q → q < 16 → h4 (b + 15) q = 0) → Q N lay r h4) (n_ : Nat) (g : Int) (hk : HpT), (16 - g).toNat = n_ → (0 ≤ g ∧ g ≤ 16) → (Fr h3 hk (fun x => x = b + 14 ∨ x = b + 15)) → (∀ q, 0 ≤ q → q < g → hk (b + 14) q = pb (h3 (b + 12)) q) → (∀ q, 0 ≤ q → q < g → hk (b + 15) q = 0) → St E mX8_lays 47 [some (.ref b), some (vI g)] [] (0, 0) N lay r hk := by
    intro h3 K n_
    induction n_ using Nat.strongRecOn with
    | ind n_ ih =>
      intro g hk hn_ hg hf ho hs
      refine r_iload_1 (pc := 47) dX8_lays_47 ?_
      refine r_bipush (pc := 48) dX8_lays_48 (by decide) ?_
      refine r_icmp_ge (pc := 50) (tgt := 77) dX8_lays_50 (by decide) (by omega) (by omega) (fun c_50 => ?_) (fun c_50 => ?_)
      · refine r_aload_0 (pc := 77) dX8_lays_77 ?_
        refine r_iconst (pc := 78) dX8_lays_78 ?_
        refine pf_X8_131 (pc := 79) rfl (by assumption) dX8_lays_79 (by omega) ?_
        refine r_ret (pc := 82) hret dX8_lays_82 rfl rfl rfl ?_
        exact K _ (fun x hx => by rw [hr_n (by omega)]; exact hf x (by omega)) (by rw [hr_s, hf _ (by omega)]) (fun q q0 q1 => by rw [hr_n (by omega)]; exact ho q q0 (by omega)) (fun q q0 q1 => by rw [hr_n (by omega)]; exact hs q q0 (by omega))
      · refine r_aload_0 (pc := 53) dX8_lays_53 ?_
        refine gf_X8_49 (pc := 54) rfl (by assumption) dX8_lays_54 (by assumption) ?_
        refine r_iload_1 (pc := 57) dX8_lays_57 ?_
        refine r_aload_0 (pc := 58) dX8_lays_58 ?_
        refine r_iload_1 (pc := 59) dX8_lays_59 ?_
        refine k_VI1 (pc := 60) c_X8_placeBits lk_X8_128 ⟨Nat.le_of_ble_eq_true rfl, Nat.le_of_ble_eq_true rfl⟩ ⟨rfl, rfl⟩ ⟨Nat.le_of_ble_eq_true rfl, Nat.le_of_ble_eq_true rfl⟩ (k := 8) rfl (by decide) (by assumption) dX8_lays_60 (Nat.le_of_ble_eq_true rfl) ?_
        refine ⟨_, _, rfl, by assumption, by omega, fun i_60 => ?_⟩
        refine r_iastE (pc := 63) (by assumption) (by first | assumption | exact rfl) dX8_lays_63 (by omega) (by omega) (by omega) ?_
        refine r_aload_0 (pc := 64) dX8_lays_64 ?_
        refine gf_X8_52 (pc := 65) rfl (by assumption) dX8_lays_65 (by assumption) ?_
        refine r_iload_1 (pc := 68) dX8_lays_68 ?_
        refine r_iconst (pc := 69) dX8_lays_69 ?_
        refine r_iastE (pc := 70) (by assumption) (by first | assumption | exact rfl) dX8_lays_70 (by omega) (by omega) (by omega) ?_
        refine r_iinc_1 (pc := 71) dX8_lays_71 rfl ?_
        refine r_goto (pc := 74) (tgt := 47) dX8_lays_74 (by decide) ?_
        refine ih _ (by omega) (g + 1) _ rfl (by omega) (fun x hx => by rw [hr_n (by omega), hr_n (by omega)]; exact hf x hx) (fun q q0 q1 => ?_) (fun q q0 q1 => ?_)
        · rw [hr_n (by omega), hr_s]
          by_cases e : q = g
          · rw [e, up_s, hf _ (by omega)]
          · rw [up_n e]; exact ho q q0 (by omega)
        · rw [hr_s, hr_n (by omega)]
          by_cases e : q = g
          · rw [e, up_s]
          · rw [up_n e]; exact hs q q0 (by omega)
  have lp1 : ∀ (n_ : Nat) (i : Int) (hk : HpT), (5 - i).toNat = n_ → (0 ≤ i ∧ i ≤ 5) → (Fr h hk (fun x => x = b + 4)) → (∀ q, 0 ≤ q → q < i → hk (b + 4) q = 0) → St E mX8_lays 2 [some (.ref b), some (vI i)] [] (0, 0) N lay r hk := by
    intro  n_
    induction n_ using Nat.strongRecOn with
    | ind n_ ih =>
      intro i hk hn_ hi hf hz
      have sl : 0 ≤ iSl 1 (mp 130) ∧ iSl 1 (mp 130) ≤ 4096 := sl_r (by omega)
      refine r_iload_1 (pc := 2) dX8_lays_2 ?_
      refine r_iconst (pc := 3) dX8_lays_3 ?_
      refine r_icmp_ge (pc := 4) (tgt := 20) dX8_lays_4 (by decide) (by omega) (by omega) (fun c_4 => ?_) (fun c_4 => ?_)
      · refine r_aload_0 (pc := 20) dX8_lays_20 ?_
        refine r_iconst (pc := 21) dX8_lays_21 ?_
        refine pf_X8_116 (pc := 22) rfl (by assumption) dX8_lays_22 (by omega) ?_
        refine r_aload_0 (pc := 25) dX8_lays_25 ?_
        have e2 : hr hk b (up (hk b) 5 1) (b + 2) = mp := by rw [hr_n (by omega), hf _ (by omega)]; exact hmp
        have hwa2 : WaT (hr hk b (up (hk b) 5 1) (b + 7)) := by rw [hr_n (by omega), hf _ (by omega)]; exact hwa
        have e6 : hr hk b (up (hk b) 5 1) b 5 = 1 := by rw [hr_s, up_s]
        refine k_VV0 (pc := 26) c_X8_keeps lk_X8_122 ⟨Nat.le_of_ble_eq_true rfl, Nat.le_of_ble_eq_true rfl⟩ ⟨rfl, rfl⟩ ⟨Nat.le_of_ble_eq_true rfl, Nat.le_of_ble_eq_true rfl⟩ (k := 8) rfl (by decide) (by assumption) dX8_lays_26 (Nat.le_of_ble_eq_true rfl) ?_
        refine ⟨_, _, rfl, by assumption, by first | assumption | exact rfl, by assumption, by assumption, by assumption, by omega, fun h_26 f_26 k_26 q_26 a_26 => ?_⟩
        have m_26 : h_26 (b + 2) = mp := (f_26 _ (by omega)).trans (by assumption)
        refine r_aload_0 (pc := 29) dX8_lays_29 ?_
        refine r_iconst (pc := 30) dX8_lays_30 ?_
        refine r_aload_0 (pc := 31) dX8_lays_31 ?_
        refine gf_X8_13 (pc := 32) rfl (by assumption) dX8_lays_32 (by assumption) ?_
        refine r_sipush (pc := 35) dX8_lays_35 (by decide) ?_
        refine r_ialdE (pc := 38) (by assumption) (by first | assumption | exact rfl) dX8_lays_38 (by omega) (by omega) (fun i_38 => ?_)
        refine r_ishl (pc := 39) dX8_lays_39 (fun i_39 => ?_)
        refine r_iconst (pc := 40) dX8_lays_40 ?_
        refine r_isub (pc := 41) dX8_lays_41 ?_
        refine pf_X8_125 (pc := 42) rfl (by assumption) dX8_lays_42 (by omega) ?_
        refine r_iconst (pc := 45) dX8_lays_45 ?_
        refine r_istore_1 (pc := 46) dX8_lays_46 rfl ?_
        rw [e6] at k_26 q_26
        refine lp2 _ (fun h4 f4 o4 ho4 hs4 => ?_) _ 0 _ rfl (by omega) (fun _ _ => rfl) (fun q q0 q1 => by omega) (fun q q0 q1 => by omega)
        have e12 : hr h_26 b (up (h_26 b) 17 (iSl 1 (mp 130) - 1)) (b + 12) = h_26 (b + 12) := hr_n (by omega)
        rw [e12] at ho4
        refine hQ h4 (fun x hx => ?_) ?_ (fun q q0 q1 => ?_) ?_ (fun j j0 j1 => ?_) (fun q q0 q1 => ?_) hs4
        · rw [f4 x (by omega), hr_n (by omega), f_26 x (by omega), hr_n (by omega), hf x (by omega)]
        · rw [o4, hr_s, f_26 _ (by omega), hr_s, hf _ (by omega)]
        · rw [f4 _ (by omega), hr_n (by omega), k_26, hr_n (by omega)]
          by_cases e : q = 1
          · rw [e, if_pos rfl]; exact up_s
          · rw [if_neg e, show (1 : Int) % 5 = 1 from rfl, up_n e]; exact hz q q0 (by omega)
        · rw [f4 _ (by omega), hr_n (by omega), q_26, hr_n (by omega), hf _ (by omega)]
          rfl
        · rw [f4 _ (by omega), hr_n (by omega)]; exact a_26 j j0 j1
        · rw [ho4 q q0 q1, f4 _ (by omega), hr_n (by omega)]
      · refine r_aload_0 (pc := 7) dX8_lays_7 ?_
        refine gf_X8_19 (pc := 8) rfl (by assumption) dX8_lays_8 (by assumption) ?_
        refine r_iload_1 (pc := 11) dX8_lays_11 ?_
        refine r_iconst (pc := 12) dX8_lays_12 ?_
        refine r_iastE (pc := 13) (by assumption) (by first | assumption | exact rfl) dX8_lays_13 (by omega) (by omega) (by omega) ?_
        refine r_iinc_1 (pc := 14) dX8_lays_14 rfl ?_
        refine r_goto (pc := 17) (tgt := 2) dX8_lays_17 (by decide) ?_
        refine ih _ (by omega) (i + 1) _ rfl (by omega) (fun x hx => by rw [hr_n (by omega)]; exact hf x hx) (fun q q0 q1 => ?_)
        rw [hr_s]
        by_cases e : q = i
        · rw [e, up_s]
        · rw [up_n e]; exact hz q q0 (by omega)
  refine r_iconst (pc := 0) dX8_lays_0 ?_
  refine r_istore_1 (pc := 1) dX8_lays_1 rfl ?_
  exact lp1 _ 0 h rfl (by omega) (fun _ _ => rfl) (fun q q0 q1 => by omega)

theorem dX8_placesIf_0 : decode cX8_placesIf 0 = .ok (.aload_n 0, 1) := by decide +kernel
theorem dX8_placesIf_1 : decode cX8_placesIf 1 = .ok (.getfield 13, 3) := by decide +kernel
theorem dX8_placesIf_4 : decode cX8_placesIf 4 = .ok (.bipush 22, 2) := by decide +kernel
theorem dX8_placesIf_6 : decode cX8_placesIf 6 = .ok (.iload_n 1, 1) := by decide +kernel
theorem dX8_placesIf_7 : decode cX8_placesIf 7 = .ok (.iadd, 1) := by decide +kernel
theorem dX8_placesIf_8 : decode cX8_placesIf 8 = .ok (.iaload, 1) := by decide +kernel
theorem dX8_placesIf_9 : decode cX8_placesIf 9 = .ok (.istore_n 3, 1) := by decide +kernel
theorem dX8_placesIf_10 : decode cX8_placesIf 10 = .ok (.aload_n 0, 1) := by decide +kernel
theorem dX8_placesIf_11 : decode cX8_placesIf 11 = .ok (.getfield 13, 3) := by decide +kernel
theorem dX8_placesIf_14 : decode cX8_placesIf 14 = .ok (.bipush 22, 2) := by decide +kernel
theorem dX8_placesIf_16 : decode cX8_placesIf 16 = .ok (.iload_n 1, 1) := by decide +kernel
theorem dX8_placesIf_17 : decode cX8_placesIf 17 = .ok (.iadd, 1) := by decide +kernel
theorem dX8_placesIf_18 : decode cX8_placesIf 18 = .ok (.iload_n 2, 1) := by decide +kernel
theorem dX8_placesIf_19 : decode cX8_placesIf 19 = .ok (.iastore, 1) := by decide +kernel
theorem dX8_placesIf_20 : decode cX8_placesIf 20 = .ok (.aload_n 0, 1) := by decide +kernel
theorem dX8_placesIf_21 : decode cX8_placesIf 21 = .ok (.aload_n 0, 1) := by decide +kernel
theorem dX8_placesIf_22 : decode cX8_placesIf 22 = .ok (.getfield 46, 3) := by decide +kernel
theorem dX8_placesIf_25 : decode cX8_placesIf 25 = .ok (.invokevirtual 119, 3) := by decide +kernel
theorem dX8_placesIf_28 : decode cX8_placesIf 28 = .ok (.aload_n 0, 1) := by decide +kernel
theorem dX8_placesIf_29 : decode cX8_placesIf 29 = .ok (.getfield 13, 3) := by decide +kernel
theorem dX8_placesIf_32 : decode cX8_placesIf 32 = .ok (.bipush 22, 2) := by decide +kernel
theorem dX8_placesIf_34 : decode cX8_placesIf 34 = .ok (.iload_n 1, 1) := by decide +kernel
theorem dX8_placesIf_35 : decode cX8_placesIf 35 = .ok (.iadd, 1) := by decide +kernel
theorem dX8_placesIf_36 : decode cX8_placesIf 36 = .ok (.iload_n 3, 1) := by decide +kernel
theorem dX8_placesIf_37 : decode cX8_placesIf 37 = .ok (.iastore, 1) := by decide +kernel
theorem dX8_placesIf_38 : decode cX8_placesIf 38 = .ok (.return_, 1) := by decide +kernel
set_option maxHeartbeats 4000000 in
set_option maxRecDepth 20000 in
theorem c_X8_placesIf : ConV mX8_placesIf (fun args N lay r h Q => ∃ (b : Nat) (mp : Int → Int) (d w : Int), args = [.ref b, vI d, vI w] ∧ MdAt lay r b ∧ h (b + 2) = mp ∧ TrM mp ∧ RlM mp ∧ WaT (h (b + 7)) ∧ (10 ≤ d ∧ d < 10 + mp 130) ∧ (0 ≤ w ∧ w ≤ 40) ∧ ∀ h2, Fr h h2 (fun x => x = b + 13 ∨ x = b + 8 ∨ x = b + 9 ∨ x = b + 10 ∨ x = b + 11) → (∀ j, 0 ≤ j → j < 64 → h2 (b + 13) j = plc (up mp (22 + d) w) (j / 4) (j % 4)) → Q N lay r h2) := by
  refine ConV.of (by decide) (by rintro _ N lay r h Q ⟨b, mp, d, w, rfl, hM, hmp, hT, hR, hwa, hd, hw, hQ⟩; exact ⟨rfl, Nat.le_of_ble_eq_true rfl⟩) ?_
  rintro E _ N lay r h Q ⟨b, mp, d, w, rfl, hM, hmp, hT, hR, hwa, hd, hw, hQ⟩ hret
  obtain ⟨ml0, ml1, ml2, ml3, ml4, ml5, ml6, ml7, ml8, ml9, ml10, ml11, ml12, ml13, ml14, ml15, ml16, ml17, ml18, ml19, ml20, mr1, mr2, mr3, mr4, mr5, mr6, mr7, mr8, mr9, mr10, mr11, mr12, mr13, mr14, mr15, mr16, mr17, mr18, mr19, mr20⟩ := id hM
  obtain ⟨t1, t2, t3, t4, t5, t6, t7⟩ := id hT
  obtain ⟨r1, r2, r3, r4, r5, r6, r7⟩ := id hR
  have q7 := t7 d (by omega) (by omega)
  show St E mX8_placesIf 0 [some (.ref b), some (vI d), some (vI w), none] [] (0, 0) N lay r h
  refine r_aload_0 (pc := 0) dX8_placesIf_0 ?_
  refine gf_X8_13 (pc := 1) rfl (by assumption) dX8_placesIf_1 (by assumption) ?_
  refine r_bipush (pc := 4) dX8_placesIf_4 (by decide) ?_
  refine r_iload_1 (pc := 6) dX8_placesIf_6 ?_
  refine r_iadd (pc := 7) dX8_placesIf_7 ?_
  refine r_ialdE (pc := 8) (by assumption) (by first | assumption | exact rfl) dX8_placesIf_8 (by omega) (by omega) (fun i_8 => ?_)
  refine r_istore_3 (pc := 9) dX8_placesIf_9 rfl ?_
  refine r_aload_0 (pc := 10) dX8_placesIf_10 ?_
  refine gf_X8_13 (pc := 11) rfl (by assumption) dX8_placesIf_11 (by assumption) ?_
  refine r_bipush (pc := 14) dX8_placesIf_14 (by decide) ?_
  refine r_iload_1 (pc := 16) dX8_placesIf_16 ?_
  refine r_iadd (pc := 17) dX8_placesIf_17 ?_
  refine r_iload_2 (pc := 18) dX8_placesIf_18 ?_
  refine r_iastE (pc := 19) (by assumption) (by first | assumption | exact rfl) dX8_placesIf_19 (by omega) (by omega) (by omega) ?_
  refine r_aload_0 (pc := 20) dX8_placesIf_20 ?_
  refine r_aload_0 (pc := 21) dX8_placesIf_21 ?_
  refine gf_X8_46 (pc := 22) rfl (by assumption) dX8_placesIf_22 (by assumption) ?_
  have hT2 := TrM_w hT hd hw
  have hR2 := RlM_w (w := w) hR (show 10 ≤ d ∧ d < 22 by omega)
  have e2 : hr h (b + 2) (up mp (22 + d) w) (b + 2) = up mp (22 + d) w := hr_s
  have hwa2 : WaT (hr h (b + 2) (up mp (22 + d) w) (b + 7)) := by rw [hr_n (by omega)]; exact hwa
  refine k_VV1 (pc := 25) c_X8_placesAll lk_X8_119 ⟨Nat.le_of_ble_eq_true rfl, Nat.le_of_ble_eq_true rfl⟩ ⟨rfl, rfl⟩ ⟨Nat.le_of_ble_eq_true rfl, Nat.le_of_ble_eq_true rfl⟩ (k := 8) rfl (by decide) (by assumption) dX8_placesIf_25 (Nat.le_of_ble_eq_true rfl) ?_
  refine ⟨_, _, _, rfl, hM, e2, hT2, hR2, Or.inr rfl, by assumption, hwa2, fun h_25 f_25 a_25 w_25 => ?_⟩
  have m_25 : h_25 (b + 2) = up mp (22 + d) w := (f_25 _ (by omega)).trans e2
  refine r_aload_0 (pc := 28) dX8_placesIf_28 ?_
  refine gf_X8_13 (pc := 29) rfl (by assumption) dX8_placesIf_29 (by assumption) ?_
  refine r_bipush (pc := 32) dX8_placesIf_32 (by decide) ?_
  refine r_iload_1 (pc := 34) dX8_placesIf_34 ?_
  refine r_iadd (pc := 35) dX8_placesIf_35 ?_
  refine r_iload_3 (pc := 36) dX8_placesIf_36 ?_
  refine r_iastE (pc := 37) (by assumption) (by first | assumption | exact rfl) dX8_placesIf_37 (by omega) (by omega) (by omega) ?_
  refine r_ret (pc := 38) hret dX8_placesIf_38 rfl rfl rfl ?_
  have e9 : hr h_25 (b + 2) (up (up mp (22 + d) w) (22 + d) (mp (22 + d))) (b + 2) = h (b + 2) := by rw [hr_s, up_up, up_id, hmp]
  refine hQ _ (fun x hx => ?_) (fun j j0 j1 => ?_)
  · by_cases e : x = b + 2
    · rw [e]; exact e9
    · rw [hr_n e, f_25 x (by omega), hr_n e]
  · rw [hr_n (by omega)]; exact a_25 j j0 j1

theorem dX8_placesBy_0 : decode cX8_placesBy 0 = .ok (.aload_n 0, 1) := by decide +kernel
theorem dX8_placesBy_1 : decode cX8_placesBy 1 = .ok (.aload_n 0, 1) := by decide +kernel
theorem dX8_placesBy_2 : decode cX8_placesBy 2 = .ok (.getfield 13, 3) := by decide +kernel
theorem dX8_placesBy_5 : decode cX8_placesBy 5 = .ok (.aload_n 0, 1) := by decide +kernel
theorem dX8_placesBy_6 : decode cX8_placesBy 6 = .ok (.getfield 22, 3) := by decide +kernel
theorem dX8_placesBy_9 : decode cX8_placesBy 9 = .ok (.invokevirtual 134, 3) := by decide +kernel
theorem dX8_placesBy_12 : decode cX8_placesBy 12 = .ok (.iconst 0, 1) := by decide +kernel
theorem dX8_placesBy_13 : decode cX8_placesBy 13 = .ok (.istore_n 2, 1) := by decide +kernel
theorem dX8_placesBy_14 : decode cX8_placesBy 14 = .ok (.iload_n 2, 1) := by decide +kernel
theorem dX8_placesBy_15 : decode cX8_placesBy 15 = .ok (.sipush 136, 3) := by decide +kernel
theorem dX8_placesBy_18 : decode cX8_placesBy 18 = .ok (.if_icmp .ge 29, 3) := by decide +kernel
theorem dX8_placesBy_21 : decode cX8_placesBy 21 = .ok (.aload_n 0, 1) := by decide +kernel
theorem dX8_placesBy_22 : decode cX8_placesBy 22 = .ok (.getfield 13, 3) := by decide +kernel
theorem dX8_placesBy_25 : decode cX8_placesBy 25 = .ok (.iload_n 2, 1) := by decide +kernel
theorem dX8_placesBy_26 : decode cX8_placesBy 26 = .ok (.aload_n 0, 1) := by decide +kernel
theorem dX8_placesBy_27 : decode cX8_placesBy 27 = .ok (.getfield 16, 3) := by decide +kernel
theorem dX8_placesBy_30 : decode cX8_placesBy 30 = .ok (.sipush 136, 3) := by decide +kernel
theorem dX8_placesBy_33 : decode cX8_placesBy 33 = .ok (.iload_n 1, 1) := by decide +kernel
theorem dX8_placesBy_34 : decode cX8_placesBy 34 = .ok (.iconst 5, 1) := by decide +kernel
theorem dX8_placesBy_35 : decode cX8_placesBy 35 = .ok (.irem, 1) := by decide +kernel
theorem dX8_placesBy_36 : decode cX8_placesBy 36 = .ok (.imul, 1) := by decide +kernel
theorem dX8_placesBy_37 : decode cX8_placesBy 37 = .ok (.iload_n 2, 1) := by decide +kernel
theorem dX8_placesBy_38 : decode cX8_placesBy 38 = .ok (.iadd, 1) := by decide +kernel
theorem dX8_placesBy_39 : decode cX8_placesBy 39 = .ok (.iaload, 1) := by decide +kernel
theorem dX8_placesBy_40 : decode cX8_placesBy 40 = .ok (.iastore, 1) := by decide +kernel
theorem dX8_placesBy_41 : decode cX8_placesBy 41 = .ok (.iinc 2 1, 3) := by decide +kernel
theorem dX8_placesBy_44 : decode cX8_placesBy 44 = .ok (.goto (-30), 3) := by decide +kernel
theorem dX8_placesBy_47 : decode cX8_placesBy 47 = .ok (.aload_n 0, 1) := by decide +kernel
theorem dX8_placesBy_48 : decode cX8_placesBy 48 = .ok (.aload_n 0, 1) := by decide +kernel
theorem dX8_placesBy_49 : decode cX8_placesBy 49 = .ok (.getfield 46, 3) := by decide +kernel
theorem dX8_placesBy_52 : decode cX8_placesBy 52 = .ok (.invokevirtual 119, 3) := by decide +kernel
theorem dX8_placesBy_55 : decode cX8_placesBy 55 = .ok (.aload_n 0, 1) := by decide +kernel
theorem dX8_placesBy_56 : decode cX8_placesBy 56 = .ok (.aload_n 0, 1) := by decide +kernel
theorem dX8_placesBy_57 : decode cX8_placesBy 57 = .ok (.getfield 22, 3) := by decide +kernel
theorem dX8_placesBy_60 : decode cX8_placesBy 60 = .ok (.aload_n 0, 1) := by decide +kernel
theorem dX8_placesBy_61 : decode cX8_placesBy 61 = .ok (.getfield 13, 3) := by decide +kernel
theorem dX8_placesBy_64 : decode cX8_placesBy 64 = .ok (.invokevirtual 134, 3) := by decide +kernel
theorem dX8_placesBy_67 : decode cX8_placesBy 67 = .ok (.return_, 1) := by decide +kernel
set_option maxHeartbeats 4000000 in
set_option maxRecDepth 20000 in
theorem c_X8_placesBy : ConV mX8_placesBy (fun args N lay r h Q => ∃ (b : Nat) (mp : Int → Int) (e : Int), args = [.ref b, vI e] ∧ MdAt lay r b ∧ h (b + 2) = mp ∧ TrM (cpR (fun k => h (b + 3) (136 * (e % 5) + k)) mp 136) ∧ RlM (cpR (fun k => h (b + 3) (136 * (e % 5) + k)) mp 136) ∧ WaT (h (b + 7)) ∧ (1 ≤ e ∧ e < 2147483648) ∧ ∀ h2, Fr h h2 (fun x => x = b + 5 ∨ x = b + 13 ∨ x = b + 8 ∨ x = b + 9 ∨ x = b + 10 ∨ x = b + 11) → (∀ j, 0 ≤ j → j < 64 → h2 (b + 13) j = plc (cpR (fun k => h (b + 3) (136 * (e % 5) + k)) mp 136) (j / 4) (j % 4)) → Q N lay r h2) := by
  refine ConV.of (by decide) (by rintro _ N lay r h Q ⟨b, mp, e, rfl, hM, hmp, hT2, hR2, hwa, he, hQ⟩; exact ⟨rfl, Nat.le_of_ble_eq_true rfl⟩) ?_
  rintro E _ N lay r h Q ⟨b, mp, e, rfl, hM, hmp, hT2, hR2, hwa, he, hQ⟩ hret
  obtain ⟨ml0, ml1, ml2, ml3, ml4, ml5, ml6, ml7, ml8, ml9, ml10, ml11, ml12, ml13, ml14, ml15, ml16, ml17, ml18, ml19, ml20, mr1, mr2, mr3, mr4, mr5, mr6, mr7, mr8, mr9, mr10, mr11, mr12, mr13, mr14, mr15, mr16, mr17, mr18, mr19, mr20⟩ := id hM
  show St E mX8_placesBy 0 [some (.ref b), some (vI e), none] [] (0, 0) N lay r h
  have lp : ∀ (n_ : Nat) (i : Int), (136 - i).toNat = n_ → (0 ≤ i ∧ i ≤ 136) → St E mX8_placesBy 14 [some (.ref b), some (vI e), some (vI i)] [] (0, 0) N lay r (hr (hr h (b + 5) (cpR (h (b + 2)) (h (b + 5)) 136)) (b + 2) (cpR (fun k => h (b + 3) (136 * (e % 5) + k)) mp i)) := by
    intro  n_
    induction n_ using Nat.strongRecOn with
    | ind n_ ih =>
      intro i hn_ hi
      have e1 : (hr (hr h (b + 5) (cpR (h (b + 2)) (h (b + 5)) 136)) (b + 2) (cpR (fun k => h (b + 3) (136 * (e % 5) + k)) mp i)) (b + 3) = h (b + 3) := by rw [hr_n (by omega), hr_n (by omega)]
      have e2 : (hr (hr h (b + 5) (cpR (h (b + 2)) (h (b + 5)) 136)) (b + 2) (cpR (fun k => h (b + 3) (136 * (e % 5) + k)) mp i)) (b + 2) = cpR (fun k => h (b + 3) (136 * (e % 5) + k)) mp i := hr_s
      have hwa2 : WaT ((hr (hr h (b + 5) (cpR (h (b + 2)) (h (b + 5)) 136)) (b + 2) (cpR (fun k => h (b + 3) (136 * (e % 5) + k)) mp i)) (b + 7)) := by rw [hr_n (by omega), hr_n (by omega)]; exact hwa
      have p5 : 0 ≤ e % 5 ∧ e % 5 < 5 := by omega
      refine r_iload_2 (pc := 14) dX8_placesBy_14 ?_
      refine r_sipush (pc := 15) dX8_placesBy_15 (by decide) ?_
      refine r_icmp_ge (pc := 18) (tgt := 47) dX8_placesBy_18 (by decide) (by omega) (by omega) (fun c_18 => ?_) (fun c_18 => ?_)
      · refine r_aload_0 (pc := 47) dX8_placesBy_47 ?_
        refine r_aload_0 (pc := 48) dX8_placesBy_48 ?_
        refine gf_X8_46 (pc := 49) rfl (by assumption) dX8_placesBy_49 (by assumption) ?_
        have hi9 : i = 136 := by omega
        subst hi9
        refine k_VV1 (pc := 52) c_X8_placesAll lk_X8_119 ⟨Nat.le_of_ble_eq_true rfl, Nat.le_of_ble_eq_true rfl⟩ ⟨rfl, rfl⟩ ⟨Nat.le_of_ble_eq_true rfl, Nat.le_of_ble_eq_true rfl⟩ (k := 8) rfl (by decide) (by assumption) dX8_placesBy_52 (Nat.le_of_ble_eq_true rfl) ?_
        refine ⟨_, _, _, rfl, hM, e2, hT2, hR2, Or.inr rfl, by assumption, hwa2, fun h_52 f_52 a_52 w_52 => ?_⟩
        refine r_aload_0 (pc := 55) dX8_placesBy_55 ?_
        refine r_aload_0 (pc := 56) dX8_placesBy_56 ?_
        refine gf_X8_22 (pc := 57) rfl (by assumption) dX8_placesBy_57 (by assumption) ?_
        refine r_aload_0 (pc := 60) dX8_placesBy_60 ?_
        refine gf_X8_13 (pc := 61) rfl (by assumption) dX8_placesBy_61 (by assumption) ?_
        refine k_VV2 (pc := 64) c_X8_copies lk_X8_134 ⟨Nat.le_of_ble_eq_true rfl, Nat.le_of_ble_eq_true rfl⟩ ⟨rfl, rfl⟩ ⟨Nat.le_of_ble_eq_true rfl, Nat.le_of_ble_eq_true rfl⟩ (k := 8) rfl (by decide) (by assumption) dX8_placesBy_64 (Nat.le_of_ble_eq_true rfl) ?_
        refine ⟨_, _, _, rfl, by assumption, by assumption, by omega, ?_⟩
        refine r_ret (pc := 67) hret dX8_placesBy_67 rfl rfl rfl ?_
        have e9 : hr h_52 (b + 2) (cpR (h_52 (b + 5)) (h_52 (b + 2)) 136) (b + 2) = h (b + 2) := by
          rw [hr_s, f_52 _ (by omega), f_52 _ (by omega), hr_n (by omega), hr_s, hr_s, hmp]
          funext q
          unfold cpR
          split <;> rfl
        refine hQ _ (fun x hx => ?_) (fun j j0 j1 => ?_)
        · by_cases e : x = b + 2
          · rw [e]; exact e9
          · rw [hr_n e, f_52 x (by omega), hr_n e, hr_n (by omega)]
        · rw [hr_n (by omega)]; exact a_52 j j0 j1
      · refine r_aload_0 (pc := 21) dX8_placesBy_21 ?_
        refine gf_X8_13 (pc := 22) rfl (by assumption) dX8_placesBy_22 (by assumption) ?_
        refine r_iload_2 (pc := 25) dX8_placesBy_25 ?_
        refine r_aload_0 (pc := 26) dX8_placesBy_26 ?_
        refine gf_X8_16 (pc := 27) rfl (by assumption) dX8_placesBy_27 (by assumption) ?_
        refine r_sipush (pc := 30) dX8_placesBy_30 (by decide) ?_
        refine r_iload_1 (pc := 33) dX8_placesBy_33 ?_
        refine r_iconst (pc := 34) dX8_placesBy_34 ?_
        refine r_irem (pc := 35) dX8_placesBy_35 (by omega) (by omega) ?_
        refine r_imul (pc := 36) dX8_placesBy_36 ?_
        refine r_iload_2 (pc := 37) dX8_placesBy_37 ?_
        refine r_iadd (pc := 38) dX8_placesBy_38 ?_
        refine r_ialdE (pc := 39) (by assumption) (by first | assumption | exact rfl) dX8_placesBy_39 (by omega) (by omega) (fun i_39 => ?_)
        refine r_iastE (pc := 40) (by assumption) (by first | assumption | exact rfl) dX8_placesBy_40 (by omega) (by omega) (by omega) ?_
        refine r_iinc_2 (pc := 41) dX8_placesBy_41 rfl ?_
        refine r_goto (pc := 44) (tgt := 14) dX8_placesBy_44 (by decide) ?_
        rw [hr_hr, show up (cpR (fun k => h (b + 3) (136 * (e % 5) + k)) mp i) i (h (b + 3) (136 * (e % 5) + i)) = cpR (fun k => h (b + 3) (136 * (e % 5) + k)) mp (i + 1) from cpR_s (f := (fun k => h (b + 3) (136 * (e % 5) + k))) (by omega)]
        exact ih _ (by omega) (i + 1) rfl (by omega)
  refine r_aload_0 (pc := 0) dX8_placesBy_0 ?_
  refine r_aload_0 (pc := 1) dX8_placesBy_1 ?_
  refine gf_X8_13 (pc := 2) rfl (by assumption) dX8_placesBy_2 (by assumption) ?_
  refine r_aload_0 (pc := 5) dX8_placesBy_5 ?_
  refine gf_X8_22 (pc := 6) rfl (by assumption) dX8_placesBy_6 (by assumption) ?_
  refine k_VV2 (pc := 9) c_X8_copies lk_X8_134 ⟨Nat.le_of_ble_eq_true rfl, Nat.le_of_ble_eq_true rfl⟩ ⟨rfl, rfl⟩ ⟨Nat.le_of_ble_eq_true rfl, Nat.le_of_ble_eq_true rfl⟩ (k := 8) rfl (by decide) (by assumption) dX8_placesBy_9 (Nat.le_of_ble_eq_true rfl) ?_
  refine ⟨_, _, _, rfl, by assumption, by assumption, by omega, ?_⟩
  refine r_iconst (pc := 12) dX8_placesBy_12 ?_
  refine r_istore_2 (pc := 13) dX8_placesBy_13 rfl ?_
  have hz := lp _ 0 rfl (by omega)
  rw [cpR_0, show mp = (hr h (b + 5) (cpR (h (b + 2)) (h (b + 5)) 136)) (b + 2) by rw [hr_n (by omega)]; exact hmp.symm, hr_id] at hz
  exact hz

