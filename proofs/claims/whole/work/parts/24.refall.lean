/-! THE REFERENCE: all placements; keeping maps -/
theorem dX8_placesAll_0 : decode cX8_placesAll 0 = .ok (.aload_n 0, 1) := by decide +kernel
theorem dX8_placesAll_1 : decode cX8_placesAll 1 = .ok (.invokevirtual 160, 3) := by decide +kernel
theorem dX8_placesAll_4 : decode cX8_placesAll 4 = .ok (.iconst 0, 1) := by decide +kernel
theorem dX8_placesAll_5 : decode cX8_placesAll 5 = .ok (.istore_n 2, 1) := by decide +kernel
theorem dX8_placesAll_6 : decode cX8_placesAll 6 = .ok (.iload_n 2, 1) := by decide +kernel
theorem dX8_placesAll_7 : decode cX8_placesAll 7 = .ok (.bipush 16, 2) := by decide +kernel
theorem dX8_placesAll_9 : decode cX8_placesAll 9 = .ok (.if_icmp .ge 40, 3) := by decide +kernel
theorem dX8_placesAll_12 : decode cX8_placesAll 12 = .ok (.aload_n 0, 1) := by decide +kernel
theorem dX8_placesAll_13 : decode cX8_placesAll 13 = .ok (.iload_n 2, 1) := by decide +kernel
theorem dX8_placesAll_14 : decode cX8_placesAll 14 = .ok (.invokevirtual 163, 3) := by decide +kernel
theorem dX8_placesAll_17 : decode cX8_placesAll 17 = .ok (.iconst 0, 1) := by decide +kernel
theorem dX8_placesAll_18 : decode cX8_placesAll 18 = .ok (.istore_n 3, 1) := by decide +kernel
theorem dX8_placesAll_19 : decode cX8_placesAll 19 = .ok (.iload_n 3, 1) := by decide +kernel
theorem dX8_placesAll_20 : decode cX8_placesAll 20 = .ok (.iconst 4, 1) := by decide +kernel
theorem dX8_placesAll_21 : decode cX8_placesAll 21 = .ok (.if_icmp .ge 22, 3) := by decide +kernel
theorem dX8_placesAll_24 : decode cX8_placesAll 24 = .ok (.aload_n 1, 1) := by decide +kernel
theorem dX8_placesAll_25 : decode cX8_placesAll 25 = .ok (.iconst 4, 1) := by decide +kernel
theorem dX8_placesAll_26 : decode cX8_placesAll 26 = .ok (.iload_n 2, 1) := by decide +kernel
theorem dX8_placesAll_27 : decode cX8_placesAll 27 = .ok (.imul, 1) := by decide +kernel
theorem dX8_placesAll_28 : decode cX8_placesAll 28 = .ok (.iload_n 3, 1) := by decide +kernel
theorem dX8_placesAll_29 : decode cX8_placesAll 29 = .ok (.iadd, 1) := by decide +kernel
theorem dX8_placesAll_30 : decode cX8_placesAll 30 = .ok (.aload_n 0, 1) := by decide +kernel
theorem dX8_placesAll_31 : decode cX8_placesAll 31 = .ok (.getfield 34, 3) := by decide +kernel
theorem dX8_placesAll_34 : decode cX8_placesAll 34 = .ok (.iload_n 3, 1) := by decide +kernel
theorem dX8_placesAll_35 : decode cX8_placesAll 35 = .ok (.iaload, 1) := by decide +kernel
theorem dX8_placesAll_36 : decode cX8_placesAll 36 = .ok (.iastore, 1) := by decide +kernel
theorem dX8_placesAll_37 : decode cX8_placesAll 37 = .ok (.iinc 3 1, 3) := by decide +kernel
theorem dX8_placesAll_40 : decode cX8_placesAll 40 = .ok (.goto (-21), 3) := by decide +kernel
theorem dX8_placesAll_43 : decode cX8_placesAll 43 = .ok (.iinc 2 1, 3) := by decide +kernel
theorem dX8_placesAll_46 : decode cX8_placesAll 46 = .ok (.goto (-40), 3) := by decide +kernel
theorem dX8_placesAll_49 : decode cX8_placesAll 49 = .ok (.return_, 1) := by decide +kernel
set_option maxHeartbeats 4000000 in
set_option maxRecDepth 20000 in
theorem c_X8_placesAll : ConV mX8_placesAll (fun args N lay r h Q => ∃ (b : Nat) (mp : Int → Int) (a : Nat), args = [.ref b, .ref a] ∧ MdAt lay r b ∧ h (b + 2) = mp ∧ TrM mp ∧ RlM mp ∧ (a = b + 12 ∨ a = b + 13) ∧ lay a = (10, 64) ∧ WaT (h (b + 7)) ∧ ∀ h2, Fr h h2 (fun x => x = a ∨ x = b + 8 ∨ x = b + 9 ∨ x = b + 10 ∨ x = b + 11) → (∀ j, 0 ≤ j → j < 64 → h2 a j = plc mp (j / 4) (j % 4)) → (∀ n, 0 ≤ n → n < 22 → h2 (b + 8) n = wg mp n) → Q N lay r h2) := by
  refine ConV.of (by decide) (by rintro _ N lay r h Q ⟨b, mp, a, rfl, hM, hmp, hT, hR, ha, hla, hwa, hQ⟩; exact ⟨rfl, Nat.le_of_ble_eq_true rfl⟩) ?_
  rintro E _ N lay r h Q ⟨b, mp, a, rfl, hM, hmp, hT, hR, ha, hla, hwa, hQ⟩ hret
  obtain ⟨ml0, ml1, ml2, ml3, ml4, ml5, ml6, ml7, ml8, ml9, ml10, ml11, ml12, ml13, ml14, ml15, ml16, ml17, ml18, ml19, ml20, mr1, mr2, mr3, mr4, mr5, mr6, mr7, mr8, mr9, mr10, mr11, mr12, mr13, mr14, mr15, mr16, mr17, mr18, mr19, mr20⟩ := id hM
  obtain ⟨t1, t2, t3, t4, t5, t6, t7⟩ := id hT
  obtain ⟨r1, r2, r3, r4, r5, r6, r7⟩ := id hR
  show St E mX8_placesAll 0 [some (.ref b), some (.ref a), none, none] [] (0, 0) N lay r h
  have inn : ∀ (g : Int) (hg : 0 ≤ g ∧ g < 16) (K : ∀ (h3 : HpT), Fr h h3 (fun x => x = a ∨ x = b + 8 ∨ x = b + 9 ∨ x = b + 10 ∨ x = b + 11) → (∀ n, 0 ≤ n → n < 22 → h3 (b + 8) n = wg mp n) → (∀ j, 0 ≤ j → j < 4 * (g + 1) → h3 a j = plc mp (j / 4) (j % 4)) → St E mX8_placesAll 43 [some (.ref b), some (.ref a), some (vI g), some (vI 4)] [] (0, 0) N lay r h3) (n_ : Nat) (c : Int) (hk : HpT), (4 - c).toNat = n_ → (0 ≤ c ∧ c ≤ 4) → (Fr h hk (fun x => x = a ∨ x = b + 8 ∨ x = b + 9 ∨ x = b + 10 ∨ x = b + 11)) → (∀ n, 0 ≤ n → n < 22 → hk (b + 8) n = wg mp n) → (∀ q, 0 ≤ q → q < 4 → hk (b + 9) q = plc mp g q) → (∀ j, 0 ≤ j → j < 4 * g + c → hk a j = plc mp (j / 4) (j % 4)) → St E mX8_placesAll 19 [some (.ref b), some (.ref a), some (vI g), some (vI c)] [] (0, 0) N lay r hk := by
    intro g hg K n_
    induction n_ using Nat.strongRecOn with
    | ind n_ ih =>
      intro c hk hn_ hc hf hw hco hold
      refine r_iload_3 (pc := 19) dX8_placesAll_19 ?_
      refine r_iconst (pc := 20) dX8_placesAll_20 ?_
      refine r_icmp_ge (pc := 21) (tgt := 43) dX8_placesAll_21 (by decide) (by omega) (by omega) (fun c_21 => ?_) (fun c_21 => ?_)
      · have hc4 : c = 4 := by omega
        subst hc4
        exact K hk hf hw (fun j j0 j1 => hold j j0 (by omega))
      · refine r_aload_1 (pc := 24) dX8_placesAll_24 ?_
        refine r_iconst (pc := 25) dX8_placesAll_25 ?_
        refine r_iload_2 (pc := 26) dX8_placesAll_26 ?_
        refine r_imul (pc := 27) dX8_placesAll_27 ?_
        refine r_iload_3 (pc := 28) dX8_placesAll_28 ?_
        refine r_iadd (pc := 29) dX8_placesAll_29 ?_
        refine r_aload_0 (pc := 30) dX8_placesAll_30 ?_
        refine gf_X8_34 (pc := 31) rfl (by assumption) dX8_placesAll_31 (by assumption) ?_
        refine r_iload_3 (pc := 34) dX8_placesAll_34 ?_
        refine r_ialdE (pc := 35) (by assumption) rfl dX8_placesAll_35 (by omega) (by omega) (fun i_35 => ?_)
        refine r_iastE (pc := 36) (by assumption) rfl dX8_placesAll_36 (by omega) (by omega) (by omega) ?_
        refine r_iinc_3 (pc := 37) dX8_placesAll_37 rfl ?_
        refine r_goto (pc := 40) (tgt := 19) dX8_placesAll_40 (by decide) ?_
        refine ih _ (by omega) (c + 1) _ rfl (by omega) (fun x hx => by rw [hr_n (by omega)]; exact hf x hx) (fun n n0 n1 => by rw [hr_n (by omega)]; exact hw n n0 n1) (fun q q0 q4 => by rw [hr_n (by omega)]; exact hco q q0 q4) (fun j j0 j1 => ?_)
        rw [hr_s]
        by_cases e : j = 4 * g + c
        · rw [e, up_s, show (4 * g + c) / 4 = g by omega, show (4 * g + c) % 4 = c by omega]
          exact hco c (by omega) (by omega)
        · rw [up_n e]
          exact hold j j0 (by omega)
  have lp : ∀ (n_ : Nat) (g : Int) (hk : HpT) (x3 : Option Value), (16 - g).toNat = n_ → (0 ≤ g ∧ g ≤ 16) → (Fr h hk (fun x => x = a ∨ x = b + 8 ∨ x = b + 9 ∨ x = b + 10 ∨ x = b + 11)) → (∀ n, 0 ≤ n → n < 22 → hk (b + 8) n = wg mp n) → (∀ j, 0 ≤ j → j < 4 * g → hk a j = plc mp (j / 4) (j % 4)) → St E mX8_placesAll 6 [some (.ref b), some (.ref a), some (vI g), x3] [] (0, 0) N lay r hk := by
    intro  n_
    induction n_ using Nat.strongRecOn with
    | ind n_ ih =>
      intro g hk x3 hn_ hg hf hw hold
      have em : hk (b + 2) = mp := (hf _ (by omega)).trans hmp
      have hwa2 : WaT (hk (b + 7)) := by rw [hf _ (by omega)]; exact hwa
      refine r_iload_2 (pc := 6) dX8_placesAll_6 ?_
      refine r_bipush (pc := 7) dX8_placesAll_7 (by decide) ?_
      refine r_icmp_ge (pc := 9) (tgt := 49) dX8_placesAll_9 (by decide) (by omega) (by omega) (fun c_9 => ?_) (fun c_9 => ?_)
      · refine r_ret (pc := 49) hret dX8_placesAll_49 rfl rfl rfl ?_
        exact hQ hk hf (fun j j0 j1 => hold j j0 (by omega)) hw
      · refine r_aload_0 (pc := 12) dX8_placesAll_12 ?_
        refine r_iload_2 (pc := 13) dX8_placesAll_13 ?_
        refine k_VV1 (pc := 14) c_X8_places lk_X8_163 ⟨Nat.le_of_ble_eq_true rfl, Nat.le_of_ble_eq_true rfl⟩ ⟨rfl, rfl⟩ ⟨Nat.le_of_ble_eq_true rfl, Nat.le_of_ble_eq_true rfl⟩ (k := 8) rfl (by decide) (by assumption) dX8_placesAll_14 (Nat.le_of_ble_eq_true rfl) ?_
        refine ⟨_, _, _, rfl, by assumption, by first | assumption | exact rfl, by assumption, by assumption, by assumption, by assumption, by omega, fun h_14 f_14 a_14 b_14 c_14 => ?_⟩
        have m_14 : h_14 (b + 2) = mp := (f_14 _ (by omega)).trans (by assumption)
        refine r_iconst (pc := 17) dX8_placesAll_17 ?_
        refine r_istore_3 (pc := 18) dX8_placesAll_18 rfl ?_
        refine inn g (by omega) (fun h3 f3 w3 o3 => ?_) _ 0 h_14 rfl (by omega) (fun x hx => (f_14 x (by omega)).trans (hf x hx)) (fun n n0 n1 => by rw [f_14 _ (by omega)]; exact hw n n0 n1) a_14 (fun j j0 j1 => by rw [f_14 _ (by omega)]; exact hold j j0 (by omega))
        refine r_iinc_2 (pc := 43) dX8_placesAll_43 rfl ?_
        refine r_goto (pc := 46) (tgt := 6) dX8_placesAll_46 (by decide) ?_
        refine ih _ (by omega) (g + 1) h3 _ rfl (by omega) f3 w3 (fun j j0 j1 => o3 j j0 (by omega))
  refine r_aload_0 (pc := 0) dX8_placesAll_0 ?_
  refine k_VV0 (pc := 1) c_X8_weighsAll lk_X8_160 ⟨Nat.le_of_ble_eq_true rfl, Nat.le_of_ble_eq_true rfl⟩ ⟨rfl, rfl⟩ ⟨Nat.le_of_ble_eq_true rfl, Nat.le_of_ble_eq_true rfl⟩ (k := 8) rfl (by decide) (by assumption) dX8_placesAll_1 (Nat.le_of_ble_eq_true rfl) ?_
  refine ⟨_, _, rfl, by assumption, by first | assumption | exact rfl, by assumption, fun h_1 f_1 w_1 => ?_⟩
  have m_1 : h_1 (b + 2) = mp := (f_1 _ (by omega)).trans (by assumption)
  refine r_iconst (pc := 4) dX8_placesAll_4 ?_
  refine r_istore_2 (pc := 5) dX8_placesAll_5 rfl ?_
  exact lp _ 0 h_1 _ rfl (by omega) (fun x hx => f_1 x (by omega)) w_1 (fun j j0 j1 => by omega)

