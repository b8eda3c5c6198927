/-! THE LAW: one call on both sides, further cases -/
theorem dL_law_964 : decode code 964 = .ok (.aload_n 1, 1) := by decide +kernel
theorem dL_law_965 : decode code 965 = .ok (.aload_n 0, 1) := by decide +kernel
theorem dL_law_966 : decode code 966 = .ok (.iload_n 3, 1) := by decide +kernel
theorem dL_law_967 : decode code 967 = .ok (.iconst 1, 1) := by decide +kernel
theorem dL_law_968 : decode code 968 = .ok (.iadd, 1) := by decide +kernel
theorem dL_law_969 : decode code 969 = .ok (.iaload, 1) := by decide +kernel
theorem dL_law_970 : decode code 970 = .ok (.aload_n 0, 1) := by decide +kernel
theorem dL_law_971 : decode code 971 = .ok (.iload_n 3, 1) := by decide +kernel
theorem dL_law_972 : decode code 972 = .ok (.iconst 2, 1) := by decide +kernel
theorem dL_law_973 : decode code 973 = .ok (.iadd, 1) := by decide +kernel
theorem dL_law_974 : decode code 974 = .ok (.iaload, 1) := by decide +kernel
theorem dL_law_975 : decode code 975 = .ok (.invokevirtual 121, 3) := by decide +kernel
theorem dL_law_978 : decode code 978 = .ok (.aload_n 2, 1) := by decide +kernel
theorem dL_law_979 : decode code 979 = .ok (.aload_n 0, 1) := by decide +kernel
theorem dL_law_980 : decode code 980 = .ok (.iload_n 3, 1) := by decide +kernel
theorem dL_law_981 : decode code 981 = .ok (.iconst 1, 1) := by decide +kernel
theorem dL_law_982 : decode code 982 = .ok (.iadd, 1) := by decide +kernel
theorem dL_law_983 : decode code 983 = .ok (.iaload, 1) := by decide +kernel
theorem dL_law_984 : decode code 984 = .ok (.aload_n 0, 1) := by decide +kernel
theorem dL_law_985 : decode code 985 = .ok (.iload_n 3, 1) := by decide +kernel
theorem dL_law_986 : decode code 986 = .ok (.iconst 2, 1) := by decide +kernel
theorem dL_law_987 : decode code 987 = .ok (.iadd, 1) := by decide +kernel
theorem dL_law_988 : decode code 988 = .ok (.iaload, 1) := by decide +kernel
theorem dL_law_989 : decode code 989 = .ok (.invokevirtual 124, 3) := by decide +kernel
theorem dL_law_992 : decode code 992 = .ok (.if_icmp .eq 470, 3) := by decide +kernel
set_option maxHeartbeats 4000000 in
set_option maxRecDepth 20000 in
theorem law_since {E : EnT} {nm : String} {lay : LyT} {r : RfT} {h : HpT} {c b b0 L N : Nat} {sx : Int → Int} {i : Int} (hX : ScE E b0 L sx) (hi : 0 ≤ i ∧ i + 4 ≤ L) (hL : L ≤ 2048) (hcb : b = c + 101) (hLI : LI lay c b i r h) (K : ∀ r' h', LI lay c b (i + 4) r' h' → St E (mL_law nm) 1462 [some (.ref b0), some (.ref c), some (.ref b), some (vI i)] [] (122, 20801) N lay r' h') : St E (mL_law nm) 964 [some (.ref b0), some (.ref c), some (.ref b), some (vI i)] [] (122, 20801) N lay r h := by
  obtain ⟨q, n, tx, ep, km, mp, F, ux, sz, ho, sn, row, hI, hM, hle⟩ := hLI
  have hP0 := hI.2.2.2.2.2.1 0 (by omega) (by omega) (by have := hI.2.2.2.2.1.2.1; omega)
  rw [hI.2.2.2.2.2.2.1.1] at hP0
  have hT := hP0.1
  have hR := hP0.2.1
  have hep := hI.2.2.2.2.1
  have cl0 : lay c = (8, 0) := hI.1.1
  obtain ⟨a1, ha1⟩ : ∃ z, sx (i + 1) = z := ⟨_, rfl⟩
  have g1 := sc_rng hX (i + 1)
  rw [ha1] at g1
  obtain ⟨a2, ha2⟩ : ∃ z, sx (i + 2) = z := ⟨_, rfl⟩
  have g2 := sc_rng hX (i + 2)
  rw [ha2] at g2
  by_cases hc : 0 ≤ a2 ∧ a2 ≤ 2
  · by_cases hk : (1 ≤ a1 ∧ a1 ≤ ep ∧ ep - a1 < 5)
    · rcases (show a2 = 0 ∨ a2 = 1 ∨ a2 = 2 by omega) with hv | hv | hv
      · refine r_aload_1 (pc := 964) dL_law_964 ?_
        refine r_aload_0 (pc := 965) dL_law_965 ?_
        refine r_iload_3 (pc := 966) dL_law_966 ?_
        refine r_iconst (pc := 967) dL_law_967 ?_
        refine r_iadd (pc := 968) dL_law_968 ?_
        refine r_sld (pc := 969) hX dL_law_969 (by omega) (by omega) (fun i_969 => ?_)
        rw [ha1]
        refine r_aload_0 (pc := 970) dL_law_970 ?_
        refine r_iload_3 (pc := 971) dL_law_971 ?_
        refine r_iconst (pc := 972) dL_law_972 ?_
        refine r_iadd (pc := 973) dL_law_973 ?_
        refine r_sld (pc := 974) hX dL_law_974 (by omega) (by omega) (fun i_974 => ?_)
        rw [ha2]
        refine k_VI2 (pc := 975) c_X7_since lk_L_121 ⟨(Nat.le_of_ble_eq_true rfl), (Nat.le_of_ble_eq_true rfl)⟩ ⟨rfl, rfl⟩ ⟨(Nat.le_of_ble_eq_true rfl), (Nat.le_of_ble_eq_true rfl)⟩ (k := 7) rfl (by decide) cl0 dL_law_975 (Nat.le_of_ble_eq_true rfl) ?_
        refine ⟨c, q, n, tx, ep, km, mp, F, ux, sz, ho, sn, row, a1, a2, rfl, hI, g1, g2, fun z => absurd hc z, fun _ => ⟨fun z => absurd hk z, fun _ => ⟨fun _ => ?_, fun z => by omega, fun z => by omega⟩⟩⟩
        have hM2 := hM
        obtain ⟨hMd2, ⟨e0, e5, e17, e19⟩, ⟨e1, e2, e12, e14, e15, e17r⟩, hWa2, hz2, hkp2, hes2⟩ := id hM2
        refine r_aload_2 (pc := 978) dL_law_978 ?_
        refine r_aload_0 (pc := 979) dL_law_979 ?_
        refine r_iload_3 (pc := 980) dL_law_980 ?_
        refine r_iconst (pc := 981) dL_law_981 ?_
        refine r_iadd (pc := 982) dL_law_982 ?_
        refine r_sld (pc := 983) hX dL_law_983 (by omega) (by omega) (fun i_983 => ?_)
        rw [ha1]
        refine r_aload_0 (pc := 984) dL_law_984 ?_
        refine r_iload_3 (pc := 985) dL_law_985 ?_
        refine r_iconst (pc := 986) dL_law_986 ?_
        refine r_iadd (pc := 987) dL_law_987 ?_
        refine r_sld (pc := 988) hX dL_law_988 (by omega) (by omega) (fun i_988 => ?_)
        rw [ha2]
        have z9 := hM2.tr a1 ((hM2.no a1 hep.2.1).mpr hk) hep.2.1
        refine k_VI2 (pc := 989) c_X8_since lk_L_124 ⟨(Nat.le_of_ble_eq_true rfl), (Nat.le_of_ble_eq_true rfl)⟩ ⟨rfl, rfl⟩ ⟨(Nat.le_of_ble_eq_true rfl), (Nat.le_of_ble_eq_true rfl)⟩ (k := 8) rfl (by decide) hMd2.1 dL_law_989 (Nat.le_of_ble_eq_true rfl) ?_
        refine ⟨b, mp, a1, a2, rfl, hMd2, e2, hT, hR, g1, g2, hWa2, (fun e9 k1 _ k3 => by
          have z9 := hM2.tr e9 ⟨k1, k3⟩ hep.2.1
          have pm := hI.2.2.2.2.2.1 (ep - e9) (by omega) (by omega) (by omega)
          rw [z9.2]; exact ⟨pm.1, pm.2.1⟩), fun z => absurd hc z, fun _ => ⟨fun z => absurd ((hM2.no a1 hep.2.1).mpr hk) z, fun _ h3 f3 => ⟨fun _ => ?_, fun z => by omega, fun z => by omega⟩⟩⟩
        refine r_same (pc := 992) (tgt := 1462) (by rw [z9.2, e12]) dL_law_992 (by decide) ?_
        exact K r h3 ⟨q, n, tx, ep, km, mp, F, ux, sz, ho, sn, row, hI.fr (fun x x0 x1 => f3 x (by omega)), hM2.s (fun j hj => by rw [f3 _ (by omega)]) (fun x x0 x1 hx => f3 x (by omega)), by omega⟩
      · refine r_aload_1 (pc := 964) dL_law_964 ?_
        refine r_aload_0 (pc := 965) dL_law_965 ?_
        refine r_iload_3 (pc := 966) dL_law_966 ?_
        refine r_iconst (pc := 967) dL_law_967 ?_
        refine r_iadd (pc := 968) dL_law_968 ?_
        refine r_sld (pc := 969) hX dL_law_969 (by omega) (by omega) (fun i_969 => ?_)
        rw [ha1]
        refine r_aload_0 (pc := 970) dL_law_970 ?_
        refine r_iload_3 (pc := 971) dL_law_971 ?_
        refine r_iconst (pc := 972) dL_law_972 ?_
        refine r_iadd (pc := 973) dL_law_973 ?_
        refine r_sld (pc := 974) hX dL_law_974 (by omega) (by omega) (fun i_974 => ?_)
        rw [ha2]
        refine k_VI2 (pc := 975) c_X7_since lk_L_121 ⟨(Nat.le_of_ble_eq_true rfl), (Nat.le_of_ble_eq_true rfl)⟩ ⟨rfl, rfl⟩ ⟨(Nat.le_of_ble_eq_true rfl), (Nat.le_of_ble_eq_true rfl)⟩ (k := 7) rfl (by decide) cl0 dL_law_975 (Nat.le_of_ble_eq_true rfl) ?_
        refine ⟨c, q, n, tx, ep, km, mp, F, ux, sz, ho, sn, row, a1, a2, rfl, hI, g1, g2, fun z => absurd hc z, fun _ => ⟨fun z => absurd hk z, fun _ => ⟨fun z => by omega, fun _ => ?_, fun z => by omega⟩⟩⟩
        have hM2 := hM
        obtain ⟨hMd2, ⟨e0, e5, e17, e19⟩, ⟨e1, e2, e12, e14, e15, e17r⟩, hWa2, hz2, hkp2, hes2⟩ := id hM2
        refine r_aload_2 (pc := 978) dL_law_978 ?_
        refine r_aload_0 (pc := 979) dL_law_979 ?_
        refine r_iload_3 (pc := 980) dL_law_980 ?_
        refine r_iconst (pc := 981) dL_law_981 ?_
        refine r_iadd (pc := 982) dL_law_982 ?_
        refine r_sld (pc := 983) hX dL_law_983 (by omega) (by omega) (fun i_983 => ?_)
        rw [ha1]
        refine r_aload_0 (pc := 984) dL_law_984 ?_
        refine r_iload_3 (pc := 985) dL_law_985 ?_
        refine r_iconst (pc := 986) dL_law_986 ?_
        refine r_iadd (pc := 987) dL_law_987 ?_
        refine r_sld (pc := 988) hX dL_law_988 (by omega) (by omega) (fun i_988 => ?_)
        rw [ha2]
        have z9 := hM2.tr a1 ((hM2.no a1 hep.2.1).mpr hk) hep.2.1
        refine k_VI2 (pc := 989) c_X8_since lk_L_124 ⟨(Nat.le_of_ble_eq_true rfl), (Nat.le_of_ble_eq_true rfl)⟩ ⟨rfl, rfl⟩ ⟨(Nat.le_of_ble_eq_true rfl), (Nat.le_of_ble_eq_true rfl)⟩ (k := 8) rfl (by decide) hMd2.1 dL_law_989 (Nat.le_of_ble_eq_true rfl) ?_
        refine ⟨b, mp, a1, a2, rfl, hMd2, e2, hT, hR, g1, g2, hWa2, (fun e9 k1 _ k3 => by
          have z9 := hM2.tr e9 ⟨k1, k3⟩ hep.2.1
          have pm := hI.2.2.2.2.2.1 (ep - e9) (by omega) (by omega) (by omega)
          rw [z9.2]; exact ⟨pm.1, pm.2.1⟩), fun z => absurd hc z, fun _ => ⟨fun z => absurd ((hM2.no a1 hep.2.1).mpr hk) z, fun _ h3 f3 => ⟨fun z => by omega, fun _ => ?_, fun z => by omega⟩⟩⟩
        refine r_same (pc := 992) (tgt := 1462) (by rw [z9.2, e12]) dL_law_992 (by decide) ?_
        exact K r h3 ⟨q, n, tx, ep, km, mp, F, ux, sz, ho, sn, row, hI.fr (fun x x0 x1 => f3 x (by omega)), hM2.s (fun j hj => by rw [f3 _ (by omega)]) (fun x x0 x1 hx => f3 x (by omega)), by omega⟩
      · refine r_aload_1 (pc := 964) dL_law_964 ?_
        refine r_aload_0 (pc := 965) dL_law_965 ?_
        refine r_iload_3 (pc := 966) dL_law_966 ?_
        refine r_iconst (pc := 967) dL_law_967 ?_
        refine r_iadd (pc := 968) dL_law_968 ?_
        refine r_sld (pc := 969) hX dL_law_969 (by omega) (by omega) (fun i_969 => ?_)
        rw [ha1]
        refine r_aload_0 (pc := 970) dL_law_970 ?_
        refine r_iload_3 (pc := 971) dL_law_971 ?_
        refine r_iconst (pc := 972) dL_law_972 ?_
        refine r_iadd (pc := 973) dL_law_973 ?_
        refine r_sld (pc := 974) hX dL_law_974 (by omega) (by omega) (fun i_974 => ?_)
        rw [ha2]
        refine k_VI2 (pc := 975) c_X7_since lk_L_121 ⟨(Nat.le_of_ble_eq_true rfl), (Nat.le_of_ble_eq_true rfl)⟩ ⟨rfl, rfl⟩ ⟨(Nat.le_of_ble_eq_true rfl), (Nat.le_of_ble_eq_true rfl)⟩ (k := 7) rfl (by decide) cl0 dL_law_975 (Nat.le_of_ble_eq_true rfl) ?_
        refine ⟨c, q, n, tx, ep, km, mp, F, ux, sz, ho, sn, row, a1, a2, rfl, hI, g1, g2, fun z => absurd hc z, fun _ => ⟨fun z => absurd hk z, fun _ => ⟨fun z => by omega, fun z => by omega, fun _ => ?_⟩⟩⟩
        have hM2 := hM
        obtain ⟨hMd2, ⟨e0, e5, e17, e19⟩, ⟨e1, e2, e12, e14, e15, e17r⟩, hWa2, hz2, hkp2, hes2⟩ := id hM2
        refine r_aload_2 (pc := 978) dL_law_978 ?_
        refine r_aload_0 (pc := 979) dL_law_979 ?_
        refine r_iload_3 (pc := 980) dL_law_980 ?_
        refine r_iconst (pc := 981) dL_law_981 ?_
        refine r_iadd (pc := 982) dL_law_982 ?_
        refine r_sld (pc := 983) hX dL_law_983 (by omega) (by omega) (fun i_983 => ?_)
        rw [ha1]
        refine r_aload_0 (pc := 984) dL_law_984 ?_
        refine r_iload_3 (pc := 985) dL_law_985 ?_
        refine r_iconst (pc := 986) dL_law_986 ?_
        refine r_iadd (pc := 987) dL_law_987 ?_
        refine r_sld (pc := 988) hX dL_law_988 (by omega) (by omega) (fun i_988 => ?_)
        rw [ha2]
        have z9 := hM2.tr a1 ((hM2.no a1 hep.2.1).mpr hk) hep.2.1
        refine k_VI2 (pc := 989) c_X8_since lk_L_124 ⟨(Nat.le_of_ble_eq_true rfl), (Nat.le_of_ble_eq_true rfl)⟩ ⟨rfl, rfl⟩ ⟨(Nat.le_of_ble_eq_true rfl), (Nat.le_of_ble_eq_true rfl)⟩ (k := 8) rfl (by decide) hMd2.1 dL_law_989 (Nat.le_of_ble_eq_true rfl) ?_
        refine ⟨b, mp, a1, a2, rfl, hMd2, e2, hT, hR, g1, g2, hWa2, (fun e9 k1 _ k3 => by
          have z9 := hM2.tr e9 ⟨k1, k3⟩ hep.2.1
          have pm := hI.2.2.2.2.2.1 (ep - e9) (by omega) (by omega) (by omega)
          rw [z9.2]; exact ⟨pm.1, pm.2.1⟩), fun z => absurd hc z, fun _ => ⟨fun z => absurd ((hM2.no a1 hep.2.1).mpr hk) z, fun _ h3 f3 => ⟨fun z => by omega, fun z => by omega, fun _ => ?_⟩⟩⟩
        refine r_same (pc := 992) (tgt := 1462) (by rw [z9.2, e12]) dL_law_992 (by decide) ?_
        exact K r h3 ⟨q, n, tx, ep, km, mp, F, ux, sz, ho, sn, row, hI.fr (fun x x0 x1 => f3 x (by omega)), hM2.s (fun j hj => by rw [f3 _ (by omega)]) (fun x x0 x1 hx => f3 x (by omega)), by omega⟩
    · refine r_aload_1 (pc := 964) dL_law_964 ?_
      refine r_aload_0 (pc := 965) dL_law_965 ?_
      refine r_iload_3 (pc := 966) dL_law_966 ?_
      refine r_iconst (pc := 967) dL_law_967 ?_
      refine r_iadd (pc := 968) dL_law_968 ?_
      refine r_sld (pc := 969) hX dL_law_969 (by omega) (by omega) (fun i_969 => ?_)
      rw [ha1]
      refine r_aload_0 (pc := 970) dL_law_970 ?_
      refine r_iload_3 (pc := 971) dL_law_971 ?_
      refine r_iconst (pc := 972) dL_law_972 ?_
      refine r_iadd (pc := 973) dL_law_973 ?_
      refine r_sld (pc := 974) hX dL_law_974 (by omega) (by omega) (fun i_974 => ?_)
      rw [ha2]
      refine k_VI2 (pc := 975) c_X7_since lk_L_121 ⟨(Nat.le_of_ble_eq_true rfl), (Nat.le_of_ble_eq_true rfl)⟩ ⟨rfl, rfl⟩ ⟨(Nat.le_of_ble_eq_true rfl), (Nat.le_of_ble_eq_true rfl)⟩ (k := 7) rfl (by decide) cl0 dL_law_975 (Nat.le_of_ble_eq_true rfl) ?_
      refine ⟨c, q, n, tx, ep, km, mp, F, ux, sz, ho, sn, row, a1, a2, rfl, hI, g1, g2, fun z => absurd hc z, fun _ => ⟨fun _ => ?_, fun z => absurd z hk⟩⟩
      have hM2 := hM
      obtain ⟨hMd2, ⟨e0, e5, e17, e19⟩, ⟨e1, e2, e12, e14, e15, e17r⟩, hWa2, hz2, hkp2, hes2⟩ := id hM2
      refine r_aload_2 (pc := 978) dL_law_978 ?_
      refine r_aload_0 (pc := 979) dL_law_979 ?_
      refine r_iload_3 (pc := 980) dL_law_980 ?_
      refine r_iconst (pc := 981) dL_law_981 ?_
      refine r_iadd (pc := 982) dL_law_982 ?_
      refine r_sld (pc := 983) hX dL_law_983 (by omega) (by omega) (fun i_983 => ?_)
      rw [ha1]
      refine r_aload_0 (pc := 984) dL_law_984 ?_
      refine r_iload_3 (pc := 985) dL_law_985 ?_
      refine r_iconst (pc := 986) dL_law_986 ?_
      refine r_iadd (pc := 987) dL_law_987 ?_
      refine r_sld (pc := 988) hX dL_law_988 (by omega) (by omega) (fun i_988 => ?_)
      rw [ha2]
      refine k_VI2 (pc := 989) c_X8_since lk_L_124 ⟨(Nat.le_of_ble_eq_true rfl), (Nat.le_of_ble_eq_true rfl)⟩ ⟨rfl, rfl⟩ ⟨(Nat.le_of_ble_eq_true rfl), (Nat.le_of_ble_eq_true rfl)⟩ (k := 8) rfl (by decide) hMd2.1 dL_law_989 (Nat.le_of_ble_eq_true rfl) ?_
      refine ⟨b, mp, a1, a2, rfl, hMd2, e2, hT, hR, g1, g2, hWa2, (fun e9 k1 _ k3 => by
        have z9 := hM2.tr e9 ⟨k1, k3⟩ hep.2.1
        have pm := hI.2.2.2.2.2.1 (ep - e9) (by omega) (by omega) (by omega)
        rw [z9.2]; exact ⟨pm.1, pm.2.1⟩), fun z => absurd hc z, fun _ => ⟨fun _ => ?_, fun z => absurd ((hM2.no a1 hep.2.1).mp z) hk⟩⟩
      refine r_same (pc := 992) (tgt := 1462) (by first | rfl | (simp only [e0, e5, e17, e19, e1, e2, e12, e14, e15, e17r])) dL_law_992 (by decide) ?_
      exact K r h ⟨q, n, tx, ep, km, mp, F, ux, sz, ho, sn, row, hI, hM2, by omega⟩
  · refine r_aload_1 (pc := 964) dL_law_964 ?_
    refine r_aload_0 (pc := 965) dL_law_965 ?_
    refine r_iload_3 (pc := 966) dL_law_966 ?_
    refine r_iconst (pc := 967) dL_law_967 ?_
    refine r_iadd (pc := 968) dL_law_968 ?_
    refine r_sld (pc := 969) hX dL_law_969 (by omega) (by omega) (fun i_969 => ?_)
    rw [ha1]
    refine r_aload_0 (pc := 970) dL_law_970 ?_
    refine r_iload_3 (pc := 971) dL_law_971 ?_
    refine r_iconst (pc := 972) dL_law_972 ?_
    refine r_iadd (pc := 973) dL_law_973 ?_
    refine r_sld (pc := 974) hX dL_law_974 (by omega) (by omega) (fun i_974 => ?_)
    rw [ha2]
    refine k_VI2 (pc := 975) c_X7_since lk_L_121 ⟨(Nat.le_of_ble_eq_true rfl), (Nat.le_of_ble_eq_true rfl)⟩ ⟨rfl, rfl⟩ ⟨(Nat.le_of_ble_eq_true rfl), (Nat.le_of_ble_eq_true rfl)⟩ (k := 7) rfl (by decide) cl0 dL_law_975 (Nat.le_of_ble_eq_true rfl) ?_
    refine ⟨c, q, n, tx, ep, km, mp, F, ux, sz, ho, sn, row, a1, a2, rfl, hI, g1, g2, fun _ => ?_, fun z => absurd z hc⟩
    have hM2 := hM
    obtain ⟨hMd2, ⟨e0, e5, e17, e19⟩, ⟨e1, e2, e12, e14, e15, e17r⟩, hWa2, hz2, hkp2, hes2⟩ := id hM2
    refine r_aload_2 (pc := 978) dL_law_978 ?_
    refine r_aload_0 (pc := 979) dL_law_979 ?_
    refine r_iload_3 (pc := 980) dL_law_980 ?_
    refine r_iconst (pc := 981) dL_law_981 ?_
    refine r_iadd (pc := 982) dL_law_982 ?_
    refine r_sld (pc := 983) hX dL_law_983 (by omega) (by omega) (fun i_983 => ?_)
    rw [ha1]
    refine r_aload_0 (pc := 984) dL_law_984 ?_
    refine r_iload_3 (pc := 985) dL_law_985 ?_
    refine r_iconst (pc := 986) dL_law_986 ?_
    refine r_iadd (pc := 987) dL_law_987 ?_
    refine r_sld (pc := 988) hX dL_law_988 (by omega) (by omega) (fun i_988 => ?_)
    rw [ha2]
    refine k_VI2 (pc := 989) c_X8_since lk_L_124 ⟨(Nat.le_of_ble_eq_true rfl), (Nat.le_of_ble_eq_true rfl)⟩ ⟨rfl, rfl⟩ ⟨(Nat.le_of_ble_eq_true rfl), (Nat.le_of_ble_eq_true rfl)⟩ (k := 8) rfl (by decide) hMd2.1 dL_law_989 (Nat.le_of_ble_eq_true rfl) ?_
    refine ⟨b, mp, a1, a2, rfl, hMd2, e2, hT, hR, g1, g2, hWa2, (fun e9 k1 _ k3 => by
      have z9 := hM2.tr e9 ⟨k1, k3⟩ hep.2.1
      have pm := hI.2.2.2.2.2.1 (ep - e9) (by omega) (by omega) (by omega)
      rw [z9.2]; exact ⟨pm.1, pm.2.1⟩), fun _ => ?_, fun z => absurd z hc⟩
    refine r_same (pc := 992) (tgt := 1462) (by first | rfl | (simp only [e0, e5, e17, e19, e1, e2, e12, e14, e15, e17r])) dL_law_992 (by decide) ?_
    exact K r h ⟨q, n, tx, ep, km, mp, F, ux, sz, ho, sn, row, hI, hM2, by omega⟩
theorem dL_law_1073 : decode code 1073 = .ok (.aload_n 1, 1) := by decide +kernel
theorem dL_law_1074 : decode code 1074 = .ok (.aload_n 0, 1) := by decide +kernel
theorem dL_law_1075 : decode code 1075 = .ok (.iload_n 3, 1) := by decide +kernel
theorem dL_law_1076 : decode code 1076 = .ok (.iconst 1, 1) := by decide +kernel
theorem dL_law_1077 : decode code 1077 = .ok (.iadd, 1) := by decide +kernel
theorem dL_law_1078 : decode code 1078 = .ok (.iaload, 1) := by decide +kernel
theorem dL_law_1079 : decode code 1079 = .ok (.invokevirtual 133, 3) := by decide +kernel
theorem dL_law_1082 : decode code 1082 = .ok (.aload_n 2, 1) := by decide +kernel
theorem dL_law_1083 : decode code 1083 = .ok (.aload_n 0, 1) := by decide +kernel
theorem dL_law_1084 : decode code 1084 = .ok (.iload_n 3, 1) := by decide +kernel
theorem dL_law_1085 : decode code 1085 = .ok (.iconst 1, 1) := by decide +kernel
theorem dL_law_1086 : decode code 1086 = .ok (.iadd, 1) := by decide +kernel
theorem dL_law_1087 : decode code 1087 = .ok (.iaload, 1) := by decide +kernel
theorem dL_law_1088 : decode code 1088 = .ok (.invokevirtual 136, 3) := by decide +kernel
theorem dL_law_1091 : decode code 1091 = .ok (.if_icmp .eq 371, 3) := by decide +kernel
set_option maxHeartbeats 4000000 in
set_option maxRecDepth 20000 in
theorem law_even {E : EnT} {nm : String} {lay : LyT} {r : RfT} {h : HpT} {c b b0 L N : Nat} {sx : Int → Int} {i : Int} (hX : ScE E b0 L sx) (hi : 0 ≤ i ∧ i + 4 ≤ L) (hL : L ≤ 2048) (hcb : b = c + 101) (hLI : LI lay c b i r h) (K : ∀ r' h', LI lay c b (i + 4) r' h' → St E (mL_law nm) 1462 [some (.ref b0), some (.ref c), some (.ref b), some (vI i)] [] (122, 20801) N lay r' h') : St E (mL_law nm) 1073 [some (.ref b0), some (.ref c), some (.ref b), some (vI i)] [] (122, 20801) N lay r h := by
  obtain ⟨q, n, tx, ep, km, mp, F, ux, sz, ho, sn, row, hI, hM, hle⟩ := hLI
  have hP0 := hI.2.2.2.2.2.1 0 (by omega) (by omega) (by have := hI.2.2.2.2.1.2.1; omega)
  rw [hI.2.2.2.2.2.2.1.1] at hP0
  have hT := hP0.1
  have hR := hP0.2.1
  have hep := hI.2.2.2.2.1
  have cl0 : lay c = (8, 0) := hI.1.1
  obtain ⟨a1, ha1⟩ : ∃ z, sx (i + 1) = z := ⟨_, rfl⟩
  have g1 := sc_rng hX (i + 1)
  rw [ha1] at g1
  by_cases hc : 0 ≤ a1 ∧ a1 ≤ 2
  · by_cases hb : (evk mp (spr mp F) (mp 130).toNat).2.1 < 0
    · refine r_aload_1 (pc := 1073) dL_law_1073 ?_
      refine r_aload_0 (pc := 1074) dL_law_1074 ?_
      refine r_iload_3 (pc := 1075) dL_law_1075 ?_
      refine r_iconst (pc := 1076) dL_law_1076 ?_
      refine r_iadd (pc := 1077) dL_law_1077 ?_
      refine r_sld (pc := 1078) hX dL_law_1078 (by omega) (by omega) (fun i_1078 => ?_)
      rw [ha1]
      refine k_VI1 (pc := 1079) c_X7_even lk_L_133 ⟨(Nat.le_of_ble_eq_true rfl), (Nat.le_of_ble_eq_true rfl)⟩ ⟨rfl, rfl⟩ ⟨(Nat.le_of_ble_eq_true rfl), (Nat.le_of_ble_eq_true rfl)⟩ (k := 7) rfl (by decide) cl0 dL_law_1079 (Nat.le_of_ble_eq_true rfl) ?_
      refine ⟨c, q, n, tx, ep, km, mp, F, ux, sz, ho, sn, row, a1, rfl, hI, g1, fun z => absurd hc z, fun _ h2 f2 hI2 => ⟨fun _ => ?_, fun z => absurd z (by omega)⟩⟩
      have hM2 : MI lay r h2 b n tx ep km mp F ux sz ho sn row := hM.of (rfl) (fun x x0 x1 => f2 x (by omega))
      obtain ⟨hMd2, ⟨e0, e5, e17, e19⟩, ⟨e1, e2, e12, e14, e15, e17r⟩, hWa2, hz2, hkp2, hes2⟩ := id hM2
      refine r_aload_2 (pc := 1082) dL_law_1082 ?_
      refine r_aload_0 (pc := 1083) dL_law_1083 ?_
      refine r_iload_3 (pc := 1084) dL_law_1084 ?_
      refine r_iconst (pc := 1085) dL_law_1085 ?_
      refine r_iadd (pc := 1086) dL_law_1086 ?_
      refine r_sld (pc := 1087) hX dL_law_1087 (by omega) (by omega) (fun i_1087 => ?_)
      rw [ha1]
      refine k_VI1 (pc := 1088) c_X8_even lk_L_136 ⟨(Nat.le_of_ble_eq_true rfl), (Nat.le_of_ble_eq_true rfl)⟩ ⟨rfl, rfl⟩ ⟨(Nat.le_of_ble_eq_true rfl), (Nat.le_of_ble_eq_true rfl)⟩ (k := 8) rfl (by decide) hMd2.1 dL_law_1088 (Nat.le_of_ble_eq_true rfl) ?_
      refine ⟨b, mp, a1, rfl, hMd2, e2, hT, hR, g1, hWa2, fun z => absurd hc z, fun _ h3 f3 => ⟨fun _ => ?_, fun z => absurd (by rw [e12] at z; exact z) (show ¬ 0 ≤ (evk mp (spr mp F) (mp 130).toNat).2.1 by omega)⟩⟩
      refine r_same (pc := 1091) (tgt := 1462) (by first | rfl | (simp only [e0, e5, e17, e19, e1, e2, e12, e14, e15, e17r])) dL_law_1091 (by decide) ?_
      exact K r h3 ⟨q, n, tx, ep, km, mp, F, ux, sz, ho, sn, row, hI2.fr (fun x x0 x1 => f3 x (by omega)), hM2.s (fun j hj => by rw [f3 _ (by omega)]) (fun x x0 x1 hx => f3 x (by omega)), by omega⟩
    · rcases (show a1 = 0 ∨ a1 = 1 ∨ a1 = 2 by omega) with hv | hv | hv
      · refine r_aload_1 (pc := 1073) dL_law_1073 ?_
        refine r_aload_0 (pc := 1074) dL_law_1074 ?_
        refine r_iload_3 (pc := 1075) dL_law_1075 ?_
        refine r_iconst (pc := 1076) dL_law_1076 ?_
        refine r_iadd (pc := 1077) dL_law_1077 ?_
        refine r_sld (pc := 1078) hX dL_law_1078 (by omega) (by omega) (fun i_1078 => ?_)
        rw [ha1]
        refine k_VI1 (pc := 1079) c_X7_even lk_L_133 ⟨(Nat.le_of_ble_eq_true rfl), (Nat.le_of_ble_eq_true rfl)⟩ ⟨rfl, rfl⟩ ⟨(Nat.le_of_ble_eq_true rfl), (Nat.le_of_ble_eq_true rfl)⟩ (k := 7) rfl (by decide) cl0 dL_law_1079 (Nat.le_of_ble_eq_true rfl) ?_
        refine ⟨c, q, n, tx, ep, km, mp, F, ux, sz, ho, sn, row, a1, rfl, hI, g1, fun z => absurd hc z, fun _ h2 f2 hI2 => ⟨fun z => absurd z hb, fun _ => ⟨fun _ => ?_, fun z => by omega, fun z => by omega⟩⟩⟩
        have hM2 : MI lay r h2 b n tx ep km mp F ux sz ho sn row := hM.of (rfl) (fun x x0 x1 => f2 x (by omega))
        obtain ⟨hMd2, ⟨e0, e5, e17, e19⟩, ⟨e1, e2, e12, e14, e15, e17r⟩, hWa2, hz2, hkp2, hes2⟩ := id hM2
        refine r_aload_2 (pc := 1082) dL_law_1082 ?_
        refine r_aload_0 (pc := 1083) dL_law_1083 ?_
        refine r_iload_3 (pc := 1084) dL_law_1084 ?_
        refine r_iconst (pc := 1085) dL_law_1085 ?_
        refine r_iadd (pc := 1086) dL_law_1086 ?_
        refine r_sld (pc := 1087) hX dL_law_1087 (by omega) (by omega) (fun i_1087 => ?_)
        rw [ha1]
        refine k_VI1 (pc := 1088) c_X8_even lk_L_136 ⟨(Nat.le_of_ble_eq_true rfl), (Nat.le_of_ble_eq_true rfl)⟩ ⟨rfl, rfl⟩ ⟨(Nat.le_of_ble_eq_true rfl), (Nat.le_of_ble_eq_true rfl)⟩ (k := 8) rfl (by decide) hMd2.1 dL_law_1088 (Nat.le_of_ble_eq_true rfl) ?_
        refine ⟨b, mp, a1, rfl, hMd2, e2, hT, hR, g1, hWa2, fun z => absurd hc z, fun _ h3 f3 => ⟨fun z => absurd (by rw [e12] at z; exact z) hb, fun _ => ⟨fun _ => ?_, fun z => by omega, fun z => by omega⟩⟩⟩
        refine r_same (pc := 1091) (tgt := 1462) (by first | rfl | (simp only [e0, e5, e17, e19, e1, e2, e12, e14, e15, e17r])) dL_law_1091 (by decide) ?_
        exact K r h3 ⟨q, n, tx, ep, km, mp, F, ux, sz, ho, sn, row, hI2.fr (fun x x0 x1 => f3 x (by omega)), hM2.s (fun j hj => by rw [f3 _ (by omega)]) (fun x x0 x1 hx => f3 x (by omega)), by omega⟩
      · refine r_aload_1 (pc := 1073) dL_law_1073 ?_
        refine r_aload_0 (pc := 1074) dL_law_1074 ?_
        refine r_iload_3 (pc := 1075) dL_law_1075 ?_
        refine r_iconst (pc := 1076) dL_law_1076 ?_
        refine r_iadd (pc := 1077) dL_law_1077 ?_
        refine r_sld (pc := 1078) hX dL_law_1078 (by omega) (by omega) (fun i_1078 => ?_)
        rw [ha1]
        refine k_VI1 (pc := 1079) c_X7_even lk_L_133 ⟨(Nat.le_of_ble_eq_true rfl), (Nat.le_of_ble_eq_true rfl)⟩ ⟨rfl, rfl⟩ ⟨(Nat.le_of_ble_eq_true rfl), (Nat.le_of_ble_eq_true rfl)⟩ (k := 7) rfl (by decide) cl0 dL_law_1079 (Nat.le_of_ble_eq_true rfl) ?_
        refine ⟨c, q, n, tx, ep, km, mp, F, ux, sz, ho, sn, row, a1, rfl, hI, g1, fun z => absurd hc z, fun _ h2 f2 hI2 => ⟨fun z => absurd z hb, fun _ => ⟨fun z => by omega, fun _ => ?_, fun z => by omega⟩⟩⟩
        have hM2 : MI lay r h2 b n tx ep km mp F ux sz ho sn row := hM.of (rfl) (fun x x0 x1 => f2 x (by omega))
        obtain ⟨hMd2, ⟨e0, e5, e17, e19⟩, ⟨e1, e2, e12, e14, e15, e17r⟩, hWa2, hz2, hkp2, hes2⟩ := id hM2
        refine r_aload_2 (pc := 1082) dL_law_1082 ?_
        refine r_aload_0 (pc := 1083) dL_law_1083 ?_
        refine r_iload_3 (pc := 1084) dL_law_1084 ?_
        refine r_iconst (pc := 1085) dL_law_1085 ?_
        refine r_iadd (pc := 1086) dL_law_1086 ?_
        refine r_sld (pc := 1087) hX dL_law_1087 (by omega) (by omega) (fun i_1087 => ?_)
        rw [ha1]
        refine k_VI1 (pc := 1088) c_X8_even lk_L_136 ⟨(Nat.le_of_ble_eq_true rfl), (Nat.le_of_ble_eq_true rfl)⟩ ⟨rfl, rfl⟩ ⟨(Nat.le_of_ble_eq_true rfl), (Nat.le_of_ble_eq_true rfl)⟩ (k := 8) rfl (by decide) hMd2.1 dL_law_1088 (Nat.le_of_ble_eq_true rfl) ?_
        refine ⟨b, mp, a1, rfl, hMd2, e2, hT, hR, g1, hWa2, fun z => absurd hc z, fun _ h3 f3 => ⟨fun z => absurd (by rw [e12] at z; exact z) hb, fun _ => ⟨fun z => by omega, fun _ => ?_, fun z => by omega⟩⟩⟩
        refine r_same (pc := 1091) (tgt := 1462) (by first | rfl | (simp only [e0, e5, e17, e19, e1, e2, e12, e14, e15, e17r])) dL_law_1091 (by decide) ?_
        exact K r h3 ⟨q, n, tx, ep, km, mp, F, ux, sz, ho, sn, row, hI2.fr (fun x x0 x1 => f3 x (by omega)), hM2.s (fun j hj => by rw [f3 _ (by omega)]) (fun x x0 x1 hx => f3 x (by omega)), by omega⟩
      · refine r_aload_1 (pc := 1073) dL_law_1073 ?_
        refine r_aload_0 (pc := 1074) dL_law_1074 ?_
        refine r_iload_3 (pc := 1075) dL_law_1075 ?_
        refine r_iconst (pc := 1076) dL_law_1076 ?_
        refine r_iadd (pc := 1077) dL_law_1077 ?_
        refine r_sld (pc := 1078) hX dL_law_1078 (by omega) (by omega) (fun i_1078 => ?_)
        rw [ha1]
        refine k_VI1 (pc := 1079) c_X7_even lk_L_133 ⟨(Nat.le_of_ble_eq_true rfl), (Nat.le_of_ble_eq_true rfl)⟩ ⟨rfl, rfl⟩ ⟨(Nat.le_of_ble_eq_true rfl), (Nat.le_of_ble_eq_true rfl)⟩ (k := 7) rfl (by decide) cl0 dL_law_1079 (Nat.le_of_ble_eq_true rfl) ?_
        refine ⟨c, q, n, tx, ep, km, mp, F, ux, sz, ho, sn, row, a1, rfl, hI, g1, fun z => absurd hc z, fun _ h2 f2 hI2 => ⟨fun z => absurd z hb, fun _ => ⟨fun z => by omega, fun z => by omega, fun _ => ?_⟩⟩⟩
        have hM2 : MI lay r h2 b n tx ep km mp F ux sz ho sn row := hM.of (rfl) (fun x x0 x1 => f2 x (by omega))
        obtain ⟨hMd2, ⟨e0, e5, e17, e19⟩, ⟨e1, e2, e12, e14, e15, e17r⟩, hWa2, hz2, hkp2, hes2⟩ := id hM2
        refine r_aload_2 (pc := 1082) dL_law_1082 ?_
        refine r_aload_0 (pc := 1083) dL_law_1083 ?_
        refine r_iload_3 (pc := 1084) dL_law_1084 ?_
        refine r_iconst (pc := 1085) dL_law_1085 ?_
        refine r_iadd (pc := 1086) dL_law_1086 ?_
        refine r_sld (pc := 1087) hX dL_law_1087 (by omega) (by omega) (fun i_1087 => ?_)
        rw [ha1]
        refine k_VI1 (pc := 1088) c_X8_even lk_L_136 ⟨(Nat.le_of_ble_eq_true rfl), (Nat.le_of_ble_eq_true rfl)⟩ ⟨rfl, rfl⟩ ⟨(Nat.le_of_ble_eq_true rfl), (Nat.le_of_ble_eq_true rfl)⟩ (k := 8) rfl (by decide) hMd2.1 dL_law_1088 (Nat.le_of_ble_eq_true rfl) ?_
        refine ⟨b, mp, a1, rfl, hMd2, e2, hT, hR, g1, hWa2, fun z => absurd hc z, fun _ h3 f3 => ⟨fun z => absurd (by rw [e12] at z; exact z) hb, fun _ => ⟨fun z => by omega, fun z => by omega, fun _ => ?_⟩⟩⟩
        refine r_same (pc := 1091) (tgt := 1462) (by first | rfl | (simp only [e0, e5, e17, e19, e1, e2, e12, e14, e15, e17r])) dL_law_1091 (by decide) ?_
        exact K r h3 ⟨q, n, tx, ep, km, mp, F, ux, sz, ho, sn, row, hI2.fr (fun x x0 x1 => f3 x (by omega)), hM2.s (fun j hj => by rw [f3 _ (by omega)]) (fun x x0 x1 hx => f3 x (by omega)), by omega⟩
  · refine r_aload_1 (pc := 1073) dL_law_1073 ?_
    refine r_aload_0 (pc := 1074) dL_law_1074 ?_
    refine r_iload_3 (pc := 1075) dL_law_1075 ?_
    refine r_iconst (pc := 1076) dL_law_1076 ?_
    refine r_iadd (pc := 1077) dL_law_1077 ?_
    refine r_sld (pc := 1078) hX dL_law_1078 (by omega) (by omega) (fun i_1078 => ?_)
    rw [ha1]
    refine k_VI1 (pc := 1079) c_X7_even lk_L_133 ⟨(Nat.le_of_ble_eq_true rfl), (Nat.le_of_ble_eq_true rfl)⟩ ⟨rfl, rfl⟩ ⟨(Nat.le_of_ble_eq_true rfl), (Nat.le_of_ble_eq_true rfl)⟩ (k := 7) rfl (by decide) cl0 dL_law_1079 (Nat.le_of_ble_eq_true rfl) ?_
    refine ⟨c, q, n, tx, ep, km, mp, F, ux, sz, ho, sn, row, a1, rfl, hI, g1, fun _ => ?_, fun z => absurd z hc⟩
    have hM2 := hM
    obtain ⟨hMd2, ⟨e0, e5, e17, e19⟩, ⟨e1, e2, e12, e14, e15, e17r⟩, hWa2, hz2, hkp2, hes2⟩ := id hM2
    refine r_aload_2 (pc := 1082) dL_law_1082 ?_
    refine r_aload_0 (pc := 1083) dL_law_1083 ?_
    refine r_iload_3 (pc := 1084) dL_law_1084 ?_
    refine r_iconst (pc := 1085) dL_law_1085 ?_
    refine r_iadd (pc := 1086) dL_law_1086 ?_
    refine r_sld (pc := 1087) hX dL_law_1087 (by omega) (by omega) (fun i_1087 => ?_)
    rw [ha1]
    refine k_VI1 (pc := 1088) c_X8_even lk_L_136 ⟨(Nat.le_of_ble_eq_true rfl), (Nat.le_of_ble_eq_true rfl)⟩ ⟨rfl, rfl⟩ ⟨(Nat.le_of_ble_eq_true rfl), (Nat.le_of_ble_eq_true rfl)⟩ (k := 8) rfl (by decide) hMd2.1 dL_law_1088 (Nat.le_of_ble_eq_true rfl) ?_
    refine ⟨b, mp, a1, rfl, hMd2, e2, hT, hR, g1, hWa2, fun _ => ?_, fun z => absurd z hc⟩
    refine r_same (pc := 1091) (tgt := 1462) (by first | rfl | (simp only [e0, e5, e17, e19, e1, e2, e12, e14, e15, e17r])) dL_law_1091 (by decide) ?_
    exact K r h ⟨q, n, tx, ep, km, mp, F, ux, sz, ho, sn, row, hI, hM2, by omega⟩
theorem dL_law_1406 : decode code 1406 = .ok (.aload_n 1, 1) := by decide +kernel
theorem dL_law_1407 : decode code 1407 = .ok (.aload_n 0, 1) := by decide +kernel
theorem dL_law_1408 : decode code 1408 = .ok (.iload_n 3, 1) := by decide +kernel
theorem dL_law_1409 : decode code 1409 = .ok (.iconst 1, 1) := by decide +kernel
theorem dL_law_1410 : decode code 1410 = .ok (.iadd, 1) := by decide +kernel
theorem dL_law_1411 : decode code 1411 = .ok (.iaload, 1) := by decide +kernel
theorem dL_law_1412 : decode code 1412 = .ok (.aload_n 0, 1) := by decide +kernel
theorem dL_law_1413 : decode code 1413 = .ok (.iload_n 3, 1) := by decide +kernel
theorem dL_law_1414 : decode code 1414 = .ok (.iconst 2, 1) := by decide +kernel
theorem dL_law_1415 : decode code 1415 = .ok (.iadd, 1) := by decide +kernel
theorem dL_law_1416 : decode code 1416 = .ok (.iaload, 1) := by decide +kernel
theorem dL_law_1417 : decode code 1417 = .ok (.invokevirtual 177, 3) := by decide +kernel
theorem dL_law_1420 : decode code 1420 = .ok (.aload_n 2, 1) := by decide +kernel
theorem dL_law_1421 : decode code 1421 = .ok (.aload_n 0, 1) := by decide +kernel
theorem dL_law_1422 : decode code 1422 = .ok (.iload_n 3, 1) := by decide +kernel
theorem dL_law_1423 : decode code 1423 = .ok (.iconst 1, 1) := by decide +kernel
theorem dL_law_1424 : decode code 1424 = .ok (.iadd, 1) := by decide +kernel
theorem dL_law_1425 : decode code 1425 = .ok (.iaload, 1) := by decide +kernel
theorem dL_law_1426 : decode code 1426 = .ok (.aload_n 0, 1) := by decide +kernel
theorem dL_law_1427 : decode code 1427 = .ok (.iload_n 3, 1) := by decide +kernel
theorem dL_law_1428 : decode code 1428 = .ok (.iconst 2, 1) := by decide +kernel
theorem dL_law_1429 : decode code 1429 = .ok (.iadd, 1) := by decide +kernel
theorem dL_law_1430 : decode code 1430 = .ok (.iaload, 1) := by decide +kernel
theorem dL_law_1431 : decode code 1431 = .ok (.invokevirtual 180, 3) := by decide +kernel
theorem dL_law_1434 : decode code 1434 = .ok (.if_icmp .eq 28, 3) := by decide +kernel
set_option maxHeartbeats 4000000 in
set_option maxRecDepth 20000 in
theorem law_weights {E : EnT} {nm : String} {lay : LyT} {r : RfT} {h : HpT} {c b b0 L N : Nat} {sx : Int → Int} {i : Int} (hX : ScE E b0 L sx) (hi : 0 ≤ i ∧ i + 4 ≤ L) (hL : L ≤ 2048) (hcb : b = c + 101) (hLI : LI lay c b i r h) (K : ∀ r' h', LI lay c b (i + 4) r' h' → St E (mL_law nm) 1462 [some (.ref b0), some (.ref c), some (.ref b), some (vI i)] [] (122, 20801) N lay r' h') : St E (mL_law nm) 1406 [some (.ref b0), some (.ref c), some (.ref b), some (vI i)] [] (122, 20801) N lay r h := by
  obtain ⟨q, n, tx, ep, km, mp, F, ux, sz, ho, sn, row, hI, hM, hle⟩ := hLI
  have hP0 := hI.2.2.2.2.2.1 0 (by omega) (by omega) (by have := hI.2.2.2.2.1.2.1; omega)
  rw [hI.2.2.2.2.2.2.1.1] at hP0
  have hT := hP0.1
  have hR := hP0.2.1
  have hep := hI.2.2.2.2.1
  have cl0 : lay c = (8, 0) := hI.1.1
  obtain ⟨a1, ha1⟩ : ∃ z, sx (i + 1) = z := ⟨_, rfl⟩
  have g1 := sc_rng hX (i + 1)
  rw [ha1] at g1
  obtain ⟨a2, ha2⟩ : ∃ z, sx (i + 2) = z := ⟨_, rfl⟩
  have g2 := sc_rng hX (i + 2)
  rw [ha2] at g2
  by_cases hc : (10 ≤ a1 ∧ a1 ≤ 9 + mp 130) ∧ (0 ≤ a2 ∧ a2 ≤ 2)
  · rcases (show a2 = 0 ∨ a2 = 1 ∨ a2 = 2 by omega) with hv | hv | hv
    · refine r_aload_1 (pc := 1406) dL_law_1406 ?_
      refine r_aload_0 (pc := 1407) dL_law_1407 ?_
      refine r_iload_3 (pc := 1408) dL_law_1408 ?_
      refine r_iconst (pc := 1409) dL_law_1409 ?_
      refine r_iadd (pc := 1410) dL_law_1410 ?_
      refine r_sld (pc := 1411) hX dL_law_1411 (by omega) (by omega) (fun i_1411 => ?_)
      rw [ha1]
      refine r_aload_0 (pc := 1412) dL_law_1412 ?_
      refine r_iload_3 (pc := 1413) dL_law_1413 ?_
      refine r_iconst (pc := 1414) dL_law_1414 ?_
      refine r_iadd (pc := 1415) dL_law_1415 ?_
      refine r_sld (pc := 1416) hX dL_law_1416 (by omega) (by omega) (fun i_1416 => ?_)
      rw [ha2]
      refine k_VI2 (pc := 1417) c_X7_weights lk_L_177 ⟨(Nat.le_of_ble_eq_true rfl), (Nat.le_of_ble_eq_true rfl)⟩ ⟨rfl, rfl⟩ ⟨(Nat.le_of_ble_eq_true rfl), (Nat.le_of_ble_eq_true rfl)⟩ (k := 7) rfl (by decide) cl0 dL_law_1417 (Nat.le_of_ble_eq_true rfl) ?_
      refine ⟨c, q, n, tx, ep, km, mp, F, ux, sz, ho, sn, row, a1, a2, rfl, hI, g1, g2, fun z => absurd hc z, fun _ h2 f2 hI2 => ⟨fun _ => ?_, fun z => by omega, fun z => by omega⟩⟩
      have hM2 : MI lay r h2 b n tx ep km mp F ux sz ho sn row := hM.of (rfl) (fun x x0 x1 => f2 x (by omega))
      obtain ⟨hMd2, ⟨e0, e5, e17, e19⟩, ⟨e1, e2, e12, e14, e15, e17r⟩, hWa2, hz2, hkp2, hes2⟩ := id hM2
      refine r_aload_2 (pc := 1420) dL_law_1420 ?_
      refine r_aload_0 (pc := 1421) dL_law_1421 ?_
      refine r_iload_3 (pc := 1422) dL_law_1422 ?_
      refine r_iconst (pc := 1423) dL_law_1423 ?_
      refine r_iadd (pc := 1424) dL_law_1424 ?_
      refine r_sld (pc := 1425) hX dL_law_1425 (by omega) (by omega) (fun i_1425 => ?_)
      rw [ha1]
      refine r_aload_0 (pc := 1426) dL_law_1426 ?_
      refine r_iload_3 (pc := 1427) dL_law_1427 ?_
      refine r_iconst (pc := 1428) dL_law_1428 ?_
      refine r_iadd (pc := 1429) dL_law_1429 ?_
      refine r_sld (pc := 1430) hX dL_law_1430 (by omega) (by omega) (fun i_1430 => ?_)
      rw [ha2]
      refine k_VI2 (pc := 1431) c_X8_weights lk_L_180 ⟨(Nat.le_of_ble_eq_true rfl), (Nat.le_of_ble_eq_true rfl)⟩ ⟨rfl, rfl⟩ ⟨(Nat.le_of_ble_eq_true rfl), (Nat.le_of_ble_eq_true rfl)⟩ (k := 8) rfl (by decide) hMd2.1 dL_law_1431 (Nat.le_of_ble_eq_true rfl) ?_
      refine ⟨b, mp, a1, a2, rfl, hMd2, e2, hT, hR, g1, g2, hWa2, (by rw [e19, e17r]; exact hI.2.2.2.2.2.2.2.2.2.2), fun z => absurd hc z, fun _ h3 f3 => ⟨fun _ => ?_, fun z => by omega, fun z => by omega⟩⟩
      refine r_same (pc := 1434) (tgt := 1462) (by first | rfl | (simp only [e0, e5, e17, e19, e1, e2, e12, e14, e15, e17r])) dL_law_1434 (by decide) ?_
      exact K r h3 ⟨q, n, tx, ep, km, mp, F, ux, sz, ho, sn, row, hI2.fr (fun x x0 x1 => f3 x (by omega)), hM2.s (fun j hj => by rw [f3 _ (by omega)]) (fun x x0 x1 hx => f3 x (by omega)), by omega⟩
    · refine r_aload_1 (pc := 1406) dL_law_1406 ?_
      refine r_aload_0 (pc := 1407) dL_law_1407 ?_
      refine r_iload_3 (pc := 1408) dL_law_1408 ?_
      refine r_iconst (pc := 1409) dL_law_1409 ?_
      refine r_iadd (pc := 1410) dL_law_1410 ?_
      refine r_sld (pc := 1411) hX dL_law_1411 (by omega) (by omega) (fun i_1411 => ?_)
      rw [ha1]
      refine r_aload_0 (pc := 1412) dL_law_1412 ?_
      refine r_iload_3 (pc := 1413) dL_law_1413 ?_
      refine r_iconst (pc := 1414) dL_law_1414 ?_
      refine r_iadd (pc := 1415) dL_law_1415 ?_
      refine r_sld (pc := 1416) hX dL_law_1416 (by omega) (by omega) (fun i_1416 => ?_)
      rw [ha2]
      refine k_VI2 (pc := 1417) c_X7_weights lk_L_177 ⟨(Nat.le_of_ble_eq_true rfl), (Nat.le_of_ble_eq_true rfl)⟩ ⟨rfl, rfl⟩ ⟨(Nat.le_of_ble_eq_true rfl), (Nat.le_of_ble_eq_true rfl)⟩ (k := 7) rfl (by decide) cl0 dL_law_1417 (Nat.le_of_ble_eq_true rfl) ?_
      refine ⟨c, q, n, tx, ep, km, mp, F, ux, sz, ho, sn, row, a1, a2, rfl, hI, g1, g2, fun z => absurd hc z, fun _ h2 f2 hI2 => ⟨fun z => by omega, fun _ => ?_, fun z => by omega⟩⟩
      have hM2 : MI lay r h2 b n tx ep km mp F ux sz ho sn row := hM.of (rfl) (fun x x0 x1 => f2 x (by omega))
      obtain ⟨hMd2, ⟨e0, e5, e17, e19⟩, ⟨e1, e2, e12, e14, e15, e17r⟩, hWa2, hz2, hkp2, hes2⟩ := id hM2
      refine r_aload_2 (pc := 1420) dL_law_1420 ?_
      refine r_aload_0 (pc := 1421) dL_law_1421 ?_
      refine r_iload_3 (pc := 1422) dL_law_1422 ?_
      refine r_iconst (pc := 1423) dL_law_1423 ?_
      refine r_iadd (pc := 1424) dL_law_1424 ?_
      refine r_sld (pc := 1425) hX dL_law_1425 (by omega) (by omega) (fun i_1425 => ?_)
      rw [ha1]
      refine r_aload_0 (pc := 1426) dL_law_1426 ?_
      refine r_iload_3 (pc := 1427) dL_law_1427 ?_
      refine r_iconst (pc := 1428) dL_law_1428 ?_
      refine r_iadd (pc := 1429) dL_law_1429 ?_
      refine r_sld (pc := 1430) hX dL_law_1430 (by omega) (by omega) (fun i_1430 => ?_)
      rw [ha2]
      refine k_VI2 (pc := 1431) c_X8_weights lk_L_180 ⟨(Nat.le_of_ble_eq_true rfl), (Nat.le_of_ble_eq_true rfl)⟩ ⟨rfl, rfl⟩ ⟨(Nat.le_of_ble_eq_true rfl), (Nat.le_of_ble_eq_true rfl)⟩ (k := 8) rfl (by decide) hMd2.1 dL_law_1431 (Nat.le_of_ble_eq_true rfl) ?_
      refine ⟨b, mp, a1, a2, rfl, hMd2, e2, hT, hR, g1, g2, hWa2, (by rw [e19, e17r]; exact hI.2.2.2.2.2.2.2.2.2.2), fun z => absurd hc z, fun _ h3 f3 => ⟨fun z => by omega, fun _ => ?_, fun z => by omega⟩⟩
      refine r_same (pc := 1434) (tgt := 1462) (by first | rfl | (simp only [e0, e5, e17, e19, e1, e2, e12, e14, e15, e17r])) dL_law_1434 (by decide) ?_
      exact K r h3 ⟨q, n, tx, ep, km, mp, F, ux, sz, ho, sn, row, hI2.fr (fun x x0 x1 => f3 x (by omega)), hM2.s (fun j hj => by rw [f3 _ (by omega)]) (fun x x0 x1 hx => f3 x (by omega)), by omega⟩
    · refine r_aload_1 (pc := 1406) dL_law_1406 ?_
      refine r_aload_0 (pc := 1407) dL_law_1407 ?_
      refine r_iload_3 (pc := 1408) dL_law_1408 ?_
      refine r_iconst (pc := 1409) dL_law_1409 ?_
      refine r_iadd (pc := 1410) dL_law_1410 ?_
      refine r_sld (pc := 1411) hX dL_law_1411 (by omega) (by omega) (fun i_1411 => ?_)
      rw [ha1]
      refine r_aload_0 (pc := 1412) dL_law_1412 ?_
      refine r_iload_3 (pc := 1413) dL_law_1413 ?_
      refine r_iconst (pc := 1414) dL_law_1414 ?_
      refine r_iadd (pc := 1415) dL_law_1415 ?_
      refine r_sld (pc := 1416) hX dL_law_1416 (by omega) (by omega) (fun i_1416 => ?_)
      rw [ha2]
      refine k_VI2 (pc := 1417) c_X7_weights lk_L_177 ⟨(Nat.le_of_ble_eq_true rfl), (Nat.le_of_ble_eq_true rfl)⟩ ⟨rfl, rfl⟩ ⟨(Nat.le_of_ble_eq_true rfl), (Nat.le_of_ble_eq_true rfl)⟩ (k := 7) rfl (by decide) cl0 dL_law_1417 (Nat.le_of_ble_eq_true rfl) ?_
      refine ⟨c, q, n, tx, ep, km, mp, F, ux, sz, ho, sn, row, a1, a2, rfl, hI, g1, g2, fun z => absurd hc z, fun _ h2 f2 hI2 => ⟨fun z => by omega, fun z => by omega, fun _ => ?_⟩⟩
      have hM2 : MI lay r h2 b n tx ep km mp F ux sz ho sn row := hM.of (rfl) (fun x x0 x1 => f2 x (by omega))
      obtain ⟨hMd2, ⟨e0, e5, e17, e19⟩, ⟨e1, e2, e12, e14, e15, e17r⟩, hWa2, hz2, hkp2, hes2⟩ := id hM2
      refine r_aload_2 (pc := 1420) dL_law_1420 ?_
      refine r_aload_0 (pc := 1421) dL_law_1421 ?_
      refine r_iload_3 (pc := 1422) dL_law_1422 ?_
      refine r_iconst (pc := 1423) dL_law_1423 ?_
      refine r_iadd (pc := 1424) dL_law_1424 ?_
      refine r_sld (pc := 1425) hX dL_law_1425 (by omega) (by omega) (fun i_1425 => ?_)
      rw [ha1]
      refine r_aload_0 (pc := 1426) dL_law_1426 ?_
      refine r_iload_3 (pc := 1427) dL_law_1427 ?_
      refine r_iconst (pc := 1428) dL_law_1428 ?_
      refine r_iadd (pc := 1429) dL_law_1429 ?_
      refine r_sld (pc := 1430) hX dL_law_1430 (by omega) (by omega) (fun i_1430 => ?_)
      rw [ha2]
      refine k_VI2 (pc := 1431) c_X8_weights lk_L_180 ⟨(Nat.le_of_ble_eq_true rfl), (Nat.le_of_ble_eq_true rfl)⟩ ⟨rfl, rfl⟩ ⟨(Nat.le_of_ble_eq_true rfl), (Nat.le_of_ble_eq_true rfl)⟩ (k := 8) rfl (by decide) hMd2.1 dL_law_1431 (Nat.le_of_ble_eq_true rfl) ?_
      refine ⟨b, mp, a1, a2, rfl, hMd2, e2, hT, hR, g1, g2, hWa2, (by rw [e19, e17r]; exact hI.2.2.2.2.2.2.2.2.2.2), fun z => absurd hc z, fun _ h3 f3 => ⟨fun z => by omega, fun z => by omega, fun _ => ?_⟩⟩
      refine r_same (pc := 1434) (tgt := 1462) (by first | rfl | (simp only [e0, e5, e17, e19, e1, e2, e12, e14, e15, e17r])) dL_law_1434 (by decide) ?_
      exact K r h3 ⟨q, n, tx, ep, km, mp, F, ux, sz, ho, sn, row, hI2.fr (fun x x0 x1 => f3 x (by omega)), hM2.s (fun j hj => by rw [f3 _ (by omega)]) (fun x x0 x1 hx => f3 x (by omega)), by omega⟩
  · refine r_aload_1 (pc := 1406) dL_law_1406 ?_
    refine r_aload_0 (pc := 1407) dL_law_1407 ?_
    refine r_iload_3 (pc := 1408) dL_law_1408 ?_
    refine r_iconst (pc := 1409) dL_law_1409 ?_
    refine r_iadd (pc := 1410) dL_law_1410 ?_
    refine r_sld (pc := 1411) hX dL_law_1411 (by omega) (by omega) (fun i_1411 => ?_)
    rw [ha1]
    refine r_aload_0 (pc := 1412) dL_law_1412 ?_
    refine r_iload_3 (pc := 1413) dL_law_1413 ?_
    refine r_iconst (pc := 1414) dL_law_1414 ?_
    refine r_iadd (pc := 1415) dL_law_1415 ?_
    refine r_sld (pc := 1416) hX dL_law_1416 (by omega) (by omega) (fun i_1416 => ?_)
    rw [ha2]
    refine k_VI2 (pc := 1417) c_X7_weights lk_L_177 ⟨(Nat.le_of_ble_eq_true rfl), (Nat.le_of_ble_eq_true rfl)⟩ ⟨rfl, rfl⟩ ⟨(Nat.le_of_ble_eq_true rfl), (Nat.le_of_ble_eq_true rfl)⟩ (k := 7) rfl (by decide) cl0 dL_law_1417 (Nat.le_of_ble_eq_true rfl) ?_
    refine ⟨c, q, n, tx, ep, km, mp, F, ux, sz, ho, sn, row, a1, a2, rfl, hI, g1, g2, fun _ => ?_, fun z => absurd z hc⟩
    have hM2 := hM
    obtain ⟨hMd2, ⟨e0, e5, e17, e19⟩, ⟨e1, e2, e12, e14, e15, e17r⟩, hWa2, hz2, hkp2, hes2⟩ := id hM2
    refine r_aload_2 (pc := 1420) dL_law_1420 ?_
    refine r_aload_0 (pc := 1421) dL_law_1421 ?_
    refine r_iload_3 (pc := 1422) dL_law_1422 ?_
    refine r_iconst (pc := 1423) dL_law_1423 ?_
    refine r_iadd (pc := 1424) dL_law_1424 ?_
    refine r_sld (pc := 1425) hX dL_law_1425 (by omega) (by omega) (fun i_1425 => ?_)
    rw [ha1]
    refine r_aload_0 (pc := 1426) dL_law_1426 ?_
    refine r_iload_3 (pc := 1427) dL_law_1427 ?_
    refine r_iconst (pc := 1428) dL_law_1428 ?_
    refine r_iadd (pc := 1429) dL_law_1429 ?_
    refine r_sld (pc := 1430) hX dL_law_1430 (by omega) (by omega) (fun i_1430 => ?_)
    rw [ha2]
    refine k_VI2 (pc := 1431) c_X8_weights lk_L_180 ⟨(Nat.le_of_ble_eq_true rfl), (Nat.le_of_ble_eq_true rfl)⟩ ⟨rfl, rfl⟩ ⟨(Nat.le_of_ble_eq_true rfl), (Nat.le_of_ble_eq_true rfl)⟩ (k := 8) rfl (by decide) hMd2.1 dL_law_1431 (Nat.le_of_ble_eq_true rfl) ?_
    refine ⟨b, mp, a1, a2, rfl, hMd2, e2, hT, hR, g1, g2, hWa2, (by rw [e19, e17r]; exact hI.2.2.2.2.2.2.2.2.2.2), fun _ => ?_, fun z => absurd z hc⟩
    refine r_same (pc := 1434) (tgt := 1462) (by first | rfl | (simp only [e0, e5, e17, e19, e1, e2, e12, e14, e15, e17r])) dL_law_1434 (by decide) ?_
    exact K r h ⟨q, n, tx, ep, km, mp, F, ux, sz, ho, sn, row, hI, hM2, by omega⟩
