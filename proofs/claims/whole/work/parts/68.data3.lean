/-! DATA: strikes, beginnings; OBSERVATIONS -/
theorem flr_M {ux d : Int} {ho : Int → Int} (hM : MkI ux ho) (hd : 10 ≤ d ∧ d < 22) : MkI (iA ux (iX (iSl 1 (d - 10)) (-1))) (flr ho d 16) := by
  refine ⟨Ms_An hM.1 (Ms_S hd), fun q q0 q1 => ?_⟩
  unfold flr
  rw [if_pos ⟨q0, q1⟩]
  exact Ms_An (hM.2 q q0 q1) (Ms_S hd)
theorem sta_M {mp ho : Int → Int} {ux v : Int} (hM : MkI ux ho) (h : 1 ≤ mp 130 ∧ mp 130 ≤ 12) : MkI (sta mp v (ho, ux)).2 (sta mp v (ho, ux)).1 := by
  have m1 := Int.emod_nonneg v (show mp 130 ≠ 0 by omega)
  have m2 := Int.emod_lt_of_pos v (show 0 < mp 130 by omega)
  unfold sta
  split
  · exact flr_M hM (by omega)
  · split
    · exact ⟨Ms_O hM.1 (Ms_S (by omega)), hM.2⟩
    · exact hM
theorem dwm_0 (mp : Int → Int) : ∀ k : Nat, k ≤ 12 → dwm mp 0 k = iSl 1 (k : Int) - 1
  | 0, _ => rfl
  | k + 1, hk => by
    have ih := dwm_0 mp k (by omega)
    rw [dwm_s, if_pos (Or.inl rfl), show (10 + (k : Int) - 10) = (k : Int) by omega]
    have e1 := iS1_n (j := k) (by omega)
    have e2 := iS1_n (j := k + 1) (by omega)
    have p := Nat.two_pow_pos k
    have e3 : 2 ^ (k + 1) = 2 ^ k * 2 := Nat.pow_succ 2 k
    rw [or_add (by omega) (by rw [ih, e1]; omega), ih, e1, e2, e3]
    omega
theorem dX0_strike_0 : decode cX0_strike 0 = .ok (.aload_n 1, 1) := by decide +kernel
theorem dX0_strike_1 : decode cX0_strike 1 = .ok (.getfield 18, 3) := by decide +kernel
theorem dX0_strike_4 : decode cX0_strike 4 = .ok (.getfield 83, 3) := by decide +kernel
theorem dX0_strike_7 : decode cX0_strike 7 = .ok (.istore_n 3, 1) := by decide +kernel
theorem dX0_strike_8 : decode cX0_strike 8 = .ok (.iload_n 3, 1) := by decide +kernel
theorem dX0_strike_9 : decode cX0_strike 9 = .ok (.iconst 1, 1) := by decide +kernel
theorem dX0_strike_10 : decode cX0_strike 10 = .ok (.if_icmp .ge 4, 3) := by decide +kernel
theorem dX0_strike_13 : decode cX0_strike 13 = .ok (.return_, 1) := by decide +kernel
theorem dX0_strike_14 : decode cX0_strike 14 = .ok (.bipush 10, 2) := by decide +kernel
theorem dX0_strike_16 : decode cX0_strike 16 = .ok (.iload_n 2, 1) := by decide +kernel
theorem dX0_strike_17 : decode cX0_strike 17 = .ok (.iload_n 3, 1) := by decide +kernel
theorem dX0_strike_18 : decode cX0_strike 18 = .ok (.irem, 1) := by decide +kernel
theorem dX0_strike_19 : decode cX0_strike 19 = .ok (.iadd, 1) := by decide +kernel
theorem dX0_strike_20 : decode cX0_strike 20 = .ok (.istore 4, 2) := by decide +kernel
theorem dX0_strike_22 : decode cX0_strike 22 = .ok (.iload_n 2, 1) := by decide +kernel
theorem dX0_strike_23 : decode cX0_strike 23 = .ok (.bipush 16, 2) := by decide +kernel
theorem dX0_strike_25 : decode cX0_strike 25 = .ok (.idiv, 1) := by decide +kernel
theorem dX0_strike_26 : decode cX0_strike 26 = .ok (.iconst 4, 1) := by decide +kernel
theorem dX0_strike_27 : decode cX0_strike 27 = .ok (.irem, 1) := by decide +kernel
theorem dX0_strike_28 : decode cX0_strike 28 = .ok (.istore 5, 2) := by decide +kernel
theorem dX0_strike_30 : decode cX0_strike 30 = .ok (.iload 5, 2) := by decide +kernel
theorem dX0_strike_32 : decode cX0_strike 32 = .ok (.ifCond .ne 13, 3) := by decide +kernel
theorem dX0_strike_35 : decode cX0_strike 35 = .ok (.aload_n 0, 1) := by decide +kernel
theorem dX0_strike_36 : decode cX0_strike 36 = .ok (.iload 4, 2) := by decide +kernel
theorem dX0_strike_38 : decode cX0_strike 38 = .ok (.invokevirtual 86, 3) := by decide +kernel
theorem dX0_strike_41 : decode cX0_strike 41 = .ok (.pop, 1) := by decide +kernel
theorem dX0_strike_42 : decode cX0_strike 42 = .ok (.goto 16, 3) := by decide +kernel
theorem dX0_strike_45 : decode cX0_strike 45 = .ok (.iload 5, 2) := by decide +kernel
theorem dX0_strike_47 : decode cX0_strike 47 = .ok (.iconst 1, 1) := by decide +kernel
theorem dX0_strike_48 : decode cX0_strike 48 = .ok (.if_icmp .ne 10, 3) := by decide +kernel
theorem dX0_strike_51 : decode cX0_strike 51 = .ok (.aload_n 0, 1) := by decide +kernel
theorem dX0_strike_52 : decode cX0_strike 52 = .ok (.iload 4, 2) := by decide +kernel
theorem dX0_strike_54 : decode cX0_strike 54 = .ok (.iconst 1, 1) := by decide +kernel
theorem dX0_strike_55 : decode cX0_strike 55 = .ok (.invokevirtual 46, 3) := by decide +kernel
theorem dX0_strike_58 : decode cX0_strike 58 = .ok (.return_, 1) := by decide +kernel
set_option maxHeartbeats 4000000 in
set_option maxRecDepth 20000 in
theorem c_X0_strike : ConV mX0_strike (fun args N lay r h Q => ∃ (a : Nat) (ux : Int) (sz ho : Int → Int) (p n1 n2 : Nat) (mp : Int → Int) (v : Int), args = [.ref a, .ref p, vI v] ∧ DaAt lay r a ∧ DaS h a ux sz ho ∧ MkI ux ho ∧ lay p = (4, n1) ∧ r p 0 = some (p + 1) ∧ lay (p + 1) = (7, n2) ∧ h (p + 1) 2 = mp 130 ∧ (1 ≤ mp 130 ∧ mp 130 ≤ 12) ∧ (0 ≤ v ∧ v < 65521) ∧ ∀ h2, Fr h h2 (fun x => x = a ∨ x = a + 2) → DaS h2 a (sta mp v (ho, ux)).2 sz (sta mp v (ho, ux)).1 → Q N lay r h2) := by
  refine ConV.of (by decide) (by rintro _ N lay r h Q ⟨a, ux, sz, ho, p, n1, n2, mp, v, rfl, hD, hV, hM, pl0, pr0, pl1, hn, hn2, hv, hQ⟩; exact ⟨rfl, Nat.le_of_ble_eq_true rfl⟩) ?_
  rintro E _ N lay r h Q ⟨a, ux, sz, ho, p, n1, n2, mp, v, rfl, hD, hV, hM, pl0, pr0, pl1, hn, hn2, hv, hQ⟩ hret
  obtain ⟨dl0, dl1, dl2, dr1, dr2⟩ := id hD
  obtain ⟨d0, d1, d2⟩ := id hV
  have m1 := Int.emod_nonneg v (show mp 130 ≠ 0 by omega)
  have m2 := Int.emod_lt_of_pos v (show 0 < mp 130 by omega)
  show St E mX0_strike 0 [some (.ref a), some (.ref p), some (vI v), none, none, none] [] (0, 0) N lay r h
  refine r_aload_1 (pc := 0) dX0_strike_0 ?_
  refine gf_X0_18 (pc := 1) rfl (by assumption) dX0_strike_1 (by assumption) ?_
  refine gf_X0_83 (pc := 4) rfl (by assumption) dX0_strike_4 (fun i_4 => ?_)
  rw [hn] at i_4 ⊢
  refine r_istore_3 (pc := 7) dX0_strike_7 rfl ?_
  refine r_iload_3 (pc := 8) dX0_strike_8 ?_
  refine r_iconst (pc := 9) dX0_strike_9 ?_
  refine r_icmp_ge (pc := 10) (tgt := 14) dX0_strike_10 (by decide) (by omega) (by omega) (fun c_10 => ?_) (fun c_10 => ?_)
  · refine r_bipush (pc := 14) dX0_strike_14 (by decide) ?_
    refine r_iload_2 (pc := 16) dX0_strike_16 ?_
    refine r_iload_3 (pc := 17) dX0_strike_17 ?_
    refine r_irem (pc := 18) dX0_strike_18 (by omega) (by omega) ?_
    refine r_iadd (pc := 19) dX0_strike_19 ?_
    refine r_istore_4 (pc := 20) dX0_strike_20 rfl ?_
    refine r_iload_2 (pc := 22) dX0_strike_22 ?_
    refine r_bipush (pc := 23) dX0_strike_23 (by decide) ?_
    refine r_idiv (pc := 25) dX0_strike_25 (by omega) (by omega) ?_
    refine r_iconst (pc := 26) dX0_strike_26 ?_
    refine r_irem (pc := 27) dX0_strike_27 (by omega) (by omega) ?_
    refine r_istore_5 (pc := 28) dX0_strike_28 rfl ?_
    refine r_iload_5 (pc := 30) dX0_strike_30 ?_
    refine r_if_ne (pc := 32) (tgt := 45) dX0_strike_32 (by decide) (by omega) (fun c_32 => ?_) (fun c_32 => ?_)
    · refine r_iload_5 (pc := 45) dX0_strike_45 ?_
      refine r_iconst (pc := 47) dX0_strike_47 ?_
      refine r_icmp_ne (pc := 48) (tgt := 58) dX0_strike_48 (by decide) (by omega) (by omega) (fun c_48 => ?_) (fun c_48 => ?_)
      · refine r_ret (pc := 58) hret dX0_strike_58 rfl rfl rfl ?_
        first
        | omega
        | (have k9 : v / 16 % 4 = 0 := c_32
           have e9 : sta mp v (ho, ux) = (flr ho (10 + v % mp 130) 16, iA ux (iX (iSl 1 (10 + v % mp 130 - 10)) (-1))) := if_pos k9
           rw [e9] at hQ
           exact hQ _ (fun x hx => by rw [hr_n (by omega), hr_n (by omega)]) ⟨by rw [hr_n (by omega), hr_s, up_s], fun q q0 q1 => by rw [hr_n (by omega), hr_n (by omega)]; exact d1 q q0 q1, fun q q0 q1 => by rw [hr_s]; exact a_38 q q0 q1⟩)
        | (have k9 : v / 16 % 4 = 1 := c_48
           have e9 : sta mp v (ho, ux) = (ho, iO ux (iSl 1 (10 + v % mp 130 - 10))) := (if_neg c_32).trans (if_pos k9)
           rw [e9] at hQ
           exact hQ _ (fun x hx => by rw [hr_n (by omega)]) ⟨by rw [hr_s, up_s, d0], fun q q0 q1 => by rw [hr_n (by omega)]; exact d1 q q0 q1, fun q q0 q1 => by rw [hr_n (by omega)]; exact d2 q q0 q1⟩)
        | (have k9 : ¬ v / 16 % 4 = 1 := c_48
           have e9 : sta mp v (ho, ux) = (ho, ux) := (if_neg c_32).trans (if_neg k9)
           rw [e9] at hQ
           exact hQ h (fun _ _ => rfl) hV)
      · refine r_aload_0 (pc := 51) dX0_strike_51 ?_
        refine r_iload_4 (pc := 52) dX0_strike_52 ?_
        refine r_iconst (pc := 54) dX0_strike_54 ?_
        refine k_VV2 (pc := 55) c_X0_setUp lk_X0_46 ⟨Nat.le_of_ble_eq_true rfl, Nat.le_of_ble_eq_true rfl⟩ ⟨rfl, rfl⟩ ⟨Nat.le_of_ble_eq_true rfl, Nat.le_of_ble_eq_true rfl⟩ (k := 0) rfl (by decide) (by assumption) dX0_strike_55 (Nat.le_of_ble_eq_true rfl) ?_
        refine ⟨_, _, _, rfl, by assumption, Or.inr rfl, fun z_55 => absurd z_55 (show ¬ (1 : Int) = 0 by decide), fun _ => ?_⟩
        refine r_ret (pc := 58) hret dX0_strike_58 rfl rfl rfl ?_
        first
        | omega
        | (have k9 : v / 16 % 4 = 0 := c_32
           have e9 : sta mp v (ho, ux) = (flr ho (10 + v % mp 130) 16, iA ux (iX (iSl 1 (10 + v % mp 130 - 10)) (-1))) := if_pos k9
           rw [e9] at hQ
           exact hQ _ (fun x hx => by rw [hr_n (by omega), hr_n (by omega)]) ⟨by rw [hr_n (by omega), hr_s, up_s], fun q q0 q1 => by rw [hr_n (by omega), hr_n (by omega)]; exact d1 q q0 q1, fun q q0 q1 => by rw [hr_s]; exact a_38 q q0 q1⟩)
        | (have k9 : v / 16 % 4 = 1 := c_48
           have e9 : sta mp v (ho, ux) = (ho, iO ux (iSl 1 (10 + v % mp 130 - 10))) := (if_neg c_32).trans (if_pos k9)
           rw [e9] at hQ
           exact hQ _ (fun x hx => by rw [hr_n (by omega)]) ⟨by rw [hr_s, up_s, d0], fun q q0 q1 => by rw [hr_n (by omega)]; exact d1 q q0 q1, fun q q0 q1 => by rw [hr_n (by omega)]; exact d2 q q0 q1⟩)
        | (have k9 : ¬ v / 16 % 4 = 1 := c_48
           have e9 : sta mp v (ho, ux) = (ho, ux) := (if_neg c_32).trans (if_neg k9)
           rw [e9] at hQ
           exact hQ h (fun _ _ => rfl) hV)
    · refine r_aload_0 (pc := 35) dX0_strike_35 ?_
      refine r_iload_4 (pc := 36) dX0_strike_36 ?_
      refine k_VI1 (pc := 38) c_X0_letFail lk_X0_86 ⟨Nat.le_of_ble_eq_true rfl, Nat.le_of_ble_eq_true rfl⟩ ⟨rfl, rfl⟩ ⟨Nat.le_of_ble_eq_true rfl, Nat.le_of_ble_eq_true rfl⟩ (k := 0) rfl (by decide) (by assumption) dX0_strike_38 (Nat.le_of_ble_eq_true rfl) ?_
      refine ⟨_, _, _, _, _, rfl, by assumption, by assumption, by assumption, by omega, fun f_38 a_38 => ?_⟩
      refine r_popI (pc := 41) dX0_strike_41 ?_
      refine r_goto (pc := 42) (tgt := 58) dX0_strike_42 (by decide) ?_
      refine r_ret (pc := 58) hret dX0_strike_58 rfl rfl rfl ?_
      first
      | omega
      | (have k9 : v / 16 % 4 = 0 := c_32
         have e9 : sta mp v (ho, ux) = (flr ho (10 + v % mp 130) 16, iA ux (iX (iSl 1 (10 + v % mp 130 - 10)) (-1))) := if_pos k9
         rw [e9] at hQ
         exact hQ _ (fun x hx => by rw [hr_n (by omega), hr_n (by omega)]) ⟨by rw [hr_n (by omega), hr_s, up_s], fun q q0 q1 => by rw [hr_n (by omega), hr_n (by omega)]; exact d1 q q0 q1, fun q q0 q1 => by rw [hr_s]; exact a_38 q q0 q1⟩)
      | (have k9 : v / 16 % 4 = 1 := c_48
         have e9 : sta mp v (ho, ux) = (ho, iO ux (iSl 1 (10 + v % mp 130 - 10))) := (if_neg c_32).trans (if_pos k9)
         rw [e9] at hQ
         exact hQ _ (fun x hx => by rw [hr_n (by omega)]) ⟨by rw [hr_s, up_s, d0], fun q q0 q1 => by rw [hr_n (by omega)]; exact d1 q q0 q1, fun q q0 q1 => by rw [hr_n (by omega)]; exact d2 q q0 q1⟩)
      | (have k9 : ¬ v / 16 % 4 = 1 := c_48
         have e9 : sta mp v (ho, ux) = (ho, ux) := (if_neg c_32).trans (if_neg k9)
         rw [e9] at hQ
         exact hQ h (fun _ _ => rfl) hV)
  · refine r_ret (pc := 13) hret dX0_strike_13 rfl rfl rfl ?_
    first
    | omega
    | (have k9 : v / 16 % 4 = 0 := c_32
       have e9 : sta mp v (ho, ux) = (flr ho (10 + v % mp 130) 16, iA ux (iX (iSl 1 (10 + v % mp 130 - 10)) (-1))) := if_pos k9
       rw [e9] at hQ
       exact hQ _ (fun x hx => by rw [hr_n (by omega), hr_n (by omega)]) ⟨by rw [hr_n (by omega), hr_s, up_s], fun q q0 q1 => by rw [hr_n (by omega), hr_n (by omega)]; exact d1 q q0 q1, fun q q0 q1 => by rw [hr_s]; exact a_38 q q0 q1⟩)
    | (have k9 : v / 16 % 4 = 1 := c_48
       have e9 : sta mp v (ho, ux) = (ho, iO ux (iSl 1 (10 + v % mp 130 - 10))) := (if_neg c_32).trans (if_pos k9)
       rw [e9] at hQ
       exact hQ _ (fun x hx => by rw [hr_n (by omega)]) ⟨by rw [hr_s, up_s, d0], fun q q0 q1 => by rw [hr_n (by omega)]; exact d1 q q0 q1, fun q q0 q1 => by rw [hr_n (by omega)]; exact d2 q q0 q1⟩)
    | (have k9 : ¬ v / 16 % 4 = 1 := c_48
       have e9 : sta mp v (ho, ux) = (ho, ux) := (if_neg c_32).trans (if_neg k9)
       rw [e9] at hQ
       exact hQ h (fun _ _ => rfl) hV)

theorem dX0_begin_0 : decode cX0_begin 0 = .ok (.aload_n 0, 1) := by decide +kernel
theorem dX0_begin_1 : decode cX0_begin 1 = .ok (.aload_n 1, 1) := by decide +kernel
theorem dX0_begin_2 : decode cX0_begin 2 = .ok (.getfield 18, 3) := by decide +kernel
theorem dX0_begin_5 : decode cX0_begin 5 = .ok (.iconst 0, 1) := by decide +kernel
theorem dX0_begin_6 : decode cX0_begin 6 = .ok (.invokevirtual 24, 3) := by decide +kernel
theorem dX0_begin_9 : decode cX0_begin 9 = .ok (.putfield 30, 3) := by decide +kernel
theorem dX0_begin_12 : decode cX0_begin 12 = .ok (.iconst 0, 1) := by decide +kernel
theorem dX0_begin_13 : decode cX0_begin 13 = .ok (.istore_n 2, 1) := by decide +kernel
theorem dX0_begin_14 : decode cX0_begin 14 = .ok (.iload_n 2, 1) := by decide +kernel
theorem dX0_begin_15 : decode cX0_begin 15 = .ok (.bipush 16, 2) := by decide +kernel
theorem dX0_begin_17 : decode cX0_begin 17 = .ok (.if_icmp .ge 28, 3) := by decide +kernel
theorem dX0_begin_20 : decode cX0_begin 20 = .ok (.aload_n 0, 1) := by decide +kernel
theorem dX0_begin_21 : decode cX0_begin 21 = .ok (.getfield 9, 3) := by decide +kernel
theorem dX0_begin_24 : decode cX0_begin 24 = .ok (.iload_n 2, 1) := by decide +kernel
theorem dX0_begin_25 : decode cX0_begin 25 = .ok (.iconst 0, 1) := by decide +kernel
theorem dX0_begin_26 : decode cX0_begin 26 = .ok (.iastore, 1) := by decide +kernel
theorem dX0_begin_27 : decode cX0_begin 27 = .ok (.aload_n 0, 1) := by decide +kernel
theorem dX0_begin_28 : decode cX0_begin 28 = .ok (.getfield 15, 3) := by decide +kernel
theorem dX0_begin_31 : decode cX0_begin 31 = .ok (.iload_n 2, 1) := by decide +kernel
theorem dX0_begin_32 : decode cX0_begin 32 = .ok (.aload_n 1, 1) := by decide +kernel
theorem dX0_begin_33 : decode cX0_begin 33 = .ok (.getfield 34, 3) := by decide +kernel
theorem dX0_begin_36 : decode cX0_begin 36 = .ok (.iload_n 2, 1) := by decide +kernel
theorem dX0_begin_37 : decode cX0_begin 37 = .ok (.iaload, 1) := by decide +kernel
theorem dX0_begin_38 : decode cX0_begin 38 = .ok (.iastore, 1) := by decide +kernel
theorem dX0_begin_39 : decode cX0_begin 39 = .ok (.iinc 2 1, 3) := by decide +kernel
theorem dX0_begin_42 : decode cX0_begin 42 = .ok (.goto (-28), 3) := by decide +kernel
theorem dX0_begin_45 : decode cX0_begin 45 = .ok (.return_, 1) := by decide +kernel
set_option maxHeartbeats 4000000 in
set_option maxRecDepth 20000 in
theorem c_X0_begin : ConV mX0_begin (fun args N lay r h Q => ∃ (a p : Nat) (mp F : Int → Int), args = [.ref a, .ref p] ∧ DaAt lay r a ∧ PlAt lay r p ∧ (a + 3 ≤ p ∨ p + 14 ≤ a) ∧ TrM mp ∧ PTr h p mp ∧ (∀ g, 0 ≤ g → g < 16 → h (p + 13) g = pb F g) ∧ ∀ h2, Fr h h2 (fun x => x = a ∨ x = a + 1 ∨ x = a + 2) → DaS h2 a (iSl 1 (mp 130) - 1) (fun _ => 0) (pb F) → Q N lay r h2) := by
  refine ConV.of (by decide) (by rintro _ N lay r h Q ⟨a, p, mp, F, rfl, hD, hA, hap, hT, hN, hp2, hQ⟩; exact ⟨rfl, Nat.le_of_ble_eq_true rfl⟩) ?_
  rintro E _ N lay r h Q ⟨a, p, mp, F, rfl, hD, hA, hap, hT, hN, hp2, hQ⟩ hret
  obtain ⟨dl0, dl1, dl2, dr1, dr2⟩ := id hD
  obtain ⟨pl0, pl1, pl2, pl3, pl4, pl5, pl6, pl7, pl8, pl9, pl10, pl11, pl12, pl13, pr0, pr1, pr2, pr3, pr9, pr10, pr11, qr3, qr4, vr1, vr2, vr3, vr4⟩ := id hA
  have t3 := hT.2.2.1
  show St E mX0_begin 0 [some (.ref a), some (.ref p), none] [] (0, 0) N lay r h
  have lp : ∀ (n_ : Nat) (g : Int) (hk : HpT), (16 - g).toNat = n_ → (0 ≤ g ∧ g ≤ 16) → (Fr h hk (fun x => x = a ∨ x = a + 1 ∨ x = a + 2)) → (hk a 0 = iSl 1 (mp 130) - 1) → (∀ q, 0 ≤ q → q < g → hk (a + 1) q = 0) → (∀ q, 0 ≤ q → q < g → hk (a + 2) q = pb F q) → St E mX0_begin 14 [some (.ref a), some (.ref p), some (vI g)] [] (0, 0) N lay r hk := by
    intro  n_
    induction n_ using Nat.strongRecOn with
    | ind n_ ih =>
      intro g hk hn_ hg hf h0 h1 h2
      refine r_iload_2 (pc := 14) dX0_begin_14 ?_
      refine r_bipush (pc := 15) dX0_begin_15 (by decide) ?_
      refine r_icmp_ge (pc := 17) (tgt := 45) dX0_begin_17 (by decide) (by omega) (by omega) (fun c_17 => ?_) (fun c_17 => ?_)
      · refine r_ret (pc := 45) hret dX0_begin_45 rfl rfl rfl ?_
        have k9 : g = 16 := by omega
        subst k9
        exact hQ hk hf ⟨h0, h1, h2⟩
      · refine r_aload_0 (pc := 20) dX0_begin_20 ?_
        refine gf_X0_9 (pc := 21) rfl (by assumption) dX0_begin_21 (by assumption) ?_
        refine r_iload_2 (pc := 24) dX0_begin_24 ?_
        refine r_iconst (pc := 25) dX0_begin_25 ?_
        refine r_iastE (pc := 26) (by assumption) rfl dX0_begin_26 (by omega) (by omega) (by omega) ?_
        refine r_aload_0 (pc := 27) dX0_begin_27 ?_
        refine gf_X0_15 (pc := 28) rfl (by assumption) dX0_begin_28 (by assumption) ?_
        refine r_iload_2 (pc := 31) dX0_begin_31 ?_
        refine r_aload_1 (pc := 32) dX0_begin_32 ?_
        refine gf_X0_34 (pc := 33) rfl (by assumption) dX0_begin_33 (by assumption) ?_
        refine r_iload_2 (pc := 36) dX0_begin_36 ?_
        refine r_ialdE (pc := 37) (by assumption) ((hr_n (by omega)).trans (hf _ (by omega))) dX0_begin_37 (by omega) (by omega) (fun i_37 => ?_)
        rw [hp2 g (by omega) (by omega)] at i_37 ⊢
        refine r_iastE (pc := 38) (by assumption) rfl dX0_begin_38 (by omega) (by omega) (by omega) ?_
        refine r_iinc_2 (pc := 39) dX0_begin_39 rfl ?_
        refine r_goto (pc := 42) (tgt := 14) dX0_begin_42 (by decide) ?_
        refine ih _ (by omega) (g + 1) _ rfl (by omega) (fun x hx => by rw [hr_n (by omega), hr_n (by omega)]; exact hf x hx) (by rw [hr_n (by omega), hr_n (by omega)]; exact h0) (fun q q0 q1 => ?_) (fun q q0 q1 => ?_)
        · rw [hr_n (by omega), hr_s]
          by_cases e : q = g
          · rw [e, up_s]
          · rw [up_n e]; exact h1 q q0 (by omega)
        · rw [hr_s]
          by_cases e : q = g
          · rw [e, up_s]
          · rw [up_n e, hr_n (by omega)]; exact h2 q q0 (by omega)
  refine r_aload_0 (pc := 0) dX0_begin_0 ?_
  refine r_aload_1 (pc := 1) dX0_begin_1 ?_
  refine gf_X0_18 (pc := 2) rfl (by assumption) dX0_begin_2 (by assumption) ?_
  refine r_iconst (pc := 5) dX0_begin_5 ?_
  refine k_VI1 (pc := 6) c_X6_disksWithin lk_X0_24 ⟨Nat.le_of_ble_eq_true rfl, Nat.le_of_ble_eq_true rfl⟩ ⟨rfl, rfl⟩ ⟨Nat.le_of_ble_eq_true rfl, Nat.le_of_ble_eq_true rfl⟩ (k := 6) rfl (by decide) (by assumption) dX0_begin_6 (Nat.le_of_ble_eq_true rfl) ?_
  refine ⟨_, _, _, rfl, hA.tr, hN.no, hN.up, hT, by omega, ?_⟩
  have ed := dwm_0 mp (mp 130).toNat (by omega)
  rw [show (((mp 130).toNat : Nat) : Int) = mp 130 by omega] at ed
  have sr := S_r (j := mp 130) (n := 13) (by omega) (by omega) (by omega)
  refine pf_X0_30 (pc := 9) rfl (by assumption) dX0_begin_9 (by omega) ?_
  refine r_iconst (pc := 12) dX0_begin_12 ?_
  refine r_istore_2 (pc := 13) dX0_begin_13 rfl ?_
  refine lp _ 0 _ rfl (by omega) (fun x hx => hr_n (by omega)) ?_ (fun q q0 q1 => by omega) (fun q q0 q1 => by omega)
  rw [hr_s, up_s]
  exact ed

theorem dX0_copyFrom_0 : decode cX0_copyFrom 0 = .ok (.aload_n 0, 1) := by decide +kernel
theorem dX0_copyFrom_1 : decode cX0_copyFrom 1 = .ok (.aload_n 1, 1) := by decide +kernel
theorem dX0_copyFrom_2 : decode cX0_copyFrom 2 = .ok (.getfield 30, 3) := by decide +kernel
theorem dX0_copyFrom_5 : decode cX0_copyFrom 5 = .ok (.putfield 30, 3) := by decide +kernel
theorem dX0_copyFrom_8 : decode cX0_copyFrom 8 = .ok (.aload_n 1, 1) := by decide +kernel
theorem dX0_copyFrom_9 : decode cX0_copyFrom 9 = .ok (.getfield 9, 3) := by decide +kernel
theorem dX0_copyFrom_12 : decode cX0_copyFrom 12 = .ok (.iconst 0, 1) := by decide +kernel
theorem dX0_copyFrom_13 : decode cX0_copyFrom 13 = .ok (.aload_n 0, 1) := by decide +kernel
theorem dX0_copyFrom_14 : decode cX0_copyFrom 14 = .ok (.getfield 9, 3) := by decide +kernel
theorem dX0_copyFrom_17 : decode cX0_copyFrom 17 = .ok (.iconst 0, 1) := by decide +kernel
theorem dX0_copyFrom_18 : decode cX0_copyFrom 18 = .ok (.bipush 16, 2) := by decide +kernel
theorem dX0_copyFrom_20 : decode cX0_copyFrom 20 = .ok (.invokestatic 37, 3) := by decide +kernel
theorem dX0_copyFrom_23 : decode cX0_copyFrom 23 = .ok (.aload_n 1, 1) := by decide +kernel
theorem dX0_copyFrom_24 : decode cX0_copyFrom 24 = .ok (.getfield 15, 3) := by decide +kernel
theorem dX0_copyFrom_27 : decode cX0_copyFrom 27 = .ok (.iconst 0, 1) := by decide +kernel
theorem dX0_copyFrom_28 : decode cX0_copyFrom 28 = .ok (.aload_n 0, 1) := by decide +kernel
theorem dX0_copyFrom_29 : decode cX0_copyFrom 29 = .ok (.getfield 15, 3) := by decide +kernel
theorem dX0_copyFrom_32 : decode cX0_copyFrom 32 = .ok (.iconst 0, 1) := by decide +kernel
theorem dX0_copyFrom_33 : decode cX0_copyFrom 33 = .ok (.bipush 16, 2) := by decide +kernel
theorem dX0_copyFrom_35 : decode cX0_copyFrom 35 = .ok (.invokestatic 37, 3) := by decide +kernel
theorem dX0_copyFrom_38 : decode cX0_copyFrom 38 = .ok (.return_, 1) := by decide +kernel
set_option maxHeartbeats 4000000 in
set_option maxRecDepth 20000 in
theorem c_X0_copyFrom : ConV mX0_copyFrom (fun args N lay r h Q => ∃ (b a : Nat) (ux : Int) (sz ho : Int → Int), args = [.ref b, .ref a] ∧ DaAt lay r b ∧ DaAt lay r a ∧ (a + 3 ≤ b ∨ b + 3 ≤ a) ∧ DaS h a ux sz ho ∧ ∀ h2, Fr h h2 (fun x => x = b ∨ x = b + 1 ∨ x = b + 2) → DaS h2 b ux sz ho → Q N lay r h2) := by
  refine ConV.of (by decide) (by rintro _ N lay r h Q ⟨b, a, ux, sz, ho, rfl, hD2, hD, hab, hV, hQ⟩; exact ⟨rfl, Nat.le_of_ble_eq_true rfl⟩) ?_
  rintro E _ N lay r h Q ⟨b, a, ux, sz, ho, rfl, hD2, hD, hab, hV, hQ⟩ hret
  obtain ⟨dl0, dl1, dl2, dr1, dr2⟩ := id hD
  obtain ⟨el0, el1, el2, er1, er2⟩ := id hD2
  obtain ⟨d0, d1, d2⟩ := id hV
  show St E mX0_copyFrom 0 [some (.ref b), some (.ref a)] [] (0, 0) N lay r h
  refine r_aload_0 (pc := 0) dX0_copyFrom_0 ?_
  refine r_aload_1 (pc := 1) dX0_copyFrom_1 ?_
  refine gf_X0_30 (pc := 2) rfl (by assumption) dX0_copyFrom_2 (fun i_2 => ?_)
  refine pf_X0_30 (pc := 5) rfl (by assumption) dX0_copyFrom_5 (by omega) ?_
  refine r_aload_1 (pc := 8) dX0_copyFrom_8 ?_
  refine gf_X0_9 (pc := 9) rfl (by assumption) dX0_copyFrom_9 (by assumption) ?_
  refine r_iconst (pc := 12) dX0_copyFrom_12 ?_
  refine r_aload_0 (pc := 13) dX0_copyFrom_13 ?_
  refine gf_X0_9 (pc := 14) rfl (by assumption) dX0_copyFrom_14 (by assumption) ?_
  refine r_iconst (pc := 17) dX0_copyFrom_17 ?_
  refine r_bipush (pc := 18) dX0_copyFrom_18 (by decide) ?_
  refine r_acp (pc := 20) (n := 16) rfl (inT 861 (by decide +kernel) rfl) dX0_copyFrom_20 (by assumption) (by assumption) (Nat.le_of_ble_eq_true rfl) (Nat.le_of_ble_eq_true rfl) (by decide) (Nat.le_of_ble_eq_true rfl) (Nat.le_of_ble_eq_true rfl) ?_
  refine r_aload_1 (pc := 23) dX0_copyFrom_23 ?_
  refine gf_X0_15 (pc := 24) rfl (by assumption) dX0_copyFrom_24 (by assumption) ?_
  refine r_iconst (pc := 27) dX0_copyFrom_27 ?_
  refine r_aload_0 (pc := 28) dX0_copyFrom_28 ?_
  refine gf_X0_15 (pc := 29) rfl (by assumption) dX0_copyFrom_29 (by assumption) ?_
  refine r_iconst (pc := 32) dX0_copyFrom_32 ?_
  refine r_bipush (pc := 33) dX0_copyFrom_33 (by decide) ?_
  refine r_acp (pc := 35) (n := 16) rfl (inT 861 (by decide +kernel) rfl) dX0_copyFrom_35 (by assumption) (by assumption) (Nat.le_of_ble_eq_true rfl) (Nat.le_of_ble_eq_true rfl) (by decide) (Nat.le_of_ble_eq_true rfl) (Nat.le_of_ble_eq_true rfl) ?_
  refine r_ret (pc := 38) hret dX0_copyFrom_38 rfl rfl rfl ?_
  refine hQ _ (fun x hx => by rw [hr_n (by omega), hr_n (by omega), hr_n (by omega)]) ⟨?_, fun q q0 q1 => ?_, fun q q0 q1 => ?_⟩
  · rw [hr_n (by omega), hr_n (by omega), hr_s, up_s, d0]
  · rw [hr_n (by omega), hr_s, cpR_t (by omega), hr_n (by omega)]; exact d1 q q0 q1
  · rw [hr_s, cpR_t (by omega), hr_n (by omega), hr_n (by omega)]; exact d2 q q0 q1

def ObAt (lay : LyT) (r : RfT) (o : Nat) : Prop := lay o = (3, 0) ∧ lay (o + 1) = (10, 6) ∧ lay (o + 2) = (10, 6) ∧ lay (o + 3) = (12, 6) ∧ r o 1 = some (o + 1) ∧ r o 2 = some (o + 2) ∧ r o 3 = some (o + 3)
/-- the observations are the first sn of the row -/
def ObS (h : HpT) (o : Nat) (sn : Int) (row : Int → Int) : Prop := h o 0 = sn ∧ ∀ i, 0 ≤ i → i < sn → h (o + 1) i = row (3 * i) ∧ h (o + 2) i = row (3 * i + 1) ∧ h (o + 3) i = row (3 * i + 2)
theorem ObS.of {h h2 : HpT} {o : Nat} {sn : Int} {row : Int → Int} (q : ObS h o sn row) (e0 : h2 o = h o) (e1 : h2 (o + 1) = h (o + 1)) (e2 : h2 (o + 2) = h (o + 2)) (e3 : h2 (o + 3) = h (o + 3)) : ObS h2 o sn row := by
  unfold ObS
  rw [e0, e1, e2, e3]
  exact q
theorem dX2_add_0 : decode cX2_add 0 = .ok (.aload_n 0, 1) := by decide +kernel
theorem dX2_add_1 : decode cX2_add 1 = .ok (.getfield 22, 3) := by decide +kernel
theorem dX2_add_4 : decode cX2_add 4 = .ok (.bipush 6, 2) := by decide +kernel
theorem dX2_add_6 : decode cX2_add 6 = .ok (.if_icmp .lt 4, 3) := by decide +kernel
theorem dX2_add_9 : decode cX2_add 9 = .ok (.return_, 1) := by decide +kernel
theorem dX2_add_10 : decode cX2_add 10 = .ok (.aload_n 0, 1) := by decide +kernel
theorem dX2_add_11 : decode cX2_add 11 = .ok (.getfield 9, 3) := by decide +kernel
theorem dX2_add_14 : decode cX2_add 14 = .ok (.aload_n 0, 1) := by decide +kernel
theorem dX2_add_15 : decode cX2_add 15 = .ok (.getfield 22, 3) := by decide +kernel
theorem dX2_add_18 : decode cX2_add 18 = .ok (.iload_n 1, 1) := by decide +kernel
theorem dX2_add_19 : decode cX2_add 19 = .ok (.iastore, 1) := by decide +kernel
theorem dX2_add_20 : decode cX2_add 20 = .ok (.aload_n 0, 1) := by decide +kernel
theorem dX2_add_21 : decode cX2_add 21 = .ok (.getfield 15, 3) := by decide +kernel
theorem dX2_add_24 : decode cX2_add 24 = .ok (.aload_n 0, 1) := by decide +kernel
theorem dX2_add_25 : decode cX2_add 25 = .ok (.getfield 22, 3) := by decide +kernel
theorem dX2_add_28 : decode cX2_add 28 = .ok (.iload_n 2, 1) := by decide +kernel
theorem dX2_add_29 : decode cX2_add 29 = .ok (.iastore, 1) := by decide +kernel
theorem dX2_add_30 : decode cX2_add 30 = .ok (.aload_n 0, 1) := by decide +kernel
theorem dX2_add_31 : decode cX2_add 31 = .ok (.getfield 18, 3) := by decide +kernel
theorem dX2_add_34 : decode cX2_add 34 = .ok (.aload_n 0, 1) := by decide +kernel
theorem dX2_add_35 : decode cX2_add 35 = .ok (.getfield 22, 3) := by decide +kernel
theorem dX2_add_38 : decode cX2_add 38 = .ok (.iload_n 3, 1) := by decide +kernel
theorem dX2_add_39 : decode cX2_add 39 = .ok (.bastore, 1) := by decide +kernel
theorem dX2_add_40 : decode cX2_add 40 = .ok (.aload_n 0, 1) := by decide +kernel
theorem dX2_add_41 : decode cX2_add 41 = .ok (.dup, 1) := by decide +kernel
theorem dX2_add_42 : decode cX2_add 42 = .ok (.getfield 22, 3) := by decide +kernel
theorem dX2_add_45 : decode cX2_add 45 = .ok (.iconst 1, 1) := by decide +kernel
theorem dX2_add_46 : decode cX2_add 46 = .ok (.iadd, 1) := by decide +kernel
theorem dX2_add_47 : decode cX2_add 47 = .ok (.putfield 22, 3) := by decide +kernel
theorem dX2_add_50 : decode cX2_add 50 = .ok (.return_, 1) := by decide +kernel
set_option maxHeartbeats 4000000 in
set_option maxRecDepth 20000 in
theorem c_X2_add : ConV mX2_add (fun args N lay r h Q => ∃ (o : Nat) (g d z : Int), args = [.ref o, vI g, vI d, vI z] ∧ ObAt lay r o ∧ (0 ≤ h o 0 ∧ h o 0 < 6) ∧ (-2147483648 ≤ g ∧ g < 2147483648) ∧ (-2147483648 ≤ d ∧ d < 2147483648) ∧ (z = 0 ∨ z = 1) ∧ Q N lay r (hr (hr (hr (hr h (o + 1) (up (h (o + 1)) (h o 0) g)) (o + 2) (up (h (o + 2)) (h o 0) d)) (o + 3) (up (h (o + 3)) (h o 0) z)) o (up (h o) 0 ((h o 0) + 1)))) := by
  refine ConV.of (by decide) (by rintro _ N lay r h Q ⟨o, g, d, z, rfl, hO, hn, hg, hd, hz, hQ⟩; exact ⟨rfl, Nat.le_of_ble_eq_true rfl⟩) ?_
  rintro E _ N lay r h Q ⟨o, g, d, z, rfl, hO, hn, hg, hd, hz, hQ⟩ hret
  obtain ⟨ol0, ol1, ol2, ol3, or1, or2, or3⟩ := id hO
  show St E mX2_add 0 [some (.ref o), some (vI g), some (vI d), some (vI z)] [] (0, 0) N lay r h
  refine r_aload_0 (pc := 0) dX2_add_0 ?_
  refine gf_X2_22 (pc := 1) rfl (by assumption) dX2_add_1 (fun i_1 => ?_)
  refine r_bipush (pc := 4) dX2_add_4 (by decide) ?_
  refine r_icmp_lt (pc := 6) (tgt := 10) dX2_add_6 (by decide) (by omega) (by omega) (fun c_6 => ?_) (fun c_6 => ?_)
  · refine r_aload_0 (pc := 10) dX2_add_10 ?_
    refine gf_X2_9 (pc := 11) rfl (by assumption) dX2_add_11 (by assumption) ?_
    refine r_aload_0 (pc := 14) dX2_add_14 ?_
    refine gf_X2_22 (pc := 15) rfl (by assumption) dX2_add_15 (fun i_15 => ?_)
    refine r_iload_1 (pc := 18) dX2_add_18 ?_
    refine r_iastE (pc := 19) (by assumption) (by first | assumption | exact rfl) dX2_add_19 (by omega) (by omega) (by omega) ?_
    refine r_aload_0 (pc := 20) dX2_add_20 ?_
    refine gf_X2_15 (pc := 21) rfl (by assumption) dX2_add_21 (by assumption) ?_
    refine r_aload_0 (pc := 24) dX2_add_24 ?_
    refine gf_X2_22 (pc := 25) rfl (by assumption) dX2_add_25 (fun i_25 => ?_)
    rw [hr_n (by omega)] at i_25 ⊢
    refine r_iload_2 (pc := 28) dX2_add_28 ?_
    refine r_iastE (pc := 29) (by assumption) (hr_n (by omega)) dX2_add_29 (by omega) (by omega) (by omega) ?_
    refine r_aload_0 (pc := 30) dX2_add_30 ?_
    refine gf_X2_18 (pc := 31) rfl (by assumption) dX2_add_31 (by assumption) ?_
    refine r_aload_0 (pc := 34) dX2_add_34 ?_
    refine gf_X2_22 (pc := 35) rfl (by assumption) dX2_add_35 (fun i_35 => ?_)
    rw [hr_n (by omega), hr_n (by omega)] at i_35 ⊢
    refine r_iload_3 (pc := 38) dX2_add_38 ?_
    refine r_zast (pc := 39) (by assumption) dX2_add_39 (by omega) (by omega) (by omega) ?_
    rw [hr_n (show o + 3 ≠ o + 2 by omega), hr_n (show o + 3 ≠ o + 1 by omega)]
    refine r_aload_0 (pc := 40) dX2_add_40 ?_
    first | refine r_dupI (pc := 41) dX2_add_41 ?_ | refine r_dupA (pc := 41) dX2_add_41 ?_
    refine gf_X2_22 (pc := 42) rfl (by assumption) dX2_add_42 (fun i_42 => ?_)
    rw [hr_n (by omega), hr_n (by omega), hr_n (by omega)] at i_42 ⊢
    refine r_iconst (pc := 45) dX2_add_45 ?_
    refine r_iadd (pc := 46) dX2_add_46 ?_
    refine pf_X2_22 (pc := 47) rfl (by assumption) dX2_add_47 (by omega) ?_
    try rw [hr_n (show o ≠ o + 3 by omega), hr_n (show o ≠ o + 2 by omega), hr_n (show o ≠ o + 1 by omega)]
    refine r_ret (pc := 50) hret dX2_add_50 rfl rfl rfl ?_
    first | exact hQ | omega
  · refine r_ret (pc := 9) hret dX2_add_9 rfl rfl rfl ?_
    first | exact hQ | omega

theorem FdI_plr {mp : Int → Int} (hT : TrM mp) (hR : RlM mp) : FdI (plr mp) := fun j _ _ => by
  have := plr_r hT hR j
  have := hT.2.2.1
  omega
theorem dX2_areTrueIn_0 : decode cX2_areTrueIn 0 = .ok (.iconst 0, 1) := by decide +kernel
theorem dX2_areTrueIn_1 : decode cX2_areTrueIn 1 = .ok (.istore_n 3, 1) := by decide +kernel
theorem dX2_areTrueIn_2 : decode cX2_areTrueIn 2 = .ok (.iload_n 3, 1) := by decide +kernel
theorem dX2_areTrueIn_3 : decode cX2_areTrueIn 3 = .ok (.aload_n 0, 1) := by decide +kernel
theorem dX2_areTrueIn_4 : decode cX2_areTrueIn 4 = .ok (.getfield 22, 3) := by decide +kernel
theorem dX2_areTrueIn_7 : decode cX2_areTrueIn 7 = .ok (.if_icmp .ge 64, 3) := by decide +kernel
theorem dX2_areTrueIn_10 : decode cX2_areTrueIn 10 = .ok (.aload_n 1, 1) := by decide +kernel
theorem dX2_areTrueIn_11 : decode cX2_areTrueIn 11 = .ok (.aload_n 2, 1) := by decide +kernel
theorem dX2_areTrueIn_12 : decode cX2_areTrueIn 12 = .ok (.aload_n 0, 1) := by decide +kernel
theorem dX2_areTrueIn_13 : decode cX2_areTrueIn 13 = .ok (.getfield 9, 3) := by decide +kernel
theorem dX2_areTrueIn_16 : decode cX2_areTrueIn 16 = .ok (.iload_n 3, 1) := by decide +kernel
theorem dX2_areTrueIn_17 : decode cX2_areTrueIn 17 = .ok (.iaload, 1) := by decide +kernel
theorem dX2_areTrueIn_18 : decode cX2_areTrueIn 18 = .ok (.invokevirtual 26, 3) := by decide +kernel
theorem dX2_areTrueIn_21 : decode cX2_areTrueIn 21 = .ok (.aload_n 1, 1) := by decide +kernel
theorem dX2_areTrueIn_22 : decode cX2_areTrueIn 22 = .ok (.getfield 32, 3) := by decide +kernel
theorem dX2_areTrueIn_25 : decode cX2_areTrueIn 25 = .ok (.aload_n 0, 1) := by decide +kernel
theorem dX2_areTrueIn_26 : decode cX2_areTrueIn 26 = .ok (.getfield 9, 3) := by decide +kernel
theorem dX2_areTrueIn_29 : decode cX2_areTrueIn 29 = .ok (.iload_n 3, 1) := by decide +kernel
theorem dX2_areTrueIn_30 : decode cX2_areTrueIn 30 = .ok (.iaload, 1) := by decide +kernel
theorem dX2_areTrueIn_31 : decode cX2_areTrueIn 31 = .ok (.iaload, 1) := by decide +kernel
theorem dX2_areTrueIn_32 : decode cX2_areTrueIn 32 = .ok (.aload_n 0, 1) := by decide +kernel
theorem dX2_areTrueIn_33 : decode cX2_areTrueIn 33 = .ok (.getfield 15, 3) := by decide +kernel
theorem dX2_areTrueIn_36 : decode cX2_areTrueIn 36 = .ok (.iload_n 3, 1) := by decide +kernel
theorem dX2_areTrueIn_37 : decode cX2_areTrueIn 37 = .ok (.iaload, 1) := by decide +kernel
theorem dX2_areTrueIn_38 : decode cX2_areTrueIn 38 = .ok (.invokestatic 35, 3) := by decide +kernel
theorem dX2_areTrueIn_41 : decode cX2_areTrueIn 41 = .ok (.iand, 1) := by decide +kernel
theorem dX2_areTrueIn_42 : decode cX2_areTrueIn 42 = .ok (.ifCond .eq 7, 3) := by decide +kernel
theorem dX2_areTrueIn_45 : decode cX2_areTrueIn 45 = .ok (.iconst 1, 1) := by decide +kernel
theorem dX2_areTrueIn_46 : decode cX2_areTrueIn 46 = .ok (.goto 4, 3) := by decide +kernel
theorem dX2_areTrueIn_49 : decode cX2_areTrueIn 49 = .ok (.iconst 0, 1) := by decide +kernel
theorem dX2_areTrueIn_50 : decode cX2_areTrueIn 50 = .ok (.istore 4, 2) := by decide +kernel
theorem dX2_areTrueIn_52 : decode cX2_areTrueIn 52 = .ok (.iload 4, 2) := by decide +kernel
theorem dX2_areTrueIn_54 : decode cX2_areTrueIn 54 = .ok (.aload_n 0, 1) := by decide +kernel
theorem dX2_areTrueIn_55 : decode cX2_areTrueIn 55 = .ok (.getfield 18, 3) := by decide +kernel
theorem dX2_areTrueIn_58 : decode cX2_areTrueIn 58 = .ok (.iload_n 3, 1) := by decide +kernel
theorem dX2_areTrueIn_59 : decode cX2_areTrueIn 59 = .ok (.baload, 1) := by decide +kernel
theorem dX2_areTrueIn_60 : decode cX2_areTrueIn 60 = .ok (.if_icmp .eq 5, 3) := by decide +kernel
theorem dX2_areTrueIn_63 : decode cX2_areTrueIn 63 = .ok (.iconst 0, 1) := by decide +kernel
theorem dX2_areTrueIn_64 : decode cX2_areTrueIn 64 = .ok (.ireturn, 1) := by decide +kernel
theorem dX2_areTrueIn_65 : decode cX2_areTrueIn 65 = .ok (.iinc 3 1, 3) := by decide +kernel
theorem dX2_areTrueIn_68 : decode cX2_areTrueIn 68 = .ok (.goto (-66), 3) := by decide +kernel
theorem dX2_areTrueIn_71 : decode cX2_areTrueIn 71 = .ok (.iconst 1, 1) := by decide +kernel
theorem dX2_areTrueIn_72 : decode cX2_areTrueIn 72 = .ok (.ireturn, 1) := by decide +kernel
set_option maxHeartbeats 4000000 in
set_option maxRecDepth 20000 in
theorem c_X2_areTrueIn : ConI mX2_areTrueIn (fun args N lay r h Q => ∃ (o p : Nat) (mp : Int → Int) (s : Nat) (sn : Int) (row : Int → Int), args = [.ref o, .ref p, .ref s] ∧ ObAt lay r o ∧ PlAt lay r p ∧ StAt lay r s ∧ (s + 2 ≤ p ∨ p + 14 ≤ s) ∧ TrM mp ∧ RlM mp ∧ PTr h p mp ∧ PRl h p mp ∧ PWt h p mp ∧ StK (h (s + 1)) ∧ ((o + 4 ≤ p ∨ p + 14 ≤ o) ∧ (o + 4 ≤ s ∨ s + 2 ≤ o)) ∧ ObS h o sn row ∧ SeI sn row ∧ ∀ h2, Fr h h2 (fun x => x = p + 8 ∨ x = p + 11 ∨ x = p + 12 ∨ x = p + 13 ∨ x = s + 1) → StK (h2 (s + 1)) → Q (bI (alk (plr mp) row sn.toNat = true)) N lay r h2) := by
  refine ConI.of (by decide) (by rintro _ N lay r h Q ⟨o, p, mp, s, sn, row, rfl, hO, hA, hS, hP, hT, hR, hN, hL, hW, hK, hos, hB, hE, hQ⟩; exact ⟨rfl, Nat.le_of_ble_eq_true rfl⟩) ?_
  rintro E _ N lay r h Q ⟨o, p, mp, s, sn, row, rfl, hO, hA, hS, hP, hT, hR, hN, hL, hW, hK, hos, hB, hE, hQ⟩ hret
  obtain ⟨ol0, ol1, ol2, ol3, or1, or2, or3⟩ := id hO
  obtain ⟨pl0, pl1, pl2, pl3, pl4, pl5, pl6, pl7, pl8, pl9, pl10, pl11, pl12, pl13, pr0, pr1, pr2, pr3, pr9, pr10, pr11, qr3, qr4, vr1, vr2, vr3, vr4⟩ := id hA
  obtain ⟨sl0, sl1, sr0⟩ := id hS
  have sr := hE.1
  show St E mX2_areTrueIn 0 [some (.ref o), some (.ref p), some (.ref s), none, none] [] (0, 0) N lay r h
  have lp : ∀ (n_ : Nat) (i : Int) (hk : HpT) (x4 : Option Value), (6 - i).toNat = n_ → (0 ≤ i ∧ i ≤ sn) → (Fr h hk (fun x => x = p + 8 ∨ x = p + 11 ∨ x = p + 12 ∨ x = p + 13 ∨ x = s + 1)) → (StK (hk (s + 1))) → (alk (plr mp) row i.toNat = true) → St E mX2_areTrueIn 2 [some (.ref o), some (.ref p), some (.ref s), some (vI i), x4] [] (0, 0) N lay r hk := by
    intro  n_
    induction n_ using Nat.strongRecOn with
    | ind n_ ih =>
      intro i hk x4 hn_ hi hf hk3 ha
      obtain ⟨k, rfl⟩ : ∃ k : Nat, i = k := ⟨i.toNat, by omega⟩
      rw [show ((k : Int)).toNat = k by omega] at ha
      have TR : PTr hk p mp := hN.of (hf _ (by omega)) (hf _ (by omega)) (hf _ (by omega))
      have RL : PRl hk p mp := hL.of (hf _ (by omega)) (hf _ (by omega)) (hf _ (by omega)) (hf _ (by omega)) (hf _ (by omega)) (hf _ (by omega)) (hf _ (by omega))
      have WT : PWt hk p mp := hW.of (hf _ (by omega))
      have OB : ObS hk o sn row := hB.of (hf _ (by omega)) (hf _ (by omega)) (hf _ (by omega)) (hf _ (by omega))
      have OB0 := OB.1
      have ob := OB.2 k
      have se := hE.2 k
      have e1 := alk_s (plr mp) row k
      refine r_iload_3 (pc := 2) dX2_areTrueIn_2 ?_
      refine r_aload_0 (pc := 3) dX2_areTrueIn_3 ?_
      refine gf_X2_22 (pc := 4) rfl (by assumption) dX2_areTrueIn_4 (fun i_4 => ?_)
      refine r_icmp_ge (pc := 7) (tgt := 71) dX2_areTrueIn_7 (by decide) (by omega) (by omega) (fun c_7 => ?_) (fun c_7 => ?_)
      · refine r_iconst (pc := 71) dX2_areTrueIn_71 ?_
        refine r_zret (pc := 72) hret dX2_areTrueIn_72 rfl rfl rfl (by first | exact Or.inl rfl | exact Or.inr rfl | exact bI_01 | omega) ?_
        first
        | (have k9 : sn.toNat = k := by omega
           have q9 := hQ hk hf hk3
           rw [k9, bI_t ha] at q9
           exact q9)
        | (have k9 : iA (pb (plr mp) (row (3 * (k : Int)))) (iSl 1 (row (3 * (k : Int) + 1) - 10)) = 0 := c_42
           have k8 : alk (plr mp) row (k + 1) = false := by
             rw [e1, ha, Bool.true_and, decide_eq_false_iff_not]
             exact fun z => (bt.mpr (z.mpr (by omega))) k9
           have k7 := alk_st (plr mp) row (k + 1) k8 (sn.toNat - (k + 1))
           rw [show k + 1 + (sn.toNat - (k + 1)) = sn.toNat by omega] at k7
           have q9 := hQ h_18 (fun x hx => (f_18 x (by omega)).trans (hf x (by omega))) k_18
           rw [bI_f (by rw [k7]; decide)] at q9
           exact q9)
        | (have k9 : ¬ iA (pb (plr mp) (row (3 * (k : Int)))) (iSl 1 (row (3 * (k : Int) + 1) - 10)) = 0 := c_42
           have k8 : alk (plr mp) row (k + 1) = false := by
             rw [e1, ha, Bool.true_and, decide_eq_false_iff_not]
             exact fun z => by have := z.mp (bt.mp k9); omega
           have k7 := alk_st (plr mp) row (k + 1) k8 (sn.toNat - (k + 1))
           rw [show k + 1 + (sn.toNat - (k + 1)) = sn.toNat by omega] at k7
           have q9 := hQ h_18 (fun x hx => (f_18 x (by omega)).trans (hf x (by omega))) k_18
           rw [bI_f (by rw [k7]; decide)] at q9
           exact q9)
        
      · have ob := ob (by omega) (by omega)
        have se := se (by omega) (by omega)
        have bt := pb_bit (d := row (3 * (k : Int) + 1)) (FdI_plr hT hR) se.1.1 se.1.2 (by omega)
        refine r_aload_1 (pc := 10) dX2_areTrueIn_10 ?_
        refine r_aload_2 (pc := 11) dX2_areTrueIn_11 ?_
        refine r_aload_0 (pc := 12) dX2_areTrueIn_12 ?_
        refine gf_X2_9 (pc := 13) rfl (by assumption) dX2_areTrueIn_13 (by assumption) ?_
        refine r_iload_3 (pc := 16) dX2_areTrueIn_16 ?_
        refine r_ialdE (pc := 17) (by assumption) (by first | assumption | exact rfl) dX2_areTrueIn_17 (by omega) (by omega) (fun i_17 => ?_)
        rw [ob.1] at i_17 ⊢
        refine k_VV2 (pc := 18) c_X3_settleGroup lk_X2_26 ⟨Nat.le_of_ble_eq_true rfl, Nat.le_of_ble_eq_true rfl⟩ ⟨rfl, rfl⟩ ⟨Nat.le_of_ble_eq_true rfl, Nat.le_of_ble_eq_true rfl⟩ (k := 3) rfl (by decide) (by assumption) dX2_areTrueIn_18 (Nat.le_of_ble_eq_true rfl) ?_
        refine ⟨_, mp, _, _, rfl, hA, hS, hP, hT, hR, TR, RL, WT, hk3, by omega, fun h_18 f_18 k_18 a_18 b_18 d_18 e_18 g_18 w_18 => ?_⟩
        have q1 : h_18 (o + 1) (k : Int) = row (3 * k) := by rw [f_18 _ (by omega)]; exact ob.1
        have q2 : h_18 (o + 2) (k : Int) = row (3 * k + 1) := by rw [f_18 _ (by omega)]; exact ob.2.1
        have q3 : h_18 (o + 3) (k : Int) = row (3 * k + 2) := by rw [f_18 _ (by omega)]; exact ob.2.2
        refine r_aload_1 (pc := 21) dX2_areTrueIn_21 ?_
        refine gf_X2_32 (pc := 22) rfl (by assumption) dX2_areTrueIn_22 (by assumption) ?_
        refine r_aload_0 (pc := 25) dX2_areTrueIn_25 ?_
        refine gf_X2_9 (pc := 26) rfl (by assumption) dX2_areTrueIn_26 (by assumption) ?_
        refine r_iload_3 (pc := 29) dX2_areTrueIn_29 ?_
        refine r_ialdE (pc := 30) (by assumption) rfl dX2_areTrueIn_30 (by omega) (by omega) (fun i_30 => ?_)
        rw [q1] at i_30 ⊢
        refine r_ialdE (pc := 31) (by assumption) rfl dX2_areTrueIn_31 (by omega) (by omega) (fun i_31 => ?_)
        rw [d_18] at i_31 ⊢
        refine r_aload_0 (pc := 32) dX2_areTrueIn_32 ?_
        refine gf_X2_15 (pc := 33) rfl (by assumption) dX2_areTrueIn_33 (by assumption) ?_
        refine r_iload_3 (pc := 36) dX2_areTrueIn_36 ?_
        refine r_ialdE (pc := 37) (by assumption) rfl dX2_areTrueIn_37 (by omega) (by omega) (fun i_37 => ?_)
        rw [q2] at i_37 ⊢
        refine k_SNI1 (pc := 38) c_X7_bitOf lk_X2_35 ⟨Nat.le_of_ble_eq_true rfl, Nat.le_of_ble_eq_true rfl⟩ ⟨rfl, rfl⟩ ⟨Nat.le_of_ble_eq_true rfl, Nat.le_of_ble_eq_true rfl⟩ dX2_areTrueIn_38 (Nat.le_of_ble_eq_true rfl) ?_
        refine ⟨_, rfl, fun i_38 => ?_⟩
        refine r_iand (pc := 41) dX2_areTrueIn_41 (fun i_41 => ?_)
        refine r_if_eq (pc := 42) (tgt := 49) dX2_areTrueIn_42 (by decide) (by omega) (fun c_42 => ?_) (fun c_42 => ?_)
        · refine r_iconst (pc := 49) dX2_areTrueIn_49 ?_
          refine r_istore_4 (pc := 50) dX2_areTrueIn_50 rfl ?_
          refine r_iload_4 (pc := 52) dX2_areTrueIn_52 ?_
          refine r_aload_0 (pc := 54) dX2_areTrueIn_54 ?_
          refine gf_X2_18 (pc := 55) rfl (by assumption) dX2_areTrueIn_55 (by assumption) ?_
          refine r_iload_3 (pc := 58) dX2_areTrueIn_58 ?_
          refine r_zaldE (pc := 59) (by assumption) (by first | assumption | exact rfl) dX2_areTrueIn_59 (by omega) (by omega) (fun i_59 => ?_)
          rw [q3] at i_59 ⊢
          refine r_icmp_eq (pc := 60) (tgt := 65) dX2_areTrueIn_60 (by decide) (by omega) (by omega) (fun c_60 => ?_) (fun c_60 => ?_)
          · refine r_iinc_3 (pc := 65) dX2_areTrueIn_65 rfl ?_
            refine r_goto (pc := 68) (tgt := 2) dX2_areTrueIn_68 (by decide) ?_
            first
            | (have k9 : iA (pb (plr mp) (row (3 * (k : Int)))) (iSl 1 (row (3 * (k : Int) + 1) - 10)) = 0 := c_42
               exact ih _ (by omega) ((k : Int) + 1) h_18 _ rfl (by omega) (fun x hx => (f_18 x (by omega)).trans (hf x (by omega))) k_18 (by rw [show ((k : Int) + 1).toNat = k + 1 by omega, e1, ha, Bool.true_and, decide_eq_true_iff]; exact ⟨fun z => absurd k9 (bt.mpr z), fun z => by omega⟩))
            | (have k9 : ¬ iA (pb (plr mp) (row (3 * (k : Int)))) (iSl 1 (row (3 * (k : Int) + 1) - 10)) = 0 := c_42
               exact ih _ (by omega) ((k : Int) + 1) h_18 _ rfl (by omega) (fun x hx => (f_18 x (by omega)).trans (hf x (by omega))) k_18 (by rw [show ((k : Int) + 1).toNat = k + 1 by omega, e1, ha, Bool.true_and, decide_eq_true_iff]; exact ⟨fun _ => by omega, fun _ => bt.mp k9⟩))
            
          · refine r_iconst (pc := 63) dX2_areTrueIn_63 ?_
            refine r_zret (pc := 64) hret dX2_areTrueIn_64 rfl rfl rfl (by first | exact Or.inl rfl | exact Or.inr rfl | exact bI_01 | omega) ?_
            first
            | (have k9 : sn.toNat = k := by omega
               have q9 := hQ hk hf hk3
               rw [k9, bI_t ha] at q9
               exact q9)
            | (have k9 : iA (pb (plr mp) (row (3 * (k : Int)))) (iSl 1 (row (3 * (k : Int) + 1) - 10)) = 0 := c_42
               have k8 : alk (plr mp) row (k + 1) = false := by
                 rw [e1, ha, Bool.true_and, decide_eq_false_iff_not]
                 exact fun z => (bt.mpr (z.mpr (by omega))) k9
               have k7 := alk_st (plr mp) row (k + 1) k8 (sn.toNat - (k + 1))
               rw [show k + 1 + (sn.toNat - (k + 1)) = sn.toNat by omega] at k7
               have q9 := hQ h_18 (fun x hx => (f_18 x (by omega)).trans (hf x (by omega))) k_18
               rw [bI_f (by rw [k7]; decide)] at q9
               exact q9)
            | (have k9 : ¬ iA (pb (plr mp) (row (3 * (k : Int)))) (iSl 1 (row (3 * (k : Int) + 1) - 10)) = 0 := c_42
               have k8 : alk (plr mp) row (k + 1) = false := by
                 rw [e1, ha, Bool.true_and, decide_eq_false_iff_not]
                 exact fun z => by have := z.mp (bt.mp k9); omega
               have k7 := alk_st (plr mp) row (k + 1) k8 (sn.toNat - (k + 1))
               rw [show k + 1 + (sn.toNat - (k + 1)) = sn.toNat by omega] at k7
               have q9 := hQ h_18 (fun x hx => (f_18 x (by omega)).trans (hf x (by omega))) k_18
               rw [bI_f (by rw [k7]; decide)] at q9
               exact q9)
            
        · refine r_iconst (pc := 45) dX2_areTrueIn_45 ?_
          refine r_goto (pc := 46) (tgt := 50) dX2_areTrueIn_46 (by decide) ?_
          refine r_istore_4 (pc := 50) dX2_areTrueIn_50 rfl ?_
          refine r_iload_4 (pc := 52) dX2_areTrueIn_52 ?_
          refine r_aload_0 (pc := 54) dX2_areTrueIn_54 ?_
          refine gf_X2_18 (pc := 55) rfl (by assumption) dX2_areTrueIn_55 (by assumption) ?_
          refine r_iload_3 (pc := 58) dX2_areTrueIn_58 ?_
          refine r_zaldE (pc := 59) (by assumption) (by first | assumption | exact rfl) dX2_areTrueIn_59 (by omega) (by omega) (fun i_59 => ?_)
          rw [q3] at i_59 ⊢
          refine r_icmp_eq (pc := 60) (tgt := 65) dX2_areTrueIn_60 (by decide) (by omega) (by omega) (fun c_60 => ?_) (fun c_60 => ?_)
          · refine r_iinc_3 (pc := 65) dX2_areTrueIn_65 rfl ?_
            refine r_goto (pc := 68) (tgt := 2) dX2_areTrueIn_68 (by decide) ?_
            first
            | (have k9 : iA (pb (plr mp) (row (3 * (k : Int)))) (iSl 1 (row (3 * (k : Int) + 1) - 10)) = 0 := c_42
               exact ih _ (by omega) ((k : Int) + 1) h_18 _ rfl (by omega) (fun x hx => (f_18 x (by omega)).trans (hf x (by omega))) k_18 (by rw [show ((k : Int) + 1).toNat = k + 1 by omega, e1, ha, Bool.true_and, decide_eq_true_iff]; exact ⟨fun z => absurd k9 (bt.mpr z), fun z => by omega⟩))
            | (have k9 : ¬ iA (pb (plr mp) (row (3 * (k : Int)))) (iSl 1 (row (3 * (k : Int) + 1) - 10)) = 0 := c_42
               exact ih _ (by omega) ((k : Int) + 1) h_18 _ rfl (by omega) (fun x hx => (f_18 x (by omega)).trans (hf x (by omega))) k_18 (by rw [show ((k : Int) + 1).toNat = k + 1 by omega, e1, ha, Bool.true_and, decide_eq_true_iff]; exact ⟨fun _ => by omega, fun _ => bt.mp k9⟩))
            
          · refine r_iconst (pc := 63) dX2_areTrueIn_63 ?_
            refine r_zret (pc := 64) hret dX2_areTrueIn_64 rfl rfl rfl (by first | exact Or.inl rfl | exact Or.inr rfl | exact bI_01 | omega) ?_
            first
            | (have k9 : sn.toNat = k := by omega
               have q9 := hQ hk hf hk3
               rw [k9, bI_t ha] at q9
               exact q9)
            | (have k9 : iA (pb (plr mp) (row (3 * (k : Int)))) (iSl 1 (row (3 * (k : Int) + 1) - 10)) = 0 := c_42
               have k8 : alk (plr mp) row (k + 1) = false := by
                 rw [e1, ha, Bool.true_and, decide_eq_false_iff_not]
                 exact fun z => (bt.mpr (z.mpr (by omega))) k9
               have k7 := alk_st (plr mp) row (k + 1) k8 (sn.toNat - (k + 1))
               rw [show k + 1 + (sn.toNat - (k + 1)) = sn.toNat by omega] at k7
               have q9 := hQ h_18 (fun x hx => (f_18 x (by omega)).trans (hf x (by omega))) k_18
               rw [bI_f (by rw [k7]; decide)] at q9
               exact q9)
            | (have k9 : ¬ iA (pb (plr mp) (row (3 * (k : Int)))) (iSl 1 (row (3 * (k : Int) + 1) - 10)) = 0 := c_42
               have k8 : alk (plr mp) row (k + 1) = false := by
                 rw [e1, ha, Bool.true_and, decide_eq_false_iff_not]
                 exact fun z => by have := z.mp (bt.mp k9); omega
               have k7 := alk_st (plr mp) row (k + 1) k8 (sn.toNat - (k + 1))
               rw [show k + 1 + (sn.toNat - (k + 1)) = sn.toNat by omega] at k7
               have q9 := hQ h_18 (fun x hx => (f_18 x (by omega)).trans (hf x (by omega))) k_18
               rw [bI_f (by rw [k7]; decide)] at q9
               exact q9)
            
  refine r_iconst (pc := 0) dX2_areTrueIn_0 ?_
  refine r_istore_3 (pc := 1) dX2_areTrueIn_1 rfl ?_
  exact lp _ 0 h _ rfl (by omega) (fun _ _ => rfl) hK rfl

