/-! THE REFERENCE: kept maps, other maps -/
theorem cpR_s {f g : Int → Int} {i : Int} (h : 0 ≤ i) : up (cpR f g i) i (f i) = cpR f g (i + 1) := by
  funext q
  by_cases e : q = i
  · rw [e, up_s]; exact (if_pos (by omega)).symm
  · rw [up_n e]
    unfold cpR
    by_cases e2 : 0 ≤ q ∧ q < i
    · rw [if_pos e2, if_pos (by omega)]
    · rw [if_neg e2, if_neg (by omega)]
theorem cpR_0 {f g : Int → Int} : cpR f g 0 = g := funext (fun q => if_neg (by omega))
theorem up_up {f : Int → Int} {k x y : Int} : up (up f k x) k y = up f k y := by
  funext q
  unfold up
  split <;> rfl
theorem up_id {f : Int → Int} {k : Int} : up f k (f k) = f := by
  funext q
  unfold up
  split
  · rename_i e; rw [e]
  · rfl
def bgn (f : Int → Int) : Int → Int := up (up (up (cpR (fun _ => 0) f 136) 131 2) 132 2) 134 20
def kpR (f mp : Int → Int) (p n : Int) : Int → Int := fun j => if 136 * p ≤ j ∧ j < 136 * p + n then mp (j - 136 * p) else f j
theorem kpR_s {f mp : Int → Int} {p i : Int} (h : 0 ≤ i) : up (kpR f mp p i) (136 * p + i) (mp i) = kpR f mp p (i + 1) := by
  funext q
  by_cases e : q = 136 * p + i
  · rw [e, up_s]
    unfold kpR
    rw [if_pos (by omega), show 136 * p + i - 136 * p = i by omega]
  · rw [up_n e]
    unfold kpR
    by_cases e2 : 136 * p ≤ q ∧ q < 136 * p + i
    · rw [if_pos e2, if_pos (by omega)]
    · rw [if_neg e2, if_neg (by omega)]
theorem kpR_0 {f mp : Int → Int} {p : Int} : kpR f mp p 0 = f := funext (fun q => if_neg (by omega))
theorem TrM_w {mp : Int → Int} {d w : Int} (h : TrM mp) (hd : 10 ≤ d ∧ d < 10 + mp 130) (hw : 0 ≤ w ∧ w ≤ 40) : TrM (up mp (22 + d) w) := by
  obtain ⟨t1, t2, t3, t4, t5, t6, t7⟩ := h
  have e1 : ∀ j, j < 32 → up mp (22 + d) w j = mp j := fun j hj => up_n (by omega)
  have e2 : ∀ j, 44 ≤ j → up mp (22 + d) w j = mp j := fun j hj => up_n (by omega)
  refine ⟨by rw [e2 _ (by omega)]; exact t1, by rw [e2 _ (by omega)]; exact t2, by rw [e2 _ (by omega)]; exact t3, fun n n0 n1 => by rw [e1 _ (by omega)]; exact t4 n n0 n1, fun n n0 n1 => ?_, fun n n0 n1 => ?_, fun n n0 n1 => ?_⟩
  · rw [e2 129 (by omega)] at n1
    rw [e1 _ (by omega), e2 _ (by omega)]; exact t5 n n0 n1
  · rw [e2 130 (by omega)] at n1
    rw [e1 _ (by omega), e2 _ (by omega)]; exact t6 n n0 n1
  · rw [e2 130 (by omega)] at n1
    by_cases e : n = d
    · rw [e, up_s]; exact hw
    · rw [up_n (by omega)]; exact t7 n n0 n1
theorem RlM_w {mp : Int → Int} {d w : Int} (h : RlM mp) (hd : 10 ≤ d ∧ d < 22) : RlM (up mp (22 + d) w) := by
  obtain ⟨r1, r2, r3, r4, r5, r6, r7⟩ := h
  have e2 : ∀ j, 44 ≤ j → up mp (22 + d) w j = mp j := fun j hj => up_n (by omega)
  refine ⟨by rw [e2 _ (by omega)]; exact r1, by rw [e2 _ (by omega)]; exact r2, by rw [e2 _ (by omega)]; exact r3, by rw [e2 _ (by omega)]; exact r4, by rw [e2 _ (by omega)]; exact r5, fun n n0 n1 => ?_, fun n n0 n1 => ?_⟩
  · rw [e2 130 (by omega)] at n1
    rw [e2 _ (by omega), e2 _ (by omega), e2 _ (by omega)]; exact r6 n n0 n1
  · rw [e2 135 (by omega)] at n1
    rw [e2 _ (by omega), e2 _ (by omega), e2 _ (by omega), e2 _ (by omega)]; exact r7 n n0 n1
theorem dX8_copies_0 : decode cX8_copies 0 = .ok (.iconst 0, 1) := by decide +kernel
theorem dX8_copies_1 : decode cX8_copies 1 = .ok (.istore_n 3, 1) := by decide +kernel
theorem dX8_copies_2 : decode cX8_copies 2 = .ok (.iload_n 3, 1) := by decide +kernel
theorem dX8_copies_3 : decode cX8_copies 3 = .ok (.sipush 136, 3) := by decide +kernel
theorem dX8_copies_6 : decode cX8_copies 6 = .ok (.if_icmp .ge 15, 3) := by decide +kernel
theorem dX8_copies_9 : decode cX8_copies 9 = .ok (.aload_n 2, 1) := by decide +kernel
theorem dX8_copies_10 : decode cX8_copies 10 = .ok (.iload_n 3, 1) := by decide +kernel
theorem dX8_copies_11 : decode cX8_copies 11 = .ok (.aload_n 1, 1) := by decide +kernel
theorem dX8_copies_12 : decode cX8_copies 12 = .ok (.iload_n 3, 1) := by decide +kernel
theorem dX8_copies_13 : decode cX8_copies 13 = .ok (.iaload, 1) := by decide +kernel
theorem dX8_copies_14 : decode cX8_copies 14 = .ok (.iastore, 1) := by decide +kernel
theorem dX8_copies_15 : decode cX8_copies 15 = .ok (.iinc 3 1, 3) := by decide +kernel
theorem dX8_copies_18 : decode cX8_copies 18 = .ok (.goto (-16), 3) := by decide +kernel
theorem dX8_copies_21 : decode cX8_copies 21 = .ok (.return_, 1) := by decide +kernel
set_option maxHeartbeats 4000000 in
set_option maxRecDepth 20000 in
theorem c_X8_copies : ConV mX8_copies (fun args N lay r h Q => ∃ (b a1 a2 : Nat), args = [.ref b, .ref a1, .ref a2] ∧ lay a1 = (10, 136) ∧ lay a2 = (10, 136) ∧ a1 ≠ a2 ∧ Q N lay r (hr h a2 (cpR (h a1) (h a2) 136))) := by
  refine ConV.of (by decide) (by rintro _ N lay r h Q ⟨b, a1, a2, rfl, hl1, hl2, hne, hQ⟩; exact ⟨rfl, Nat.le_of_ble_eq_true rfl⟩) ?_
  rintro E _ N lay r h Q ⟨b, a1, a2, rfl, hl1, hl2, hne, hQ⟩ hret
  show St E mX8_copies 0 [some (.ref b), some (.ref a1), some (.ref a2), none] [] (0, 0) N lay r h
  have lp : ∀ (n_ : Nat) (i : Int), (136 - i).toNat = n_ → (0 ≤ i ∧ i ≤ 136) → St E mX8_copies 2 [some (.ref b), some (.ref a1), some (.ref a2), some (vI i)] [] (0, 0) N lay r (hr h a2 (cpR (h a1) (h a2) i)) := by
    intro  n_
    induction n_ using Nat.strongRecOn with
    | ind n_ ih =>
      intro i hn_ hi
      have e1 : hr h a2 (cpR (h a1) (h a2) i) a1 = h a1 := hr_n hne
      have e2 : hr h a2 (cpR (h a1) (h a2) i) a2 = cpR (h a1) (h a2) i := hr_s
      refine r_iload_3 (pc := 2) dX8_copies_2 ?_
      refine r_sipush (pc := 3) dX8_copies_3 (by decide) ?_
      refine r_icmp_ge (pc := 6) (tgt := 21) dX8_copies_6 (by decide) (by omega) (by omega) (fun c_6 => ?_) (fun c_6 => ?_)
      · refine r_ret (pc := 21) hret dX8_copies_21 rfl rfl rfl ?_
        have hi9 : i = 136 := by omega
        subst hi9
        exact hQ
      · refine r_aload_2 (pc := 9) dX8_copies_9 ?_
        refine r_iload_3 (pc := 10) dX8_copies_10 ?_
        refine r_aload_1 (pc := 11) dX8_copies_11 ?_
        refine r_iload_3 (pc := 12) dX8_copies_12 ?_
        refine r_ialdE (pc := 13) (by assumption) (by first | assumption | exact rfl) dX8_copies_13 (by omega) (by omega) (fun i_13 => ?_)
        refine r_iastE (pc := 14) (by assumption) (by first | assumption | exact rfl) dX8_copies_14 (by omega) (by omega) (by omega) ?_
        refine r_iinc_3 (pc := 15) dX8_copies_15 rfl ?_
        refine r_goto (pc := 18) (tgt := 2) dX8_copies_18 (by decide) ?_
        rw [hr_hr, cpR_s (by omega)]
        exact ih _ (by omega) (i + 1) rfl (by omega)
  refine r_iconst (pc := 0) dX8_copies_0 ?_
  refine r_istore_3 (pc := 1) dX8_copies_1 rfl ?_
  have hz := lp _ 0 rfl (by omega)
  rw [cpR_0, hr_id] at hz
  exact hz

theorem dX8_begins_0 : decode cX8_begins 0 = .ok (.iconst 0, 1) := by decide +kernel
theorem dX8_begins_1 : decode cX8_begins 1 = .ok (.istore_n 2, 1) := by decide +kernel
theorem dX8_begins_2 : decode cX8_begins 2 = .ok (.iload_n 2, 1) := by decide +kernel
theorem dX8_begins_3 : decode cX8_begins 3 = .ok (.sipush 136, 3) := by decide +kernel
theorem dX8_begins_6 : decode cX8_begins 6 = .ok (.if_icmp .ge 13, 3) := by decide +kernel
theorem dX8_begins_9 : decode cX8_begins 9 = .ok (.aload_n 1, 1) := by decide +kernel
theorem dX8_begins_10 : decode cX8_begins 10 = .ok (.iload_n 2, 1) := by decide +kernel
theorem dX8_begins_11 : decode cX8_begins 11 = .ok (.iconst 0, 1) := by decide +kernel
theorem dX8_begins_12 : decode cX8_begins 12 = .ok (.iastore, 1) := by decide +kernel
theorem dX8_begins_13 : decode cX8_begins 13 = .ok (.iinc 2 1, 3) := by decide +kernel
theorem dX8_begins_16 : decode cX8_begins 16 = .ok (.goto (-14), 3) := by decide +kernel
theorem dX8_begins_19 : decode cX8_begins 19 = .ok (.aload_n 1, 1) := by decide +kernel
theorem dX8_begins_20 : decode cX8_begins 20 = .ok (.sipush 131, 3) := by decide +kernel
theorem dX8_begins_23 : decode cX8_begins 23 = .ok (.iconst 2, 1) := by decide +kernel
theorem dX8_begins_24 : decode cX8_begins 24 = .ok (.iastore, 1) := by decide +kernel
theorem dX8_begins_25 : decode cX8_begins 25 = .ok (.aload_n 1, 1) := by decide +kernel
theorem dX8_begins_26 : decode cX8_begins 26 = .ok (.sipush 132, 3) := by decide +kernel
theorem dX8_begins_29 : decode cX8_begins 29 = .ok (.iconst 2, 1) := by decide +kernel
theorem dX8_begins_30 : decode cX8_begins 30 = .ok (.iastore, 1) := by decide +kernel
theorem dX8_begins_31 : decode cX8_begins 31 = .ok (.aload_n 1, 1) := by decide +kernel
theorem dX8_begins_32 : decode cX8_begins 32 = .ok (.sipush 134, 3) := by decide +kernel
theorem dX8_begins_35 : decode cX8_begins 35 = .ok (.bipush 20, 2) := by decide +kernel
theorem dX8_begins_37 : decode cX8_begins 37 = .ok (.iastore, 1) := by decide +kernel
theorem dX8_begins_38 : decode cX8_begins 38 = .ok (.return_, 1) := by decide +kernel
set_option maxHeartbeats 4000000 in
set_option maxRecDepth 20000 in
theorem c_X8_begins : ConV mX8_begins (fun args N lay r h Q => ∃ (b a : Nat), args = [.ref b, .ref a] ∧ lay a = (10, 136) ∧ Q N lay r (hr h a (bgn (h a)))) := by
  refine ConV.of (by decide) (by rintro _ N lay r h Q ⟨b, a, rfl, hla, hQ⟩; exact ⟨rfl, Nat.le_of_ble_eq_true rfl⟩) ?_
  rintro E _ N lay r h Q ⟨b, a, rfl, hla, hQ⟩ hret
  show St E mX8_begins 0 [some (.ref b), some (.ref a), none] [] (0, 0) N lay r h
  have lp : ∀ (n_ : Nat) (i : Int), (136 - i).toNat = n_ → (0 ≤ i ∧ i ≤ 136) → St E mX8_begins 2 [some (.ref b), some (.ref a), some (vI i)] [] (0, 0) N lay r (hr h a (cpR (fun _ => 0) (h a) i)) := by
    intro  n_
    induction n_ using Nat.strongRecOn with
    | ind n_ ih =>
      intro i hn_ hi
      have e2 : hr h a (cpR (fun _ => 0) (h a) i) a = cpR (fun _ => 0) (h a) i := hr_s
      refine r_iload_2 (pc := 2) dX8_begins_2 ?_
      refine r_sipush (pc := 3) dX8_begins_3 (by decide) ?_
      refine r_icmp_ge (pc := 6) (tgt := 19) dX8_begins_6 (by decide) (by omega) (by omega) (fun c_6 => ?_) (fun c_6 => ?_)
      · refine r_aload_1 (pc := 19) dX8_begins_19 ?_
        refine r_sipush (pc := 20) dX8_begins_20 (by decide) ?_
        refine r_iconst (pc := 23) dX8_begins_23 ?_
        refine r_iastE (pc := 24) (by assumption) (by assumption) dX8_begins_24 (by omega) (by omega) (by omega) ?_
        rw [hr_hr]
        refine r_aload_1 (pc := 25) dX8_begins_25 ?_
        refine r_sipush (pc := 26) dX8_begins_26 (by decide) ?_
        refine r_iconst (pc := 29) dX8_begins_29 ?_
        refine r_iastE (pc := 30) (by assumption) hr_s dX8_begins_30 (by omega) (by omega) (by omega) ?_
        rw [hr_hr]
        refine r_aload_1 (pc := 31) dX8_begins_31 ?_
        refine r_sipush (pc := 32) dX8_begins_32 (by decide) ?_
        refine r_bipush (pc := 35) dX8_begins_35 (by decide) ?_
        refine r_iastE (pc := 37) (by assumption) hr_s dX8_begins_37 (by omega) (by omega) (by omega) ?_
        rw [hr_hr]
        refine r_ret (pc := 38) hret dX8_begins_38 rfl rfl rfl ?_
        have hi9 : i = 136 := by omega
        subst hi9
        exact hQ
      · refine r_aload_1 (pc := 9) dX8_begins_9 ?_
        refine r_iload_2 (pc := 10) dX8_begins_10 ?_
        refine r_iconst (pc := 11) dX8_begins_11 ?_
        refine r_iastE (pc := 12) (by assumption) (by first | assumption | exact rfl) dX8_begins_12 (by omega) (by omega) (by omega) ?_
        refine r_iinc_2 (pc := 13) dX8_begins_13 rfl ?_
        refine r_goto (pc := 16) (tgt := 2) dX8_begins_16 (by decide) ?_
        rw [hr_hr, show up (cpR (fun _ => 0) (h a) i) i 0 = cpR (fun _ => 0) (h a) (i + 1) from cpR_s (f := fun _ => 0) (by omega)]
        exact ih _ (by omega) (i + 1) rfl (by omega)
  refine r_iconst (pc := 0) dX8_begins_0 ?_
  refine r_istore_2 (pc := 1) dX8_begins_1 rfl ?_
  have hz := lp _ 0 rfl (by omega)
  rw [cpR_0, hr_id] at hz
  exact hz

theorem dX8_keeps_0 : decode cX8_keeps 0 = .ok (.aload_n 0, 1) := by decide +kernel
theorem dX8_keeps_1 : decode cX8_keeps 1 = .ok (.getfield 116, 3) := by decide +kernel
theorem dX8_keeps_4 : decode cX8_keeps 4 = .ok (.iconst 5, 1) := by decide +kernel
theorem dX8_keeps_5 : decode cX8_keeps 5 = .ok (.irem, 1) := by decide +kernel
theorem dX8_keeps_6 : decode cX8_keeps 6 = .ok (.istore_n 1, 1) := by decide +kernel
theorem dX8_keeps_7 : decode cX8_keeps 7 = .ok (.aload_n 0, 1) := by decide +kernel
theorem dX8_keeps_8 : decode cX8_keeps 8 = .ok (.getfield 19, 3) := by decide +kernel
theorem dX8_keeps_11 : decode cX8_keeps 11 = .ok (.iload_n 1, 1) := by decide +kernel
theorem dX8_keeps_12 : decode cX8_keeps 12 = .ok (.aload_n 0, 1) := by decide +kernel
theorem dX8_keeps_13 : decode cX8_keeps 13 = .ok (.getfield 116, 3) := by decide +kernel
theorem dX8_keeps_16 : decode cX8_keeps 16 = .ok (.iastore, 1) := by decide +kernel
theorem dX8_keeps_17 : decode cX8_keeps 17 = .ok (.iconst 0, 1) := by decide +kernel
theorem dX8_keeps_18 : decode cX8_keeps 18 = .ok (.istore_n 2, 1) := by decide +kernel
theorem dX8_keeps_19 : decode cX8_keeps 19 = .ok (.iload_n 2, 1) := by decide +kernel
theorem dX8_keeps_20 : decode cX8_keeps 20 = .ok (.sipush 136, 3) := by decide +kernel
theorem dX8_keeps_23 : decode cX8_keeps 23 = .ok (.if_icmp .ge 27, 3) := by decide +kernel
theorem dX8_keeps_26 : decode cX8_keeps 26 = .ok (.aload_n 0, 1) := by decide +kernel
theorem dX8_keeps_27 : decode cX8_keeps 27 = .ok (.getfield 16, 3) := by decide +kernel
theorem dX8_keeps_30 : decode cX8_keeps 30 = .ok (.sipush 136, 3) := by decide +kernel
theorem dX8_keeps_33 : decode cX8_keeps 33 = .ok (.iload_n 1, 1) := by decide +kernel
theorem dX8_keeps_34 : decode cX8_keeps 34 = .ok (.imul, 1) := by decide +kernel
theorem dX8_keeps_35 : decode cX8_keeps 35 = .ok (.iload_n 2, 1) := by decide +kernel
theorem dX8_keeps_36 : decode cX8_keeps 36 = .ok (.iadd, 1) := by decide +kernel
theorem dX8_keeps_37 : decode cX8_keeps 37 = .ok (.aload_n 0, 1) := by decide +kernel
theorem dX8_keeps_38 : decode cX8_keeps 38 = .ok (.getfield 13, 3) := by decide +kernel
theorem dX8_keeps_41 : decode cX8_keeps 41 = .ok (.iload_n 2, 1) := by decide +kernel
theorem dX8_keeps_42 : decode cX8_keeps 42 = .ok (.iaload, 1) := by decide +kernel
theorem dX8_keeps_43 : decode cX8_keeps 43 = .ok (.iastore, 1) := by decide +kernel
theorem dX8_keeps_44 : decode cX8_keeps 44 = .ok (.iinc 2 1, 3) := by decide +kernel
theorem dX8_keeps_47 : decode cX8_keeps 47 = .ok (.goto (-28), 3) := by decide +kernel
theorem dX8_keeps_50 : decode cX8_keeps 50 = .ok (.aload_n 0, 1) := by decide +kernel
theorem dX8_keeps_51 : decode cX8_keeps 51 = .ok (.aload_n 0, 1) := by decide +kernel
theorem dX8_keeps_52 : decode cX8_keeps 52 = .ok (.getfield 43, 3) := by decide +kernel
theorem dX8_keeps_55 : decode cX8_keeps 55 = .ok (.invokevirtual 119, 3) := by decide +kernel
theorem dX8_keeps_58 : decode cX8_keeps 58 = .ok (.return_, 1) := by decide +kernel
set_option maxHeartbeats 4000000 in
set_option maxRecDepth 20000 in
theorem c_X8_keeps : ConV mX8_keeps (fun args N lay r h Q => ∃ (b : Nat) (mp : Int → Int), args = [.ref b] ∧ MdAt lay r b ∧ h (b + 2) = mp ∧ TrM mp ∧ RlM mp ∧ WaT (h (b + 7)) ∧ 1 ≤ h b 5 ∧ ∀ h2, Fr h h2 (fun x => x = b + 3 ∨ x = b + 4 ∨ x = b + 8 ∨ x = b + 9 ∨ x = b + 10 ∨ x = b + 11 ∨ x = b + 12) → h2 (b + 4) = up (h (b + 4)) (h b 5 % 5) (h b 5) → h2 (b + 3) = kpR (h (b + 3)) mp (h b 5 % 5) 136 → (∀ j, 0 ≤ j → j < 64 → h2 (b + 12) j = plc mp (j / 4) (j % 4)) → Q N lay r h2) := by
  refine ConV.of (by decide) (by rintro _ N lay r h Q ⟨b, mp, rfl, hM, hmp, hT, hR, hwa, hep, hQ⟩; exact ⟨rfl, Nat.le_of_ble_eq_true rfl⟩) ?_
  rintro E _ N lay r h Q ⟨b, mp, rfl, hM, hmp, hT, hR, hwa, hep, hQ⟩ hret
  obtain ⟨ml0, ml1, ml2, ml3, ml4, ml5, ml6, ml7, ml8, ml9, ml10, ml11, ml12, ml13, ml14, ml15, ml16, ml17, ml18, ml19, ml20, mr1, mr2, mr3, mr4, mr5, mr6, mr7, mr8, mr9, mr10, mr11, mr12, mr13, mr14, mr15, mr16, mr17, mr18, mr19, mr20⟩ := id hM
  obtain ⟨t1, t2, t3, t4, t5, t6, t7⟩ := id hT
  obtain ⟨r1, r2, r3, r4, r5, r6, r7⟩ := id hR
  show St E mX8_keeps 0 [some (.ref b), none, none] [] (0, 0) N lay r h
  have lp : ∀ (n_ : Nat) (i : Int), (136 - i).toNat = n_ → (0 ≤ i ∧ i ≤ 136) → St E mX8_keeps 19 [some (.ref b), some (vI (h b 5 % 5)), some (vI i)] [] (0, 0) N lay r (hr (hr h (b + 4) (up (h (b + 4)) (h b 5 % 5) (h b 5))) (b + 3) (kpR (h (b + 3)) mp (h b 5 % 5) i)) := by
    intro  n_
    induction n_ using Nat.strongRecOn with
    | ind n_ ih =>
      intro i hn_ hi
      have e1 : (hr (hr h (b + 4) (up (h (b + 4)) (h b 5 % 5) (h b 5))) (b + 3) (kpR (h (b + 3)) mp (h b 5 % 5) i)) (b + 2) = mp := by rw [hr_n (by omega), hr_n (by omega)]; exact hmp
      have e2 : (hr (hr h (b + 4) (up (h (b + 4)) (h b 5 % 5) (h b 5))) (b + 3) (kpR (h (b + 3)) mp (h b 5 % 5) i)) (b + 3) = kpR (h (b + 3)) mp (h b 5 % 5) i := hr_s
      have hwa2 : WaT ((hr (hr h (b + 4) (up (h (b + 4)) (h b 5 % 5) (h b 5))) (b + 3) (kpR (h (b + 3)) mp (h b 5 % 5) i)) (b + 7)) := by rw [hr_n (by omega), hr_n (by omega)]; exact hwa
      have p5 : 0 ≤ h b 5 % 5 ∧ h b 5 % 5 < 5 := by omega
      refine r_iload_2 (pc := 19) dX8_keeps_19 ?_
      refine r_sipush (pc := 20) dX8_keeps_20 (by decide) ?_
      refine r_icmp_ge (pc := 23) (tgt := 50) dX8_keeps_23 (by decide) (by omega) (by omega) (fun c_23 => ?_) (fun c_23 => ?_)
      · refine r_aload_0 (pc := 50) dX8_keeps_50 ?_
        refine r_aload_0 (pc := 51) dX8_keeps_51 ?_
        refine gf_X8_43 (pc := 52) rfl (by assumption) dX8_keeps_52 (by assumption) ?_
        refine k_VV1 (pc := 55) c_X8_placesAll lk_X8_119 ⟨Nat.le_of_ble_eq_true rfl, Nat.le_of_ble_eq_true rfl⟩ ⟨rfl, rfl⟩ ⟨Nat.le_of_ble_eq_true rfl, Nat.le_of_ble_eq_true rfl⟩ (k := 8) rfl (by decide) (by assumption) dX8_keeps_55 (Nat.le_of_ble_eq_true rfl) ?_
        refine ⟨_, _, _, rfl, by assumption, by first | assumption | exact rfl, by assumption, by assumption, by omega, by assumption, by assumption, fun h_55 f_55 a_55 w_55 => ?_⟩
        have m_55 : h_55 (b + 2) = mp := (f_55 _ (by omega)).trans (by assumption)
        refine r_ret (pc := 58) hret dX8_keeps_58 rfl rfl rfl ?_
        have hi9 : i = 136 := by omega
        subst hi9
        refine hQ h_55 (fun x hx => ?_) ?_ ?_ a_55
        · rw [f_55 x (by omega), hr_n (by omega), hr_n (by omega)]
        · rw [f_55 _ (by omega), hr_n (by omega), hr_s]
        · rw [f_55 _ (by omega), hr_s]
      · refine r_aload_0 (pc := 26) dX8_keeps_26 ?_
        refine gf_X8_16 (pc := 27) rfl (by assumption) dX8_keeps_27 (by assumption) ?_
        refine r_sipush (pc := 30) dX8_keeps_30 (by decide) ?_
        refine r_iload_1 (pc := 33) dX8_keeps_33 ?_
        refine r_imul (pc := 34) dX8_keeps_34 ?_
        refine r_iload_2 (pc := 35) dX8_keeps_35 ?_
        refine r_iadd (pc := 36) dX8_keeps_36 ?_
        refine r_aload_0 (pc := 37) dX8_keeps_37 ?_
        refine gf_X8_13 (pc := 38) rfl (by assumption) dX8_keeps_38 (by assumption) ?_
        refine r_iload_2 (pc := 41) dX8_keeps_41 ?_
        refine r_ialdE (pc := 42) (by assumption) (by first | assumption | exact rfl) dX8_keeps_42 (by omega) (by omega) (fun i_42 => ?_)
        refine r_iastE (pc := 43) (by assumption) (by first | assumption | exact rfl) dX8_keeps_43 (by omega) (by omega) (by omega) ?_
        refine r_iinc_2 (pc := 44) dX8_keeps_44 rfl ?_
        refine r_goto (pc := 47) (tgt := 19) dX8_keeps_47 (by decide) ?_
        rw [hr_hr, kpR_s (by omega)]
        exact ih _ (by omega) (i + 1) rfl (by omega)
  refine r_aload_0 (pc := 0) dX8_keeps_0 ?_
  refine gf_X8_116 (pc := 1) rfl (by assumption) dX8_keeps_1 (fun i_1 => ?_)
  refine r_iconst (pc := 4) dX8_keeps_4 ?_
  refine r_irem (pc := 5) dX8_keeps_5 (by omega) (by omega) ?_
  refine r_istore_1 (pc := 6) dX8_keeps_6 rfl ?_
  refine r_aload_0 (pc := 7) dX8_keeps_7 ?_
  refine gf_X8_19 (pc := 8) rfl (by assumption) dX8_keeps_8 (by assumption) ?_
  refine r_iload_1 (pc := 11) dX8_keeps_11 ?_
  refine r_aload_0 (pc := 12) dX8_keeps_12 ?_
  refine gf_X8_116 (pc := 13) rfl (by assumption) dX8_keeps_13 (fun i_13 => ?_)
  refine r_iastE (pc := 16) (by assumption) (by first | assumption | exact rfl) dX8_keeps_16 (by omega) (by omega) (by omega) ?_
  refine r_iconst (pc := 17) dX8_keeps_17 ?_
  refine r_istore_2 (pc := 18) dX8_keeps_18 rfl ?_
  have hz := lp _ 0 rfl (by omega)
  rw [kpR_0, show h (b + 3) = hr h (b + 4) (up (h (b + 4)) (h b 5 % 5) (h b 5)) (b + 3) from (hr_n (by omega)).symm, hr_id] at hz
  exact hz

theorem dX8_changed_0 : decode cX8_changed 0 = .ok (.aload_n 0, 1) := by decide +kernel
theorem dX8_changed_1 : decode cX8_changed 1 = .ok (.dup, 1) := by decide +kernel
theorem dX8_changed_2 : decode cX8_changed 2 = .ok (.getfield 116, 3) := by decide +kernel
theorem dX8_changed_5 : decode cX8_changed 5 = .ok (.iconst 1, 1) := by decide +kernel
theorem dX8_changed_6 : decode cX8_changed 6 = .ok (.iadd, 1) := by decide +kernel
theorem dX8_changed_7 : decode cX8_changed 7 = .ok (.putfield 116, 3) := by decide +kernel
theorem dX8_changed_10 : decode cX8_changed 10 = .ok (.aload_n 0, 1) := by decide +kernel
theorem dX8_changed_11 : decode cX8_changed 11 = .ok (.invokevirtual 122, 3) := by decide +kernel
theorem dX8_changed_14 : decode cX8_changed 14 = .ok (.return_, 1) := by decide +kernel
set_option maxHeartbeats 4000000 in
set_option maxRecDepth 20000 in
theorem c_X8_changed : ConV mX8_changed (fun args N lay r h Q => ∃ (b : Nat) (mp : Int → Int), args = [.ref b] ∧ MdAt lay r b ∧ h (b + 2) = mp ∧ TrM mp ∧ RlM mp ∧ WaT (h (b + 7)) ∧ (1 ≤ h b 5 ∧ h b 5 < 2147483647) ∧ ∀ h2, Fr h h2 (fun x => x = b ∨ x = b + 3 ∨ x = b + 4 ∨ x = b + 8 ∨ x = b + 9 ∨ x = b + 10 ∨ x = b + 11 ∨ x = b + 12) → h2 b = up (h b) 5 (h b 5 + 1) → h2 (b + 4) = up (h (b + 4)) ((h b 5 + 1) % 5) (h b 5 + 1) → h2 (b + 3) = kpR (h (b + 3)) mp ((h b 5 + 1) % 5) 136 → (∀ j, 0 ≤ j → j < 64 → h2 (b + 12) j = plc mp (j / 4) (j % 4)) → Q N lay r h2) := by
  refine ConV.of (by decide) (by rintro _ N lay r h Q ⟨b, mp, rfl, hM, hmp, hT, hR, hwa, hep, hQ⟩; exact ⟨rfl, Nat.le_of_ble_eq_true rfl⟩) ?_
  rintro E _ N lay r h Q ⟨b, mp, rfl, hM, hmp, hT, hR, hwa, hep, hQ⟩ hret
  obtain ⟨ml0, ml1, ml2, ml3, ml4, ml5, ml6, ml7, ml8, ml9, ml10, ml11, ml12, ml13, ml14, ml15, ml16, ml17, ml18, ml19, ml20, mr1, mr2, mr3, mr4, mr5, mr6, mr7, mr8, mr9, mr10, mr11, mr12, mr13, mr14, mr15, mr16, mr17, mr18, mr19, mr20⟩ := id hM
  obtain ⟨t1, t2, t3, t4, t5, t6, t7⟩ := id hT
  obtain ⟨r1, r2, r3, r4, r5, r6, r7⟩ := id hR
  show St E mX8_changed 0 [some (.ref b)] [] (0, 0) N lay r h
  refine r_aload_0 (pc := 0) dX8_changed_0 ?_
  first | refine r_dupI (pc := 1) dX8_changed_1 ?_ | refine r_dupA (pc := 1) dX8_changed_1 ?_
  refine gf_X8_116 (pc := 2) rfl (by assumption) dX8_changed_2 (fun i_2 => ?_)
  refine r_iconst (pc := 5) dX8_changed_5 ?_
  refine r_iadd (pc := 6) dX8_changed_6 ?_
  refine pf_X8_116 (pc := 7) rfl (by assumption) dX8_changed_7 (by omega) ?_
  refine r_aload_0 (pc := 10) dX8_changed_10 ?_
  have e1 : hr h b (up (h b) 5 (h b 5 + 1)) (b + 2) = mp := by rw [hr_n (by omega)]; exact hmp
  have hwa2 : WaT (hr h b (up (h b) 5 (h b 5 + 1)) (b + 7)) := by rw [hr_n (by omega)]; exact hwa
  have e5 : hr h b (up (h b) 5 (h b 5 + 1)) b = up (h b) 5 (h b 5 + 1) := hr_s
  have e6 : hr h b (up (h b) 5 (h b 5 + 1)) b 5 = h b 5 + 1 := by rw [hr_s, up_s]
  refine k_VV0 (pc := 11) c_X8_keeps lk_X8_122 ⟨Nat.le_of_ble_eq_true rfl, Nat.le_of_ble_eq_true rfl⟩ ⟨rfl, rfl⟩ ⟨Nat.le_of_ble_eq_true rfl, Nat.le_of_ble_eq_true rfl⟩ (k := 8) rfl (by decide) (by assumption) dX8_changed_11 (Nat.le_of_ble_eq_true rfl) ?_
  refine ⟨_, _, rfl, by assumption, by first | assumption | exact rfl, by assumption, by assumption, by assumption, by omega, fun h_11 f_11 k_11 q_11 a_11 => ?_⟩
  have m_11 : h_11 (b + 2) = mp := (f_11 _ (by omega)).trans (by assumption)
  refine r_ret (pc := 14) hret dX8_changed_14 rfl rfl rfl ?_
  rw [e6, hr_n (by omega)] at k_11 q_11
  exact hQ h_11 (fun x hx => by rw [f_11 x (by omega), hr_n (by omega)]) (by rw [f_11 _ (by omega), hr_s]) k_11 q_11 a_11

