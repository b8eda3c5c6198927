/-! DIVERSIONS and the small methods of plans -/
/-- the set of the full disks -/
def FuM (x : Int) (mp : Int → Int) : Prop := (0 ≤ x ∧ x < 4096) ∧ ∀ k : Nat, tb x k = decide ((k : Int) < mp 130 ∧ mp (88 + (10 + (k : Int))) = 1)
/-- the rule, the disks' numbers and the diversions of a plan are the map's -/
def PRl (h : HpT) (p : Nat) (mp : Int → Int) : Prop := (h p 5 = mp 131 ∧ h p 6 = mp 132 ∧ h p 7 = mp 133 ∧ h p 8 = mp 134) ∧ FuM (h p 4) mp ∧ (∀ d, 10 ≤ d → d < 10 + mp 130 → h (p + 9) d = mp (44 + d)) ∧ (∀ d, 10 ≤ d → d < 10 + mp 130 → h (p + 10) d = mp (66 + d)) ∧ h (p + 4) 0 = mp 135 ∧ ∀ i, 0 ≤ i → i < mp 135 → h (p + 5) i = mp (110 + 3 * i) ∧ h (p + 6) i = mp (111 + 3 * i) ∧ h (p + 7) i = mp (112 + 3 * i)
theorem PRl.of {h h2 : HpT} {p : Nat} {mp : Int → Int} (q : PRl h p mp) (e0 : h2 p = h p) (e4 : h2 (p + 4) = h (p + 4)) (e5 : h2 (p + 5) = h (p + 5)) (e6 : h2 (p + 6) = h (p + 6)) (e7 : h2 (p + 7) = h (p + 7)) (e9 : h2 (p + 9) = h (p + 9)) (e10 : h2 (p + 10) = h (p + 10)) : PRl h2 p mp := by
  unfold PRl
  rw [e0, e4, e5, e6, e7, e9, e10]
  exact q
theorem FuM.bit {x d : Int} {mp : Int → Int} (q : FuM x mp) (hT : TrM mp) (h0 : 10 ≤ d) (h1 : d < 10 + mp 130) : iA x (iSl 1 (d - 10)) ≠ 0 ↔ mp (88 + d) = 1 := by
  have t3 := hT.2.2.1
  rw [tb_t ⟨q.1.1, by have := q.1.2; omega⟩ (by omega) (by omega), q.2, decide_eq_true_iff]
  rw [show 88 + (10 + (((d - 10).toNat : Nat) : Int)) = 88 + d by omega]
  constructor
  · intro z; exact z.2
  · intro z; exact ⟨by omega, z⟩
theorem dX1_copyFrom_0 : decode cX1_copyFrom 0 = .ok (.aload_n 0, 1) := by decide +kernel
theorem dX1_copyFrom_1 : decode cX1_copyFrom 1 = .ok (.aload_n 1, 1) := by decide +kernel
theorem dX1_copyFrom_2 : decode cX1_copyFrom 2 = .ok (.getfield 24, 3) := by decide +kernel
theorem dX1_copyFrom_5 : decode cX1_copyFrom 5 = .ok (.putfield 24, 3) := by decide +kernel
theorem dX1_copyFrom_8 : decode cX1_copyFrom 8 = .ok (.aload_n 1, 1) := by decide +kernel
theorem dX1_copyFrom_9 : decode cX1_copyFrom 9 = .ok (.getfield 9, 3) := by decide +kernel
theorem dX1_copyFrom_12 : decode cX1_copyFrom 12 = .ok (.iconst 0, 1) := by decide +kernel
theorem dX1_copyFrom_13 : decode cX1_copyFrom 13 = .ok (.aload_n 0, 1) := by decide +kernel
theorem dX1_copyFrom_14 : decode cX1_copyFrom 14 = .ok (.getfield 9, 3) := by decide +kernel
theorem dX1_copyFrom_17 : decode cX1_copyFrom 17 = .ok (.iconst 0, 1) := by decide +kernel
theorem dX1_copyFrom_18 : decode cX1_copyFrom 18 = .ok (.bipush 6, 2) := by decide +kernel
theorem dX1_copyFrom_20 : decode cX1_copyFrom 20 = .ok (.invokestatic 28, 3) := by decide +kernel
theorem dX1_copyFrom_23 : decode cX1_copyFrom 23 = .ok (.aload_n 1, 1) := by decide +kernel
theorem dX1_copyFrom_24 : decode cX1_copyFrom 24 = .ok (.getfield 15, 3) := by decide +kernel
theorem dX1_copyFrom_27 : decode cX1_copyFrom 27 = .ok (.iconst 0, 1) := by decide +kernel
theorem dX1_copyFrom_28 : decode cX1_copyFrom 28 = .ok (.aload_n 0, 1) := by decide +kernel
theorem dX1_copyFrom_29 : decode cX1_copyFrom 29 = .ok (.getfield 15, 3) := by decide +kernel
theorem dX1_copyFrom_32 : decode cX1_copyFrom 32 = .ok (.iconst 0, 1) := by decide +kernel
theorem dX1_copyFrom_33 : decode cX1_copyFrom 33 = .ok (.bipush 6, 2) := by decide +kernel
theorem dX1_copyFrom_35 : decode cX1_copyFrom 35 = .ok (.invokestatic 28, 3) := by decide +kernel
theorem dX1_copyFrom_38 : decode cX1_copyFrom 38 = .ok (.aload_n 1, 1) := by decide +kernel
theorem dX1_copyFrom_39 : decode cX1_copyFrom 39 = .ok (.getfield 18, 3) := by decide +kernel
theorem dX1_copyFrom_42 : decode cX1_copyFrom 42 = .ok (.iconst 0, 1) := by decide +kernel
theorem dX1_copyFrom_43 : decode cX1_copyFrom 43 = .ok (.aload_n 0, 1) := by decide +kernel
theorem dX1_copyFrom_44 : decode cX1_copyFrom 44 = .ok (.getfield 18, 3) := by decide +kernel
theorem dX1_copyFrom_47 : decode cX1_copyFrom 47 = .ok (.iconst 0, 1) := by decide +kernel
theorem dX1_copyFrom_48 : decode cX1_copyFrom 48 = .ok (.bipush 6, 2) := by decide +kernel
theorem dX1_copyFrom_50 : decode cX1_copyFrom 50 = .ok (.invokestatic 28, 3) := by decide +kernel
theorem dX1_copyFrom_53 : decode cX1_copyFrom 53 = .ok (.aload_n 1, 1) := by decide +kernel
theorem dX1_copyFrom_54 : decode cX1_copyFrom 54 = .ok (.getfield 21, 3) := by decide +kernel
theorem dX1_copyFrom_57 : decode cX1_copyFrom 57 = .ok (.iconst 0, 1) := by decide +kernel
theorem dX1_copyFrom_58 : decode cX1_copyFrom 58 = .ok (.aload_n 0, 1) := by decide +kernel
theorem dX1_copyFrom_59 : decode cX1_copyFrom 59 = .ok (.getfield 21, 3) := by decide +kernel
theorem dX1_copyFrom_62 : decode cX1_copyFrom 62 = .ok (.iconst 0, 1) := by decide +kernel
theorem dX1_copyFrom_63 : decode cX1_copyFrom 63 = .ok (.bipush 6, 2) := by decide +kernel
theorem dX1_copyFrom_65 : decode cX1_copyFrom 65 = .ok (.invokestatic 28, 3) := by decide +kernel
theorem dX1_copyFrom_68 : decode cX1_copyFrom 68 = .ok (.return_, 1) := by decide +kernel
set_option maxHeartbeats 4000000 in
set_option maxRecDepth 20000 in
theorem c_X1_copyFrom : ConV mX1_copyFrom (fun args N lay r h Q => ∃ (p q : Nat), args = [.ref (p + 4), .ref (q + 4)] ∧ PlAt lay r p ∧ PlAt lay r q ∧ (p = q ∨ (p + 14 ≤ q ∨ q + 14 ≤ p)) ∧ ∀ h2, Fr h h2 (fun x => x = p + 4 ∨ x = p + 5 ∨ x = p + 6 ∨ x = p + 7 ∨ x = p + 8) → h2 (p + 4) 0 = h (q + 4) 0 → (∀ j, 0 ≤ j → j < 6 → h2 (p + 5) j = h (q + 5) j) → (∀ j, 0 ≤ j → j < 6 → h2 (p + 6) j = h (q + 6) j) → (∀ j, 0 ≤ j → j < 6 → h2 (p + 7) j = h (q + 7) j) → (∀ j, 0 ≤ j → j < 6 → h2 (p + 8) j = h (q + 8) j) → Q N lay r h2) := by
  refine ConV.of (by decide) (by rintro _ N lay r h Q ⟨p, q, rfl, hA, hA2, hD, hQ⟩; exact ⟨rfl, Nat.le_of_ble_eq_true rfl⟩) ?_
  rintro E _ N lay r h Q ⟨p, q, rfl, hA, hA2, hD, hQ⟩ hret
  obtain ⟨pl0, pl1, pl2, pl3, pl4, pl5, pl6, pl7, pl8, pl9, pl10, pl11, pl12, pl13, pr0, pr1, pr2, pr3, pr9, pr10, pr11, qr3, qr4, vr1, vr2, vr3, vr4⟩ := id hA
  obtain ⟨xl0, xl1, xl2, xl3, xl4, xl5, xl6, xl7, xl8, xl9, xl10, xl11, xl12, xl13, xr0, xr1, xr2, xr3, xr9, xr10, xr11, yr3, yr4, wr1, wr2, wr3, wr4⟩ := id hA2
  show St E mX1_copyFrom 0 [some (.ref (p + 4)), some (.ref (q + 4))] [] (0, 0) N lay r h
  by_cases e : p = q
  · subst e
    refine r_aload_0 (pc := 0) dX1_copyFrom_0 ?_
    refine r_aload_1 (pc := 1) dX1_copyFrom_1 ?_
    refine gf_X1_24 (pc := 2) rfl (by assumption) dX1_copyFrom_2 (fun i_2 => ?_)
    refine pf_X1_24 (pc := 5) rfl (by assumption) dX1_copyFrom_5 (by omega) ?_
    rw [up_id, hr_id]
    refine r_aload_1 (pc := 8) dX1_copyFrom_8 ?_
    refine gf_X1_9 (pc := 9) rfl (by assumption) dX1_copyFrom_9 (by assumption) ?_
    refine r_iconst (pc := 12) dX1_copyFrom_12 ?_
    refine r_aload_0 (pc := 13) dX1_copyFrom_13 ?_
    refine gf_X1_9 (pc := 14) rfl (by assumption) dX1_copyFrom_14 (by assumption) ?_
    refine r_iconst (pc := 17) dX1_copyFrom_17 ?_
    refine r_bipush (pc := 18) dX1_copyFrom_18 (by decide) ?_
    refine r_acp (pc := 20) (n := 6) rfl (inT 511 (by decide +kernel) rfl) dX1_copyFrom_20 (by assumption) (by assumption) (Nat.le_of_ble_eq_true rfl) (Nat.le_of_ble_eq_true rfl) (by decide) (Nat.le_of_ble_eq_true rfl) (Nat.le_of_ble_eq_true rfl) ?_
    rw [cpR_id, hr_id]
    refine r_aload_1 (pc := 23) dX1_copyFrom_23 ?_
    refine gf_X1_15 (pc := 24) rfl (by assumption) dX1_copyFrom_24 (by assumption) ?_
    refine r_iconst (pc := 27) dX1_copyFrom_27 ?_
    refine r_aload_0 (pc := 28) dX1_copyFrom_28 ?_
    refine gf_X1_15 (pc := 29) rfl (by assumption) dX1_copyFrom_29 (by assumption) ?_
    refine r_iconst (pc := 32) dX1_copyFrom_32 ?_
    refine r_bipush (pc := 33) dX1_copyFrom_33 (by decide) ?_
    refine r_acp (pc := 35) (n := 6) rfl (inT 511 (by decide +kernel) rfl) dX1_copyFrom_35 (by assumption) (by assumption) (Nat.le_of_ble_eq_true rfl) (Nat.le_of_ble_eq_true rfl) (by decide) (Nat.le_of_ble_eq_true rfl) (Nat.le_of_ble_eq_true rfl) ?_
    rw [cpR_id, hr_id]
    refine r_aload_1 (pc := 38) dX1_copyFrom_38 ?_
    refine gf_X1_18 (pc := 39) rfl (by assumption) dX1_copyFrom_39 (by assumption) ?_
    refine r_iconst (pc := 42) dX1_copyFrom_42 ?_
    refine r_aload_0 (pc := 43) dX1_copyFrom_43 ?_
    refine gf_X1_18 (pc := 44) rfl (by assumption) dX1_copyFrom_44 (by assumption) ?_
    refine r_iconst (pc := 47) dX1_copyFrom_47 ?_
    refine r_bipush (pc := 48) dX1_copyFrom_48 (by decide) ?_
    refine r_acp (pc := 50) (n := 6) rfl (inT 511 (by decide +kernel) rfl) dX1_copyFrom_50 (by assumption) (by assumption) (Nat.le_of_ble_eq_true rfl) (Nat.le_of_ble_eq_true rfl) (by decide) (Nat.le_of_ble_eq_true rfl) (Nat.le_of_ble_eq_true rfl) ?_
    rw [cpR_id, hr_id]
    refine r_aload_1 (pc := 53) dX1_copyFrom_53 ?_
    refine gf_X1_21 (pc := 54) rfl (by assumption) dX1_copyFrom_54 (by assumption) ?_
    refine r_iconst (pc := 57) dX1_copyFrom_57 ?_
    refine r_aload_0 (pc := 58) dX1_copyFrom_58 ?_
    refine gf_X1_21 (pc := 59) rfl (by assumption) dX1_copyFrom_59 (by assumption) ?_
    refine r_iconst (pc := 62) dX1_copyFrom_62 ?_
    refine r_bipush (pc := 63) dX1_copyFrom_63 (by decide) ?_
    refine r_acp (pc := 65) (n := 6) rfl (inT 511 (by decide +kernel) rfl) dX1_copyFrom_65 (by assumption) (by assumption) (Nat.le_of_ble_eq_true rfl) (Nat.le_of_ble_eq_true rfl) (by decide) (Nat.le_of_ble_eq_true rfl) (Nat.le_of_ble_eq_true rfl) ?_
    rw [cpR_id, hr_id]
    refine r_ret (pc := 68) hret dX1_copyFrom_68 rfl rfl rfl ?_
    exact hQ h (fun _ _ => rfl) rfl (fun _ _ _ => rfl) (fun _ _ _ => rfl) (fun _ _ _ => rfl) (fun _ _ _ => rfl)
  · have hD := hD.resolve_left e
    refine r_aload_0 (pc := 0) dX1_copyFrom_0 ?_
    refine r_aload_1 (pc := 1) dX1_copyFrom_1 ?_
    refine gf_X1_24 (pc := 2) rfl (by assumption) dX1_copyFrom_2 (fun i_2 => ?_)
    refine pf_X1_24 (pc := 5) rfl (by assumption) dX1_copyFrom_5 (by omega) ?_
    refine r_aload_1 (pc := 8) dX1_copyFrom_8 ?_
    refine gf_X1_9 (pc := 9) rfl (by assumption) dX1_copyFrom_9 (by assumption) ?_
    refine r_iconst (pc := 12) dX1_copyFrom_12 ?_
    refine r_aload_0 (pc := 13) dX1_copyFrom_13 ?_
    refine gf_X1_9 (pc := 14) rfl (by assumption) dX1_copyFrom_14 (by assumption) ?_
    refine r_iconst (pc := 17) dX1_copyFrom_17 ?_
    refine r_bipush (pc := 18) dX1_copyFrom_18 (by decide) ?_
    refine r_acp (pc := 20) (n := 6) rfl (inT 511 (by decide +kernel) rfl) dX1_copyFrom_20 (by assumption) (by assumption) (Nat.le_of_ble_eq_true rfl) (Nat.le_of_ble_eq_true rfl) (by decide) (Nat.le_of_ble_eq_true rfl) (Nat.le_of_ble_eq_true rfl) ?_
    refine r_aload_1 (pc := 23) dX1_copyFrom_23 ?_
    refine gf_X1_15 (pc := 24) rfl (by assumption) dX1_copyFrom_24 (by assumption) ?_
    refine r_iconst (pc := 27) dX1_copyFrom_27 ?_
    refine r_aload_0 (pc := 28) dX1_copyFrom_28 ?_
    refine gf_X1_15 (pc := 29) rfl (by assumption) dX1_copyFrom_29 (by assumption) ?_
    refine r_iconst (pc := 32) dX1_copyFrom_32 ?_
    refine r_bipush (pc := 33) dX1_copyFrom_33 (by decide) ?_
    refine r_acp (pc := 35) (n := 6) rfl (inT 511 (by decide +kernel) rfl) dX1_copyFrom_35 (by assumption) (by assumption) (Nat.le_of_ble_eq_true rfl) (Nat.le_of_ble_eq_true rfl) (by decide) (Nat.le_of_ble_eq_true rfl) (Nat.le_of_ble_eq_true rfl) ?_
    refine r_aload_1 (pc := 38) dX1_copyFrom_38 ?_
    refine gf_X1_18 (pc := 39) rfl (by assumption) dX1_copyFrom_39 (by assumption) ?_
    refine r_iconst (pc := 42) dX1_copyFrom_42 ?_
    refine r_aload_0 (pc := 43) dX1_copyFrom_43 ?_
    refine gf_X1_18 (pc := 44) rfl (by assumption) dX1_copyFrom_44 (by assumption) ?_
    refine r_iconst (pc := 47) dX1_copyFrom_47 ?_
    refine r_bipush (pc := 48) dX1_copyFrom_48 (by decide) ?_
    refine r_acp (pc := 50) (n := 6) rfl (inT 511 (by decide +kernel) rfl) dX1_copyFrom_50 (by assumption) (by assumption) (Nat.le_of_ble_eq_true rfl) (Nat.le_of_ble_eq_true rfl) (by decide) (Nat.le_of_ble_eq_true rfl) (Nat.le_of_ble_eq_true rfl) ?_
    refine r_aload_1 (pc := 53) dX1_copyFrom_53 ?_
    refine gf_X1_21 (pc := 54) rfl (by assumption) dX1_copyFrom_54 (by assumption) ?_
    refine r_iconst (pc := 57) dX1_copyFrom_57 ?_
    refine r_aload_0 (pc := 58) dX1_copyFrom_58 ?_
    refine gf_X1_21 (pc := 59) rfl (by assumption) dX1_copyFrom_59 (by assumption) ?_
    refine r_iconst (pc := 62) dX1_copyFrom_62 ?_
    refine r_bipush (pc := 63) dX1_copyFrom_63 (by decide) ?_
    refine r_acp (pc := 65) (n := 6) rfl (inT 511 (by decide +kernel) rfl) dX1_copyFrom_65 (by assumption) (by assumption) (Nat.le_of_ble_eq_true rfl) (Nat.le_of_ble_eq_true rfl) (by decide) (Nat.le_of_ble_eq_true rfl) (Nat.le_of_ble_eq_true rfl) ?_
    refine r_ret (pc := 68) hret dX1_copyFrom_68 rfl rfl rfl ?_
    refine hQ _ (fun x hx => ?_) ?_ (fun j j0 j1 => ?_) (fun j j0 j1 => ?_) (fun j j0 j1 => ?_) (fun j j0 j1 => ?_)
    · rw [hr_n (by omega), hr_n (by omega), hr_n (by omega), hr_n (by omega), hr_n (by omega)]
    · rw [hr_n (by omega), hr_n (by omega), hr_n (by omega), hr_n (by omega), hr_s, up_s]
    · rw [hr_n (by omega), hr_n (by omega), hr_n (by omega), hr_s, cpR_t (by omega), hr_n (by omega)]
    · rw [hr_n (by omega), hr_n (by omega), hr_s, cpR_t (by omega), hr_n (by omega), hr_n (by omega)]
    · rw [hr_n (by omega), hr_s, cpR_t (by omega), hr_n (by omega), hr_n (by omega), hr_n (by omega)]
    · rw [hr_s, cpR_t (by omega), hr_n (by omega), hr_n (by omega), hr_n (by omega), hr_n (by omega)]

theorem dX1_has_0 : decode cX1_has 0 = .ok (.iconst 0, 1) := by decide +kernel
theorem dX1_has_1 : decode cX1_has 1 = .ok (.istore 4, 2) := by decide +kernel
theorem dX1_has_3 : decode cX1_has 3 = .ok (.iload 4, 2) := by decide +kernel
theorem dX1_has_5 : decode cX1_has 5 = .ok (.aload_n 0, 1) := by decide +kernel
theorem dX1_has_6 : decode cX1_has 6 = .ok (.getfield 24, 3) := by decide +kernel
theorem dX1_has_9 : decode cX1_has 9 = .ok (.if_icmp .ge 44, 3) := by decide +kernel
theorem dX1_has_12 : decode cX1_has 12 = .ok (.aload_n 0, 1) := by decide +kernel
theorem dX1_has_13 : decode cX1_has 13 = .ok (.getfield 9, 3) := by decide +kernel
theorem dX1_has_16 : decode cX1_has 16 = .ok (.iload 4, 2) := by decide +kernel
theorem dX1_has_18 : decode cX1_has 18 = .ok (.iaload, 1) := by decide +kernel
theorem dX1_has_19 : decode cX1_has 19 = .ok (.iload_n 1, 1) := by decide +kernel
theorem dX1_has_20 : decode cX1_has 20 = .ok (.if_icmp .ne 27, 3) := by decide +kernel
theorem dX1_has_23 : decode cX1_has 23 = .ok (.aload_n 0, 1) := by decide +kernel
theorem dX1_has_24 : decode cX1_has 24 = .ok (.getfield 15, 3) := by decide +kernel
theorem dX1_has_27 : decode cX1_has 27 = .ok (.iload 4, 2) := by decide +kernel
theorem dX1_has_29 : decode cX1_has 29 = .ok (.iaload, 1) := by decide +kernel
theorem dX1_has_30 : decode cX1_has 30 = .ok (.iload_n 2, 1) := by decide +kernel
theorem dX1_has_31 : decode cX1_has 31 = .ok (.if_icmp .ne 16, 3) := by decide +kernel
theorem dX1_has_34 : decode cX1_has 34 = .ok (.aload_n 0, 1) := by decide +kernel
theorem dX1_has_35 : decode cX1_has 35 = .ok (.getfield 18, 3) := by decide +kernel
theorem dX1_has_38 : decode cX1_has 38 = .ok (.iload 4, 2) := by decide +kernel
theorem dX1_has_40 : decode cX1_has 40 = .ok (.iaload, 1) := by decide +kernel
theorem dX1_has_41 : decode cX1_has 41 = .ok (.iload_n 3, 1) := by decide +kernel
theorem dX1_has_42 : decode cX1_has 42 = .ok (.if_icmp .ne 5, 3) := by decide +kernel
theorem dX1_has_45 : decode cX1_has 45 = .ok (.iconst 1, 1) := by decide +kernel
theorem dX1_has_46 : decode cX1_has 46 = .ok (.ireturn, 1) := by decide +kernel
theorem dX1_has_47 : decode cX1_has 47 = .ok (.iinc 4 1, 3) := by decide +kernel
theorem dX1_has_50 : decode cX1_has 50 = .ok (.goto (-47), 3) := by decide +kernel
theorem dX1_has_53 : decode cX1_has 53 = .ok (.iconst 0, 1) := by decide +kernel
theorem dX1_has_54 : decode cX1_has 54 = .ok (.ireturn, 1) := by decide +kernel
set_option maxHeartbeats 4000000 in
set_option maxRecDepth 20000 in
theorem c_X1_has : ConI mX1_has (fun args N lay r h Q => ∃ (p : Nat) (mp : Int → Int) (g f t : Int), args = [.ref (p + 4), vI g, vI f, vI t] ∧ PlAt lay r p ∧ TrM mp ∧ RlM mp ∧ PTr h p mp ∧ PRl h p mp ∧ (-2147483648 ≤ g ∧ g < 2147483648) ∧ (-2147483648 ≤ f ∧ f < 2147483648) ∧ (-2147483648 ≤ t ∧ t < 2147483648) ∧ ((¬ ∃ i, 0 ≤ i ∧ i < mp 135 ∧ mp (110 + 3 * i) = g ∧ mp (111 + 3 * i) = f ∧ mp (112 + 3 * i) = t) → Q 0 N lay r h) ∧ ((∃ i, 0 ≤ i ∧ i < mp 135 ∧ mp (110 + 3 * i) = g ∧ mp (111 + 3 * i) = f ∧ mp (112 + 3 * i) = t) → Q 1 N lay r h)) := by
  refine ConI.of (by decide) (by rintro _ N lay r h Q ⟨p, mp, g, f, t, rfl, hA, hT, hR, hN, hL, hg, hf, ht, hQ0, hQ1⟩; exact ⟨rfl, Nat.le_of_ble_eq_true rfl⟩) ?_
  rintro E _ N lay r h Q ⟨p, mp, g, f, t, rfl, hA, hT, hR, hN, hL, hg, hf, ht, hQ0, hQ1⟩ hret
  obtain ⟨pl0, pl1, pl2, pl3, pl4, pl5, pl6, pl7, pl8, pl9, pl10, pl11, pl12, pl13, pr0, pr1, pr2, pr3, pr9, pr10, pr11, qr3, qr4, vr1, vr2, vr3, vr4⟩ := id hA
  obtain ⟨⟨rl5, rl6, rl7, rl8⟩, rfu, rca, rre, rnu, rdv⟩ := id hL
  obtain ⟨r1, r2, r3, r4, r5, r6, r7⟩ := id hR
  show St E mX1_has 0 [some (.ref (p + 4)), some (vI g), some (vI f), some (vI t), none] [] (0, 0) N lay r h
  have lp : ∀ (n_ : Nat) (i : Int), (6 - i).toNat = n_ → (0 ≤ i ∧ i ≤ mp 135) → (∀ j, 0 ≤ j → j < i → ¬ (mp (110 + 3 * j) = g ∧ mp (111 + 3 * j) = f ∧ mp (112 + 3 * j) = t)) → St E mX1_has 3 [some (.ref (p + 4)), some (vI g), some (vI f), some (vI t), some (vI i)] [] (0, 0) N lay r h := by
    intro  n_
    induction n_ using Nat.strongRecOn with
    | ind n_ ih =>
      intro i hn_ hi hno
      refine r_iload_4 (pc := 3) dX1_has_3 ?_
      refine r_aload_0 (pc := 5) dX1_has_5 ?_
      refine gf_X1_24 (pc := 6) rfl (by assumption) dX1_has_6 (fun i_6 => ?_)
      refine r_icmp_ge (pc := 9) (tgt := 53) dX1_has_9 (by decide) (by omega) (by omega) (fun c_9 => ?_) (fun c_9 => ?_)
      · refine r_iconst (pc := 53) dX1_has_53 ?_
        refine r_zret (pc := 54) hret dX1_has_54 rfl rfl rfl (by first | exact Or.inl rfl | exact Or.inr rfl | exact bI_01 | omega) ?_
        first
        | (have k9 : mp 135 ≤ i := by omega
           exact hQ0 (fun ⟨j, j0, j1, z⟩ => hno j j0 (by omega) z))
        | (have k9 : h (p + 5) i = g := by omega
           exact hQ1 ⟨i, by omega, by omega, by omega, by omega, by omega⟩)
      · have dv := rdv i (by omega) (by omega)
        refine r_aload_0 (pc := 12) dX1_has_12 ?_
        refine gf_X1_9 (pc := 13) rfl (by assumption) dX1_has_13 (by assumption) ?_
        refine r_iload_4 (pc := 16) dX1_has_16 ?_
        refine r_ialdE (pc := 18) (by assumption) (by first | assumption | exact rfl) dX1_has_18 (by omega) (by omega) (fun i_18 => ?_)
        refine r_iload_1 (pc := 19) dX1_has_19 ?_
        refine r_icmp_ne (pc := 20) (tgt := 47) dX1_has_20 (by decide) (by omega) (by omega) (fun c_20 => ?_) (fun c_20 => ?_)
        · refine r_iinc_4 (pc := 47) dX1_has_47 rfl ?_
          refine r_goto (pc := 50) (tgt := 3) dX1_has_50 (by decide) ?_
          refine ih _ (by omega) (i + 1) rfl (by omega) (fun j j0 j1 => ?_)
          by_cases e : j = i
          · subst e; rw [← dv.1, ← dv.2.1, ← dv.2.2]; omega
          · exact hno j j0 (by omega)
        · refine r_aload_0 (pc := 23) dX1_has_23 ?_
          refine gf_X1_15 (pc := 24) rfl (by assumption) dX1_has_24 (by assumption) ?_
          refine r_iload_4 (pc := 27) dX1_has_27 ?_
          refine r_ialdE (pc := 29) (by assumption) (by first | assumption | exact rfl) dX1_has_29 (by omega) (by omega) (fun i_29 => ?_)
          refine r_iload_2 (pc := 30) dX1_has_30 ?_
          refine r_icmp_ne (pc := 31) (tgt := 47) dX1_has_31 (by decide) (by omega) (by omega) (fun c_31 => ?_) (fun c_31 => ?_)
          · refine r_iinc_4 (pc := 47) dX1_has_47 rfl ?_
            refine r_goto (pc := 50) (tgt := 3) dX1_has_50 (by decide) ?_
            refine ih _ (by omega) (i + 1) rfl (by omega) (fun j j0 j1 => ?_)
            by_cases e : j = i
            · subst e; rw [← dv.1, ← dv.2.1, ← dv.2.2]; omega
            · exact hno j j0 (by omega)
          · refine r_aload_0 (pc := 34) dX1_has_34 ?_
            refine gf_X1_18 (pc := 35) rfl (by assumption) dX1_has_35 (by assumption) ?_
            refine r_iload_4 (pc := 38) dX1_has_38 ?_
            refine r_ialdE (pc := 40) (by assumption) (by first | assumption | exact rfl) dX1_has_40 (by omega) (by omega) (fun i_40 => ?_)
            refine r_iload_3 (pc := 41) dX1_has_41 ?_
            refine r_icmp_ne (pc := 42) (tgt := 47) dX1_has_42 (by decide) (by omega) (by omega) (fun c_42 => ?_) (fun c_42 => ?_)
            · refine r_iinc_4 (pc := 47) dX1_has_47 rfl ?_
              refine r_goto (pc := 50) (tgt := 3) dX1_has_50 (by decide) ?_
              refine ih _ (by omega) (i + 1) rfl (by omega) (fun j j0 j1 => ?_)
              by_cases e : j = i
              · subst e; rw [← dv.1, ← dv.2.1, ← dv.2.2]; omega
              · exact hno j j0 (by omega)
            · refine r_iconst (pc := 45) dX1_has_45 ?_
              refine r_zret (pc := 46) hret dX1_has_46 rfl rfl rfl (by first | exact Or.inl rfl | exact Or.inr rfl | exact bI_01 | omega) ?_
              first
              | (have k9 : mp 135 ≤ i := by omega
                 exact hQ0 (fun ⟨j, j0, j1, z⟩ => hno j j0 (by omega) z))
              | (have k9 : h (p + 5) i = g := by omega
                 exact hQ1 ⟨i, by omega, by omega, by omega, by omega, by omega⟩)
  refine r_iconst (pc := 0) dX1_has_0 ?_
  refine r_istore_4 (pc := 1) dX1_has_1 rfl ?_
  exact lp _ 0 rfl (by omega) (fun j j0 j1 => by omega)

theorem dX1_add_0 : decode cX1_add 0 = .ok (.aload_n 0, 1) := by decide +kernel
theorem dX1_add_1 : decode cX1_add 1 = .ok (.getfield 24, 3) := by decide +kernel
theorem dX1_add_4 : decode cX1_add 4 = .ok (.bipush 6, 2) := by decide +kernel
theorem dX1_add_6 : decode cX1_add 6 = .ok (.if_icmp .lt 4, 3) := by decide +kernel
theorem dX1_add_9 : decode cX1_add 9 = .ok (.return_, 1) := by decide +kernel
theorem dX1_add_10 : decode cX1_add 10 = .ok (.aload_n 0, 1) := by decide +kernel
theorem dX1_add_11 : decode cX1_add 11 = .ok (.getfield 9, 3) := by decide +kernel
theorem dX1_add_14 : decode cX1_add 14 = .ok (.aload_n 0, 1) := by decide +kernel
theorem dX1_add_15 : decode cX1_add 15 = .ok (.getfield 24, 3) := by decide +kernel
theorem dX1_add_18 : decode cX1_add 18 = .ok (.iload_n 1, 1) := by decide +kernel
theorem dX1_add_19 : decode cX1_add 19 = .ok (.iastore, 1) := by decide +kernel
theorem dX1_add_20 : decode cX1_add 20 = .ok (.aload_n 0, 1) := by decide +kernel
theorem dX1_add_21 : decode cX1_add 21 = .ok (.getfield 15, 3) := by decide +kernel
theorem dX1_add_24 : decode cX1_add 24 = .ok (.aload_n 0, 1) := by decide +kernel
theorem dX1_add_25 : decode cX1_add 25 = .ok (.getfield 24, 3) := by decide +kernel
theorem dX1_add_28 : decode cX1_add 28 = .ok (.iload_n 2, 1) := by decide +kernel
theorem dX1_add_29 : decode cX1_add 29 = .ok (.iastore, 1) := by decide +kernel
theorem dX1_add_30 : decode cX1_add 30 = .ok (.aload_n 0, 1) := by decide +kernel
theorem dX1_add_31 : decode cX1_add 31 = .ok (.getfield 18, 3) := by decide +kernel
theorem dX1_add_34 : decode cX1_add 34 = .ok (.aload_n 0, 1) := by decide +kernel
theorem dX1_add_35 : decode cX1_add 35 = .ok (.getfield 24, 3) := by decide +kernel
theorem dX1_add_38 : decode cX1_add 38 = .ok (.iload_n 3, 1) := by decide +kernel
theorem dX1_add_39 : decode cX1_add 39 = .ok (.iastore, 1) := by decide +kernel
theorem dX1_add_40 : decode cX1_add 40 = .ok (.aload_n 0, 1) := by decide +kernel
theorem dX1_add_41 : decode cX1_add 41 = .ok (.dup, 1) := by decide +kernel
theorem dX1_add_42 : decode cX1_add 42 = .ok (.getfield 24, 3) := by decide +kernel
theorem dX1_add_45 : decode cX1_add 45 = .ok (.iconst 1, 1) := by decide +kernel
theorem dX1_add_46 : decode cX1_add 46 = .ok (.iadd, 1) := by decide +kernel
theorem dX1_add_47 : decode cX1_add 47 = .ok (.putfield 24, 3) := by decide +kernel
theorem dX1_add_50 : decode cX1_add 50 = .ok (.return_, 1) := by decide +kernel
set_option maxHeartbeats 4000000 in
set_option maxRecDepth 20000 in
theorem c_X1_add : ConV mX1_add (fun args N lay r h Q => ∃ (p : Nat) (g f t : Int), args = [.ref (p + 4), vI g, vI f, vI t] ∧ PlAt lay r p ∧ (0 ≤ h (p + 4) 0 ∧ h (p + 4) 0 < 6) ∧ (-2147483648 ≤ g ∧ g < 2147483648) ∧ (-2147483648 ≤ f ∧ f < 2147483648) ∧ (-2147483648 ≤ t ∧ t < 2147483648) ∧ Q N lay r (hr (hr (hr (hr h (p + 5) (up (h (p + 5)) (h (p + 4) 0) g)) (p + 6) (up (h (p + 6)) (h (p + 4) 0) f)) (p + 7) (up (h (p + 7)) (h (p + 4) 0) t)) (p + 4) (up (h (p + 4)) 0 (h (p + 4) 0 + 1)))) := by
  refine ConV.of (by decide) (by rintro _ N lay r h Q ⟨p, g, f, t, rfl, hA, hn, hg, hf, ht, hQ⟩; exact ⟨rfl, Nat.le_of_ble_eq_true rfl⟩) ?_
  rintro E _ N lay r h Q ⟨p, g, f, t, rfl, hA, hn, hg, hf, ht, hQ⟩ hret
  obtain ⟨pl0, pl1, pl2, pl3, pl4, pl5, pl6, pl7, pl8, pl9, pl10, pl11, pl12, pl13, pr0, pr1, pr2, pr3, pr9, pr10, pr11, qr3, qr4, vr1, vr2, vr3, vr4⟩ := id hA
  show St E mX1_add 0 [some (.ref (p + 4)), some (vI g), some (vI f), some (vI t)] [] (0, 0) N lay r h
  refine r_aload_0 (pc := 0) dX1_add_0 ?_
  refine gf_X1_24 (pc := 1) rfl (by assumption) dX1_add_1 (fun i_1 => ?_)
  refine r_bipush (pc := 4) dX1_add_4 (by decide) ?_
  refine r_icmp_lt (pc := 6) (tgt := 10) dX1_add_6 (by decide) (by omega) (by omega) (fun c_6 => ?_) (fun c_6 => ?_)
  · refine r_aload_0 (pc := 10) dX1_add_10 ?_
    refine gf_X1_9 (pc := 11) rfl (by assumption) dX1_add_11 (by assumption) ?_
    refine r_aload_0 (pc := 14) dX1_add_14 ?_
    refine gf_X1_24 (pc := 15) rfl (by assumption) dX1_add_15 (fun i_15 => ?_)
    refine r_iload_1 (pc := 18) dX1_add_18 ?_
    refine r_iastE (pc := 19) (by assumption) (by first | assumption | exact rfl) dX1_add_19 (by omega) (by omega) (by omega) ?_
    refine r_aload_0 (pc := 20) dX1_add_20 ?_
    refine gf_X1_15 (pc := 21) rfl (by assumption) dX1_add_21 (by assumption) ?_
    refine r_aload_0 (pc := 24) dX1_add_24 ?_
    refine gf_X1_24 (pc := 25) rfl (by assumption) dX1_add_25 (fun i_25 => ?_)
    rw [hr_n (by omega)] at i_25 ⊢
    refine r_iload_2 (pc := 28) dX1_add_28 ?_
    refine r_iastE (pc := 29) (by assumption) (hr_n (by omega)) dX1_add_29 (by omega) (by omega) (by omega) ?_
    refine r_aload_0 (pc := 30) dX1_add_30 ?_
    refine gf_X1_18 (pc := 31) rfl (by assumption) dX1_add_31 (by assumption) ?_
    refine r_aload_0 (pc := 34) dX1_add_34 ?_
    refine gf_X1_24 (pc := 35) rfl (by assumption) dX1_add_35 (fun i_35 => ?_)
    rw [hr_n (by omega), hr_n (by omega)] at i_35 ⊢
    refine r_iload_3 (pc := 38) dX1_add_38 ?_
    refine r_iastE (pc := 39) (by assumption) ((hr_n (by omega)).trans (hr_n (by omega))) dX1_add_39 (by omega) (by omega) (by omega) ?_
    refine r_aload_0 (pc := 40) dX1_add_40 ?_
    first | refine r_dupI (pc := 41) dX1_add_41 ?_ | refine r_dupA (pc := 41) dX1_add_41 ?_
    refine gf_X1_24 (pc := 42) rfl (by assumption) dX1_add_42 (fun i_42 => ?_)
    rw [hr_n (by omega), hr_n (by omega), hr_n (by omega)] at i_42 ⊢
    refine r_iconst (pc := 45) dX1_add_45 ?_
    refine r_iadd (pc := 46) dX1_add_46 ?_
    refine pf_X1_24 (pc := 47) rfl (by assumption) dX1_add_47 (by omega) ?_
    rw [hr_n (show p + 4 ≠ p + 7 by omega), hr_n (show p + 4 ≠ p + 6 by omega), hr_n (show p + 4 ≠ p + 5 by omega)]
    refine r_ret (pc := 50) hret dX1_add_50 rfl rfl rfl ?_
    first | exact hQ | omega
  · refine r_ret (pc := 9) hret dX1_add_9 rfl rfl rfl ?_
    first | exact hQ | omega

def shR (f : Int → Int) (i j : Int) : Int → Int := fun q => if i ≤ q ∧ q < j then f (q + 1) else f q
theorem shR_s {f : Int → Int} {i j : Int} (h : i ≤ j) : up (shR f i j) j (f (j + 1)) = shR f i (j + 1) := by
  funext q
  unfold up shR
  by_cases e : q = j
  · rw [if_pos e, if_pos (by omega), e]
  · rw [if_neg e]
    by_cases e2 : i ≤ q ∧ q < j
    · rw [if_pos e2, if_pos (by omega)]
    · rw [if_neg e2, if_neg (by omega)]
theorem shR_0 {f : Int → Int} {i : Int} : shR f i i = f := by
  funext q
  exact if_neg (by omega)
theorem shR_a {f : Int → Int} {i j q : Int} (h : j ≤ q) : shR f i j q = f q := if_neg (by omega)
theorem hr_c {h : HpT} {a b : Nat} {f g : Int → Int} (e : a ≠ b) : hr (hr h a f) b g = hr (hr h b g) a f := by
  funext x
  unfold hr
  by_cases h1 : x = b
  · rw [if_pos h1, if_neg (by omega), if_pos h1]
  · rw [if_neg h1]
    by_cases h2 : x = a
    · rw [if_pos h2, if_pos h2]
    · rw [if_neg h2, if_neg h2, if_neg h1]
theorem dX1_removeAt_0 : decode cX1_removeAt 0 = .ok (.aload_n 0, 1) := by decide +kernel
theorem dX1_removeAt_1 : decode cX1_removeAt 1 = .ok (.getfield 24, 3) := by decide +kernel
theorem dX1_removeAt_4 : decode cX1_removeAt 4 = .ok (.ifCond .ne 4, 3) := by decide +kernel
theorem dX1_removeAt_7 : decode cX1_removeAt 7 = .ok (.return_, 1) := by decide +kernel
theorem dX1_removeAt_8 : decode cX1_removeAt 8 = .ok (.aload_n 0, 1) := by decide +kernel
theorem dX1_removeAt_9 : decode cX1_removeAt 9 = .ok (.dup, 1) := by decide +kernel
theorem dX1_removeAt_10 : decode cX1_removeAt 10 = .ok (.getfield 24, 3) := by decide +kernel
theorem dX1_removeAt_13 : decode cX1_removeAt 13 = .ok (.iconst 1, 1) := by decide +kernel
theorem dX1_removeAt_14 : decode cX1_removeAt 14 = .ok (.isub, 1) := by decide +kernel
theorem dX1_removeAt_15 : decode cX1_removeAt 15 = .ok (.putfield 24, 3) := by decide +kernel
theorem dX1_removeAt_18 : decode cX1_removeAt 18 = .ok (.iload_n 1, 1) := by decide +kernel
theorem dX1_removeAt_19 : decode cX1_removeAt 19 = .ok (.istore_n 2, 1) := by decide +kernel
theorem dX1_removeAt_20 : decode cX1_removeAt 20 = .ok (.iload_n 2, 1) := by decide +kernel
theorem dX1_removeAt_21 : decode cX1_removeAt 21 = .ok (.aload_n 0, 1) := by decide +kernel
theorem dX1_removeAt_22 : decode cX1_removeAt 22 = .ok (.getfield 24, 3) := by decide +kernel
theorem dX1_removeAt_25 : decode cX1_removeAt 25 = .ok (.if_icmp .ge 51, 3) := by decide +kernel
theorem dX1_removeAt_28 : decode cX1_removeAt 28 = .ok (.aload_n 0, 1) := by decide +kernel
theorem dX1_removeAt_29 : decode cX1_removeAt 29 = .ok (.getfield 9, 3) := by decide +kernel
theorem dX1_removeAt_32 : decode cX1_removeAt 32 = .ok (.iload_n 2, 1) := by decide +kernel
theorem dX1_removeAt_33 : decode cX1_removeAt 33 = .ok (.aload_n 0, 1) := by decide +kernel
theorem dX1_removeAt_34 : decode cX1_removeAt 34 = .ok (.getfield 9, 3) := by decide +kernel
theorem dX1_removeAt_37 : decode cX1_removeAt 37 = .ok (.iload_n 2, 1) := by decide +kernel
theorem dX1_removeAt_38 : decode cX1_removeAt 38 = .ok (.iconst 1, 1) := by decide +kernel
theorem dX1_removeAt_39 : decode cX1_removeAt 39 = .ok (.iadd, 1) := by decide +kernel
theorem dX1_removeAt_40 : decode cX1_removeAt 40 = .ok (.iaload, 1) := by decide +kernel
theorem dX1_removeAt_41 : decode cX1_removeAt 41 = .ok (.iastore, 1) := by decide +kernel
theorem dX1_removeAt_42 : decode cX1_removeAt 42 = .ok (.aload_n 0, 1) := by decide +kernel
theorem dX1_removeAt_43 : decode cX1_removeAt 43 = .ok (.getfield 15, 3) := by decide +kernel
theorem dX1_removeAt_46 : decode cX1_removeAt 46 = .ok (.iload_n 2, 1) := by decide +kernel
theorem dX1_removeAt_47 : decode cX1_removeAt 47 = .ok (.aload_n 0, 1) := by decide +kernel
theorem dX1_removeAt_48 : decode cX1_removeAt 48 = .ok (.getfield 15, 3) := by decide +kernel
theorem dX1_removeAt_51 : decode cX1_removeAt 51 = .ok (.iload_n 2, 1) := by decide +kernel
theorem dX1_removeAt_52 : decode cX1_removeAt 52 = .ok (.iconst 1, 1) := by decide +kernel
theorem dX1_removeAt_53 : decode cX1_removeAt 53 = .ok (.iadd, 1) := by decide +kernel
theorem dX1_removeAt_54 : decode cX1_removeAt 54 = .ok (.iaload, 1) := by decide +kernel
theorem dX1_removeAt_55 : decode cX1_removeAt 55 = .ok (.iastore, 1) := by decide +kernel
theorem dX1_removeAt_56 : decode cX1_removeAt 56 = .ok (.aload_n 0, 1) := by decide +kernel
theorem dX1_removeAt_57 : decode cX1_removeAt 57 = .ok (.getfield 18, 3) := by decide +kernel
theorem dX1_removeAt_60 : decode cX1_removeAt 60 = .ok (.iload_n 2, 1) := by decide +kernel
theorem dX1_removeAt_61 : decode cX1_removeAt 61 = .ok (.aload_n 0, 1) := by decide +kernel
theorem dX1_removeAt_62 : decode cX1_removeAt 62 = .ok (.getfield 18, 3) := by decide +kernel
theorem dX1_removeAt_65 : decode cX1_removeAt 65 = .ok (.iload_n 2, 1) := by decide +kernel
theorem dX1_removeAt_66 : decode cX1_removeAt 66 = .ok (.iconst 1, 1) := by decide +kernel
theorem dX1_removeAt_67 : decode cX1_removeAt 67 = .ok (.iadd, 1) := by decide +kernel
theorem dX1_removeAt_68 : decode cX1_removeAt 68 = .ok (.iaload, 1) := by decide +kernel
theorem dX1_removeAt_69 : decode cX1_removeAt 69 = .ok (.iastore, 1) := by decide +kernel
theorem dX1_removeAt_70 : decode cX1_removeAt 70 = .ok (.iinc 2 1, 3) := by decide +kernel
theorem dX1_removeAt_73 : decode cX1_removeAt 73 = .ok (.goto (-53), 3) := by decide +kernel
theorem dX1_removeAt_76 : decode cX1_removeAt 76 = .ok (.return_, 1) := by decide +kernel
set_option maxHeartbeats 4000000 in
set_option maxRecDepth 20000 in
theorem c_X1_removeAt : ConV mX1_removeAt (fun args N lay r h Q => ∃ (p : Nat) (i : Int), args = [.ref (p + 4), vI i] ∧ PlAt lay r p ∧ (0 ≤ i ∧ i < h (p + 4) 0) ∧ h (p + 4) 0 ≤ 6 ∧ Q N lay r (hr (hr (hr (hr h (p + 4) (up (h (p + 4)) 0 (h (p + 4) 0 - 1))) (p + 5) (shR (h (p + 5)) i (h (p + 4) 0 - 1))) (p + 6) (shR (h (p + 6)) i (h (p + 4) 0 - 1))) (p + 7) (shR (h (p + 7)) i (h (p + 4) 0 - 1)))) := by
  refine ConV.of (by decide) (by rintro _ N lay r h Q ⟨p, i, rfl, hA, hi, hn, hQ⟩; exact ⟨rfl, Nat.le_of_ble_eq_true rfl⟩) ?_
  rintro E _ N lay r h Q ⟨p, i, rfl, hA, hi, hn, hQ⟩ hret
  obtain ⟨pl0, pl1, pl2, pl3, pl4, pl5, pl6, pl7, pl8, pl9, pl10, pl11, pl12, pl13, pr0, pr1, pr2, pr3, pr9, pr10, pr11, qr3, qr4, vr1, vr2, vr3, vr4⟩ := id hA
  show St E mX1_removeAt 0 [some (.ref (p + 4)), some (vI i), none] [] (0, 0) N lay r h
  have lp : ∀ (n_ : Nat) (k : Int), (6 - k).toNat = n_ → (i ≤ k ∧ k ≤ h (p + 4) 0 - 1) → St E mX1_removeAt 20 [some (.ref (p + 4)), some (vI i), some (vI k)] [] (0, 0) N lay r (hr (hr (hr (hr h (p + 4) (up (h (p + 4)) 0 (h (p + 4) 0 - 1))) (p + 5) (shR (h (p + 5)) i k)) (p + 6) (shR (h (p + 6)) i k)) (p + 7) (shR (h (p + 7)) i k)) := by
    intro  n_
    induction n_ using Nat.strongRecOn with
    | ind n_ ih =>
      intro k hn_ hk
      have en : (hr (hr (hr (hr h (p + 4) (up (h (p + 4)) 0 (h (p + 4) 0 - 1))) (p + 5) (shR (h (p + 5)) i k)) (p + 6) (shR (h (p + 6)) i k)) (p + 7) (shR (h (p + 7)) i k)) (p + 4) 0 = h (p + 4) 0 - 1 := by rw [hr_n (by omega), hr_n (by omega), hr_n (by omega), hr_s, up_s]
      refine r_iload_2 (pc := 20) dX1_removeAt_20 ?_
      refine r_aload_0 (pc := 21) dX1_removeAt_21 ?_
      refine gf_X1_24 (pc := 22) rfl (by assumption) dX1_removeAt_22 (fun i_22 => ?_)
      refine r_icmp_ge (pc := 25) (tgt := 76) dX1_removeAt_25 (by decide) (by omega) (by omega) (fun c_25 => ?_) (fun c_25 => ?_)
      · refine r_ret (pc := 76) hret dX1_removeAt_76 rfl rfl rfl ?_
        have hk9 : k = h (p + 4) 0 - 1 := by omega
        subst hk9
        exact hQ
      · refine r_aload_0 (pc := 28) dX1_removeAt_28 ?_
        refine gf_X1_9 (pc := 29) rfl (by assumption) dX1_removeAt_29 (by assumption) ?_
        refine r_iload_2 (pc := 32) dX1_removeAt_32 ?_
        refine r_aload_0 (pc := 33) dX1_removeAt_33 ?_
        refine gf_X1_9 (pc := 34) rfl (by assumption) dX1_removeAt_34 (by assumption) ?_
        refine r_iload_2 (pc := 37) dX1_removeAt_37 ?_
        refine r_iconst (pc := 38) dX1_removeAt_38 ?_
        refine r_iadd (pc := 39) dX1_removeAt_39 ?_
        refine r_ialdE (pc := 40) (by assumption) (by first | exact hr_s | exact (hr_n (by omega)).trans hr_s | exact (hr_n (by omega)).trans ((hr_n (by omega)).trans hr_s)) dX1_removeAt_40 (by omega) (by omega) (fun i_40 => ?_)
        rw [shR_a (by omega)] at i_40 ⊢
        refine r_iastE (pc := 41) (by assumption) (by first | exact hr_s | exact (hr_n (by omega)).trans hr_s | exact (hr_n (by omega)).trans ((hr_n (by omega)).trans hr_s)) dX1_removeAt_41 (by omega) (by omega) (by omega) ?_
        rw [shR_s hk.1, hr_c (show p + 7 ≠ p + 5 by omega), hr_c (show p + 6 ≠ p + 5 by omega), hr_hr]
        refine r_aload_0 (pc := 42) dX1_removeAt_42 ?_
        refine gf_X1_15 (pc := 43) rfl (by assumption) dX1_removeAt_43 (by assumption) ?_
        refine r_iload_2 (pc := 46) dX1_removeAt_46 ?_
        refine r_aload_0 (pc := 47) dX1_removeAt_47 ?_
        refine gf_X1_15 (pc := 48) rfl (by assumption) dX1_removeAt_48 (by assumption) ?_
        refine r_iload_2 (pc := 51) dX1_removeAt_51 ?_
        refine r_iconst (pc := 52) dX1_removeAt_52 ?_
        refine r_iadd (pc := 53) dX1_removeAt_53 ?_
        refine r_ialdE (pc := 54) (by assumption) (by first | exact hr_s | exact (hr_n (by omega)).trans hr_s | exact (hr_n (by omega)).trans ((hr_n (by omega)).trans hr_s)) dX1_removeAt_54 (by omega) (by omega) (fun i_54 => ?_)
        rw [shR_a (by omega)] at i_54 ⊢
        refine r_iastE (pc := 55) (by assumption) (by first | exact hr_s | exact (hr_n (by omega)).trans hr_s | exact (hr_n (by omega)).trans ((hr_n (by omega)).trans hr_s)) dX1_removeAt_55 (by omega) (by omega) (by omega) ?_
        rw [shR_s hk.1, hr_c (show p + 7 ≠ p + 6 by omega), hr_hr]
        refine r_aload_0 (pc := 56) dX1_removeAt_56 ?_
        refine gf_X1_18 (pc := 57) rfl (by assumption) dX1_removeAt_57 (by assumption) ?_
        refine r_iload_2 (pc := 60) dX1_removeAt_60 ?_
        refine r_aload_0 (pc := 61) dX1_removeAt_61 ?_
        refine gf_X1_18 (pc := 62) rfl (by assumption) dX1_removeAt_62 (by assumption) ?_
        refine r_iload_2 (pc := 65) dX1_removeAt_65 ?_
        refine r_iconst (pc := 66) dX1_removeAt_66 ?_
        refine r_iadd (pc := 67) dX1_removeAt_67 ?_
        refine r_ialdE (pc := 68) (by assumption) (by first | exact hr_s | exact (hr_n (by omega)).trans hr_s | exact (hr_n (by omega)).trans ((hr_n (by omega)).trans hr_s)) dX1_removeAt_68 (by omega) (by omega) (fun i_68 => ?_)
        rw [shR_a (by omega)] at i_68 ⊢
        refine r_iastE (pc := 69) (by assumption) (by first | exact hr_s | exact (hr_n (by omega)).trans hr_s | exact (hr_n (by omega)).trans ((hr_n (by omega)).trans hr_s)) dX1_removeAt_69 (by omega) (by omega) (by omega) ?_
        rw [shR_s hk.1, hr_hr]
        refine r_iinc_2 (pc := 70) dX1_removeAt_70 rfl ?_
        refine r_goto (pc := 73) (tgt := 20) dX1_removeAt_73 (by decide) ?_
        exact ih _ (by omega) (k + 1) rfl (by omega)
  refine r_aload_0 (pc := 0) dX1_removeAt_0 ?_
  refine gf_X1_24 (pc := 1) rfl (by assumption) dX1_removeAt_1 (fun i_1 => ?_)
  refine r_if_ne (pc := 4) (tgt := 8) dX1_removeAt_4 (by decide) (by omega) (fun c_4 => ?_) (fun c_4 => ?_)
  · refine r_aload_0 (pc := 8) dX1_removeAt_8 ?_
    first | refine r_dupI (pc := 9) dX1_removeAt_9 ?_ | refine r_dupA (pc := 9) dX1_removeAt_9 ?_
    refine gf_X1_24 (pc := 10) rfl (by assumption) dX1_removeAt_10 (fun i_10 => ?_)
    refine r_iconst (pc := 13) dX1_removeAt_13 ?_
    refine r_isub (pc := 14) dX1_removeAt_14 ?_
    refine pf_X1_24 (pc := 15) rfl (by assumption) dX1_removeAt_15 (by omega) ?_
    refine r_iload_1 (pc := 18) dX1_removeAt_18 ?_
    refine r_istore_2 (pc := 19) dX1_removeAt_19 rfl ?_
    have e0 := lp _ i rfl (by omega)
    rw [shR_0, shR_0, shR_0] at e0
    rw [← hr_id (h := hr h (p + 4) (up (h (p + 4)) 0 (h (p + 4) 0 - 1))) (a := p + 5)] 
    rw [← hr_id (h := hr (hr h (p + 4) (up (h (p + 4)) 0 (h (p + 4) 0 - 1))) (p + 5) (hr h (p + 4) (up (h (p + 4)) 0 (h (p + 4) 0 - 1)) (p + 5))) (a := p + 6)]
    rw [← hr_id (h := hr (hr (hr h (p + 4) (up (h (p + 4)) 0 (h (p + 4) 0 - 1))) (p + 5) (hr h (p + 4) (up (h (p + 4)) 0 (h (p + 4) 0 - 1)) (p + 5))) (p + 6) (hr (hr h (p + 4) (up (h (p + 4)) 0 (h (p + 4) 0 - 1))) (p + 5) (hr h (p + 4) (up (h (p + 4)) 0 (h (p + 4) 0 - 1)) (p + 5)) (p + 6))) (a := p + 7)]
    have x5 : hr h (p + 4) (up (h (p + 4)) 0 (h (p + 4) 0 - 1)) (p + 5) = h (p + 5) := hr_n (by omega)
    have x6 : hr h (p + 4) (up (h (p + 4)) 0 (h (p + 4) 0 - 1)) (p + 6) = h (p + 6) := hr_n (by omega)
    have x7 : hr h (p + 4) (up (h (p + 4)) 0 (h (p + 4) 0 - 1)) (p + 7) = h (p + 7) := hr_n (by omega)
    rw [hr_n (show p + 7 ≠ p + 6 by omega), hr_n (show p + 7 ≠ p + 5 by omega), hr_n (show p + 6 ≠ p + 5 by omega), x5, x6, x7]
    exact e0
  · refine r_ret (pc := 7) hret dX1_removeAt_7 rfl rfl rfl ?_
    omega

