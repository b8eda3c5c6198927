/-! THE TEXT of the class: the whole text -/
theorem dX5_readInto_0 : decode cX5_readInto 0 = .ok (.aload_n 1, 1) := by decide +kernel
theorem dX5_readInto_1 : decode cX5_readInto 1 = .ok (.invokevirtual 23, 3) := by decide +kernel
theorem dX5_readInto_4 : decode cX5_readInto 4 = .ok (.aload_n 0, 1) := by decide +kernel
theorem dX5_readInto_5 : decode cX5_readInto 5 = .ok (.iconst 0, 1) := by decide +kernel
theorem dX5_readInto_6 : decode cX5_readInto 6 = .ok (.putfield 28, 3) := by decide +kernel
theorem dX5_readInto_9 : decode cX5_readInto 9 = .ok (.iconst 0, 1) := by decide +kernel
theorem dX5_readInto_10 : decode cX5_readInto 10 = .ok (.istore_n 2, 1) := by decide +kernel
theorem dX5_readInto_11 : decode cX5_readInto 11 = .ok (.iload_n 2, 1) := by decide +kernel
theorem dX5_readInto_12 : decode cX5_readInto 12 = .ok (.sipush 200, 3) := by decide +kernel
theorem dX5_readInto_15 : decode cX5_readInto 15 = .ok (.if_icmp .ge 35, 3) := by decide +kernel
theorem dX5_readInto_18 : decode cX5_readInto 18 = .ok (.aload_n 0, 1) := by decide +kernel
theorem dX5_readInto_19 : decode cX5_readInto 19 = .ok (.getfield 28, 3) := by decide +kernel
theorem dX5_readInto_22 : decode cX5_readInto 22 = .ok (.aload_n 0, 1) := by decide +kernel
theorem dX5_readInto_23 : decode cX5_readInto 23 = .ok (.getfield 19, 3) := by decide +kernel
theorem dX5_readInto_26 : decode cX5_readInto 26 = .ok (.if_icmp .ge 24, 3) := by decide +kernel
theorem dX5_readInto_29 : decode cX5_readInto 29 = .ok (.aload_n 0, 1) := by decide +kernel
theorem dX5_readInto_30 : decode cX5_readInto 30 = .ok (.getfield 28, 3) := by decide +kernel
theorem dX5_readInto_33 : decode cX5_readInto 33 = .ok (.istore_n 3, 1) := by decide +kernel
theorem dX5_readInto_34 : decode cX5_readInto 34 = .ok (.aload_n 0, 1) := by decide +kernel
theorem dX5_readInto_35 : decode cX5_readInto 35 = .ok (.aload_n 1, 1) := by decide +kernel
theorem dX5_readInto_36 : decode cX5_readInto 36 = .ok (.invokevirtual 31, 3) := by decide +kernel
theorem dX5_readInto_39 : decode cX5_readInto 39 = .ok (.ifCond .ne 5, 3) := by decide +kernel
theorem dX5_readInto_42 : decode cX5_readInto 42 = .ok (.iload_n 3, 1) := by decide +kernel
theorem dX5_readInto_43 : decode cX5_readInto 43 = .ok (.ireturn, 1) := by decide +kernel
theorem dX5_readInto_44 : decode cX5_readInto 44 = .ok (.iinc 2 1, 3) := by decide +kernel
theorem dX5_readInto_47 : decode cX5_readInto 47 = .ok (.goto (-36), 3) := by decide +kernel
theorem dX5_readInto_50 : decode cX5_readInto 50 = .ok (.bipush (-4), 2) := by decide +kernel
theorem dX5_readInto_52 : decode cX5_readInto 52 = .ok (.ireturn, 1) := by decide +kernel
set_option maxHeartbeats 4000000 in
set_option maxRecDepth 20000 in
theorem c_X5_readInto : ConI mX5_readInto (fun args N lay r h Q => ∃ (x : Nat) (n : Int) (tx : Int → Int) (p : Nat) (f0 : Int → Int), args = [.ref x, .ref p] ∧ TxAt lay r x ∧ CT h x n tx ∧ (∀ j, 0 ≤ j → j < n → 0 ≤ tx j ∧ tx j < 65536) ∧ PlAt lay r p ∧ (x + 3 ≤ p ∨ p + 14 ≤ x) ∧ ∀ h2, Fr h h2 (fun y => y = x ∨ y = x + 2 ∨ y = p + 4 ∨ y = p ∨ y = p + 1 ∨ y = p + 2 ∨ y = p + 3 ∨ y = p + 9 ∨ y = p + 10) → h2 x = up (h x) 2 (h2 x 2) → ((rds n tx 201 0 (bgn f0)).1 = -4 → TlI (rds n tx 201 0 (bgn f0)).2 ∧ PTr h2 p (rds n tx 201 0 (bgn f0)).2 ∧ PRl h2 p (rds n tx 201 0 (bgn f0)).2) → Q (rds n tx 201 0 (bgn f0)).1 N lay r h2) := by
  refine ConI.of (by decide) (by rintro _ N lay r h Q ⟨x, n, tx, p, f0, rfl, hX, hC, hch, hA, hD, hQ⟩; exact ⟨rfl, Nat.le_of_ble_eq_true rfl⟩) ?_
  rintro E _ N lay r h Q ⟨x, n, tx, p, f0, rfl, hX, hC, hch, hA, hD, hQ⟩ hret
  obtain ⟨xl0, xl1, xl2, xr1, xr3⟩ := id hX
  obtain ⟨n0, nr, nx⟩ := id hC
  obtain ⟨pl0, pl1, pl2, pl3, pl4, pl5, pl6, pl7, pl8, pl9, pl10, pl11, pl12, pl13, pr0, pr1, pr2, pr3, pr9, pr10, pr11, qr3, qr4, vr1, vr2, vr3, vr4⟩ := id hA
  have hB0 : TlI (bgn f0) := TlI_0
  show St E mX5_readInto 0 [some (.ref x), some (.ref p), none, none] [] (0, 0) N lay r h
  have lp : ∀ (n_ : Nat) (it : Int) (i : Int) (tl : Int → Int) (hk : HpT) (x3 : Option Value), (200 - it).toNat = n_ → (0 ≤ it ∧ it ≤ 200) → (2 * it ≤ i ∧ i ≤ 500) → (Fr h hk (fun y => y = x ∨ y = x + 2 ∨ y = p + 4 ∨ y = p ∨ y = p + 1 ∨ y = p + 2 ∨ y = p + 3 ∨ y = p + 9 ∨ y = p + 10)) → (hk x = up (h x) 2 i) → (PTr hk p tl) → (PRl hk p tl) → (TlI tl) → (rds n tx 201 0 (bgn f0) = rds n tx (201 - it.toNat) i tl) → St E mX5_readInto 11 [some (.ref x), some (.ref p), some (vI it), x3] [] (0, 0) N lay r hk := by
    intro  n_
    induction n_ using Nat.strongRecOn with
    | ind n_ ih =>
      intro it i tl hk x3 hn_ hit hi hf hx TR RL hI hrd
      have CTk : CT hk x n tx := hC.of (by rw [hx, up_n (by omega)]) (hf _ (by omega))
      have atk : hk x 2 = i := by rw [hx, up_s]
      have lnk : hk x 0 = n := CTk.1
      obtain ⟨fu, hfu⟩ : ∃ fu : Nat, 201 - it.toNat = fu + 1 := ⟨200 - it.toNat, by omega⟩
      rw [hfu] at hrd
      have e1 : rds n tx (fu + 1) i tl = if n ≤ i then (-4, tl) else if (rdI n tx (tx i) (i + 1) tl).1 < 0 ∨ ltr n tx (rdI n tx (tx i) (i + 1) tl).1 ≠ 59 then (i, (rdI n tx (tx i) (i + 1) tl).2) else rds n tx fu ((rdI n tx (tx i) (i + 1) tl).1 + 1) (rdI n tx (tx i) (i + 1) tl).2 := rfl
      have rb := rdI_b (n := n) (tx := tx) (ch := tx i) (i := i + 1) (tl := tl)
      have rI := rdI_I (n := n) (tx := tx) (ch := tx i) (i := i + 1) hI (by omega)
      refine r_iload_2 (pc := 11) dX5_readInto_11 ?_
      refine r_sipush (pc := 12) dX5_readInto_12 (by decide) ?_
      refine r_icmp_ge (pc := 15) (tgt := 50) dX5_readInto_15 (by decide) (by omega) (by omega) (fun c_15 => ?_) (fun c_15 => ?_)
      · refine r_bipush (pc := 50) dX5_readInto_50 (by decide) ?_
        refine r_iret (pc := 52) hret dX5_readInto_52 rfl rfl rfl ?_
        have k9 : n ≤ i := by omega
        rw [e1, if_pos k9] at hrd
        rw [hrd] at hQ
        exact hQ hk hf (by rw [hx, up_s]) (fun _ => ⟨hI, TR, RL⟩)
      · refine r_aload_0 (pc := 18) dX5_readInto_18 ?_
        refine gf_X5_28 (pc := 19) rfl (by assumption) dX5_readInto_19 (fun i_19 => ?_)
        refine r_aload_0 (pc := 22) dX5_readInto_22 ?_
        refine gf_X5_19 (pc := 23) rfl (by assumption) dX5_readInto_23 (fun i_23 => ?_)
        refine r_icmp_ge (pc := 26) (tgt := 50) dX5_readInto_26 (by decide) (by omega) (by omega) (fun c_26 => ?_) (fun c_26 => ?_)
        · refine r_bipush (pc := 50) dX5_readInto_50 (by decide) ?_
          refine r_iret (pc := 52) hret dX5_readInto_52 rfl rfl rfl ?_
          have k9 : n ≤ i := by omega
          rw [e1, if_pos k9] at hrd
          rw [hrd] at hQ
          exact hQ hk hf (by rw [hx, up_s]) (fun _ => ⟨hI, TR, RL⟩)
        · refine r_aload_0 (pc := 29) dX5_readInto_29 ?_
          refine gf_X5_28 (pc := 30) rfl (by assumption) dX5_readInto_30 (fun i_30 => ?_)
          refine r_istore_3 (pc := 33) dX5_readInto_33 rfl ?_
          refine r_aload_0 (pc := 34) dX5_readInto_34 ?_
          refine r_aload_1 (pc := 35) dX5_readInto_35 ?_
          refine k_VI1 (pc := 36) c_X5_readItem lk_X5_31 ⟨Nat.le_of_ble_eq_true rfl, Nat.le_of_ble_eq_true rfl⟩ ⟨rfl, rfl⟩ ⟨Nat.le_of_ble_eq_true rfl, Nat.le_of_ble_eq_true rfl⟩ (k := 5) rfl (by decide) (by assumption) dX5_readInto_36 (Nat.le_of_ble_eq_true rfl) ?_
          refine ⟨_, n, tx, _, tl, i, rfl, hX, CTk, atk, by omega, hch i (by omega) (by omega), hA, hD, hI, TR, RL, fun g_36 h_36 f_36 o_36 => ?_, fun g_36 h_36 f_36 o_36 t_36 l_36 => ?_⟩
          · refine r_ifne_F (pc := 39) (tgt := 44) dX5_readInto_39 (by decide) (by decide) ?_
            refine r_iload_3 (pc := 42) dX5_readInto_42 ?_
            refine r_iret (pc := 43) hret dX5_readInto_43 rfl rfl rfl ?_
            have k9 : ¬ n ≤ i := by omega
            have k8 : (rdI n tx (tx i) (i + 1) tl).1 < 0 ∨ ltr n tx (rdI n tx (tx i) (i + 1) tl).1 ≠ 59 := by
              rcases Int.lt_or_le (rdI n tx (tx i) (i + 1) tl).1 0 with z | z
              · exact Or.inl z
              · exact Or.inr (fun y => g_36 ⟨z, y⟩)
            rw [e1, if_neg k9, if_pos k8] at hrd
            rw [hrd] at hQ
            rw [atk]
            exact hQ h_36 (fun y hy => (f_36 y (by omega)).trans (hf y hy)) (by rw [o_36, hx, up_up, up_s]) (fun z => by dsimp only at z; omega)
          · refine r_ifne_T (pc := 39) (tgt := 44) dX5_readInto_39 (by decide) (by decide) ?_
            refine r_iinc_2 (pc := 44) dX5_readInto_44 rfl ?_
            refine r_goto (pc := 47) (tgt := 11) dX5_readInto_47 (by decide) ?_
            have k9 : ¬ n ≤ i := by omega
            have k8 : ¬ ((rdI n tx (tx i) (i + 1) tl).1 < 0 ∨ ltr n tx (rdI n tx (tx i) (i + 1) tl).1 ≠ 59) := fun z => by
              rcases z with z | z
              · have := g_36.1; omega
              · exact z g_36.2
            rw [e1, if_neg k9, if_neg k8] at hrd
            have g1 := g_36.1
            refine ih _ (by omega) (it + 1) ((rdI n tx (tx i) (i + 1) tl).1 + 1) (rdI n tx (tx i) (i + 1) tl).2 h_36 _ rfl (by omega) (by omega) (fun y hy => (f_36 y (by omega)).trans (hf y hy)) (by rw [o_36, hx, up_up]) t_36 l_36 (rI g1) ?_
            rw [hrd, show 201 - (it + 1).toNat = fu by omega]
  refine r_aload_1 (pc := 0) dX5_readInto_0 ?_
  refine k_VV0 (pc := 1) c_X3_clear lk_X5_23 ⟨Nat.le_of_ble_eq_true rfl, Nat.le_of_ble_eq_true rfl⟩ ⟨rfl, rfl⟩ ⟨Nat.le_of_ble_eq_true rfl, Nat.le_of_ble_eq_true rfl⟩ (k := 3) rfl (by decide) (by assumption) dX5_readInto_1 (Nat.le_of_ble_eq_true rfl) ?_
  refine ⟨_, rfl, by assumption, fun h_1 f_1 a_1 => ?_⟩
  refine r_aload_0 (pc := 4) dX5_readInto_4 ?_
  refine r_iconst (pc := 5) dX5_readInto_5 ?_
  refine pf_X5_28 (pc := 6) rfl (by assumption) dX5_readInto_6 (by omega) ?_
  refine r_iconst (pc := 9) dX5_readInto_9 ?_
  refine r_istore_2 (pc := 10) dX5_readInto_10 rfl ?_
  refine lp _ 0 0 (bgn f0) _ _ rfl (by omega) (by omega) (fun y hy => by rw [hr_n (by omega)]; exact f_1 y (by omega)) (by rw [hr_s, f_1 _ (by omega)]) ?_ ?_ hB0 rfl
  · exact (a_1 f0).1.of (hr_n (by omega)) (hr_n (by omega)) (hr_n (by omega))
  · exact (a_1 f0).2.of (hr_n (by omega)) (hr_n (by omega)) (hr_n (by omega)) (hr_n (by omega)) (hr_n (by omega)) (hr_n (by omega)) (hr_n (by omega))

