/-! THE TEXT of the class: numbers -/
theorem dX5_readNumbers_0 : decode cX5_readNumbers 0 = .ok (.iconst 0, 1) := by decide +kernel
theorem dX5_readNumbers_1 : decode cX5_readNumbers 1 = .ok (.istore_n 2, 1) := by decide +kernel
theorem dX5_readNumbers_2 : decode cX5_readNumbers 2 = .ok (.iload_n 2, 1) := by decide +kernel
theorem dX5_readNumbers_3 : decode cX5_readNumbers 3 = .ok (.iload_n 1, 1) := by decide +kernel
theorem dX5_readNumbers_4 : decode cX5_readNumbers 4 = .ok (.if_icmp .ge 70, 3) := by decide +kernel
theorem dX5_readNumbers_7 : decode cX5_readNumbers 7 = .ok (.iload_n 2, 1) := by decide +kernel
theorem dX5_readNumbers_8 : decode cX5_readNumbers 8 = .ok (.ifCond .le 14, 3) := by decide +kernel
theorem dX5_readNumbers_11 : decode cX5_readNumbers 11 = .ok (.aload_n 0, 1) := by decide +kernel
theorem dX5_readNumbers_12 : decode cX5_readNumbers 12 = .ok (.bipush 44, 2) := by decide +kernel
theorem dX5_readNumbers_14 : decode cX5_readNumbers 14 = .ok (.invokevirtual 43, 3) := by decide +kernel
theorem dX5_readNumbers_17 : decode cX5_readNumbers 17 = .ok (.ifCond .ne 5, 3) := by decide +kernel
theorem dX5_readNumbers_20 : decode cX5_readNumbers 20 = .ok (.iconst 0, 1) := by decide +kernel
theorem dX5_readNumbers_21 : decode cX5_readNumbers 21 = .ok (.ireturn, 1) := by decide +kernel
theorem dX5_readNumbers_22 : decode cX5_readNumbers 22 = .ok (.aload_n 0, 1) := by decide +kernel
theorem dX5_readNumbers_23 : decode cX5_readNumbers 23 = .ok (.invokevirtual 51, 3) := by decide +kernel
theorem dX5_readNumbers_26 : decode cX5_readNumbers 26 = .ok (.ifCond .ne 5, 3) := by decide +kernel
theorem dX5_readNumbers_29 : decode cX5_readNumbers 29 = .ok (.iconst 0, 1) := by decide +kernel
theorem dX5_readNumbers_30 : decode cX5_readNumbers 30 = .ok (.ireturn, 1) := by decide +kernel
theorem dX5_readNumbers_31 : decode cX5_readNumbers 31 = .ok (.aload_n 0, 1) := by decide +kernel
theorem dX5_readNumbers_32 : decode cX5_readNumbers 32 = .ok (.getfield 15, 3) := by decide +kernel
theorem dX5_readNumbers_35 : decode cX5_readNumbers 35 = .ok (.iload_n 2, 1) := by decide +kernel
theorem dX5_readNumbers_36 : decode cX5_readNumbers 36 = .ok (.aload_n 0, 1) := by decide +kernel
theorem dX5_readNumbers_37 : decode cX5_readNumbers 37 = .ok (.invokevirtual 55, 3) := by decide +kernel
theorem dX5_readNumbers_40 : decode cX5_readNumbers 40 = .ok (.iastore, 1) := by decide +kernel
theorem dX5_readNumbers_41 : decode cX5_readNumbers 41 = .ok (.aload_n 0, 1) := by decide +kernel
theorem dX5_readNumbers_42 : decode cX5_readNumbers 42 = .ok (.invokevirtual 51, 3) := by decide +kernel
theorem dX5_readNumbers_45 : decode cX5_readNumbers 45 = .ok (.ifCond .eq 23, 3) := by decide +kernel
theorem dX5_readNumbers_48 : decode cX5_readNumbers 48 = .ok (.aload_n 0, 1) := by decide +kernel
theorem dX5_readNumbers_49 : decode cX5_readNumbers 49 = .ok (.getfield 15, 3) := by decide +kernel
theorem dX5_readNumbers_52 : decode cX5_readNumbers 52 = .ok (.iload_n 2, 1) := by decide +kernel
theorem dX5_readNumbers_53 : decode cX5_readNumbers 53 = .ok (.bipush 10, 2) := by decide +kernel
theorem dX5_readNumbers_55 : decode cX5_readNumbers 55 = .ok (.aload_n 0, 1) := by decide +kernel
theorem dX5_readNumbers_56 : decode cX5_readNumbers 56 = .ok (.getfield 15, 3) := by decide +kernel
theorem dX5_readNumbers_59 : decode cX5_readNumbers 59 = .ok (.iload_n 2, 1) := by decide +kernel
theorem dX5_readNumbers_60 : decode cX5_readNumbers 60 = .ok (.iaload, 1) := by decide +kernel
theorem dX5_readNumbers_61 : decode cX5_readNumbers 61 = .ok (.imul, 1) := by decide +kernel
theorem dX5_readNumbers_62 : decode cX5_readNumbers 62 = .ok (.aload_n 0, 1) := by decide +kernel
theorem dX5_readNumbers_63 : decode cX5_readNumbers 63 = .ok (.invokevirtual 55, 3) := by decide +kernel
theorem dX5_readNumbers_66 : decode cX5_readNumbers 66 = .ok (.iadd, 1) := by decide +kernel
theorem dX5_readNumbers_67 : decode cX5_readNumbers 67 = .ok (.iastore, 1) := by decide +kernel
theorem dX5_readNumbers_68 : decode cX5_readNumbers 68 = .ok (.iinc 2 1, 3) := by decide +kernel
theorem dX5_readNumbers_71 : decode cX5_readNumbers 71 = .ok (.goto (-69), 3) := by decide +kernel
theorem dX5_readNumbers_74 : decode cX5_readNumbers 74 = .ok (.iconst 1, 1) := by decide +kernel
theorem dX5_readNumbers_75 : decode cX5_readNumbers 75 = .ok (.ireturn, 1) := by decide +kernel
set_option maxHeartbeats 4000000 in
set_option maxRecDepth 20000 in
theorem c_X5_readNumbers : ConI mX5_readNumbers (fun args N lay r h Q => ∃ (x : Nat) (n : Int) (tx : Int → Int) (i : Int) (many : Nat), args = [.ref x, vI (many : Int)] ∧ TxAt lay r x ∧ CT h x n tx ∧ h x 2 = i ∧ (0 ≤ i ∧ i ≤ 500) ∧ many ≤ 3 ∧ (¬ RnO n tx i many = true → ∀ a f, Q 0 N lay r (hr (hr h x (up (h x) 2 a)) (x + 2) f)) ∧ (RnO n tx i many = true → ∀ f, (∀ j : Nat, j < many → f j = nmV n tx (RnP n tx i j)) → Q 1 N lay r (hr (hr h x (up (h x) 2 (RnA n tx i many))) (x + 2) f))) := by
  refine ConI.of (by decide) (by rintro _ N lay r h Q ⟨x, n, tx, i, many, rfl, hX, hC, hi, hir, hmm, hB, hQ⟩; exact ⟨rfl, Nat.le_of_ble_eq_true rfl⟩) ?_
  rintro E _ N lay r h Q ⟨x, n, tx, i, many, rfl, hX, hC, hi, hir, hmm, hB, hQ⟩ hret
  obtain ⟨xl0, xl1, xl2, xr1, xr3⟩ := id hX
  obtain ⟨n0, nr, nx⟩ := id hC
  show St E mX5_readNumbers 0 [some (.ref x), some (vI (many : Int)), none] [] (0, 0) N lay r h
  have mid : ∀ (k m : Nat) (f : Int → Int), m < many → many ≤ 3 → k = 3 - m → RnO n tx i m = true → (0 < m → ltr n tx (RnA n tx i m) = 44) → (∀ j : Nat, j < m → f j = nmV n tx (RnP n tx i j)) →
      (∀ g, RnO n tx i (m + 1) = true → (∀ j : Nat, j < m + 1 → g j = nmV n tx (RnP n tx i j)) → St E mX5_readNumbers 2 [some (.ref x), some (vI (many : Int)), some (vI ((m : Int) + 1))] [] (0, 0) N lay r (hr (hr h x (up (h x) 2 (RnA n tx i (m + 1)))) (x + 2) g)) →
      St E mX5_readNumbers 22 [some (.ref x), some (vI (many : Int)), some (vI (m : Int))] [] (0, 0) N lay r (hr (hr h x (up (h x) 2 (RnP n tx i m))) (x + 2) f) := by
    intro k m f hm hmm _ hok hcm hnu K
    have pr := RnP_r (n := n) (tx := tx) (i := i) m
    have ar := RnA_r (n := n) (tx := tx) (i := i) m
    have er := nmE_r (n := n) (tx := tx) (i := RnP n tx i m)
    have CT_0 : ∀ a g, CT (hr (hr h x (up (h x) 2 a)) (x + 2) g) x n tx := fun a g => hC.of (by rw [hr2, up_n (by omega)]) (by rw [hr_n (by omega), hr_n (by omega)])
    have at_0 : ∀ a g, hr (hr h x (up (h x) 2 a)) (x + 2) g x 2 = a := fun a g => by rw [hr2, up_s]
    have pp : ∀ a b g, hr (hr (hr h x (up (h x) 2 a)) (x + 2) g) x (up (hr (hr h x (up (h x) 2 a)) (x + 2) g x) 2 b) = hr (hr h x (up (h x) 2 b)) (x + 2) g := fun a b g => by rw [hr2, up_up, hr_c (show x + 2 ≠ x by omega), hr_hr]
    have rw0 : ∀ a g, hr (hr h x (up (h x) 2 a)) (x + 2) g (x + 2) = g := fun a g => hr_s
    have pk := RnP_A (n := n) (tx := tx) (i := i) (k := m)
    generalize hP : RnP n tx i m = P at pr er ⊢
    have fg : fig n tx P → fig n tx (RnP n tx i m) := fun z => by rw [hP]; exact z
    refine r_aload_0 (pc := 22) dX5_readNumbers_22 ?_
    refine k_VI0 (pc := 23) c_X5_isDigitNext lk_X5_51 ⟨Nat.le_of_ble_eq_true rfl, Nat.le_of_ble_eq_true rfl⟩ ⟨rfl, rfl⟩ ⟨Nat.le_of_ble_eq_true rfl, Nat.le_of_ble_eq_true rfl⟩ (k := 5) rfl (by decide) (by assumption) dX5_readNumbers_23 (Nat.le_of_ble_eq_true rfl) ?_
    refine ⟨_, _, _, rfl, hX, CT_0 _ _, (by rw [at_0]; omega), ?_⟩
    rw [at_0]
    refine r_ifne_b (pc := 26) (tgt := 31) dX5_readNumbers_26 (by decide) (fun c_26 => ?_) (fun c_26 => ?_)
    · have f1 := fig_in c_26
      have f2 := c_26.1
      have f3 := c_26.2
      refine r_aload_0 (pc := 31) dX5_readNumbers_31 ?_
      refine gf_X5_15 (pc := 32) rfl (by assumption) dX5_readNumbers_32 (by assumption) ?_
      refine r_iload_2 (pc := 35) dX5_readNumbers_35 ?_
      refine r_aload_0 (pc := 36) dX5_readNumbers_36 ?_
      refine k_VI0 (pc := 37) c_X5_readDigit lk_X5_55 ⟨Nat.le_of_ble_eq_true rfl, Nat.le_of_ble_eq_true rfl⟩ ⟨rfl, rfl⟩ ⟨Nat.le_of_ble_eq_true rfl, Nat.le_of_ble_eq_true rfl⟩ (k := 5) rfl (by decide) (by assumption) dX5_readNumbers_37 (Nat.le_of_ble_eq_true rfl) ?_
      refine ⟨_, _, _, rfl, hX, CT_0 _ _, (by rw [at_0]; omega), ?_⟩
      rw [at_0, pp]
      have ef : RnA n tx i (m + 1) = nmE n tx P := by show nmE n tx (RnP n tx i m) = _; rw [hP]
      refine r_iastE (pc := 40) (by assumption) (by first | exact hr_s | assumption) dX5_readNumbers_40 (by omega) (by omega) (by omega) ?_
      rw [hr_hr]
      refine r_aload_0 (pc := 41) dX5_readNumbers_41 ?_
      refine k_VI0 (pc := 42) c_X5_isDigitNext lk_X5_51 ⟨Nat.le_of_ble_eq_true rfl, Nat.le_of_ble_eq_true rfl⟩ ⟨rfl, rfl⟩ ⟨Nat.le_of_ble_eq_true rfl, Nat.le_of_ble_eq_true rfl⟩ (k := 5) rfl (by decide) (by assumption) dX5_readNumbers_42 (Nat.le_of_ble_eq_true rfl) ?_
      refine ⟨_, _, _, rfl, hX, CT_0 _ _, (by rw [at_0]; omega), ?_⟩
      rw [at_0]
      refine r_ifeq_b (pc := 45) (tgt := 68) dX5_readNumbers_45 (by decide) (fun c_45 => ?_) (fun c_45 => ?_)
      · try rw [hr_hr, up_up]
        refine r_iinc_2 (pc := 68) dX5_readNumbers_68 rfl ?_
        refine r_goto (pc := 71) (tgt := 2) dX5_readNumbers_71 (by decide) ?_
        first
        | (have k9 : fig n tx (P + 1) := c_45
           have q1 : nmE n tx P = P + 2 := if_pos k9
           have q2 : nmV n tx P = 10 * (ltr n tx P - 48) + ltr n tx (P + 1) - 48 := if_pos k9
           have q9 := K _ (RnO_s.mpr ⟨hok, hcm, fg c_26⟩) (fun j hj => (show up f m (10 * (ltr n tx P - 48) + (ltr n tx (P + 1) - 48)) j = nmV n tx (RnP n tx i j) by
             by_cases e : j = m
             · subst e; rw [hP, q2, up_s]; omega
             · rw [up_n (by omega)]; exact hnu j (by omega)))
           rw [ef, q1, show P + 2 = P + 1 + 1 by omega] at q9
           exact q9)
        | (have k9 : ¬ fig n tx (P + 1) := c_45
           have q1 : nmE n tx P = P + 1 := if_neg k9
           have q2 : nmV n tx P = ltr n tx P - 48 := if_neg k9
           have q9 := K _ (RnO_s.mpr ⟨hok, hcm, fg c_26⟩) (fun j hj => (show up f m (ltr n tx P - 48) j = nmV n tx (RnP n tx i j) by
             by_cases e : j = m
             · subst e; rw [hP, q2, up_s]
             · rw [up_n (by omega)]; exact hnu j (by omega)))
           rw [ef, q1] at q9
           exact q9)
      · have f4 := fig_in c_45
        have f5 := c_45.1
        have f6 := c_45.2
        refine r_aload_0 (pc := 48) dX5_readNumbers_48 ?_
        refine gf_X5_15 (pc := 49) rfl (by assumption) dX5_readNumbers_49 (by assumption) ?_
        refine r_iload_2 (pc := 52) dX5_readNumbers_52 ?_
        refine r_bipush (pc := 53) dX5_readNumbers_53 (by decide) ?_
        refine r_aload_0 (pc := 55) dX5_readNumbers_55 ?_
        refine gf_X5_15 (pc := 56) rfl (by assumption) dX5_readNumbers_56 (by assumption) ?_
        refine r_iload_2 (pc := 59) dX5_readNumbers_59 ?_
        refine r_ialdE (pc := 60) (by assumption) (by first | exact hr_s | assumption) dX5_readNumbers_60 (by omega) (by omega) (fun i_60 => ?_)
        rw [up_s] at i_60 ⊢
        refine r_imul (pc := 61) dX5_readNumbers_61 ?_
        refine r_aload_0 (pc := 62) dX5_readNumbers_62 ?_
        refine k_VI0 (pc := 63) c_X5_readDigit lk_X5_55 ⟨Nat.le_of_ble_eq_true rfl, Nat.le_of_ble_eq_true rfl⟩ ⟨rfl, rfl⟩ ⟨Nat.le_of_ble_eq_true rfl, Nat.le_of_ble_eq_true rfl⟩ (k := 5) rfl (by decide) (by assumption) dX5_readNumbers_63 (Nat.le_of_ble_eq_true rfl) ?_
        refine ⟨_, _, _, rfl, hX, CT_0 _ _, (by rw [at_0]; omega), ?_⟩
        rw [at_0, pp]
        refine r_iadd (pc := 66) dX5_readNumbers_66 ?_
        refine r_iastE (pc := 67) (by assumption) (by first | exact hr_s | assumption) dX5_readNumbers_67 (by omega) (by omega) (by omega) ?_
        try rw [hr_hr, up_up]
        refine r_iinc_2 (pc := 68) dX5_readNumbers_68 rfl ?_
        refine r_goto (pc := 71) (tgt := 2) dX5_readNumbers_71 (by decide) ?_
        first
        | (have k9 : fig n tx (P + 1) := c_45
           have q1 : nmE n tx P = P + 2 := if_pos k9
           have q2 : nmV n tx P = 10 * (ltr n tx P - 48) + ltr n tx (P + 1) - 48 := if_pos k9
           have q9 := K _ (RnO_s.mpr ⟨hok, hcm, fg c_26⟩) (fun j hj => (show up f m (10 * (ltr n tx P - 48) + (ltr n tx (P + 1) - 48)) j = nmV n tx (RnP n tx i j) by
             by_cases e : j = m
             · subst e; rw [hP, q2, up_s]; omega
             · rw [up_n (by omega)]; exact hnu j (by omega)))
           rw [ef, q1, show P + 2 = P + 1 + 1 by omega] at q9
           exact q9)
        | (have k9 : ¬ fig n tx (P + 1) := c_45
           have q1 : nmE n tx P = P + 1 := if_neg k9
           have q2 : nmV n tx P = ltr n tx P - 48 := if_neg k9
           have q9 := K _ (RnO_s.mpr ⟨hok, hcm, fg c_26⟩) (fun j hj => (show up f m (ltr n tx P - 48) j = nmV n tx (RnP n tx i j) by
             by_cases e : j = m
             · subst e; rw [hP, q2, up_s]
             · rw [up_n (by omega)]; exact hnu j (by omega)))
           rw [ef, q1] at q9
           exact q9)
    · refine r_iconst (pc := 29) dX5_readNumbers_29 ?_
      refine r_zret (pc := 30) hret dX5_readNumbers_30 rfl rfl rfl (by first | exact Or.inl rfl | exact Or.inr rfl | exact bI_01 | omega) ?_
      have k8 := RnO_m (n := n) (tx := tx) (i := i) (k := m + 1) (fun z => c_26 (by rw [← hP]; exact (RnO_s.mp z).2.2)) (many - (m + 1))
      rw [show m + 1 + (many - (m + 1)) = many by omega] at k8
      exact hB k8 _ _
  have lp : ∀ (n_ : Nat) (k : Int) (f : Int → Int), (3 - k).toNat = n_ → (0 ≤ k ∧ k ≤ many) → (RnO n tx i k.toNat = true) → (∀ j : Nat, j < k.toNat → f j = nmV n tx (RnP n tx i j)) → St E mX5_readNumbers 2 [some (.ref x), some (vI (many : Int)), some (vI k)] [] (0, 0) N lay r (hr (hr h x (up (h x) 2 (RnA n tx i k.toNat))) (x + 2) f) := by
    intro  n_
    induction n_ using Nat.strongRecOn with
    | ind n_ ih =>
      intro k f hn_ hk hok hnu
      obtain ⟨m, rfl⟩ : ∃ m : Nat, k = m := ⟨k.toNat, by omega⟩
      simp only [show ((m : Int)).toNat = m by omega] at hok hnu ⊢
      have pr := RnP_r (n := n) (tx := tx) (i := i) m
      have ar := RnA_r (n := n) (tx := tx) (i := i) m
      have er := nmE_r (n := n) (tx := tx) (i := RnP n tx i m)
      have CT_0 : ∀ a g, CT (hr (hr h x (up (h x) 2 a)) (x + 2) g) x n tx := fun a g => hC.of (by rw [hr2, up_n (by omega)]) (by rw [hr_n (by omega), hr_n (by omega)])
      have at_0 : ∀ a g, hr (hr h x (up (h x) 2 a)) (x + 2) g x 2 = a := fun a g => by rw [hr2, up_s]
      have pp : ∀ a b g, hr (hr (hr h x (up (h x) 2 a)) (x + 2) g) x (up (hr (hr h x (up (h x) 2 a)) (x + 2) g x) 2 b) = hr (hr h x (up (h x) 2 b)) (x + 2) g := fun a b g => by rw [hr2, up_up, hr_c (show x + 2 ≠ x by omega), hr_hr]
      have rw0 : ∀ a g, hr (hr h x (up (h x) 2 a)) (x + 2) g (x + 2) = g := fun a g => hr_s
      refine r_iload_2 (pc := 2) dX5_readNumbers_2 ?_
      refine r_iload_1 (pc := 3) dX5_readNumbers_3 ?_
      refine r_icmp_ge (pc := 4) (tgt := 74) dX5_readNumbers_4 (by decide) (by omega) (by omega) (fun c_4 => ?_) (fun c_4 => ?_)
      · refine r_iconst (pc := 74) dX5_readNumbers_74 ?_
        refine r_zret (pc := 75) hret dX5_readNumbers_75 rfl rfl rfl (by first | exact Or.inl rfl | exact Or.inr rfl | exact bI_01 | omega) ?_
        have k9 : m = many := by omega
        subst k9
        exact hQ hok f hnu
      · refine r_iload_2 (pc := 7) dX5_readNumbers_7 ?_
        refine r_if_le (pc := 8) (tgt := 22) dX5_readNumbers_8 (by decide) (by omega) (fun c_8 => ?_) (fun c_8 => ?_)
        · have k8 : m = 0 := by omega
          subst k8
          exact mid _ 0 f (by omega) (by omega) rfl hok (fun z => by omega) hnu (fun g g1 g2 => ih _ (by omega) (((0 : Nat) : Int) + 1) g rfl (by omega) (by rw [show (((0 : Nat) : Int) + 1).toNat = 0 + 1 by omega]; exact g1) (by rw [show (((0 : Nat) : Int) + 1).toNat = 0 + 1 by omega]; exact g2))
        · refine r_aload_0 (pc := 11) dX5_readNumbers_11 ?_
          refine r_bipush (pc := 12) dX5_readNumbers_12 (by decide) ?_
          refine k_VI1 (pc := 14) c_X5_accept lk_X5_43 ⟨Nat.le_of_ble_eq_true rfl, Nat.le_of_ble_eq_true rfl⟩ ⟨rfl, rfl⟩ ⟨Nat.le_of_ble_eq_true rfl, Nat.le_of_ble_eq_true rfl⟩ (k := 5) rfl (by decide) (by assumption) dX5_readNumbers_14 (Nat.le_of_ble_eq_true rfl) ?_
          refine ⟨_, _, _, _, rfl, hX, CT_0 _ _, (by rw [at_0]; omega), by omega, fun g_14 => ?_, fun g_14 => ?_⟩
          · rw [at_0] at g_14
            refine r_ifne_F (pc := 17) (tgt := 22) dX5_readNumbers_17 (by decide) (by decide) ?_
            refine r_iconst (pc := 20) dX5_readNumbers_20 ?_
            refine r_zret (pc := 21) hret dX5_readNumbers_21 rfl rfl rfl (Or.inl rfl) ?_
            have k8 := RnO_m (n := n) (tx := tx) (i := i) (k := m + 1) (fun z => g_14 ((RnO_s.mp z).2.1 (by omega))) (many - (m + 1))
            rw [show m + 1 + (many - (m + 1)) = many by omega] at k8
            exact hB k8 _ _
          rw [at_0] at g_14 ⊢
          rw [pp]
          refine r_ifne_T (pc := 17) (tgt := 22) dX5_readNumbers_17 (by decide) (by decide) ?_
          have q9 := mid _ m f (by omega) (by omega) rfl hok (fun _ => g_14) hnu (fun g g1 g2 => by
            have q8 := ih _ (by omega) ((m : Int) + 1) g rfl (by omega) (by rw [show ((m : Int) + 1).toNat = m + 1 by omega]; exact g1) (by rw [show ((m : Int) + 1).toNat = m + 1 by omega]; exact g2)
            rw [show ((m : Int) + 1).toNat = m + 1 by omega] at q8
            exact q8)
          rw [RnP_A (by omega)] at q9
          exact q9
  refine r_iconst (pc := 0) dX5_readNumbers_0 ?_
  refine r_istore_2 (pc := 1) dX5_readNumbers_1 rfl ?_
  have e0 := lp _ 0 (h (x + 2)) rfl (by omega) rfl (fun j hj => absurd hj (Nat.not_lt_zero _))
  rw [show hr (hr h x (up (h x) 2 (RnA n tx i (Int.toNat 0)))) (x + 2) (h (x + 2)) = h by
    show hr (hr h x (up (h x) 2 i)) (x + 2) (h (x + 2)) = h
    rw [← hi, up_id, hr_id, hr_id]] at e0
  exact e0

