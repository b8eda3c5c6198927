/-! THE TEXT of the class: an item, the whole text -/
def nbr (ch : Int) : Nat := if ch = 100 then 2 else if ch = 99 then 3 else if ch = 116 then 1 else 0
theorem nbr_e (ch : Int) : (if ch = 100 then (2 : Int) else if ch = 99 then 3 else if ch = 116 then 1 else 0) = ((nbr ch : Nat) : Int) := by
  unfold nbr
  split
  · rfl
  · split
    · rfl
    · split <;> rfl
theorem nbr_3 (ch : Int) : nbr ch ≤ 3 := by
  unfold nbr
  split
  · omega
  · split
    · omega
    · split <;> omega
theorem nmV_r {n : Int} {tx : Int → Int} {i : Int} (h : fig n tx i) : 0 ≤ nmV n tx i ∧ nmV n tx i ≤ 99 := by
  unfold nmV
  have := h.1
  have := h.2
  split
  · rename_i q
    have := q.1
    have := q.2
    omega
  · omega
theorem nm_pos {n : Int} {tx : Int → Int} {i lo hi : Int} (h : 0 ≤ lo) : 0 ≤ nm n tx i lo hi ↔ fig n tx i ∧ lo ≤ nmV n tx i ∧ nmV n tx i ≤ hi := by
  unfold nm
  split
  · rename_i q
    exact ⟨fun _ => q, fun _ => by have := q.2.1; omega⟩
  · rename_i q
    exact ⟨fun z => by omega, fun z => absurd z q⟩
theorem nm_val {n : Int} {tx : Int → Int} {i lo hi : Int} (h : fig n tx i ∧ lo ≤ nmV n tx i ∧ nmV n tx i ≤ hi) : nm n tx i lo hi = nmV n tx i := if_pos h
def Gd (n : Int) (tx : Int → Int) (ch j : Int) (tl : Int → Int) : Prop := 0 ≤ (rdI n tx ch j tl).1 ∧ ltr n tx (rdI n tx ch j tl).1 = 59
theorem RnO_1 {n : Int} {tx : Int → Int} {i : Int} : RnO n tx i 1 = true ↔ fig n tx i := by
  rw [RnO_s]
  exact ⟨fun z => z.2.2, fun z => ⟨rfl, fun q => absurd q (Nat.lt_irrefl 0), z⟩⟩
theorem RnO_2 {n : Int} {tx : Int → Int} {i : Int} : RnO n tx i 2 = true ↔ fig n tx i ∧ ltr n tx (nmE n tx i) = 44 ∧ fig n tx (nmE n tx i + 1) := by
  rw [RnO_s, RnO_1]
  exact ⟨fun z => ⟨z.1, z.2.1 (by omega), z.2.2⟩, fun z => ⟨z.1, fun _ => z.2.1, z.2.2⟩⟩
theorem RnO_3 {n : Int} {tx : Int → Int} {i : Int} : RnO n tx i 3 = true ↔ (fig n tx i ∧ ltr n tx (nmE n tx i) = 44 ∧ fig n tx (nmE n tx i + 1)) ∧ ltr n tx (nmE n tx (nmE n tx i + 1)) = 44 ∧ fig n tx (nmE n tx (nmE n tx i + 1) + 1) := by
  rw [RnO_s, RnO_2]
  exact ⟨fun z => ⟨z.1, z.2.1 (by omega), z.2.2⟩, fun z => ⟨z.1, fun _ => z.2.1, z.2.2⟩⟩
/-- the class reads an item as the reference does -/
theorem Gd_1 {n : Int} {tx : Int → Int} {ch j : Int} {tl : Int → Int} (hI : TlI tl) (hj : 0 ≤ j) (g : Gd n tx ch j tl) : RnO n tx j (nbr ch) = true ∧ ltr n tx (RnA n tx j (nbr ch)) = 59 ∧ (rdI n tx ch j tl).1 = RnA n tx j (nbr ch) ∧ ∀ f : Int → Int, (∀ k : Nat, k < nbr ch → f k = nmV n tx (RnP n tx j k)) → okA ch f tl ∧ (rdI n tx ch j tl).2 = nwA ch f tl := by
  obtain ⟨g1, g2⟩ := g
  obtain ⟨t1, t2, t3, t4, t5, t6, t7⟩ := id hI.1
  by_cases c1 : ch = 104
  · subst c1
    rw [rdI_h rfl] at g1 g2 ⊢
    dsimp only at g1 g2 ⊢
    have k3 : ¬ 3 < tl 128 + 1 := fun z => by rw [if_pos z] at g1; omega
    rw [if_neg k3] at g1 g2 ⊢
    exact ⟨rfl, g2, rfl, fun f hf => ⟨Or.inl ⟨rfl, by omega⟩, rfl⟩⟩
  · by_cases c2 : ch = 114
    · subst c2
      rw [rdI_r rfl] at g1 g2 ⊢
      by_cases k : tl 128 = 0 ∨ tl 129 = 6
      · rw [if_pos k] at g1; dsimp only at g1; omega
      · rw [if_neg k] at g1 g2 ⊢
        exact ⟨rfl, g2, rfl, fun f hf => ⟨Or.inr (Or.inl ⟨rfl, by omega, by omega⟩), rfl⟩⟩
    · by_cases c3 : ch = 100
      · subst c3
        rw [rdI_d rfl] at g1 g2 ⊢
        unfold rdD at g1 g2 ⊢
        by_cases k : tl 129 ≠ 0 ∧ tl 130 ≠ 12 ∧ 0 ≤ nm n tx j 0 40 ∧ ltr n tx (nmE n tx j) = 44 ∧ 0 ≤ nm n tx (nmE n tx j + 1) 0 99
        · rw [if_pos k] at g1 g2 ⊢
          obtain ⟨k1, k2, k3, k4, k5⟩ := k
          have k6 := (nm_pos (by omega)).mp k3
          have k7 := (nm_pos (by omega)).mp k5
          refine ⟨RnO_2.mpr ⟨k6.1, k4, k7.1⟩, g2, rfl, fun f hf => ?_⟩
          have f0 : f 0 = nmV n tx j := hf 0 (show 0 < 2 by omega)
          have f1 : f 1 = nmV n tx (nmE n tx j + 1) := hf 1 (show 1 < 2 by omega)
          refine ⟨Or.inr (Or.inr (Or.inl ⟨rfl, by omega, by omega, by omega⟩)), ?_⟩
          show rdDk tl (nm n tx j 0 40) (nm n tx (nmE n tx j + 1) 0 99) = rdDk tl (f 0) (f 1)
          rw [nm_val k6, nm_val k7, f0, f1]
        · rw [if_neg k] at g1; dsimp only at g1; omega
      · by_cases c4 : ch = 99
        · subst c4
          rw [rdI_c rfl] at g1 g2 ⊢
          unfold rdR at g1 g2 ⊢
          by_cases k : 0 ≤ nm n tx j 1 4 ∧ ltr n tx (nmE n tx j) = 44 ∧ 0 ≤ nm n tx (nmE n tx j + 1) 1 3 ∧ ltr n tx (nmE n tx (nmE n tx j + 1)) = 44 ∧ 0 ≤ nm n tx (nmE n tx (nmE n tx j + 1) + 1) 0 1
          · rw [if_pos k] at g1 g2 ⊢
            obtain ⟨k1, k2, k3, k4, k5⟩ := k
            have k6 := (nm_pos (by omega)).mp k1
            have k7 := (nm_pos (by omega)).mp k3
            have k8 := (nm_pos (by omega)).mp k5
            refine ⟨RnO_3.mpr ⟨⟨k6.1, k2, k7.1⟩, k4, k8.1⟩, g2, rfl, fun f hf => ?_⟩
            have f0 : f 0 = nmV n tx j := hf 0 (show 0 < 3 by omega)
            have f1 : f 1 = nmV n tx (nmE n tx j + 1) := hf 1 (show 1 < 3 by omega)
            have f2 : f 2 = nmV n tx (nmE n tx (nmE n tx j + 1) + 1) := hf 2 (show 2 < 3 by omega)
            refine ⟨Or.inr (Or.inr (Or.inr (Or.inl ⟨rfl, by omega, by omega, by omega⟩))), ?_⟩
            show up (up (up tl 131 (nm n tx j 1 4)) 132 (nm n tx (nmE n tx j + 1) 1 3)) 133 (nm n tx (nmE n tx (nmE n tx j + 1) + 1) 0 1) = up (up (up tl 131 (f 0)) 132 (f 1)) 133 (f 2)
            rw [nm_val k6, nm_val k7, nm_val k8, f0, f1, f2]
          · rw [if_neg k] at g1; dsimp only at g1; omega
        · by_cases c5 : ch = 116
          · subst c5
            rw [rdI_t rfl] at g1 g2 ⊢
            dsimp only at g1 g2 ⊢
            by_cases k : nm n tx j 1 24 < 0
            · rw [if_pos k] at g1; omega
            · rw [if_neg k] at g1 g2 ⊢
              have k6 := (nm_pos (by omega)).mp (show 0 ≤ nm n tx j 1 24 by omega)
              refine ⟨RnO_1.mpr k6.1, g2, rfl, fun f hf => ?_⟩
              have f0 : f 0 = nmV n tx j := hf 0 (show 0 < 1 by omega)
              refine ⟨Or.inr (Or.inr (Or.inr (Or.inr ⟨rfl, by omega, by omega⟩))), ?_⟩
              show up tl 134 (nm n tx j 1 24) = up tl 134 (f 0)
              rw [nm_val k6, f0]
          · rw [rdI_o ⟨c1, c2, c3, c4, c5⟩] at g1; dsimp only at g1; omega
theorem Gd_2 {n : Int} {tx : Int → Int} {ch j : Int} {tl f : Int → Int} (hI : TlI tl) (hj : 0 ≤ j) (h1 : RnO n tx j (nbr ch) = true) (h2 : ltr n tx (RnA n tx j (nbr ch)) = 59) (hf : ∀ k : Nat, k < nbr ch → f k = nmV n tx (RnP n tx j k)) (h3 : okA ch f tl) : Gd n tx ch j tl := by
  obtain ⟨t1, t2, t3, t4, t5, t6, t7⟩ := id hI.1
  rcases h3 with ⟨rfl, k⟩ | ⟨rfl, k⟩ | ⟨rfl, k⟩ | ⟨rfl, k⟩ | ⟨rfl, k⟩
  · unfold Gd
    rw [rdI_h rfl, if_neg (show ¬ 3 < tl 128 + 1 by omega)]
    exact ⟨hj, h2⟩
  · unfold Gd
    rw [rdI_r rfl, if_neg (show ¬ (tl 128 = 0 ∨ tl 129 = 6) by omega)]
    exact ⟨hj, h2⟩
  · unfold Gd
    have q := RnO_2.mp h1
    have f0 : f 0 = nmV n tx j := hf 0 (show 0 < 2 by omega)
    have v1 := nmV_r q.2.2
    have e1 := nmE_r (n := n) (tx := tx) (i := j)
    have e2 := nmE_r (n := n) (tx := tx) (i := nmE n tx j + 1)
    rw [rdI_d rfl]
    unfold rdD
    rw [if_pos ⟨by omega, by omega, (nm_pos (by omega)).mpr ⟨q.1, by omega, by omega⟩, q.2.1, (nm_pos (by omega)).mpr ⟨q.2.2, by omega, by omega⟩⟩]
    exact ⟨by dsimp only; omega, h2⟩
  · unfold Gd
    have q := RnO_3.mp h1
    have f0 : f 0 = nmV n tx j := hf 0 (show 0 < 3 by omega)
    have f1 : f 1 = nmV n tx (nmE n tx j + 1) := hf 1 (show 1 < 3 by omega)
    have f2 : f 2 = nmV n tx (nmE n tx (nmE n tx j + 1) + 1) := hf 2 (show 2 < 3 by omega)
    have e1 := nmE_r (n := n) (tx := tx) (i := j)
    have e2 := nmE_r (n := n) (tx := tx) (i := nmE n tx j + 1)
    have e3 := nmE_r (n := n) (tx := tx) (i := nmE n tx (nmE n tx j + 1) + 1)
    rw [rdI_c rfl]
    unfold rdR
    rw [if_pos ⟨(nm_pos (by omega)).mpr ⟨q.1.1, by omega, by omega⟩, q.1.2.1, (nm_pos (by omega)).mpr ⟨q.1.2.2, by omega, by omega⟩, q.2.1, (nm_pos (by omega)).mpr ⟨q.2.2, by omega, by omega⟩⟩]
    exact ⟨by dsimp only; omega, h2⟩
  · unfold Gd
    have q := RnO_1.mp h1
    have f0 : f 0 = nmV n tx j := hf 0 (show 0 < 1 by omega)
    have e1 := nmE_r (n := n) (tx := tx) (i := j)
    rw [rdI_t rfl, if_neg (show ¬ nm n tx j 1 24 < 0 by have := (nm_pos (n := n) (tx := tx) (i := j) (lo := 1) (hi := 24) (by omega)).mpr ⟨q, by omega, by omega⟩; omega)]
    exact ⟨by dsimp only; omega, h2⟩
theorem dX5_readItem_0 : decode cX5_readItem 0 = .ok (.aload_n 0, 1) := by decide +kernel
theorem dX5_readItem_1 : decode cX5_readItem 1 = .ok (.getfield 9, 3) := by decide +kernel
theorem dX5_readItem_4 : decode cX5_readItem 4 = .ok (.aload_n 0, 1) := by decide +kernel
theorem dX5_readItem_5 : decode cX5_readItem 5 = .ok (.getfield 28, 3) := by decide +kernel
theorem dX5_readItem_8 : decode cX5_readItem 8 = .ok (.caload, 1) := by decide +kernel
theorem dX5_readItem_9 : decode cX5_readItem 9 = .ok (.istore_n 2, 1) := by decide +kernel
theorem dX5_readItem_10 : decode cX5_readItem 10 = .ok (.aload_n 0, 1) := by decide +kernel
theorem dX5_readItem_11 : decode cX5_readItem 11 = .ok (.dup, 1) := by decide +kernel
theorem dX5_readItem_12 : decode cX5_readItem 12 = .ok (.getfield 28, 3) := by decide +kernel
theorem dX5_readItem_15 : decode cX5_readItem 15 = .ok (.iconst 1, 1) := by decide +kernel
theorem dX5_readItem_16 : decode cX5_readItem 16 = .ok (.iadd, 1) := by decide +kernel
theorem dX5_readItem_17 : decode cX5_readItem 17 = .ok (.putfield 28, 3) := by decide +kernel
theorem dX5_readItem_20 : decode cX5_readItem 20 = .ok (.aload_n 0, 1) := by decide +kernel
theorem dX5_readItem_21 : decode cX5_readItem 21 = .ok (.iload_n 2, 1) := by decide +kernel
theorem dX5_readItem_22 : decode cX5_readItem 22 = .ok (.invokestatic 35, 3) := by decide +kernel
theorem dX5_readItem_25 : decode cX5_readItem 25 = .ok (.invokevirtual 39, 3) := by decide +kernel
theorem dX5_readItem_28 : decode cX5_readItem 28 = .ok (.ifCond .eq 25, 3) := by decide +kernel
theorem dX5_readItem_31 : decode cX5_readItem 31 = .ok (.aload_n 0, 1) := by decide +kernel
theorem dX5_readItem_32 : decode cX5_readItem 32 = .ok (.bipush 59, 2) := by decide +kernel
theorem dX5_readItem_34 : decode cX5_readItem 34 = .ok (.invokevirtual 43, 3) := by decide +kernel
theorem dX5_readItem_37 : decode cX5_readItem 37 = .ok (.ifCond .eq 16, 3) := by decide +kernel
theorem dX5_readItem_40 : decode cX5_readItem 40 = .ok (.aload_n 0, 1) := by decide +kernel
theorem dX5_readItem_41 : decode cX5_readItem 41 = .ok (.iload_n 2, 1) := by decide +kernel
theorem dX5_readItem_42 : decode cX5_readItem 42 = .ok (.aload_n 1, 1) := by decide +kernel
theorem dX5_readItem_43 : decode cX5_readItem 43 = .ok (.invokevirtual 47, 3) := by decide +kernel
theorem dX5_readItem_46 : decode cX5_readItem 46 = .ok (.ifCond .eq 7, 3) := by decide +kernel
theorem dX5_readItem_49 : decode cX5_readItem 49 = .ok (.iconst 1, 1) := by decide +kernel
theorem dX5_readItem_50 : decode cX5_readItem 50 = .ok (.goto 4, 3) := by decide +kernel
theorem dX5_readItem_53 : decode cX5_readItem 53 = .ok (.iconst 0, 1) := by decide +kernel
theorem dX5_readItem_54 : decode cX5_readItem 54 = .ok (.ireturn, 1) := by decide +kernel
set_option maxHeartbeats 4000000 in
set_option maxRecDepth 20000 in
theorem c_X5_readItem : ConI mX5_readItem (fun args N lay r h Q => ∃ (x : Nat) (n : Int) (tx : Int → Int) (p : Nat) (tl : Int → Int) (i : Int), args = [.ref x, .ref p] ∧ TxAt lay r x ∧ CT h x n tx ∧ h x 2 = i ∧ (0 ≤ i ∧ i < n) ∧ (0 ≤ tx i ∧ tx i < 65536) ∧ PlAt lay r p ∧ (x + 3 ≤ p ∨ p + 14 ≤ x) ∧ TlI tl ∧ PTr h p tl ∧ PRl h p tl ∧ (¬ Gd n tx (tx i) (i + 1) tl → ∀ h2, Fr h h2 (fun y => y = x ∨ y = x + 2 ∨ y = p ∨ y = p + 1 ∨ y = p + 2 ∨ y = p + 3 ∨ y = p + 9 ∨ y = p + 10) → h2 x = up (h x) 2 (h2 x 2) → Q 0 N lay r h2) ∧ (Gd n tx (tx i) (i + 1) tl → ∀ h2, Fr h h2 (fun y => y = x ∨ y = x + 2 ∨ y = p ∨ y = p + 1 ∨ y = p + 2 ∨ y = p + 3 ∨ y = p + 9 ∨ y = p + 10) → h2 x = up (h x) 2 ((rdI n tx (tx i) (i + 1) tl).1 + 1) → PTr h2 p (rdI n tx (tx i) (i + 1) tl).2 → PRl h2 p (rdI n tx (tx i) (i + 1) tl).2 → Q 1 N lay r h2)) := by
  refine ConI.of (by decide) (by rintro _ N lay r h Q ⟨x, n, tx, p, tl, i, rfl, hX, hC, hi, hir, htx, hA, hD, hI, hN, hL, hB, hQ⟩; exact ⟨rfl, Nat.le_of_ble_eq_true rfl⟩) ?_
  rintro E _ N lay r h Q ⟨x, n, tx, p, tl, i, rfl, hX, hC, hi, hir, htx, hA, hD, hI, hN, hL, hB, hQ⟩ hret
  obtain ⟨xl0, xl1, xl2, xr1, xr3⟩ := id hX
  obtain ⟨n0, nr, nx⟩ := id hC
  obtain ⟨pl0, pl1, pl2, pl3, pl4, pl5, pl6, pl7, pl8, pl9, pl10, pl11, pl12, pl13, pr0, pr1, pr2, pr3, pr9, pr10, pr11, qr3, qr4, vr1, vr2, vr3, vr4⟩ := id hA
  show St E mX5_readItem 0 [some (.ref x), some (.ref p), none] [] (0, 0) N lay r h
  refine r_aload_0 (pc := 0) dX5_readItem_0 ?_
  refine gf_X5_9 (pc := 1) rfl (by assumption) dX5_readItem_1 (by assumption) ?_
  refine r_aload_0 (pc := 4) dX5_readItem_4 ?_
  refine gf_X5_28 (pc := 5) rfl (by assumption) dX5_readItem_5 (fun i_5 => ?_)
  refine r_caldE (pc := 8) (by assumption) (by first | assumption | exact rfl) dX5_readItem_8 (by omega) (by omega) (fun i_8 => ?_)
  rw [hi, nx i hir.1 hir.2] at i_8 ⊢
  refine r_istore_2 (pc := 9) dX5_readItem_9 rfl ?_
  refine r_aload_0 (pc := 10) dX5_readItem_10 ?_
  first | refine r_dupI (pc := 11) dX5_readItem_11 ?_ | refine r_dupA (pc := 11) dX5_readItem_11 ?_
  refine gf_X5_28 (pc := 12) rfl (by assumption) dX5_readItem_12 (fun i_12 => ?_)
  refine r_iconst (pc := 15) dX5_readItem_15 ?_
  refine r_iadd (pc := 16) dX5_readItem_16 ?_
  refine pf_X5_28 (pc := 17) rfl (by assumption) dX5_readItem_17 (by omega) ?_
  rw [hi]
  have CT1 : CT (hr h x (up (h x) 2 (i + 1))) x n tx := hC.of (by rw [hr_s, up_n (by omega)]) (hr_n (by omega))
  have at1 : (hr h x (up (h x) 2 (i + 1))) x 2 = i + 1 := by rw [hr_s, up_s]
  refine r_aload_0 (pc := 20) dX5_readItem_20 ?_
  refine r_iload_2 (pc := 21) dX5_readItem_21 ?_
  refine k_SI1 (pc := 22) c_X5_numbersOf lk_X5_35 ⟨Nat.le_of_ble_eq_true rfl, Nat.le_of_ble_eq_true rfl⟩ ⟨rfl, rfl⟩ ⟨Nat.le_of_ble_eq_true rfl, Nat.le_of_ble_eq_true rfl⟩ dX5_readItem_22 (Nat.le_of_ble_eq_true rfl) ?_
  refine ⟨_, rfl, by omega, ?_⟩
  rw [nbr_e]
  refine k_VI1 (pc := 25) c_X5_readNumbers lk_X5_39 ⟨Nat.le_of_ble_eq_true rfl, Nat.le_of_ble_eq_true rfl⟩ ⟨rfl, rfl⟩ ⟨Nat.le_of_ble_eq_true rfl, Nat.le_of_ble_eq_true rfl⟩ (k := 5) rfl (by decide) (by assumption) dX5_readItem_25 (Nat.le_of_ble_eq_true rfl) ?_
  refine ⟨_, n, tx, i + 1, _, rfl, hX, CT1, at1, by omega, nbr_3 _, fun g_25 a_25 f_25 => ?_, fun g_25 f_25 a_25 => ?_⟩
  · refine r_ifeq_T (pc := 28) (tgt := 53) dX5_readItem_28 (by decide) (by decide) ?_
    refine r_iconst (pc := 53) dX5_readItem_53 ?_
    refine r_zret (pc := 54) hret dX5_readItem_54 rfl rfl rfl (by first | exact Or.inl rfl | exact Or.inr rfl | exact bI_01 | omega) ?_
    refine hB (fun z => g_25 (Gd_1 hI (by omega) z).1) _ (fun y hy => by rw [hr_n (by omega), hr_n (by omega), hr_n (by omega)]) ?_
    rw [hr_n (by omega), hr_s, hr_s, up_up, up_s]
  · refine r_ifeq_F (pc := 28) (tgt := 53) dX5_readItem_28 (by decide) (by decide) ?_
    rw [show hr (hr (hr h x (up (h x) 2 (i + 1))) x (up ((hr h x (up (h x) 2 (i + 1))) x) 2 (RnA n tx (i + 1) (nbr (tx i))))) (x + 2) f_25 = (hr (hr h x (up (h x) 2 (RnA n tx (i + 1) (nbr (tx i))))) (x + 2) f_25) by rw [hr_s, up_up, hr_hr]]
    have CT2 : CT (hr (hr h x (up (h x) 2 (RnA n tx (i + 1) (nbr (tx i))))) (x + 2) f_25) x n tx := hC.of (by rw [hr2, up_n (by omega)]) (by rw [hr_n (by omega), hr_n (by omega)])
    have at2 : (hr (hr h x (up (h x) 2 (RnA n tx (i + 1) (nbr (tx i))))) (x + 2) f_25) x 2 = (RnA n tx (i + 1) (nbr (tx i))) := by rw [hr2, up_s]
    have ar := RnA_r (n := n) (tx := tx) (i := i + 1) (nbr (tx i))
    have nb3 := nbr_3 (tx i)
    refine r_aload_0 (pc := 31) dX5_readItem_31 ?_
    refine r_bipush (pc := 32) dX5_readItem_32 (by decide) ?_
    refine k_VI1 (pc := 34) c_X5_accept lk_X5_43 ⟨Nat.le_of_ble_eq_true rfl, Nat.le_of_ble_eq_true rfl⟩ ⟨rfl, rfl⟩ ⟨Nat.le_of_ble_eq_true rfl, Nat.le_of_ble_eq_true rfl⟩ (k := 5) rfl (by decide) (by assumption) dX5_readItem_34 (Nat.le_of_ble_eq_true rfl) ?_
    refine ⟨_, n, tx, _, rfl, hX, CT2, (by rw [at2]; omega), by omega, fun g_34 => ?_, fun g_34 => ?_⟩
    · refine r_ifeq_T (pc := 37) (tgt := 53) dX5_readItem_37 (by decide) (by decide) ?_
      refine r_iconst (pc := 53) dX5_readItem_53 ?_
      refine r_zret (pc := 54) hret dX5_readItem_54 rfl rfl rfl (by first | exact Or.inl rfl | exact Or.inr rfl | exact bI_01 | omega) ?_
      refine hB (fun z => g_34 (by rw [at2]; exact (Gd_1 hI (by omega) z).2.1)) _ (fun y hy => by rw [hr_n (by omega), hr_n (by omega)]) ?_
      rw [hr_n (by omega), hr_s, up_s]
    · refine r_ifeq_F (pc := 37) (tgt := 53) dX5_readItem_37 (by decide) (by decide) ?_
      rw [show hr (hr (hr h x (up (h x) 2 (RnA n tx (i + 1) (nbr (tx i))))) (x + 2) f_25) x (up ((hr (hr h x (up (h x) 2 (RnA n tx (i + 1) (nbr (tx i))))) (x + 2) f_25) x) 2 ((hr (hr h x (up (h x) 2 (RnA n tx (i + 1) (nbr (tx i))))) (x + 2) f_25) x 2 + 1)) = (hr (hr h x (up (h x) 2 ((RnA n tx (i + 1) (nbr (tx i))) + 1))) (x + 2) f_25) by rw [at2, hr2, up_up, hr_c (show x + 2 ≠ x by omega), hr_hr]]
      have TR3 : PTr (hr (hr h x (up (h x) 2 ((RnA n tx (i + 1) (nbr (tx i))) + 1))) (x + 2) f_25) p tl := hN.of ((hr_n (by omega)).trans (hr_n (by omega))) ((hr_n (by omega)).trans (hr_n (by omega))) ((hr_n (by omega)).trans (hr_n (by omega)))
      have RL3 : PRl (hr (hr h x (up (h x) 2 ((RnA n tx (i + 1) (nbr (tx i))) + 1))) (x + 2) f_25) p tl := hL.of ((hr_n (by omega)).trans (hr_n (by omega))) ((hr_n (by omega)).trans (hr_n (by omega))) ((hr_n (by omega)).trans (hr_n (by omega))) ((hr_n (by omega)).trans (hr_n (by omega))) ((hr_n (by omega)).trans (hr_n (by omega))) ((hr_n (by omega)).trans (hr_n (by omega))) ((hr_n (by omega)).trans (hr_n (by omega)))
      refine r_aload_0 (pc := 40) dX5_readItem_40 ?_
      refine r_iload_2 (pc := 41) dX5_readItem_41 ?_
      refine r_aload_1 (pc := 42) dX5_readItem_42 ?_
      refine k_VI2 (pc := 43) c_X5_apply lk_X5_47 ⟨Nat.le_of_ble_eq_true rfl, Nat.le_of_ble_eq_true rfl⟩ ⟨rfl, rfl⟩ ⟨Nat.le_of_ble_eq_true rfl, Nat.le_of_ble_eq_true rfl⟩ (k := 5) rfl (by decide) (by assumption) dX5_readItem_43 (Nat.le_of_ble_eq_true rfl) ?_
      refine ⟨_, _, tl, f_25, _, rfl, hX, hA, hD, hI, TR3, RL3, hr_s, by omega, fun e => ?_, fun g_43 h_43 q_43 => ?_, fun g_43 h_43 q_43 t_43 l_43 => ?_⟩
      · have v1 := a_25 1
        rw [e] at v1
        have v2 := RnO_2.mp (by rw [e] at g_25; exact g_25)
        have v3 := v1 (show 1 < 2 by omega)
        have v4 := nmV_r v2.2.2
        have v5 : f_25 1 = nmV n tx (nmE n tx (i + 1) + 1) := v3
        omega
      · refine r_ifeq_T (pc := 46) (tgt := 53) dX5_readItem_46 (by decide) (by decide) ?_
        refine r_iconst (pc := 53) dX5_readItem_53 ?_
        refine r_zret (pc := 54) hret dX5_readItem_54 rfl rfl rfl (by first | exact Or.inl rfl | exact Or.inr rfl | exact bI_01 | omega) ?_
        refine hB (fun z => g_43 ((Gd_1 hI (by omega) z).2.2.2 f_25 a_25).1) h_43 (fun y hy => by rw [q_43 y (by omega), hr_n (by omega), hr_n (by omega)]) ?_
        rw [q_43 x (by omega), hr_n (by omega), hr_s, up_s]
      · refine r_ifeq_F (pc := 46) (tgt := 53) dX5_readItem_46 (by decide) (by decide) ?_
        refine r_iconst (pc := 49) dX5_readItem_49 ?_
        refine r_goto (pc := 50) (tgt := 54) dX5_readItem_50 (by decide) ?_
        refine r_zret (pc := 54) hret dX5_readItem_54 rfl rfl rfl (by first | exact Or.inl rfl | exact Or.inr rfl | exact bI_01 | omega) ?_
        have gd := Gd_2 hI (by omega) g_25 (by rw [at2] at g_34; exact g_34) a_25 g_43
        obtain ⟨z1, z2, z3, z4⟩ := Gd_1 hI (by omega) gd
        have z5 := (z4 f_25 a_25).2
        rw [z3, z5] at hQ
        refine hQ gd h_43 (fun y hy => by rw [q_43 y (by omega), hr_n (by omega), hr_n (by omega)]) ?_ t_43 l_43
        rw [q_43 x (by omega), hr_n (by omega), hr_s]

