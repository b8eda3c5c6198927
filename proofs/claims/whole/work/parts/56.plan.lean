/-! PLANS: small methods, copies, counts -/
theorem pbk_12 {F : Int → Int} {g : Int} (hF : ∀ c, 0 ≤ c → c < 4 → F (4 * g + c) = -4 ∨ (10 ≤ F (4 * g + c) ∧ F (4 * g + c) < 22)) : ∀ n : Nat, n ≤ 4 → (0 ≤ pbk F g n ∧ pbk F g n < 4096) ∧ ∀ k : Nat, tb (pbk F g n) k = true ↔ ∃ c : Nat, c < n ∧ F (4 * g + c) = 10 + k
  | 0, _ => by
    refine ⟨by simp [pbk], fun k => ?_⟩
    simp only [pbk]
    rw [tb_0]
    constructor
    · intro z; cases z
    · rintro ⟨c, z, _⟩; omega
  | n + 1, hn => by
    obtain ⟨i1, i2⟩ := pbk_12 hF n (by omega)
    have hc := hF n (by omega) (by omega)
    simp only [pbk]
    split
    · rename_i h0
      have s := S_12 (j := F (4 * g + n) - 10) (by omega) (by omega)
      refine ⟨O_12 i1 (by omega), fun k => ?_⟩
      rw [tb_O (by omega) (by omega), tb_S (by omega) (by omega), Bool.or_eq_true, i2 k, decide_eq_true_iff]
      constructor
      · rintro (⟨c, c1, c2⟩ | z)
        · exact ⟨c, by omega, c2⟩
        · exact ⟨n, by omega, by omega⟩
      · rintro ⟨c, c1, c2⟩
        by_cases e : c = n
        · subst e; exact Or.inr (by omega)
        · exact Or.inl ⟨c, by omega, c2⟩
    · rename_i h0
      refine ⟨i1, fun k => ?_⟩
      rw [i2 k]
      constructor
      · rintro ⟨c, c1, c2⟩; exact ⟨c, by omega, c2⟩
      · rintro ⟨c, c1, c2⟩
        by_cases e : c = n
        · subst e; omega
        · exact ⟨c, by omega, c2⟩
theorem pb_12 {F : Int → Int} {g : Int} (hF : ∀ c, 0 ≤ c → c < 4 → F (4 * g + c) = -4 ∨ (10 ≤ F (4 * g + c) ∧ F (4 * g + c) < 22)) : 0 ≤ pb F g ∧ pb F g < 4096 := (pbk_12 hF 4 (by omega)).1
theorem tb_pb {F : Int → Int} {g : Int} (hF : ∀ c, 0 ≤ c → c < 4 → F (4 * g + c) = -4 ∨ (10 ≤ F (4 * g + c) ∧ F (4 * g + c) < 22)) (k : Nat) : tb (pb F g) k = hasB F g (10 + k) := by
  have q := (pbk_12 hF 4 (by omega)).2 k
  have e : tb (pb F g) k = true ↔ hasB F g (10 + k) = true := by
    rw [hasB_iff]
    refine q.trans ?_
    constructor
    · rintro ⟨c, c1, c2⟩; exact ⟨c, by omega, by omega, c2⟩
    · rintro ⟨c, c1, c2, c3⟩; exact ⟨c.toNat, by omega, by rw [show ((c.toNat : Nat) : Int) = c by omega]; exact c3⟩
  cases h1 : tb (pb F g) k <;> cases h2 : hasB F g (10 + k) <;> simp_all
def FdI (F : Int → Int) : Prop := ∀ j, 0 ≤ j → j < 64 → F j = -4 ∨ (10 ≤ F j ∧ F j < 22)
theorem FdI.g {F : Int → Int} (h : FdI F) {g : Int} (h0 : 0 ≤ g) (h1 : g < 16) : ∀ c, 0 ≤ c → c < 4 → F (4 * g + c) = -4 ∨ (10 ≤ F (4 * g + c) ∧ F (4 * g + c) < 22) := fun c c0 c1 => h _ (by omega) (by omega)
theorem pb_bit {F : Int → Int} {g d : Int} (h : FdI F) (h0 : 0 ≤ g) (h1 : g < 16) (hd : 10 ≤ d ∧ d < 22) : iA (pb F g) (iSl 1 (d - 10)) ≠ 0 ↔ hasB F g d = true := by
  have q := pb_12 (h.g h0 h1)
  rw [tb_t ⟨q.1, by omega⟩ (by omega) (by omega), tb_pb (h.g h0 h1), show (10 + (((d - 10).toNat : Nat) : Int)) = d by omega]
/-- the placements of a plan are the map's -/
def PSt (h : HpT) (p : Nat) (mp : Int → Int) : Prop := (∀ j, 0 ≤ j → j < 64 → h (p + 11) j = plr mp j) ∧ (∀ j, 0 ≤ j → j < 64 → h (p + 12) j = trs mp (j / 4) (j % 4)) ∧ (∀ g, 0 ≤ g → g < 16 → h (p + 13) g = pb (plr mp) g) ∧ ∀ i, 0 ≤ i → i < mp 135 → h (p + 8) i = std mp (mp (110 + 3 * i)) i.toNat
theorem dX3_isRule_0 : decode cX3_isRule 0 = .ok (.iload_n 0, 1) := by decide +kernel
theorem dX3_isRule_1 : decode cX3_isRule 1 = .ok (.iconst 1, 1) := by decide +kernel
theorem dX3_isRule_2 : decode cX3_isRule 2 = .ok (.if_icmp .lt 31, 3) := by decide +kernel
theorem dX3_isRule_5 : decode cX3_isRule 5 = .ok (.iload_n 0, 1) := by decide +kernel
theorem dX3_isRule_6 : decode cX3_isRule 6 = .ok (.iconst 4, 1) := by decide +kernel
theorem dX3_isRule_7 : decode cX3_isRule 7 = .ok (.if_icmp .gt 26, 3) := by decide +kernel
theorem dX3_isRule_10 : decode cX3_isRule 10 = .ok (.iload_n 1, 1) := by decide +kernel
theorem dX3_isRule_11 : decode cX3_isRule 11 = .ok (.iconst 1, 1) := by decide +kernel
theorem dX3_isRule_12 : decode cX3_isRule 12 = .ok (.if_icmp .lt 21, 3) := by decide +kernel
theorem dX3_isRule_15 : decode cX3_isRule 15 = .ok (.iload_n 1, 1) := by decide +kernel
theorem dX3_isRule_16 : decode cX3_isRule 16 = .ok (.iconst 3, 1) := by decide +kernel
theorem dX3_isRule_17 : decode cX3_isRule 17 = .ok (.if_icmp .gt 16, 3) := by decide +kernel
theorem dX3_isRule_20 : decode cX3_isRule 20 = .ok (.iload_n 2, 1) := by decide +kernel
theorem dX3_isRule_21 : decode cX3_isRule 21 = .ok (.ifCond .eq 8, 3) := by decide +kernel
theorem dX3_isRule_24 : decode cX3_isRule 24 = .ok (.iload_n 2, 1) := by decide +kernel
theorem dX3_isRule_25 : decode cX3_isRule 25 = .ok (.iconst 1, 1) := by decide +kernel
theorem dX3_isRule_26 : decode cX3_isRule 26 = .ok (.if_icmp .ne 7, 3) := by decide +kernel
theorem dX3_isRule_29 : decode cX3_isRule 29 = .ok (.iconst 1, 1) := by decide +kernel
theorem dX3_isRule_30 : decode cX3_isRule 30 = .ok (.goto 4, 3) := by decide +kernel
theorem dX3_isRule_33 : decode cX3_isRule 33 = .ok (.iconst 0, 1) := by decide +kernel
theorem dX3_isRule_34 : decode cX3_isRule 34 = .ok (.ireturn, 1) := by decide +kernel
set_option maxHeartbeats 4000000 in
set_option maxRecDepth 20000 in
theorem c_X3_isRule : ConI mX3_isRule (fun args N lay r h Q => ∃ (x y z : Int), args = [vI x, vI y, vI z] ∧ (-2147483648 ≤ x ∧ x < 2147483648) ∧ (-2147483648 ≤ y ∧ y < 2147483648) ∧ (-2147483648 ≤ z ∧ z < 2147483648) ∧ Q (bI ((1 ≤ x ∧ x ≤ 4) ∧ (1 ≤ y ∧ y ≤ 3) ∧ (0 ≤ z ∧ z ≤ 1))) N lay r h) := by
  refine ConI.of (by decide) (by rintro _ N lay r h Q ⟨x, y, z, rfl, hx, hy, hz, hQ⟩; exact ⟨rfl, Nat.le_of_ble_eq_true rfl⟩) ?_
  rintro E _ N lay r h Q ⟨x, y, z, rfl, hx, hy, hz, hQ⟩ hret
  show St E mX3_isRule 0 [some (vI x), some (vI y), some (vI z)] [] (0, 0) N lay r h
  refine r_iload_0 (pc := 0) dX3_isRule_0 ?_
  refine r_iconst (pc := 1) dX3_isRule_1 ?_
  refine r_icmp_lt (pc := 2) (tgt := 33) dX3_isRule_2 (by decide) (by omega) (by omega) (fun c_2 => ?_) (fun c_2 => ?_)
  · refine r_iconst (pc := 33) dX3_isRule_33 ?_
    refine r_zret (pc := 34) hret dX3_isRule_34 rfl rfl rfl (by first | exact Or.inl rfl | exact Or.inr rfl | exact bI_01 | omega) ?_
    first | (rw [bI_t (by omega)] at hQ; exact hQ) | (rw [bI_f (by omega)] at hQ; exact hQ)
  · refine r_iload_0 (pc := 5) dX3_isRule_5 ?_
    refine r_iconst (pc := 6) dX3_isRule_6 ?_
    refine r_icmp_gt (pc := 7) (tgt := 33) dX3_isRule_7 (by decide) (by omega) (by omega) (fun c_7 => ?_) (fun c_7 => ?_)
    · refine r_iconst (pc := 33) dX3_isRule_33 ?_
      refine r_zret (pc := 34) hret dX3_isRule_34 rfl rfl rfl (by first | exact Or.inl rfl | exact Or.inr rfl | exact bI_01 | omega) ?_
      first | (rw [bI_t (by omega)] at hQ; exact hQ) | (rw [bI_f (by omega)] at hQ; exact hQ)
    · refine r_iload_1 (pc := 10) dX3_isRule_10 ?_
      refine r_iconst (pc := 11) dX3_isRule_11 ?_
      refine r_icmp_lt (pc := 12) (tgt := 33) dX3_isRule_12 (by decide) (by omega) (by omega) (fun c_12 => ?_) (fun c_12 => ?_)
      · refine r_iconst (pc := 33) dX3_isRule_33 ?_
        refine r_zret (pc := 34) hret dX3_isRule_34 rfl rfl rfl (by first | exact Or.inl rfl | exact Or.inr rfl | exact bI_01 | omega) ?_
        first | (rw [bI_t (by omega)] at hQ; exact hQ) | (rw [bI_f (by omega)] at hQ; exact hQ)
      · refine r_iload_1 (pc := 15) dX3_isRule_15 ?_
        refine r_iconst (pc := 16) dX3_isRule_16 ?_
        refine r_icmp_gt (pc := 17) (tgt := 33) dX3_isRule_17 (by decide) (by omega) (by omega) (fun c_17 => ?_) (fun c_17 => ?_)
        · refine r_iconst (pc := 33) dX3_isRule_33 ?_
          refine r_zret (pc := 34) hret dX3_isRule_34 rfl rfl rfl (by first | exact Or.inl rfl | exact Or.inr rfl | exact bI_01 | omega) ?_
          first | (rw [bI_t (by omega)] at hQ; exact hQ) | (rw [bI_f (by omega)] at hQ; exact hQ)
        · refine r_iload_2 (pc := 20) dX3_isRule_20 ?_
          refine r_if_eq (pc := 21) (tgt := 29) dX3_isRule_21 (by decide) (by omega) (fun c_21 => ?_) (fun c_21 => ?_)
          · refine r_iconst (pc := 29) dX3_isRule_29 ?_
            refine r_goto (pc := 30) (tgt := 34) dX3_isRule_30 (by decide) ?_
            refine r_zret (pc := 34) hret dX3_isRule_34 rfl rfl rfl (by first | exact Or.inl rfl | exact Or.inr rfl | exact bI_01 | omega) ?_
            first | (rw [bI_t (by omega)] at hQ; exact hQ) | (rw [bI_f (by omega)] at hQ; exact hQ)
          · refine r_iload_2 (pc := 24) dX3_isRule_24 ?_
            refine r_iconst (pc := 25) dX3_isRule_25 ?_
            refine r_icmp_ne (pc := 26) (tgt := 33) dX3_isRule_26 (by decide) (by omega) (by omega) (fun c_26 => ?_) (fun c_26 => ?_)
            · refine r_iconst (pc := 33) dX3_isRule_33 ?_
              refine r_zret (pc := 34) hret dX3_isRule_34 rfl rfl rfl (by first | exact Or.inl rfl | exact Or.inr rfl | exact bI_01 | omega) ?_
              first | (rw [bI_t (by omega)] at hQ; exact hQ) | (rw [bI_f (by omega)] at hQ; exact hQ)
            · refine r_iconst (pc := 29) dX3_isRule_29 ?_
              refine r_goto (pc := 30) (tgt := 34) dX3_isRule_30 (by decide) ?_
              refine r_zret (pc := 34) hret dX3_isRule_34 rfl rfl rfl (by first | exact Or.inl rfl | exact Or.inr rfl | exact bI_01 | omega) ?_
              first | (rw [bI_t (by omega)] at hQ; exact hQ) | (rw [bI_f (by omega)] at hQ; exact hQ)

theorem dX3_setRule_0 : decode cX3_setRule 0 = .ok (.aload_n 0, 1) := by decide +kernel
theorem dX3_setRule_1 : decode cX3_setRule 1 = .ok (.iload_n 1, 1) := by decide +kernel
theorem dX3_setRule_2 : decode cX3_setRule 2 = .ok (.putfield 71, 3) := by decide +kernel
theorem dX3_setRule_5 : decode cX3_setRule 5 = .ok (.aload_n 0, 1) := by decide +kernel
theorem dX3_setRule_6 : decode cX3_setRule 6 = .ok (.iload_n 2, 1) := by decide +kernel
theorem dX3_setRule_7 : decode cX3_setRule 7 = .ok (.putfield 74, 3) := by decide +kernel
theorem dX3_setRule_10 : decode cX3_setRule 10 = .ok (.aload_n 0, 1) := by decide +kernel
theorem dX3_setRule_11 : decode cX3_setRule 11 = .ok (.iload_n 3, 1) := by decide +kernel
theorem dX3_setRule_12 : decode cX3_setRule 12 = .ok (.putfield 77, 3) := by decide +kernel
theorem dX3_setRule_15 : decode cX3_setRule 15 = .ok (.return_, 1) := by decide +kernel
set_option maxHeartbeats 4000000 in
set_option maxRecDepth 20000 in
theorem c_X3_setRule : ConV mX3_setRule (fun args N lay r h Q => ∃ (p m : Nat) (x y z : Int), args = [.ref p, vI x, vI y, vI z] ∧ lay p = (4, m) ∧ (-2147483648 ≤ x ∧ x < 2147483648) ∧ (-2147483648 ≤ y ∧ y < 2147483648) ∧ (-2147483648 ≤ z ∧ z < 2147483648) ∧ Q N lay r (hr h p (up (up (up (h p) 5 x) 6 y) 7 z))) := by
  refine ConV.of (by decide) (by rintro _ N lay r h Q ⟨p, m, x, y, z, rfl, hA, hx, hy, hz, hQ⟩; exact ⟨rfl, Nat.le_of_ble_eq_true rfl⟩) ?_
  rintro E _ N lay r h Q ⟨p, m, x, y, z, rfl, hA, hx, hy, hz, hQ⟩ hret
  show St E mX3_setRule 0 [some (.ref p), some (vI x), some (vI y), some (vI z)] [] (0, 0) N lay r h
  refine r_aload_0 (pc := 0) dX3_setRule_0 ?_
  refine r_iload_1 (pc := 1) dX3_setRule_1 ?_
  refine pf_X3_71 (pc := 2) rfl (by assumption) dX3_setRule_2 (by omega) ?_
  refine r_aload_0 (pc := 5) dX3_setRule_5 ?_
  refine r_iload_2 (pc := 6) dX3_setRule_6 ?_
  refine pf_X3_74 (pc := 7) rfl (by assumption) dX3_setRule_7 (by omega) ?_
  rw [hr_hr, hr_s]
  refine r_aload_0 (pc := 10) dX3_setRule_10 ?_
  refine r_iload_3 (pc := 11) dX3_setRule_11 ?_
  refine pf_X3_77 (pc := 12) rfl (by assumption) dX3_setRule_12 (by omega) ?_
  rw [hr_hr, hr_s]
  refine r_ret (pc := 15) hret dX3_setRule_15 rfl rfl rfl ?_
  exact hQ

theorem dX3_clear_0 : decode cX3_clear 0 = .ok (.aload_n 0, 1) := by decide +kernel
theorem dX3_clear_1 : decode cX3_clear 1 = .ok (.getfield 12, 3) := by decide +kernel
theorem dX3_clear_4 : decode cX3_clear 4 = .ok (.invokevirtual 41, 3) := by decide +kernel
theorem dX3_clear_7 : decode cX3_clear 7 = .ok (.aload_n 0, 1) := by decide +kernel
theorem dX3_clear_8 : decode cX3_clear 8 = .ok (.getfield 21, 3) := by decide +kernel
theorem dX3_clear_11 : decode cX3_clear 11 = .ok (.iconst 0, 1) := by decide +kernel
theorem dX3_clear_12 : decode cX3_clear 12 = .ok (.putfield 44, 3) := by decide +kernel
theorem dX3_clear_15 : decode cX3_clear 15 = .ok (.aload_n 0, 1) := by decide +kernel
theorem dX3_clear_16 : decode cX3_clear 16 = .ok (.iconst 0, 1) := by decide +kernel
theorem dX3_clear_17 : decode cX3_clear 17 = .ok (.putfield 48, 3) := by decide +kernel
theorem dX3_clear_20 : decode cX3_clear 20 = .ok (.aload_n 0, 1) := by decide +kernel
theorem dX3_clear_21 : decode cX3_clear 21 = .ok (.iconst 2, 1) := by decide +kernel
theorem dX3_clear_22 : decode cX3_clear 22 = .ok (.iconst 2, 1) := by decide +kernel
theorem dX3_clear_23 : decode cX3_clear 23 = .ok (.iconst 0, 1) := by decide +kernel
theorem dX3_clear_24 : decode cX3_clear 24 = .ok (.invokevirtual 51, 3) := by decide +kernel
theorem dX3_clear_27 : decode cX3_clear 27 = .ok (.aload_n 0, 1) := by decide +kernel
theorem dX3_clear_28 : decode cX3_clear 28 = .ok (.bipush 20, 2) := by decide +kernel
theorem dX3_clear_30 : decode cX3_clear 30 = .ok (.putfield 55, 3) := by decide +kernel
theorem dX3_clear_33 : decode cX3_clear 33 = .ok (.return_, 1) := by decide +kernel
set_option maxHeartbeats 4000000 in
set_option maxRecDepth 20000 in
theorem c_X3_clear : ConV mX3_clear (fun args N lay r h Q => ∃ (p : Nat), args = [.ref p] ∧ PlAt lay r p ∧ ∀ h2, Fr h h2 (fun x => x = p ∨ x = p + 1 ∨ x = p + 2 ∨ x = p + 4) → (∀ f, PTr h2 p (bgn f) ∧ PRl h2 p (bgn f)) → Q N lay r h2) := by
  refine ConV.of (by decide) (by rintro _ N lay r h Q ⟨p, rfl, hA, hQ⟩; exact ⟨rfl, Nat.le_of_ble_eq_true rfl⟩) ?_
  rintro E _ N lay r h Q ⟨p, rfl, hA, hQ⟩ hret
  obtain ⟨pl0, pl1, pl2, pl3, pl4, pl5, pl6, pl7, pl8, pl9, pl10, pl11, pl12, pl13, pr0, pr1, pr2, pr3, pr9, pr10, pr11, qr3, qr4, vr1, vr2, vr3, vr4⟩ := id hA
  show St E mX3_clear 0 [some (.ref p)] [] (0, 0) N lay r h
  refine r_aload_0 (pc := 0) dX3_clear_0 ?_
  refine gf_X3_12 (pc := 1) rfl (by assumption) dX3_clear_1 (by assumption) ?_
  refine k_VV0 (pc := 4) c_X6_clear lk_X3_41 ⟨Nat.le_of_ble_eq_true rfl, Nat.le_of_ble_eq_true rfl⟩ ⟨rfl, rfl⟩ ⟨Nat.le_of_ble_eq_true rfl, Nat.le_of_ble_eq_true rfl⟩ (k := 6) rfl (by decide) (by assumption) dX3_clear_4 (Nat.le_of_ble_eq_true rfl) ?_
  refine ⟨_, rfl, hA.tr, ?_⟩
  show St E mX3_clear 7 _ _ _ N lay r (hr (hr h (p + 1) (up (up (up (h (p + 1)) 0 0) 1 0) 2 0)) (p + 2) (up (h (p + 2)) 0 (-4)))
  refine r_aload_0 (pc := 7) dX3_clear_7 ?_
  refine gf_X3_21 (pc := 8) rfl (by assumption) dX3_clear_8 (by assumption) ?_
  refine r_iconst (pc := 11) dX3_clear_11 ?_
  refine pf_X3_44 (pc := 12) rfl (by assumption) dX3_clear_12 (by omega) ?_
  refine r_aload_0 (pc := 15) dX3_clear_15 ?_
  refine r_iconst (pc := 16) dX3_clear_16 ?_
  refine pf_X3_48 (pc := 17) rfl (by assumption) dX3_clear_17 (by omega) ?_
  refine r_aload_0 (pc := 20) dX3_clear_20 ?_
  refine r_iconst (pc := 21) dX3_clear_21 ?_
  refine r_iconst (pc := 22) dX3_clear_22 ?_
  refine r_iconst (pc := 23) dX3_clear_23 ?_
  refine k_VV3 (pc := 24) c_X3_setRule lk_X3_51 ⟨Nat.le_of_ble_eq_true rfl, Nat.le_of_ble_eq_true rfl⟩ ⟨rfl, rfl⟩ ⟨Nat.le_of_ble_eq_true rfl, Nat.le_of_ble_eq_true rfl⟩ (k := 3) rfl (by decide) (by assumption) dX3_clear_24 (Nat.le_of_ble_eq_true rfl) ?_
  refine ⟨_, _, _, _, _, rfl, by assumption, by omega, by omega, by omega, ?_⟩
  rw [hr_hr, hr_s]
  refine r_aload_0 (pc := 27) dX3_clear_27 ?_
  refine r_bipush (pc := 28) dX3_clear_28 (by decide) ?_
  refine pf_X3_55 (pc := 30) rfl (by assumption) dX3_clear_30 (by omega) ?_
  rw [hr_hr, hr_s]
  refine r_ret (pc := 33) hret dX3_clear_33 rfl rfl rfl ?_
  refine hQ _ (fun x hx => by rw [hr_n (by omega), hr_n (by omega), hr_n (by omega), hr_n (by omega)]) (fun f => ?_)
  have b8 : bgn f 128 = 0 := rfl
  have b9 : bgn f 129 = 0 := rfl
  have b10 : bgn f 130 = 0 := rfl
  have b11 : bgn f 131 = 2 := rfl
  have b12 : bgn f 132 = 2 := rfl
  have b13 : bgn f 133 = 0 := rfl
  have b14 : bgn f 134 = 20 := rfl
  have b15 : bgn f 135 = 0 := rfl
  refine ⟨⟨⟨?_, ?_, ?_⟩, fun n n0 n1 => by omega, fun n n0 n1 => by omega, fun n n0 n1 => by omega, ?_, fun n n0 n1 => by omega⟩, ⟨⟨?_, ?_, ?_, ?_⟩, ⟨?_, fun k => ?_⟩, fun n n0 n1 => by omega, fun n n0 n1 => by omega, ?_, fun n n0 n1 => by omega⟩⟩
  · rw [b8, hr_n (by omega), hr_n (by omega), hr_n (by omega), hr_s]; rfl
  · rw [b9, hr_n (by omega), hr_n (by omega), hr_n (by omega), hr_s]; rfl
  · rw [b10, hr_n (by omega), hr_n (by omega), hr_n (by omega), hr_s]; rfl
  · rw [hr_n (by omega), hr_n (by omega), hr_s, up_s]
  · rw [b11, hr_s]; rfl
  · rw [b12, hr_s]; rfl
  · rw [b13, hr_s]; rfl
  · rw [b14, hr_s]; rfl
  · rw [hr_s, up_n (by decide), up_n (by decide), up_n (by decide), up_n (by decide), up_s]; exact ⟨by decide, by decide⟩
  · rw [hr_s, b10, decide_eq_false (by omega)]
    exact tb_0 k
  · rw [b15, hr_n (by omega), hr_s]; rfl

theorem dX3_isFull_0 : decode cX3_isFull 0 = .ok (.aload_n 0, 1) := by decide +kernel
theorem dX3_isFull_1 : decode cX3_isFull 1 = .ok (.getfield 48, 3) := by decide +kernel
theorem dX3_isFull_4 : decode cX3_isFull 4 = .ok (.iload_n 1, 1) := by decide +kernel
theorem dX3_isFull_5 : decode cX3_isFull 5 = .ok (.invokestatic 88, 3) := by decide +kernel
theorem dX3_isFull_8 : decode cX3_isFull 8 = .ok (.iand, 1) := by decide +kernel
theorem dX3_isFull_9 : decode cX3_isFull 9 = .ok (.ifCond .eq 7, 3) := by decide +kernel
theorem dX3_isFull_12 : decode cX3_isFull 12 = .ok (.iconst 1, 1) := by decide +kernel
theorem dX3_isFull_13 : decode cX3_isFull 13 = .ok (.goto 4, 3) := by decide +kernel
theorem dX3_isFull_16 : decode cX3_isFull 16 = .ok (.iconst 0, 1) := by decide +kernel
theorem dX3_isFull_17 : decode cX3_isFull 17 = .ok (.ireturn, 1) := by decide +kernel
set_option maxHeartbeats 4000000 in
set_option maxRecDepth 20000 in
theorem c_X3_isFull : ConI mX3_isFull (fun args N lay r h Q => ∃ (p : Nat) (mp : Int → Int) (d : Int), args = [.ref p, vI d] ∧ PlAt lay r p ∧ TrM mp ∧ RlM mp ∧ PTr h p mp ∧ PRl h p mp ∧ (10 ≤ d ∧ d < 10 + mp 130) ∧ Q (bI (mp (88 + d) = 1)) N lay r h) := by
  refine ConI.of (by decide) (by rintro _ N lay r h Q ⟨p, mp, d, rfl, hA, hT, hR, hN, hL, hd, hQ⟩; exact ⟨rfl, Nat.le_of_ble_eq_true rfl⟩) ?_
  rintro E _ N lay r h Q ⟨p, mp, d, rfl, hA, hT, hR, hN, hL, hd, hQ⟩ hret
  obtain ⟨pl0, pl1, pl2, pl3, pl4, pl5, pl6, pl7, pl8, pl9, pl10, pl11, pl12, pl13, pr0, pr1, pr2, pr3, pr9, pr10, pr11, qr3, qr4, vr1, vr2, vr3, vr4⟩ := id hA
  obtain ⟨⟨rl5, rl6, rl7, rl8⟩, rfu, rca, rre, rnu, rdv⟩ := id hL
  obtain ⟨r1, r2, r3, r4, r5, r6, r7⟩ := id hR
  have fb := rfu.bit hT hd.1 hd.2
  show St E mX3_isFull 0 [some (.ref p), some (vI d)] [] (0, 0) N lay r h
  refine r_aload_0 (pc := 0) dX3_isFull_0 ?_
  refine gf_X3_48 (pc := 1) rfl (by assumption) dX3_isFull_1 (fun i_1 => ?_)
  refine r_iload_1 (pc := 4) dX3_isFull_4 ?_
  refine k_SNI1 (pc := 5) c_X7_bitOf lk_X3_88 ⟨Nat.le_of_ble_eq_true rfl, Nat.le_of_ble_eq_true rfl⟩ ⟨rfl, rfl⟩ ⟨Nat.le_of_ble_eq_true rfl, Nat.le_of_ble_eq_true rfl⟩ dX3_isFull_5 (Nat.le_of_ble_eq_true rfl) ?_
  refine ⟨_, rfl, fun i_5 => ?_⟩
  refine r_iand (pc := 8) dX3_isFull_8 (fun i_8 => ?_)
  refine r_if_eq (pc := 9) (tgt := 16) dX3_isFull_9 (by decide) (by omega) (fun c_9 => ?_) (fun c_9 => ?_)
  · refine r_iconst (pc := 16) dX3_isFull_16 ?_
    refine r_zret (pc := 17) hret dX3_isFull_17 rfl rfl rfl (by first | exact Or.inl rfl | exact Or.inr rfl | exact bI_01 | omega) ?_
    first | (rw [bI_t (fb.mp c_9)] at hQ; exact hQ) | (rw [bI_f (fun z => (fb.mpr z) c_9)] at hQ; exact hQ)
  · refine r_iconst (pc := 12) dX3_isFull_12 ?_
    refine r_goto (pc := 13) (tgt := 17) dX3_isFull_13 (by decide) ?_
    refine r_zret (pc := 17) hret dX3_isFull_17 rfl rfl rfl (by first | exact Or.inl rfl | exact Or.inr rfl | exact bI_01 | omega) ?_
    first | (rw [bI_t (fb.mp c_9)] at hQ; exact hQ) | (rw [bI_f (fun z => (fb.mpr z) c_9)] at hQ; exact hQ)

theorem dX3_copyOf_0 : decode cX3_copyOf 0 = .ok (.aload_n 0, 1) := by decide +kernel
theorem dX3_copyOf_1 : decode cX3_copyOf 1 = .ok (.getfield 32, 3) := by decide +kernel
theorem dX3_copyOf_4 : decode cX3_copyOf 4 = .ok (.iconst 4, 1) := by decide +kernel
theorem dX3_copyOf_5 : decode cX3_copyOf 5 = .ok (.iload_n 1, 1) := by decide +kernel
theorem dX3_copyOf_6 : decode cX3_copyOf 6 = .ok (.imul, 1) := by decide +kernel
theorem dX3_copyOf_7 : decode cX3_copyOf 7 = .ok (.iload_n 2, 1) := by decide +kernel
theorem dX3_copyOf_8 : decode cX3_copyOf 8 = .ok (.iadd, 1) := by decide +kernel
theorem dX3_copyOf_9 : decode cX3_copyOf 9 = .ok (.iaload, 1) := by decide +kernel
theorem dX3_copyOf_10 : decode cX3_copyOf 10 = .ok (.ireturn, 1) := by decide +kernel
set_option maxHeartbeats 4000000 in
set_option maxRecDepth 20000 in
theorem c_X3_copyOf : ConI mX3_copyOf (fun args N lay r h Q => ∃ (p m : Nat) (g c : Int), args = [.ref p, vI g, vI c] ∧ lay p = (4, m) ∧ lay (p + 11) = (10, 64) ∧ r p 9 = some (p + 11) ∧ (0 ≤ g ∧ g < 16) ∧ (0 ≤ c ∧ c < 4) ∧ (-2147483648 ≤ h (p + 11) (4 * g + c) ∧ h (p + 11) (4 * g + c) < 2147483648 → Q (h (p + 11) (4 * g + c)) N lay r h)) := by
  refine ConI.of (by decide) (by rintro _ N lay r h Q ⟨p, m, g, c, rfl, hA, hl, hq, hg, hc, hQ⟩; exact ⟨rfl, Nat.le_of_ble_eq_true rfl⟩) ?_
  rintro E _ N lay r h Q ⟨p, m, g, c, rfl, hA, hl, hq, hg, hc, hQ⟩ hret
  show St E mX3_copyOf 0 [some (.ref p), some (vI g), some (vI c)] [] (0, 0) N lay r h
  refine r_aload_0 (pc := 0) dX3_copyOf_0 ?_
  refine gf_X3_32 (pc := 1) rfl (by assumption) dX3_copyOf_1 (by assumption) ?_
  refine r_iconst (pc := 4) dX3_copyOf_4 ?_
  refine r_iload_1 (pc := 5) dX3_copyOf_5 ?_
  refine r_imul (pc := 6) dX3_copyOf_6 ?_
  refine r_iload_2 (pc := 7) dX3_copyOf_7 ?_
  refine r_iadd (pc := 8) dX3_copyOf_8 ?_
  refine r_ialdE (pc := 9) (by assumption) (by first | assumption | exact rfl) dX3_copyOf_9 (by omega) (by omega) (fun i_9 => ?_)
  refine r_iret (pc := 10) hret dX3_copyOf_10 rfl rfl rfl ?_
  exact hQ i_9

theorem dX3_isAcceptable_0 : decode cX3_isAcceptable 0 = .ok (.aload_n 0, 1) := by decide +kernel
theorem dX3_isAcceptable_1 : decode cX3_isAcceptable 1 = .ok (.iload_n 2, 1) := by decide +kernel
theorem dX3_isAcceptable_2 : decode cX3_isAcceptable 2 = .ok (.invokevirtual 114, 3) := by decide +kernel
theorem dX3_isAcceptable_5 : decode cX3_isAcceptable 5 = .ok (.ifCond .ne 26, 3) := by decide +kernel
theorem dX3_isAcceptable_8 : decode cX3_isAcceptable 8 = .ok (.iload_n 1, 1) := by decide +kernel
theorem dX3_isAcceptable_9 : decode cX3_isAcceptable 9 = .ok (.iload_n 2, 1) := by decide +kernel
theorem dX3_isAcceptable_10 : decode cX3_isAcceptable 10 = .ok (.bipush 99, 2) := by decide +kernel
theorem dX3_isAcceptable_12 : decode cX3_isAcceptable 12 = .ok (.invokestatic 118, 3) := by decide +kernel
theorem dX3_isAcceptable_15 : decode cX3_isAcceptable 15 = .ok (.bipush 16, 2) := by decide +kernel
theorem dX3_isAcceptable_17 : decode cX3_isAcceptable 17 = .ok (.irem, 1) := by decide +kernel
theorem dX3_isAcceptable_18 : decode cX3_isAcceptable 18 = .ok (.aload_n 0, 1) := by decide +kernel
theorem dX3_isAcceptable_19 : decode cX3_isAcceptable 19 = .ok (.getfield 29, 3) := by decide +kernel
theorem dX3_isAcceptable_22 : decode cX3_isAcceptable 22 = .ok (.iload_n 2, 1) := by decide +kernel
theorem dX3_isAcceptable_23 : decode cX3_isAcceptable 23 = .ok (.iaload, 1) := by decide +kernel
theorem dX3_isAcceptable_24 : decode cX3_isAcceptable 24 = .ok (.if_icmp .ge 7, 3) := by decide +kernel
theorem dX3_isAcceptable_27 : decode cX3_isAcceptable 27 = .ok (.iconst 1, 1) := by decide +kernel
theorem dX3_isAcceptable_28 : decode cX3_isAcceptable 28 = .ok (.goto 4, 3) := by decide +kernel
theorem dX3_isAcceptable_31 : decode cX3_isAcceptable 31 = .ok (.iconst 0, 1) := by decide +kernel
theorem dX3_isAcceptable_32 : decode cX3_isAcceptable 32 = .ok (.ireturn, 1) := by decide +kernel
set_option maxHeartbeats 4000000 in
set_option maxRecDepth 20000 in
theorem c_X3_isAcceptable : ConI mX3_isAcceptable (fun args N lay r h Q => ∃ (p : Nat) (mp : Int → Int) (g d : Int), args = [.ref p, vI g, vI d] ∧ PlAt lay r p ∧ TrM mp ∧ RlM mp ∧ PTr h p mp ∧ PRl h p mp ∧ (0 ≤ g ∧ g < 16) ∧ (10 ≤ d ∧ d < 10 + mp 130) ∧ Q (bI (mb mp g d = true)) N lay r h) := by
  refine ConI.of (by decide) (by rintro _ N lay r h Q ⟨p, mp, g, d, rfl, hA, hT, hR, hN, hL, hg, hd, hQ⟩; exact ⟨rfl, Nat.le_of_ble_eq_true rfl⟩) ?_
  rintro E _ N lay r h Q ⟨p, mp, g, d, rfl, hA, hT, hR, hN, hL, hg, hd, hQ⟩ hret
  obtain ⟨pl0, pl1, pl2, pl3, pl4, pl5, pl6, pl7, pl8, pl9, pl10, pl11, pl12, pl13, pr0, pr1, pr2, pr3, pr9, pr10, pr11, qr3, qr4, vr1, vr2, vr3, vr4⟩ := id hA
  obtain ⟨⟨rl5, rl6, rl7, rl8⟩, rfu, rca, rre, rnu, rdv⟩ := id hL
  obtain ⟨r1, r2, r3, r4, r5, r6, r7⟩ := id hR
  have t3 := hT.2.2.1
  have x6 := r6 d hd.1 hd.2
  have xr := rre d hd.1 hd.2
  have d9 := dr_r g d 99
  show St E mX3_isAcceptable 0 [some (.ref p), some (vI g), some (vI d)] [] (0, 0) N lay r h
  refine r_aload_0 (pc := 0) dX3_isAcceptable_0 ?_
  refine r_iload_2 (pc := 1) dX3_isAcceptable_1 ?_
  refine k_VI1 (pc := 2) c_X3_isFull lk_X3_114 ⟨Nat.le_of_ble_eq_true rfl, Nat.le_of_ble_eq_true rfl⟩ ⟨rfl, rfl⟩ ⟨Nat.le_of_ble_eq_true rfl, Nat.le_of_ble_eq_true rfl⟩ (k := 3) rfl (by decide) (by assumption) dX3_isAcceptable_2 (Nat.le_of_ble_eq_true rfl) ?_
  refine ⟨_, _, _, rfl, by assumption, by assumption, by assumption, by assumption, by assumption, by omega, ?_⟩
  refine r_ifne_b (pc := 5) (tgt := 31) dX3_isAcceptable_5 (by decide) (fun c_5 => ?_) (fun c_5 => ?_)
  · refine r_iconst (pc := 31) dX3_isAcceptable_31 ?_
    refine r_zret (pc := 32) hret dX3_isAcceptable_32 rfl rfl rfl (by first | exact Or.inl rfl | exact Or.inr rfl | exact bI_01 | omega) ?_
    first
    | (have k9 : mp (88 + d) = 1 := c_5
       rw [bI_f (fun z => by have := (mb_iff.mp z).1; omega)] at hQ; exact hQ)
    | (have k9 : ¬ mp (88 + d) = 1 := c_5
       first
       | (have k8 : dr g d 99 % 16 < mp (66 + d) := by omega
          rw [bI_t (mb_iff.mpr ⟨by omega, k8⟩)] at hQ; exact hQ)
       | (have k8 : ¬ dr g d 99 % 16 < mp (66 + d) := by omega
          rw [bI_f (fun z => k8 (mb_iff.mp z).2)] at hQ; exact hQ))
  · refine r_iload_1 (pc := 8) dX3_isAcceptable_8 ?_
    refine r_iload_2 (pc := 9) dX3_isAcceptable_9 ?_
    refine r_bipush (pc := 10) dX3_isAcceptable_10 (by decide) ?_
    refine k_SI3 (pc := 12) c_X4_drawOf lk_X3_118 ⟨Nat.le_of_ble_eq_true rfl, Nat.le_of_ble_eq_true rfl⟩ ⟨rfl, rfl⟩ ⟨Nat.le_of_ble_eq_true rfl, Nat.le_of_ble_eq_true rfl⟩ dX3_isAcceptable_12 (Nat.le_of_ble_eq_true rfl) ?_
    refine ⟨_, _, _, rfl, by omega, by omega, by omega, ?_⟩
    refine r_bipush (pc := 15) dX3_isAcceptable_15 (by decide) ?_
    refine r_irem (pc := 17) dX3_isAcceptable_17 (by omega) (by omega) ?_
    refine r_aload_0 (pc := 18) dX3_isAcceptable_18 ?_
    refine gf_X3_29 (pc := 19) rfl (by assumption) dX3_isAcceptable_19 (by assumption) ?_
    refine r_iload_2 (pc := 22) dX3_isAcceptable_22 ?_
    refine r_ialdE (pc := 23) (by assumption) (by first | assumption | exact rfl) dX3_isAcceptable_23 (by omega) (by omega) (fun i_23 => ?_)
    refine r_icmp_ge (pc := 24) (tgt := 31) dX3_isAcceptable_24 (by decide) (by omega) (by omega) (fun c_24 => ?_) (fun c_24 => ?_)
    · refine r_iconst (pc := 31) dX3_isAcceptable_31 ?_
      refine r_zret (pc := 32) hret dX3_isAcceptable_32 rfl rfl rfl (by first | exact Or.inl rfl | exact Or.inr rfl | exact bI_01 | omega) ?_
      first
      | (have k9 : mp (88 + d) = 1 := c_5
         rw [bI_f (fun z => by have := (mb_iff.mp z).1; omega)] at hQ; exact hQ)
      | (have k9 : ¬ mp (88 + d) = 1 := c_5
         first
         | (have k8 : dr g d 99 % 16 < mp (66 + d) := by omega
            rw [bI_t (mb_iff.mpr ⟨by omega, k8⟩)] at hQ; exact hQ)
         | (have k8 : ¬ dr g d 99 % 16 < mp (66 + d) := by omega
            rw [bI_f (fun z => k8 (mb_iff.mp z).2)] at hQ; exact hQ))
    · refine r_iconst (pc := 27) dX3_isAcceptable_27 ?_
      refine r_goto (pc := 28) (tgt := 32) dX3_isAcceptable_28 (by decide) ?_
      refine r_zret (pc := 32) hret dX3_isAcceptable_32 rfl rfl rfl (by first | exact Or.inl rfl | exact Or.inr rfl | exact bI_01 | omega) ?_
      first
      | (have k9 : mp (88 + d) = 1 := c_5
         rw [bI_f (fun z => by have := (mb_iff.mp z).1; omega)] at hQ; exact hQ)
      | (have k9 : ¬ mp (88 + d) = 1 := c_5
         first
         | (have k8 : dr g d 99 % 16 < mp (66 + d) := by omega
            rw [bI_t (mb_iff.mpr ⟨by omega, k8⟩)] at hQ; exact hQ)
         | (have k8 : ¬ dr g d 99 % 16 < mp (66 + d) := by omega
            rw [bI_f (fun z => k8 (mb_iff.mp z).2)] at hQ; exact hQ))

theorem dX3_partOf_0 : decode cX3_partOf 0 = .ok (.aload_n 0, 1) := by decide +kernel
theorem dX3_partOf_1 : decode cX3_partOf 1 = .ok (.getfield 12, 3) := by decide +kernel
theorem dX3_partOf_4 : decode cX3_partOf 4 = .ok (.getfield 127, 3) := by decide +kernel
theorem dX3_partOf_7 : decode cX3_partOf 7 = .ok (.iload_n 1, 1) := by decide +kernel
theorem dX3_partOf_8 : decode cX3_partOf 8 = .ok (.iaload, 1) := by decide +kernel
theorem dX3_partOf_9 : decode cX3_partOf 9 = .ok (.istore_n 2, 1) := by decide +kernel
theorem dX3_partOf_10 : decode cX3_partOf 10 = .ok (.aload_n 0, 1) := by decide +kernel
theorem dX3_partOf_11 : decode cX3_partOf 11 = .ok (.getfield 74, 3) := by decide +kernel
theorem dX3_partOf_14 : decode cX3_partOf 14 = .ok (.iconst 1, 1) := by decide +kernel
theorem dX3_partOf_15 : decode cX3_partOf 15 = .ok (.if_icmp .ne 15, 3) := by decide +kernel
theorem dX3_partOf_18 : decode cX3_partOf 18 = .ok (.aload_n 0, 1) := by decide +kernel
theorem dX3_partOf_19 : decode cX3_partOf 19 = .ok (.getfield 12, 3) := by decide +kernel
theorem dX3_partOf_22 : decode cX3_partOf 22 = .ok (.getfield 127, 3) := by decide +kernel
theorem dX3_partOf_25 : decode cX3_partOf 25 = .ok (.iload_n 2, 1) := by decide +kernel
theorem dX3_partOf_26 : decode cX3_partOf 26 = .ok (.iaload, 1) := by decide +kernel
theorem dX3_partOf_27 : decode cX3_partOf 27 = .ok (.goto 16, 3) := by decide +kernel
theorem dX3_partOf_30 : decode cX3_partOf 30 = .ok (.aload_n 0, 1) := by decide +kernel
theorem dX3_partOf_31 : decode cX3_partOf 31 = .ok (.getfield 74, 3) := by decide +kernel
theorem dX3_partOf_34 : decode cX3_partOf 34 = .ok (.iconst 2, 1) := by decide +kernel
theorem dX3_partOf_35 : decode cX3_partOf 35 = .ok (.if_icmp .ne 7, 3) := by decide +kernel
theorem dX3_partOf_38 : decode cX3_partOf 38 = .ok (.iload_n 2, 1) := by decide +kernel
theorem dX3_partOf_39 : decode cX3_partOf 39 = .ok (.goto 4, 3) := by decide +kernel
theorem dX3_partOf_42 : decode cX3_partOf 42 = .ok (.iload_n 1, 1) := by decide +kernel
theorem dX3_partOf_43 : decode cX3_partOf 43 = .ok (.ireturn, 1) := by decide +kernel
set_option maxHeartbeats 4000000 in
set_option maxRecDepth 20000 in
theorem c_X3_partOf : ConI mX3_partOf (fun args N lay r h Q => ∃ (p : Nat) (mp : Int → Int) (d : Int), args = [.ref p, vI d] ∧ PlAt lay r p ∧ TrM mp ∧ RlM mp ∧ PTr h p mp ∧ PRl h p mp ∧ (10 ≤ d ∧ d < 10 + mp 130) ∧ (-2147483648 ≤ prt mp d ∧ prt mp d < 2147483648 → Q (prt mp d) N lay r h)) := by
  refine ConI.of (by decide) (by rintro _ N lay r h Q ⟨p, mp, d, rfl, hA, hT, hR, hN, hL, hd, hQ⟩; exact ⟨rfl, Nat.le_of_ble_eq_true rfl⟩) ?_
  rintro E _ N lay r h Q ⟨p, mp, d, rfl, hA, hT, hR, hN, hL, hd, hQ⟩ hret
  obtain ⟨pl0, pl1, pl2, pl3, pl4, pl5, pl6, pl7, pl8, pl9, pl10, pl11, pl12, pl13, pr0, pr1, pr2, pr3, pr9, pr10, pr11, qr3, qr4, vr1, vr2, vr3, vr4⟩ := id hA
  obtain ⟨⟨n0, n1, n2⟩, up1, up2, uw, u0, uh⟩ := id hN
  obtain ⟨t1, t2, t3, t4, t5, t6, t7⟩ := id hT
  obtain ⟨⟨rl5, rl6, rl7, rl8⟩, rfu, rca, rre, rnu, rdv⟩ := id hL
  obtain ⟨r1, r2, r3, r4, r5, r6, r7⟩ := id hR
  have ea := up2 d hd.1 hd.2
  have q6 := t6 d hd.1 hd.2
  have q5 := t5 (mp d) (by omega) (by omega)
  have eh := up1 (mp d) (by omega) (by omega)
  show St E mX3_partOf 0 [some (.ref p), some (vI d), none] [] (0, 0) N lay r h
  refine r_aload_0 (pc := 0) dX3_partOf_0 ?_
  refine gf_X3_12 (pc := 1) rfl (by assumption) dX3_partOf_1 (by assumption) ?_
  refine gf_X3_127 (pc := 4) rfl (by assumption) dX3_partOf_4 (by assumption) ?_
  refine r_iload_1 (pc := 7) dX3_partOf_7 ?_
  refine r_ialdE (pc := 8) (by assumption) (by first | assumption | exact rfl) dX3_partOf_8 (by omega) (by omega) (fun i_8 => ?_)
  rw [ea] at i_8 ⊢
  refine r_istore_2 (pc := 9) dX3_partOf_9 rfl ?_
  refine r_aload_0 (pc := 10) dX3_partOf_10 ?_
  refine gf_X3_74 (pc := 11) rfl (by assumption) dX3_partOf_11 (fun i_11 => ?_)
  refine r_iconst (pc := 14) dX3_partOf_14 ?_
  refine r_icmp_ne (pc := 15) (tgt := 30) dX3_partOf_15 (by decide) (by omega) (by omega) (fun c_15 => ?_) (fun c_15 => ?_)
  · refine r_aload_0 (pc := 30) dX3_partOf_30 ?_
    refine gf_X3_74 (pc := 31) rfl (by assumption) dX3_partOf_31 (fun i_31 => ?_)
    refine r_iconst (pc := 34) dX3_partOf_34 ?_
    refine r_icmp_ne (pc := 35) (tgt := 42) dX3_partOf_35 (by decide) (by omega) (by omega) (fun c_35 => ?_) (fun c_35 => ?_)
    · refine r_iload_1 (pc := 42) dX3_partOf_42 ?_
      refine r_iret (pc := 43) hret dX3_partOf_43 rfl rfl rfl ?_
      first
      | (have e9 : prt mp d = d := by unfold prt; rw [if_pos (by omega)]
         rw [e9] at hQ; exact hQ (by omega))
      | (have e9 : prt mp d = mp d := by unfold prt; rw [if_neg (by omega), if_pos (by omega)]
         rw [e9] at hQ; exact hQ (by omega))
      | (have e9 : prt mp d = mp (mp d) := by unfold prt; rw [if_neg (by omega), if_neg (by omega)]
         rw [e9] at hQ; exact hQ (by omega))
    · refine r_iload_2 (pc := 38) dX3_partOf_38 ?_
      refine r_goto (pc := 39) (tgt := 43) dX3_partOf_39 (by decide) ?_
      refine r_iret (pc := 43) hret dX3_partOf_43 rfl rfl rfl ?_
      first
      | (have e9 : prt mp d = d := by unfold prt; rw [if_pos (by omega)]
         rw [e9] at hQ; exact hQ (by omega))
      | (have e9 : prt mp d = mp d := by unfold prt; rw [if_neg (by omega), if_pos (by omega)]
         rw [e9] at hQ; exact hQ (by omega))
      | (have e9 : prt mp d = mp (mp d) := by unfold prt; rw [if_neg (by omega), if_neg (by omega)]
         rw [e9] at hQ; exact hQ (by omega))
  · refine r_aload_0 (pc := 18) dX3_partOf_18 ?_
    refine gf_X3_12 (pc := 19) rfl (by assumption) dX3_partOf_19 (by assumption) ?_
    refine gf_X3_127 (pc := 22) rfl (by assumption) dX3_partOf_22 (by assumption) ?_
    refine r_iload_2 (pc := 25) dX3_partOf_25 ?_
    refine r_ialdE (pc := 26) (by assumption) (by first | assumption | exact rfl) dX3_partOf_26 (by omega) (by omega) (fun i_26 => ?_)
    rw [eh] at i_26 ⊢
    refine r_goto (pc := 27) (tgt := 43) dX3_partOf_27 (by decide) ?_
    refine r_iret (pc := 43) hret dX3_partOf_43 rfl rfl rfl ?_
    first
    | (have e9 : prt mp d = d := by unfold prt; rw [if_pos (by omega)]
       rw [e9] at hQ; exact hQ (by omega))
    | (have e9 : prt mp d = mp d := by unfold prt; rw [if_neg (by omega), if_pos (by omega)]
       rw [e9] at hQ; exact hQ (by omega))
    | (have e9 : prt mp d = mp (mp d) := by unfold prt; rw [if_neg (by omega), if_neg (by omega)]
       rw [e9] at hQ; exact hQ (by omega))

abbrev apD (mp co : Int → Int) (d lo c : Int) : Prop := co c < 0 ∨ co c = lo ∨ prt mp (co c) ≠ prt mp d
def apL (mp co : Int → Int) (d lo : Int) : Bool := decide (apD mp co d lo 0 ∧ apD mp co d lo 1 ∧ apD mp co d lo 2 ∧ apD mp co d lo 3)
theorem apL_iff {mp co : Int → Int} {d lo : Int} : apL mp co d lo = true ↔ ∀ c, 0 ≤ c → c < 4 → apD mp co d lo c := by
  unfold apL
  rw [decide_eq_true_iff]
  constructor
  · intro ⟨q0, q1, q2, q3⟩ c c0 c4
    rcases (show c = 0 ∨ c = 1 ∨ c = 2 ∨ c = 3 by omega) with rfl | rfl | rfl | rfl <;> assumption
  · intro q
    exact ⟨q 0 (by omega) (by omega), q 1 (by omega) (by omega), q 2 (by omega) (by omega), q 3 (by omega) (by omega)⟩
theorem dX3_isApart_0 : decode cX3_isApart 0 = .ok (.iconst 0, 1) := by decide +kernel
theorem dX3_isApart_1 : decode cX3_isApart 1 = .ok (.istore 4, 2) := by decide +kernel
theorem dX3_isApart_3 : decode cX3_isApart 3 = .ok (.iload 4, 2) := by decide +kernel
theorem dX3_isApart_5 : decode cX3_isApart 5 = .ok (.iconst 4, 1) := by decide +kernel
theorem dX3_isApart_6 : decode cX3_isApart 6 = .ok (.if_icmp .ge 49, 3) := by decide +kernel
theorem dX3_isApart_9 : decode cX3_isApart 9 = .ok (.aload_n 0, 1) := by decide +kernel
theorem dX3_isApart_10 : decode cX3_isApart 10 = .ok (.getfield 32, 3) := by decide +kernel
theorem dX3_isApart_13 : decode cX3_isApart 13 = .ok (.iload_n 1, 1) := by decide +kernel
theorem dX3_isApart_14 : decode cX3_isApart 14 = .ok (.iload 4, 2) := by decide +kernel
theorem dX3_isApart_16 : decode cX3_isApart 16 = .ok (.iadd, 1) := by decide +kernel
theorem dX3_isApart_17 : decode cX3_isApart 17 = .ok (.iaload, 1) := by decide +kernel
theorem dX3_isApart_18 : decode cX3_isApart 18 = .ok (.istore 5, 2) := by decide +kernel
theorem dX3_isApart_20 : decode cX3_isApart 20 = .ok (.iload 5, 2) := by decide +kernel
theorem dX3_isApart_22 : decode cX3_isApart 22 = .ok (.bipush (-4), 2) := by decide +kernel
theorem dX3_isApart_24 : decode cX3_isApart 24 = .ok (.if_icmp .eq 25, 3) := by decide +kernel
theorem dX3_isApart_27 : decode cX3_isApart 27 = .ok (.iload 5, 2) := by decide +kernel
theorem dX3_isApart_29 : decode cX3_isApart 29 = .ok (.iload_n 3, 1) := by decide +kernel
theorem dX3_isApart_30 : decode cX3_isApart 30 = .ok (.if_icmp .eq 19, 3) := by decide +kernel
theorem dX3_isApart_33 : decode cX3_isApart 33 = .ok (.aload_n 0, 1) := by decide +kernel
theorem dX3_isApart_34 : decode cX3_isApart 34 = .ok (.iload 5, 2) := by decide +kernel
theorem dX3_isApart_36 : decode cX3_isApart 36 = .ok (.invokevirtual 124, 3) := by decide +kernel
theorem dX3_isApart_39 : decode cX3_isApart 39 = .ok (.aload_n 0, 1) := by decide +kernel
theorem dX3_isApart_40 : decode cX3_isApart 40 = .ok (.iload_n 2, 1) := by decide +kernel
theorem dX3_isApart_41 : decode cX3_isApart 41 = .ok (.invokevirtual 124, 3) := by decide +kernel
theorem dX3_isApart_44 : decode cX3_isApart 44 = .ok (.if_icmp .ne 5, 3) := by decide +kernel
theorem dX3_isApart_47 : decode cX3_isApart 47 = .ok (.iconst 0, 1) := by decide +kernel
theorem dX3_isApart_48 : decode cX3_isApart 48 = .ok (.ireturn, 1) := by decide +kernel
theorem dX3_isApart_49 : decode cX3_isApart 49 = .ok (.iinc 4 1, 3) := by decide +kernel
theorem dX3_isApart_52 : decode cX3_isApart 52 = .ok (.goto (-49), 3) := by decide +kernel
theorem dX3_isApart_55 : decode cX3_isApart 55 = .ok (.iconst 1, 1) := by decide +kernel
theorem dX3_isApart_56 : decode cX3_isApart 56 = .ok (.ireturn, 1) := by decide +kernel
set_option maxHeartbeats 4000000 in
set_option maxRecDepth 20000 in
theorem c_X3_isApart : ConI mX3_isApart (fun args N lay r h Q => ∃ (p : Nat) (mp co : Int → Int) (g d lo : Int), args = [.ref p, vI (4 * g), vI d, vI lo] ∧ PlAt lay r p ∧ TrM mp ∧ RlM mp ∧ PTr h p mp ∧ PRl h p mp ∧ CoI mp co ∧ (∀ c, 0 ≤ c → c < 4 → h (p + 11) (4 * g + c) = co c) ∧ (0 ≤ g ∧ g < 16) ∧ (10 ≤ d ∧ d < 10 + mp 130) ∧ (-2147483648 ≤ lo ∧ lo < 2147483648) ∧ Q (bI (apL mp co d lo = true)) N lay r h) := by
  refine ConI.of (by decide) (by rintro _ N lay r h Q ⟨p, mp, co, g, d, lo, rfl, hA, hT, hR, hN, hL, hci, hco, hg, hd, hlo, hQ⟩; exact ⟨rfl, Nat.le_of_ble_eq_true rfl⟩) ?_
  rintro E _ N lay r h Q ⟨p, mp, co, g, d, lo, rfl, hA, hT, hR, hN, hL, hci, hco, hg, hd, hlo, hQ⟩ hret
  obtain ⟨pl0, pl1, pl2, pl3, pl4, pl5, pl6, pl7, pl8, pl9, pl10, pl11, pl12, pl13, pr0, pr1, pr2, pr3, pr9, pr10, pr11, qr3, qr4, vr1, vr2, vr3, vr4⟩ := id hA
  have t3 := hT.2.2.1
  show St E mX3_isApart 0 [some (.ref p), some (vI (4 * g)), some (vI d), some (vI lo), none, none] [] (0, 0) N lay r h
  have lp : ∀ (n_ : Nat) (c : Int) (x5 : Option Value), (4 - c).toNat = n_ → (0 ≤ c ∧ c ≤ 4) → (∀ q, 0 ≤ q → q < c → apD mp co d lo q) → St E mX3_isApart 3 [some (.ref p), some (vI (4 * g)), some (vI d), some (vI lo), some (vI c), x5] [] (0, 0) N lay r h := by
    intro  n_
    induction n_ using Nat.strongRecOn with
    | ind n_ ih =>
      intro c x5 hn_ hc hap
      have ecc := fun z => hco c hc.1 z
      have eci := hci c
      refine r_iload_4 (pc := 3) dX3_isApart_3 ?_
      refine r_iconst (pc := 5) dX3_isApart_5 ?_
      refine r_icmp_ge (pc := 6) (tgt := 55) dX3_isApart_6 (by decide) (by omega) (by omega) (fun c_6 => ?_) (fun c_6 => ?_)
      · refine r_iconst (pc := 55) dX3_isApart_55 ?_
        refine r_zret (pc := 56) hret dX3_isApart_56 rfl rfl rfl (by first | exact Or.inl rfl | exact Or.inr rfl | exact bI_01 | omega) ?_
        first
        | (have k9 : 4 ≤ c := by omega
           rw [bI_t (apL_iff.mpr (fun q q0 q1 => hap q q0 (by omega)))] at hQ
           exact hQ)
        | (have k9 : prt mp (co c) = prt mp d := c_44
           rw [bI_f (fun z => by
             rcases apL_iff.mp z c (by omega) (by omega) with y | y | y
             · omega
             · exact c_30 y
             · exact y k9)] at hQ
           exact hQ)
      · refine r_aload_0 (pc := 9) dX3_isApart_9 ?_
        refine gf_X3_32 (pc := 10) rfl (by assumption) dX3_isApart_10 (by assumption) ?_
        refine r_iload_1 (pc := 13) dX3_isApart_13 ?_
        refine r_iload_4 (pc := 14) dX3_isApart_14 ?_
        refine r_iadd (pc := 16) dX3_isApart_16 ?_
        refine r_ialdE (pc := 17) (by assumption) (by first | assumption | exact rfl) dX3_isApart_17 (by omega) (by omega) (fun i_17 => ?_)
        have ec := ecc (by omega)
        rw [ec] at i_17 ⊢
        refine r_istore_5 (pc := 18) dX3_isApart_18 rfl ?_
        refine r_iload_5 (pc := 20) dX3_isApart_20 ?_
        refine r_bipush (pc := 22) dX3_isApart_22 (by decide) ?_
        refine r_icmp_eq (pc := 24) (tgt := 49) dX3_isApart_24 (by decide) (by omega) (by omega) (fun c_24 => ?_) (fun c_24 => ?_)
        · refine r_iinc_4 (pc := 49) dX3_isApart_49 rfl ?_
          refine r_goto (pc := 52) (tgt := 3) dX3_isApart_52 (by decide) ?_
          refine ih _ (by omega) (c + 1) _ rfl (by omega) (fun q q0 q1 => ?_)
          by_cases e : q = c
          · subst e
            first
            | exact Or.inl (by omega)
            | exact Or.inr (Or.inl c_30)
            | exact Or.inr (Or.inr c_44)
          · exact hap q q0 (by omega)
        · refine r_iload_5 (pc := 27) dX3_isApart_27 ?_
          refine r_iload_3 (pc := 29) dX3_isApart_29 ?_
          refine r_icmp_eq (pc := 30) (tgt := 49) dX3_isApart_30 (by decide) (by omega) (by omega) (fun c_30 => ?_) (fun c_30 => ?_)
          · refine r_iinc_4 (pc := 49) dX3_isApart_49 rfl ?_
            refine r_goto (pc := 52) (tgt := 3) dX3_isApart_52 (by decide) ?_
            refine ih _ (by omega) (c + 1) _ rfl (by omega) (fun q q0 q1 => ?_)
            by_cases e : q = c
            · subst e
              first
              | exact Or.inl (by omega)
              | exact Or.inr (Or.inl c_30)
              | exact Or.inr (Or.inr c_44)
            · exact hap q q0 (by omega)
          · refine r_aload_0 (pc := 33) dX3_isApart_33 ?_
            refine r_iload_5 (pc := 34) dX3_isApart_34 ?_
            refine k_VI1 (pc := 36) c_X3_partOf lk_X3_124 ⟨Nat.le_of_ble_eq_true rfl, Nat.le_of_ble_eq_true rfl⟩ ⟨rfl, rfl⟩ ⟨Nat.le_of_ble_eq_true rfl, Nat.le_of_ble_eq_true rfl⟩ (k := 3) rfl (by decide) (by assumption) dX3_isApart_36 (Nat.le_of_ble_eq_true rfl) ?_
            refine ⟨_, _, _, rfl, by assumption, by assumption, by assumption, by assumption, by assumption, by omega, fun i_36 => ?_⟩
            refine r_aload_0 (pc := 39) dX3_isApart_39 ?_
            refine r_iload_2 (pc := 40) dX3_isApart_40 ?_
            refine k_VI1 (pc := 41) c_X3_partOf lk_X3_124 ⟨Nat.le_of_ble_eq_true rfl, Nat.le_of_ble_eq_true rfl⟩ ⟨rfl, rfl⟩ ⟨Nat.le_of_ble_eq_true rfl, Nat.le_of_ble_eq_true rfl⟩ (k := 3) rfl (by decide) (by assumption) dX3_isApart_41 (Nat.le_of_ble_eq_true rfl) ?_
            refine ⟨_, _, _, rfl, by assumption, by assumption, by assumption, by assumption, by assumption, by omega, fun i_41 => ?_⟩
            refine r_icmp_ne (pc := 44) (tgt := 49) dX3_isApart_44 (by decide) (by omega) (by omega) (fun c_44 => ?_) (fun c_44 => ?_)
            · refine r_iinc_4 (pc := 49) dX3_isApart_49 rfl ?_
              refine r_goto (pc := 52) (tgt := 3) dX3_isApart_52 (by decide) ?_
              refine ih _ (by omega) (c + 1) _ rfl (by omega) (fun q q0 q1 => ?_)
              by_cases e : q = c
              · subst e
                first
                | exact Or.inl (by omega)
                | exact Or.inr (Or.inl c_30)
                | exact Or.inr (Or.inr c_44)
              · exact hap q q0 (by omega)
            · refine r_iconst (pc := 47) dX3_isApart_47 ?_
              refine r_zret (pc := 48) hret dX3_isApart_48 rfl rfl rfl (by first | exact Or.inl rfl | exact Or.inr rfl | exact bI_01 | omega) ?_
              first
              | (have k9 : 4 ≤ c := by omega
                 rw [bI_t (apL_iff.mpr (fun q q0 q1 => hap q q0 (by omega)))] at hQ
                 exact hQ)
              | (have k9 : prt mp (co c) = prt mp d := c_44
                 rw [bI_f (fun z => by
                   rcases apL_iff.mp z c (by omega) (by omega) with y | y | y
                   · omega
                   · exact c_30 y
                   · exact y k9)] at hQ
                 exact hQ)
  refine r_iconst (pc := 0) dX3_isApart_0 ?_
  refine r_istore_4 (pc := 1) dX3_isApart_1 rfl ?_
  exact lp _ 0 _ rfl (by omega) (fun q q0 q1 => by omega)

