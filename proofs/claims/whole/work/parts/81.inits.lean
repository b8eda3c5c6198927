/-! CONSTRUCTORS of the small classes -/
def DvAt (lay : LyT) (r : RfT) (v : Nat) : Prop := lay v = (2, 0) ∧ lay (v + 1) = (10, 6) ∧ lay (v + 2) = (10, 6) ∧ lay (v + 3) = (10, 6) ∧ lay (v + 4) = (10, 6) ∧ r v 1 = some (v + 1) ∧ r v 2 = some (v + 2) ∧ r v 3 = some (v + 3) ∧ r v 4 = some (v + 4)
theorem w_aC : Cond.arrayClass .char ∈ lwT := inT 112 (by decide +kernel) rfl
theorem w_aZ : Cond.arrayClass .boolean ∈ lwT := inT 287 (by decide +kernel) rfl
theorem dX6_init_0 : decode cX6_init 0 = .ok (.aload_n 0, 1) := by decide +kernel
theorem dX6_init_1 : decode cX6_init 1 = .ok (.invokespecial 3, 3) := by decide +kernel
theorem dX6_init_4 : decode cX6_init 4 = .ok (.aload_n 0, 1) := by decide +kernel
theorem dX6_init_5 : decode cX6_init 5 = .ok (.bipush 22, 2) := by decide +kernel
theorem dX6_init_7 : decode cX6_init 7 = .ok (.newarray .int, 2) := by decide +kernel
theorem dX6_init_9 : decode cX6_init 9 = .ok (.putfield 9, 3) := by decide +kernel
theorem dX6_init_12 : decode cX6_init 12 = .ok (.aload_n 0, 1) := by decide +kernel
theorem dX6_init_13 : decode cX6_init 13 = .ok (.bipush 22, 2) := by decide +kernel
theorem dX6_init_15 : decode cX6_init 15 = .ok (.newarray .int, 2) := by decide +kernel
theorem dX6_init_17 : decode cX6_init 17 = .ok (.putfield 15, 3) := by decide +kernel
theorem dX6_init_20 : decode cX6_init 20 = .ok (.return_, 1) := by decide +kernel
set_option maxHeartbeats 4000000 in
set_option maxRecDepth 20000 in
theorem c_X6_init : ConV mX6_init (fun args N lay r h Q => ∃ (a : Nat), args = [.ref a] ∧ N = a + 1 ∧ lay a = (7, 0) ∧ h a = (fun _ => 0) ∧ ∀ (la : LyT) (ra : RfT) (ha : HpT), TreeAt la ra a → (∀ x, x < a → la x = lay x ∧ ra x = r x ∧ ha x = h x) → (∀ x, a ≤ x → x < a + 3 → ha x = fun _ => 0) → Q (a + 3) la ra ha) := by
  refine ConV.of (by decide) (by rintro _ N lay r h Q ⟨a, rfl, rfl, hl0, h0, hQ⟩; exact ⟨rfl, Nat.le_of_ble_eq_true rfl⟩) ?_
  rintro E _ N lay r h Q ⟨a, rfl, rfl, hl0, h0, hQ⟩ hret
  show St E mX6_init 0 [some (.ref a)] [] (0, 0) (a + 1) lay r h
  refine r_aload_0 (pc := 0) dX6_init_0 ?_
  refine r_objInit (pc := 1) (inT 136 (by decide +kernel) rfl) dX6_init_1 (Nat.le_of_ble_eq_true rfl) (Nat.le_of_ble_eq_true rfl) ?_
  refine r_aload_0 (pc := 4) dX6_init_4 ?_
  refine r_bipush (pc := 5) dX6_init_5 (by decide) ?_
  refine r_newI (pc := 7) (n := 22) rfl w_aI dX6_init_7 (Nat.le_of_ble_eq_true rfl) (Nat.le_of_ble_eq_true rfl) (Nat.le_of_ble_eq_true rfl) ?_
  refine pf_X6_9 (pc := 9) rfl rfl (show (lyp lay (a + 1) (10, 22)) a = (7, 0) from (lyp_n (by omega)).trans (hl0)) dX6_init_9 ?_
  refine r_aload_0 (pc := 12) dX6_init_12 ?_
  refine r_bipush (pc := 13) dX6_init_13 (by decide) ?_
  refine r_newI (pc := 15) (n := 22) rfl w_aI dX6_init_15 (Nat.le_of_ble_eq_true rfl) (Nat.le_of_ble_eq_true rfl) (Nat.le_of_ble_eq_true rfl) ?_
  refine pf_X6_15 (pc := 17) rfl rfl (show (lyp (lyp lay (a + 1) (10, 22)) (a + 2) (10, 22)) a = (7, 0) from (lyp_n (by omega)).trans ((lyp_n (by omega)).trans (hl0))) dX6_init_17 ?_
  refine r_ret (pc := 20) hret dX6_init_20 rfl rfl rfl ?_
  refine hQ (lyp (lyp lay (a + 1) (10, 22)) (a + 2) (10, 22)) (rr (rr r a (rup (r a) 3 (some (a + 1)))) a (rup ((rr r a (rup (r a) 3 (some (a + 1)))) a) 4 (some (a + 2)))) (hr (hr h (a + 1) (fun _ => 0)) (a + 2) (fun _ => 0)) ⟨(lyp_n (by omega)).trans ((lyp_n (by omega)).trans (hl0)), ((lyp_n (by omega)).trans (lyp_s)), (lyp_s), (by simp only [rr, rup, if_true] <;> rfl), (by simp only [rr, rup, if_true] <;> rfl)⟩ (fun x hx => ⟨?_, ?_, ?_⟩) (fun x x0 x1 => ?_)
  · rw [lyp_n (by omega), lyp_n (by omega)]
  · rw [rr_n (by omega), rr_n (by omega)]
  · rw [hr_n (by omega), hr_n (by omega)]
  · simp only [hr]
    split
    · rfl
    · first
      | rfl
      | (rw [show x = a by omega]; exact h0)
      | (split
         · rfl
         · first
           | rfl
           | (rw [show x = a by omega]; exact h0)
           | (split
              · rfl
              · first
                | rfl
                | (rw [show x = a by omega]; exact h0)
                | (split
                   · rfl
                   · (rw [show x = a by omega]; exact h0))))

theorem dX1_init_0 : decode cX1_init 0 = .ok (.aload_n 0, 1) := by decide +kernel
theorem dX1_init_1 : decode cX1_init 1 = .ok (.invokespecial 3, 3) := by decide +kernel
theorem dX1_init_4 : decode cX1_init 4 = .ok (.aload_n 0, 1) := by decide +kernel
theorem dX1_init_5 : decode cX1_init 5 = .ok (.bipush 6, 2) := by decide +kernel
theorem dX1_init_7 : decode cX1_init 7 = .ok (.newarray .int, 2) := by decide +kernel
theorem dX1_init_9 : decode cX1_init 9 = .ok (.putfield 9, 3) := by decide +kernel
theorem dX1_init_12 : decode cX1_init 12 = .ok (.aload_n 0, 1) := by decide +kernel
theorem dX1_init_13 : decode cX1_init 13 = .ok (.bipush 6, 2) := by decide +kernel
theorem dX1_init_15 : decode cX1_init 15 = .ok (.newarray .int, 2) := by decide +kernel
theorem dX1_init_17 : decode cX1_init 17 = .ok (.putfield 15, 3) := by decide +kernel
theorem dX1_init_20 : decode cX1_init 20 = .ok (.aload_n 0, 1) := by decide +kernel
theorem dX1_init_21 : decode cX1_init 21 = .ok (.bipush 6, 2) := by decide +kernel
theorem dX1_init_23 : decode cX1_init 23 = .ok (.newarray .int, 2) := by decide +kernel
theorem dX1_init_25 : decode cX1_init 25 = .ok (.putfield 18, 3) := by decide +kernel
theorem dX1_init_28 : decode cX1_init 28 = .ok (.aload_n 0, 1) := by decide +kernel
theorem dX1_init_29 : decode cX1_init 29 = .ok (.bipush 6, 2) := by decide +kernel
theorem dX1_init_31 : decode cX1_init 31 = .ok (.newarray .int, 2) := by decide +kernel
theorem dX1_init_33 : decode cX1_init 33 = .ok (.putfield 21, 3) := by decide +kernel
theorem dX1_init_36 : decode cX1_init 36 = .ok (.return_, 1) := by decide +kernel
set_option maxHeartbeats 4000000 in
set_option maxRecDepth 20000 in
theorem c_X1_init : ConV mX1_init (fun args N lay r h Q => ∃ (a : Nat), args = [.ref a] ∧ N = a + 1 ∧ lay a = (2, 0) ∧ h a = (fun _ => 0) ∧ ∀ (la : LyT) (ra : RfT) (ha : HpT), DvAt la ra a → (∀ x, x < a → la x = lay x ∧ ra x = r x ∧ ha x = h x) → (∀ x, a ≤ x → x < a + 5 → ha x = fun _ => 0) → Q (a + 5) la ra ha) := by
  refine ConV.of (by decide) (by rintro _ N lay r h Q ⟨a, rfl, rfl, hl0, h0, hQ⟩; exact ⟨rfl, Nat.le_of_ble_eq_true rfl⟩) ?_
  rintro E _ N lay r h Q ⟨a, rfl, rfl, hl0, h0, hQ⟩ hret
  show St E mX1_init 0 [some (.ref a)] [] (0, 0) (a + 1) lay r h
  refine r_aload_0 (pc := 0) dX1_init_0 ?_
  refine r_objInit (pc := 1) (inT 168 (by decide +kernel) rfl) dX1_init_1 (Nat.le_of_ble_eq_true rfl) (Nat.le_of_ble_eq_true rfl) ?_
  refine r_aload_0 (pc := 4) dX1_init_4 ?_
  refine r_bipush (pc := 5) dX1_init_5 (by decide) ?_
  refine r_newI (pc := 7) (n := 6) rfl w_aI dX1_init_7 (Nat.le_of_ble_eq_true rfl) (Nat.le_of_ble_eq_true rfl) (Nat.le_of_ble_eq_true rfl) ?_
  refine pf_X1_9 (pc := 9) rfl rfl (show (lyp lay (a + 1) (10, 6)) a = (2, 0) from (lyp_n (by omega)).trans (hl0)) dX1_init_9 ?_
  refine r_aload_0 (pc := 12) dX1_init_12 ?_
  refine r_bipush (pc := 13) dX1_init_13 (by decide) ?_
  refine r_newI (pc := 15) (n := 6) rfl w_aI dX1_init_15 (Nat.le_of_ble_eq_true rfl) (Nat.le_of_ble_eq_true rfl) (Nat.le_of_ble_eq_true rfl) ?_
  refine pf_X1_15 (pc := 17) rfl rfl (show (lyp (lyp lay (a + 1) (10, 6)) (a + 2) (10, 6)) a = (2, 0) from (lyp_n (by omega)).trans ((lyp_n (by omega)).trans (hl0))) dX1_init_17 ?_
  refine r_aload_0 (pc := 20) dX1_init_20 ?_
  refine r_bipush (pc := 21) dX1_init_21 (by decide) ?_
  refine r_newI (pc := 23) (n := 6) rfl w_aI dX1_init_23 (Nat.le_of_ble_eq_true rfl) (Nat.le_of_ble_eq_true rfl) (Nat.le_of_ble_eq_true rfl) ?_
  refine pf_X1_18 (pc := 25) rfl rfl (show (lyp (lyp (lyp lay (a + 1) (10, 6)) (a + 2) (10, 6)) (a + 3) (10, 6)) a = (2, 0) from (lyp_n (by omega)).trans ((lyp_n (by omega)).trans ((lyp_n (by omega)).trans (hl0)))) dX1_init_25 ?_
  refine r_aload_0 (pc := 28) dX1_init_28 ?_
  refine r_bipush (pc := 29) dX1_init_29 (by decide) ?_
  refine r_newI (pc := 31) (n := 6) rfl w_aI dX1_init_31 (Nat.le_of_ble_eq_true rfl) (Nat.le_of_ble_eq_true rfl) (Nat.le_of_ble_eq_true rfl) ?_
  refine pf_X1_21 (pc := 33) rfl rfl (show (lyp (lyp (lyp (lyp lay (a + 1) (10, 6)) (a + 2) (10, 6)) (a + 3) (10, 6)) (a + 4) (10, 6)) a = (2, 0) from (lyp_n (by omega)).trans ((lyp_n (by omega)).trans ((lyp_n (by omega)).trans ((lyp_n (by omega)).trans (hl0))))) dX1_init_33 ?_
  refine r_ret (pc := 36) hret dX1_init_36 rfl rfl rfl ?_
  refine hQ (lyp (lyp (lyp (lyp lay (a + 1) (10, 6)) (a + 2) (10, 6)) (a + 3) (10, 6)) (a + 4) (10, 6)) (rr (rr (rr (rr r a (rup (r a) 1 (some (a + 1)))) a (rup ((rr r a (rup (r a) 1 (some (a + 1)))) a) 2 (some (a + 2)))) a (rup ((rr (rr r a (rup (r a) 1 (some (a + 1)))) a (rup ((rr r a (rup (r a) 1 (some (a + 1)))) a) 2 (some (a + 2)))) a) 3 (some (a + 3)))) a (rup ((rr (rr (rr r a (rup (r a) 1 (some (a + 1)))) a (rup ((rr r a (rup (r a) 1 (some (a + 1)))) a) 2 (some (a + 2)))) a (rup ((rr (rr r a (rup (r a) 1 (some (a + 1)))) a (rup ((rr r a (rup (r a) 1 (some (a + 1)))) a) 2 (some (a + 2)))) a) 3 (some (a + 3)))) a) 4 (some (a + 4)))) (hr (hr (hr (hr h (a + 1) (fun _ => 0)) (a + 2) (fun _ => 0)) (a + 3) (fun _ => 0)) (a + 4) (fun _ => 0)) ⟨(lyp_n (by omega)).trans ((lyp_n (by omega)).trans ((lyp_n (by omega)).trans ((lyp_n (by omega)).trans (hl0)))), ((lyp_n (by omega)).trans ((lyp_n (by omega)).trans ((lyp_n (by omega)).trans (lyp_s)))), ((lyp_n (by omega)).trans ((lyp_n (by omega)).trans (lyp_s))), ((lyp_n (by omega)).trans (lyp_s)), (lyp_s), (by simp only [rr, rup, if_true] <;> rfl), (by simp only [rr, rup, if_true] <;> rfl), (by simp only [rr, rup, if_true] <;> rfl), (by simp only [rr, rup, if_true] <;> rfl)⟩ (fun x hx => ⟨?_, ?_, ?_⟩) (fun x x0 x1 => ?_)
  · rw [lyp_n (by omega), lyp_n (by omega), lyp_n (by omega), lyp_n (by omega)]
  · rw [rr_n (by omega), rr_n (by omega), rr_n (by omega), rr_n (by omega)]
  · rw [hr_n (by omega), hr_n (by omega), hr_n (by omega), hr_n (by omega)]
  · simp only [hr]
    split
    · rfl
    · first
      | rfl
      | (rw [show x = a by omega]; exact h0)
      | (split
         · rfl
         · first
           | rfl
           | (rw [show x = a by omega]; exact h0)
           | (split
              · rfl
              · first
                | rfl
                | (rw [show x = a by omega]; exact h0)
                | (split
                   · rfl
                   · (rw [show x = a by omega]; exact h0))))

theorem dX0_init_0 : decode cX0_init 0 = .ok (.aload_n 0, 1) := by decide +kernel
theorem dX0_init_1 : decode cX0_init 1 = .ok (.invokespecial 3, 3) := by decide +kernel
theorem dX0_init_4 : decode cX0_init 4 = .ok (.aload_n 0, 1) := by decide +kernel
theorem dX0_init_5 : decode cX0_init 5 = .ok (.bipush 16, 2) := by decide +kernel
theorem dX0_init_7 : decode cX0_init 7 = .ok (.newarray .int, 2) := by decide +kernel
theorem dX0_init_9 : decode cX0_init 9 = .ok (.putfield 9, 3) := by decide +kernel
theorem dX0_init_12 : decode cX0_init 12 = .ok (.aload_n 0, 1) := by decide +kernel
theorem dX0_init_13 : decode cX0_init 13 = .ok (.bipush 16, 2) := by decide +kernel
theorem dX0_init_15 : decode cX0_init 15 = .ok (.newarray .int, 2) := by decide +kernel
theorem dX0_init_17 : decode cX0_init 17 = .ok (.putfield 15, 3) := by decide +kernel
theorem dX0_init_20 : decode cX0_init 20 = .ok (.return_, 1) := by decide +kernel
set_option maxHeartbeats 4000000 in
set_option maxRecDepth 20000 in
theorem c_X0_init : ConV mX0_init (fun args N lay r h Q => ∃ (a : Nat), args = [.ref a] ∧ N = a + 1 ∧ lay a = (1, 0) ∧ h a = (fun _ => 0) ∧ ∀ (la : LyT) (ra : RfT) (ha : HpT), DaAt la ra a → (∀ x, x < a → la x = lay x ∧ ra x = r x ∧ ha x = h x) → (∀ x, a ≤ x → x < a + 3 → ha x = fun _ => 0) → Q (a + 3) la ra ha) := by
  refine ConV.of (by decide) (by rintro _ N lay r h Q ⟨a, rfl, rfl, hl0, h0, hQ⟩; exact ⟨rfl, Nat.le_of_ble_eq_true rfl⟩) ?_
  rintro E _ N lay r h Q ⟨a, rfl, rfl, hl0, h0, hQ⟩ hret
  show St E mX0_init 0 [some (.ref a)] [] (0, 0) (a + 1) lay r h
  refine r_aload_0 (pc := 0) dX0_init_0 ?_
  refine r_objInit (pc := 1) (inT 253 (by decide +kernel) rfl) dX0_init_1 (Nat.le_of_ble_eq_true rfl) (Nat.le_of_ble_eq_true rfl) ?_
  refine r_aload_0 (pc := 4) dX0_init_4 ?_
  refine r_bipush (pc := 5) dX0_init_5 (by decide) ?_
  refine r_newI (pc := 7) (n := 16) rfl w_aI dX0_init_7 (Nat.le_of_ble_eq_true rfl) (Nat.le_of_ble_eq_true rfl) (Nat.le_of_ble_eq_true rfl) ?_
  refine pf_X0_9 (pc := 9) rfl rfl (show (lyp lay (a + 1) (10, 16)) a = (1, 0) from (lyp_n (by omega)).trans (hl0)) dX0_init_9 ?_
  refine r_aload_0 (pc := 12) dX0_init_12 ?_
  refine r_bipush (pc := 13) dX0_init_13 (by decide) ?_
  refine r_newI (pc := 15) (n := 16) rfl w_aI dX0_init_15 (Nat.le_of_ble_eq_true rfl) (Nat.le_of_ble_eq_true rfl) (Nat.le_of_ble_eq_true rfl) ?_
  refine pf_X0_15 (pc := 17) rfl rfl (show (lyp (lyp lay (a + 1) (10, 16)) (a + 2) (10, 16)) a = (1, 0) from (lyp_n (by omega)).trans ((lyp_n (by omega)).trans (hl0))) dX0_init_17 ?_
  refine r_ret (pc := 20) hret dX0_init_20 rfl rfl rfl ?_
  refine hQ (lyp (lyp lay (a + 1) (10, 16)) (a + 2) (10, 16)) (rr (rr r a (rup (r a) 1 (some (a + 1)))) a (rup ((rr r a (rup (r a) 1 (some (a + 1)))) a) 2 (some (a + 2)))) (hr (hr h (a + 1) (fun _ => 0)) (a + 2) (fun _ => 0)) ⟨(lyp_n (by omega)).trans ((lyp_n (by omega)).trans (hl0)), ((lyp_n (by omega)).trans (lyp_s)), (lyp_s), (by simp only [rr, rup, if_true] <;> rfl), (by simp only [rr, rup, if_true] <;> rfl)⟩ (fun x hx => ⟨?_, ?_, ?_⟩) (fun x x0 x1 => ?_)
  · rw [lyp_n (by omega), lyp_n (by omega)]
  · rw [rr_n (by omega), rr_n (by omega)]
  · rw [hr_n (by omega), hr_n (by omega)]
  · simp only [hr]
    split
    · rfl
    · first
      | rfl
      | (rw [show x = a by omega]; exact h0)
      | (split
         · rfl
         · first
           | rfl
           | (rw [show x = a by omega]; exact h0)
           | (split
              · rfl
              · first
                | rfl
                | (rw [show x = a by omega]; exact h0)
                | (split
                   · rfl
                   · (rw [show x = a by omega]; exact h0))))

theorem dX2_init_0 : decode cX2_init 0 = .ok (.aload_n 0, 1) := by decide +kernel
theorem dX2_init_1 : decode cX2_init 1 = .ok (.invokespecial 3, 3) := by decide +kernel
theorem dX2_init_4 : decode cX2_init 4 = .ok (.aload_n 0, 1) := by decide +kernel
theorem dX2_init_5 : decode cX2_init 5 = .ok (.bipush 6, 2) := by decide +kernel
theorem dX2_init_7 : decode cX2_init 7 = .ok (.newarray .int, 2) := by decide +kernel
theorem dX2_init_9 : decode cX2_init 9 = .ok (.putfield 9, 3) := by decide +kernel
theorem dX2_init_12 : decode cX2_init 12 = .ok (.aload_n 0, 1) := by decide +kernel
theorem dX2_init_13 : decode cX2_init 13 = .ok (.bipush 6, 2) := by decide +kernel
theorem dX2_init_15 : decode cX2_init 15 = .ok (.newarray .int, 2) := by decide +kernel
theorem dX2_init_17 : decode cX2_init 17 = .ok (.putfield 15, 3) := by decide +kernel
theorem dX2_init_20 : decode cX2_init 20 = .ok (.aload_n 0, 1) := by decide +kernel
theorem dX2_init_21 : decode cX2_init 21 = .ok (.bipush 6, 2) := by decide +kernel
theorem dX2_init_23 : decode cX2_init 23 = .ok (.newarray .boolean, 2) := by decide +kernel
theorem dX2_init_25 : decode cX2_init 25 = .ok (.putfield 18, 3) := by decide +kernel
theorem dX2_init_28 : decode cX2_init 28 = .ok (.return_, 1) := by decide +kernel
set_option maxHeartbeats 4000000 in
set_option maxRecDepth 20000 in
theorem c_X2_init : ConV mX2_init (fun args N lay r h Q => ∃ (a : Nat), args = [.ref a] ∧ N = a + 1 ∧ lay a = (3, 0) ∧ h a = (fun _ => 0) ∧ ∀ (la : LyT) (ra : RfT) (ha : HpT), ObAt la ra a → (∀ x, x < a → la x = lay x ∧ ra x = r x ∧ ha x = h x) → (∀ x, a ≤ x → x < a + 4 → ha x = fun _ => 0) → Q (a + 4) la ra ha) := by
  refine ConV.of (by decide) (by rintro _ N lay r h Q ⟨a, rfl, rfl, hl0, h0, hQ⟩; exact ⟨rfl, Nat.le_of_ble_eq_true rfl⟩) ?_
  rintro E _ N lay r h Q ⟨a, rfl, rfl, hl0, h0, hQ⟩ hret
  show St E mX2_init 0 [some (.ref a)] [] (0, 0) (a + 1) lay r h
  refine r_aload_0 (pc := 0) dX2_init_0 ?_
  refine r_objInit (pc := 1) (inT 272 (by decide +kernel) rfl) dX2_init_1 (Nat.le_of_ble_eq_true rfl) (Nat.le_of_ble_eq_true rfl) ?_
  refine r_aload_0 (pc := 4) dX2_init_4 ?_
  refine r_bipush (pc := 5) dX2_init_5 (by decide) ?_
  refine r_newI (pc := 7) (n := 6) rfl w_aI dX2_init_7 (Nat.le_of_ble_eq_true rfl) (Nat.le_of_ble_eq_true rfl) (Nat.le_of_ble_eq_true rfl) ?_
  refine pf_X2_9 (pc := 9) rfl rfl (show (lyp lay (a + 1) (10, 6)) a = (3, 0) from (lyp_n (by omega)).trans (hl0)) dX2_init_9 ?_
  refine r_aload_0 (pc := 12) dX2_init_12 ?_
  refine r_bipush (pc := 13) dX2_init_13 (by decide) ?_
  refine r_newI (pc := 15) (n := 6) rfl w_aI dX2_init_15 (Nat.le_of_ble_eq_true rfl) (Nat.le_of_ble_eq_true rfl) (Nat.le_of_ble_eq_true rfl) ?_
  refine pf_X2_15 (pc := 17) rfl rfl (show (lyp (lyp lay (a + 1) (10, 6)) (a + 2) (10, 6)) a = (3, 0) from (lyp_n (by omega)).trans ((lyp_n (by omega)).trans (hl0))) dX2_init_17 ?_
  refine r_aload_0 (pc := 20) dX2_init_20 ?_
  refine r_bipush (pc := 21) dX2_init_21 (by decide) ?_
  refine r_newZ (pc := 23) (n := 6) rfl w_aZ dX2_init_23 (Nat.le_of_ble_eq_true rfl) (Nat.le_of_ble_eq_true rfl) (Nat.le_of_ble_eq_true rfl) ?_
  refine pf_X2_18 (pc := 25) rfl rfl (show (lyp (lyp (lyp lay (a + 1) (10, 6)) (a + 2) (10, 6)) (a + 3) (12, 6)) a = (3, 0) from (lyp_n (by omega)).trans ((lyp_n (by omega)).trans ((lyp_n (by omega)).trans (hl0)))) dX2_init_25 ?_
  refine r_ret (pc := 28) hret dX2_init_28 rfl rfl rfl ?_
  refine hQ (lyp (lyp (lyp lay (a + 1) (10, 6)) (a + 2) (10, 6)) (a + 3) (12, 6)) (rr (rr (rr r a (rup (r a) 1 (some (a + 1)))) a (rup ((rr r a (rup (r a) 1 (some (a + 1)))) a) 2 (some (a + 2)))) a (rup ((rr (rr r a (rup (r a) 1 (some (a + 1)))) a (rup ((rr r a (rup (r a) 1 (some (a + 1)))) a) 2 (some (a + 2)))) a) 3 (some (a + 3)))) (hr (hr (hr h (a + 1) (fun _ => 0)) (a + 2) (fun _ => 0)) (a + 3) (fun _ => 0)) ⟨(lyp_n (by omega)).trans ((lyp_n (by omega)).trans ((lyp_n (by omega)).trans (hl0))), ((lyp_n (by omega)).trans ((lyp_n (by omega)).trans (lyp_s))), ((lyp_n (by omega)).trans (lyp_s)), (lyp_s), (by simp only [rr, rup, if_true] <;> rfl), (by simp only [rr, rup, if_true] <;> rfl), (by simp only [rr, rup, if_true] <;> rfl)⟩ (fun x hx => ⟨?_, ?_, ?_⟩) (fun x x0 x1 => ?_)
  · rw [lyp_n (by omega), lyp_n (by omega), lyp_n (by omega)]
  · rw [rr_n (by omega), rr_n (by omega), rr_n (by omega)]
  · rw [hr_n (by omega), hr_n (by omega), hr_n (by omega)]
  · simp only [hr]
    split
    · rfl
    · first
      | rfl
      | (rw [show x = a by omega]; exact h0)
      | (split
         · rfl
         · first
           | rfl
           | (rw [show x = a by omega]; exact h0)
           | (split
              · rfl
              · first
                | rfl
                | (rw [show x = a by omega]; exact h0)
                | (split
                   · rfl
                   · (rw [show x = a by omega]; exact h0))))

theorem dX4_init_0 : decode cX4_init 0 = .ok (.aload_n 0, 1) := by decide +kernel
theorem dX4_init_1 : decode cX4_init 1 = .ok (.invokespecial 3, 3) := by decide +kernel
theorem dX4_init_4 : decode cX4_init 4 = .ok (.aload_n 0, 1) := by decide +kernel
theorem dX4_init_5 : decode cX4_init 5 = .ok (.sipush 8448, 3) := by decide +kernel
theorem dX4_init_8 : decode cX4_init 8 = .ok (.newarray .int, 2) := by decide +kernel
theorem dX4_init_10 : decode cX4_init 10 = .ok (.putfield 9, 3) := by decide +kernel
theorem dX4_init_13 : decode cX4_init 13 = .ok (.return_, 1) := by decide +kernel
set_option maxHeartbeats 4000000 in
set_option maxRecDepth 20000 in
theorem c_X4_init : ConV mX4_init (fun args N lay r h Q => ∃ (a : Nat), args = [.ref a] ∧ N = a + 1 ∧ lay a = (5, 0) ∧ h a = (fun _ => 0) ∧ ∀ (la : LyT) (ra : RfT) (ha : HpT), StAt la ra a → (∀ x, x < a → la x = lay x ∧ ra x = r x ∧ ha x = h x) → (∀ x, a ≤ x → x < a + 2 → ha x = fun _ => 0) → Q (a + 2) la ra ha) := by
  refine ConV.of (by decide) (by rintro _ N lay r h Q ⟨a, rfl, rfl, hl0, h0, hQ⟩; exact ⟨rfl, Nat.le_of_ble_eq_true rfl⟩) ?_
  rintro E _ N lay r h Q ⟨a, rfl, rfl, hl0, h0, hQ⟩ hret
  show St E mX4_init 0 [some (.ref a)] [] (0, 0) (a + 1) lay r h
  refine r_aload_0 (pc := 0) dX4_init_0 ?_
  refine r_objInit (pc := 1) (inT 119 (by decide +kernel) rfl) dX4_init_1 (Nat.le_of_ble_eq_true rfl) (Nat.le_of_ble_eq_true rfl) ?_
  refine r_aload_0 (pc := 4) dX4_init_4 ?_
  refine r_sipush (pc := 5) dX4_init_5 (by decide) ?_
  refine r_newI (pc := 8) (n := 8448) rfl w_aI dX4_init_8 (Nat.le_of_ble_eq_true rfl) (Nat.le_of_ble_eq_true rfl) (Nat.le_of_ble_eq_true rfl) ?_
  refine pf_X4_9 (pc := 10) rfl rfl (show (lyp lay (a + 1) (10, 8448)) a = (5, 0) from (lyp_n (by omega)).trans (hl0)) dX4_init_10 ?_
  refine r_ret (pc := 13) hret dX4_init_13 rfl rfl rfl ?_
  refine hQ (lyp lay (a + 1) (10, 8448)) (rr r a (rup (r a) 0 (some (a + 1)))) (hr h (a + 1) (fun _ => 0)) ⟨(lyp_n (by omega)).trans (hl0), (lyp_s), (by simp only [rr, rup, if_true] <;> rfl)⟩ (fun x hx => ⟨?_, ?_, ?_⟩) (fun x x0 x1 => ?_)
  · rw [lyp_n (by omega)]
  · rw [rr_n (by omega)]
  · rw [hr_n (by omega)]
  · simp only [hr]
    split
    · rfl
    · first
      | rfl
      | (rw [show x = a by omega]; exact h0)
      | (split
         · rfl
         · first
           | rfl
           | (rw [show x = a by omega]; exact h0)
           | (split
              · rfl
              · first
                | rfl
                | (rw [show x = a by omega]; exact h0)
                | (split
                   · rfl
                   · (rw [show x = a by omega]; exact h0))))

theorem dX5_init_0 : decode cX5_init 0 = .ok (.aload_n 0, 1) := by decide +kernel
theorem dX5_init_1 : decode cX5_init 1 = .ok (.invokespecial 3, 3) := by decide +kernel
theorem dX5_init_4 : decode cX5_init 4 = .ok (.aload_n 0, 1) := by decide +kernel
theorem dX5_init_5 : decode cX5_init 5 = .ok (.sipush 200, 3) := by decide +kernel
theorem dX5_init_8 : decode cX5_init 8 = .ok (.newarray .char, 2) := by decide +kernel
theorem dX5_init_10 : decode cX5_init 10 = .ok (.putfield 9, 3) := by decide +kernel
theorem dX5_init_13 : decode cX5_init 13 = .ok (.aload_n 0, 1) := by decide +kernel
theorem dX5_init_14 : decode cX5_init 14 = .ok (.iconst 3, 1) := by decide +kernel
theorem dX5_init_15 : decode cX5_init 15 = .ok (.newarray .int, 2) := by decide +kernel
theorem dX5_init_17 : decode cX5_init 17 = .ok (.putfield 15, 3) := by decide +kernel
theorem dX5_init_20 : decode cX5_init 20 = .ok (.return_, 1) := by decide +kernel
set_option maxHeartbeats 4000000 in
set_option maxRecDepth 20000 in
theorem c_X5_init : ConV mX5_init (fun args N lay r h Q => ∃ (a : Nat), args = [.ref a] ∧ N = a + 1 ∧ lay a = (6, 0) ∧ h a = (fun _ => 0) ∧ ∀ (la : LyT) (ra : RfT) (ha : HpT), TxAt la ra a → (∀ x, x < a → la x = lay x ∧ ra x = r x ∧ ha x = h x) → (∀ x, a ≤ x → x < a + 3 → ha x = fun _ => 0) → Q (a + 3) la ra ha) := by
  refine ConV.of (by decide) (by rintro _ N lay r h Q ⟨a, rfl, rfl, hl0, h0, hQ⟩; exact ⟨rfl, Nat.le_of_ble_eq_true rfl⟩) ?_
  rintro E _ N lay r h Q ⟨a, rfl, rfl, hl0, h0, hQ⟩ hret
  show St E mX5_init 0 [some (.ref a)] [] (0, 0) (a + 1) lay r h
  refine r_aload_0 (pc := 0) dX5_init_0 ?_
  refine r_objInit (pc := 1) (inT 97 (by decide +kernel) rfl) dX5_init_1 (Nat.le_of_ble_eq_true rfl) (Nat.le_of_ble_eq_true rfl) ?_
  refine r_aload_0 (pc := 4) dX5_init_4 ?_
  refine r_sipush (pc := 5) dX5_init_5 (by decide) ?_
  refine r_newC (pc := 8) (n := 200) rfl w_aC dX5_init_8 (Nat.le_of_ble_eq_true rfl) (Nat.le_of_ble_eq_true rfl) (Nat.le_of_ble_eq_true rfl) ?_
  refine pf_X5_9 (pc := 10) rfl rfl (show (lyp lay (a + 1) (11, 200)) a = (6, 0) from (lyp_n (by omega)).trans (hl0)) dX5_init_10 ?_
  refine r_aload_0 (pc := 13) dX5_init_13 ?_
  refine r_iconst (pc := 14) dX5_init_14 ?_
  refine r_newI (pc := 15) (n := 3) rfl w_aI dX5_init_15 (Nat.le_of_ble_eq_true rfl) (Nat.le_of_ble_eq_true rfl) (Nat.le_of_ble_eq_true rfl) ?_
  refine pf_X5_15 (pc := 17) rfl rfl (show (lyp (lyp lay (a + 1) (11, 200)) (a + 2) (10, 3)) a = (6, 0) from (lyp_n (by omega)).trans ((lyp_n (by omega)).trans (hl0))) dX5_init_17 ?_
  refine r_ret (pc := 20) hret dX5_init_20 rfl rfl rfl ?_
  refine hQ (lyp (lyp lay (a + 1) (11, 200)) (a + 2) (10, 3)) (rr (rr r a (rup (r a) 1 (some (a + 1)))) a (rup ((rr r a (rup (r a) 1 (some (a + 1)))) a) 3 (some (a + 2)))) (hr (hr h (a + 1) (fun _ => 0)) (a + 2) (fun _ => 0)) ⟨(lyp_n (by omega)).trans ((lyp_n (by omega)).trans (hl0)), ((lyp_n (by omega)).trans (lyp_s)), (lyp_s), (by simp only [rr, rup, if_true] <;> rfl), (by simp only [rr, rup, if_true] <;> rfl)⟩ (fun x hx => ⟨?_, ?_, ?_⟩) (fun x x0 x1 => ?_)
  · rw [lyp_n (by omega), lyp_n (by omega)]
  · rw [rr_n (by omega), rr_n (by omega)]
  · rw [hr_n (by omega), hr_n (by omega)]
  · simp only [hr]
    split
    · rfl
    · first
      | rfl
      | (rw [show x = a by omega]; exact h0)
      | (split
         · rfl
         · first
           | rfl
           | (rw [show x = a by omega]; exact h0)
           | (split
              · rfl
              · first
                | rfl
                | (rw [show x = a by omega]; exact h0)
                | (split
                   · rfl
                   · (rw [show x = a by omega]; exact h0))))

