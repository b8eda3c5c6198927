/-! THE REFERENCE: public methods, further ones -/
def bP (set d : Int) : Bool := decide (iA (iSr set (d - 10)) 1 = 1)
theorem bP_iff {set d : Int} : bP set d = true ↔ iA (iSr set (d - 10)) 1 = 1 := by
  unfold bP
  rw [decide_eq_true_iff]
def lwd (set : Int) : Nat → Int
  | 0 => -4
  | k + 1 => if lwd set k < 0 ∧ bP set (10 + k) = true then 10 + k else lwd set k
theorem lwd_s (set : Int) (k : Nat) : lwd set (k + 1) = if lwd set k < 0 ∧ bP set (10 + k) = true then 10 + (k : Int) else lwd set k := rfl
theorem lwd_st (set : Int) (k : Nat) (h : 0 ≤ lwd set k) : ∀ j, lwd set (k + j) = lwd set k
  | 0 => rfl
  | j + 1 => by
    rw [← Nat.add_assoc, lwd_s, if_neg (fun z => by have := z.1; rw [lwd_st set k h j] at this; omega)]
    exact lwd_st set k h j
def srv (f : Int → Int) (set g : Int) : Int := if 0 ≤ fst4 f g (bP set) 4 then fst4 f g (bP set) 4 else lwd set 12
def blm (mp : Int → Int) (n m : Int) : Nat → Int
  | 0 => 0
  | k + 1 => iO (blm mp n m k) (if bel mp (10 + k) n ∨ bel mp (10 + k) m then iSl 1 (10 + k - 10) else 0)
def gpk (f mp : Int → Int) (n g : Int) : Nat → Bool
  | 0 => false
  | c + 1 => gpk f mp n g c || decide (0 ≤ f (4 * g + c) ∧ bel mp (f (4 * g + c)) n)
theorem gpk_s (f mp : Int → Int) (n g : Int) (c : Nat) : gpk f mp n g (c + 1) = (gpk f mp n g c || decide (0 ≤ f (4 * g + c) ∧ bel mp (f (4 * g + c)) n)) := rfl
theorem dX8_chosen_0 : decode cX8_chosen 0 = .ok (.iload_n 1, 1) := by decide +kernel
theorem dX8_chosen_1 : decode cX8_chosen 1 = .ok (.invokestatic 183, 3) := by decide +kernel
theorem dX8_chosen_4 : decode cX8_chosen 4 = .ok (.ifCond .eq 28, 3) := by decide +kernel
theorem dX8_chosen_7 : decode cX8_chosen 7 = .ok (.aload_n 0, 1) := by decide +kernel
theorem dX8_chosen_8 : decode cX8_chosen 8 = .ok (.iload_n 2, 1) := by decide +kernel
theorem dX8_chosen_9 : decode cX8_chosen 9 = .ok (.iconst 0, 1) := by decide +kernel
theorem dX8_chosen_10 : decode cX8_chosen 10 = .ok (.bipush 99, 2) := by decide +kernel
theorem dX8_chosen_12 : decode cX8_chosen 12 = .ok (.invokevirtual 137, 3) := by decide +kernel
theorem dX8_chosen_15 : decode cX8_chosen 15 = .ok (.ifCond .eq 17, 3) := by decide +kernel
theorem dX8_chosen_18 : decode cX8_chosen 18 = .ok (.aload_n 0, 1) := by decide +kernel
theorem dX8_chosen_19 : decode cX8_chosen 19 = .ok (.iload_n 3, 1) := by decide +kernel
theorem dX8_chosen_20 : decode cX8_chosen 20 = .ok (.invokevirtual 154, 3) := by decide +kernel
theorem dX8_chosen_23 : decode cX8_chosen 23 = .ok (.ifCond .eq 9, 3) := by decide +kernel
theorem dX8_chosen_26 : decode cX8_chosen 26 = .ok (.iload_n 3, 1) := by decide +kernel
theorem dX8_chosen_27 : decode cX8_chosen 27 = .ok (.bipush 9, 2) := by decide +kernel
theorem dX8_chosen_29 : decode cX8_chosen 29 = .ok (.if_icmp .le 5, 3) := by decide +kernel
theorem dX8_chosen_32 : decode cX8_chosen 32 = .ok (.iconst (-1), 1) := by decide +kernel
theorem dX8_chosen_33 : decode cX8_chosen 33 = .ok (.ireturn, 1) := by decide +kernel
theorem dX8_chosen_34 : decode cX8_chosen 34 = .ok (.aload_n 0, 1) := by decide +kernel
theorem dX8_chosen_35 : decode cX8_chosen 35 = .ok (.invokevirtual 160, 3) := by decide +kernel
theorem dX8_chosen_38 : decode cX8_chosen 38 = .ok (.aload_n 0, 1) := by decide +kernel
theorem dX8_chosen_39 : decode cX8_chosen 39 = .ok (.iload_n 1, 1) := by decide +kernel
theorem dX8_chosen_40 : decode cX8_chosen 40 = .ok (.iload_n 2, 1) := by decide +kernel
theorem dX8_chosen_41 : decode cX8_chosen 41 = .ok (.iload_n 3, 1) := by decide +kernel
theorem dX8_chosen_42 : decode cX8_chosen 42 = .ok (.invokevirtual 186, 3) := by decide +kernel
theorem dX8_chosen_45 : decode cX8_chosen 45 = .ok (.ireturn, 1) := by decide +kernel
set_option maxHeartbeats 4000000 in
set_option maxRecDepth 20000 in
theorem c_X8_chosen : ConI mX8_chosen (fun args N lay r h Q => ∃ (b : Nat) (mp : Int → Int) (g t n : Int), args = [.ref b, vI g, vI t, vI n] ∧ MdAt lay r b ∧ h (b + 2) = mp ∧ TrM mp ∧ RlM mp ∧ (-2147483648 ≤ g ∧ g < 2147483648) ∧ (-2147483648 ≤ t ∧ t < 2147483648) ∧ (-2147483648 ≤ n ∧ n < 2147483648) ∧ WaT (h (b + 7)) ∧ (¬ ((0 ≤ g ∧ g < 16) ∧ (0 ≤ t ∧ t ≤ 99) ∧ isNd mp n ∧ n ≤ 9) → Q (-1) N lay r h) ∧ (((0 ≤ g ∧ g < 16) ∧ (0 ≤ t ∧ t ≤ 99) ∧ isNd mp n ∧ n ≤ 9) → ∀ h2, Fr h h2 (fun x => x = b + 8) → Q (chz mp g t n) N lay r h2)) := by
  refine ConI.of (by decide) (by rintro _ N lay r h Q ⟨b, mp, g, t, n, rfl, hM, hmp, hT, hR, hg, ht, hn, hwa, hB, hQ⟩; exact ⟨rfl, Nat.le_of_ble_eq_true rfl⟩) ?_
  rintro E _ N lay r h Q ⟨b, mp, g, t, n, rfl, hM, hmp, hT, hR, hg, ht, hn, hwa, hB, hQ⟩ hret
  obtain ⟨ml0, ml1, ml2, ml3, ml4, ml5, ml6, ml7, ml8, ml9, ml10, ml11, ml12, ml13, ml14, ml15, ml16, ml17, ml18, ml19, ml20, mr1, mr2, mr3, mr4, mr5, mr6, mr7, mr8, mr9, mr10, mr11, mr12, mr13, mr14, mr15, mr16, mr17, mr18, mr19, mr20⟩ := id hM
  obtain ⟨t1, t2, t3, t4, t5, t6, t7⟩ := id hT
  obtain ⟨r1, r2, r3, r4, r5, r6, r7⟩ := id hR
  show St E mX8_chosen 0 [some (.ref b), some (vI g), some (vI t), some (vI n)] [] (0, 0) N lay r h
  refine r_iload_1 (pc := 0) dX8_chosen_0 ?_
  refine k_SI1 (pc := 1) c_X8_isGroup lk_X8_183 ⟨Nat.le_of_ble_eq_true rfl, Nat.le_of_ble_eq_true rfl⟩ ⟨rfl, rfl⟩ ⟨Nat.le_of_ble_eq_true rfl, Nat.le_of_ble_eq_true rfl⟩ dX8_chosen_1 (Nat.le_of_ble_eq_true rfl) ?_
  refine ⟨_, rfl, by omega, ?_⟩
  refine r_ifeq_b (pc := 4) (tgt := 32) dX8_chosen_4 (by decide) (fun c_4 => ?_) (fun c_4 => ?_)
  · refine r_iconst (pc := 32) dX8_chosen_32 ?_
    refine r_iret (pc := 33) hret dX8_chosen_33 rfl rfl rfl ?_
    first | exact hB (fun z => c_4 z.1) | exact hB (fun z => c_15 z.2.1) | exact hB (fun z => c_23 z.2.2.1) | exact hB (fun z => by have := z.2.2.2; omega) | exact hQ ⟨c_4, c_15, c_23, by omega⟩ h_35 f_35
  · refine r_aload_0 (pc := 7) dX8_chosen_7 ?_
    refine r_iload_2 (pc := 8) dX8_chosen_8 ?_
    refine r_iconst (pc := 9) dX8_chosen_9 ?_
    refine r_bipush (pc := 10) dX8_chosen_10 (by decide) ?_
    refine k_VI3 (pc := 12) c_X8_isIn lk_X8_137 ⟨Nat.le_of_ble_eq_true rfl, Nat.le_of_ble_eq_true rfl⟩ ⟨rfl, rfl⟩ ⟨Nat.le_of_ble_eq_true rfl, Nat.le_of_ble_eq_true rfl⟩ (k := 8) rfl (by decide) (by assumption) dX8_chosen_12 (Nat.le_of_ble_eq_true rfl) ?_
    refine ⟨_, _, _, _, rfl, by omega, by omega, by omega, ?_⟩
    refine r_ifeq_b (pc := 15) (tgt := 32) dX8_chosen_15 (by decide) (fun c_15 => ?_) (fun c_15 => ?_)
    · refine r_iconst (pc := 32) dX8_chosen_32 ?_
      refine r_iret (pc := 33) hret dX8_chosen_33 rfl rfl rfl ?_
      first | exact hB (fun z => c_4 z.1) | exact hB (fun z => c_15 z.2.1) | exact hB (fun z => c_23 z.2.2.1) | exact hB (fun z => by have := z.2.2.2; omega) | exact hQ ⟨c_4, c_15, c_23, by omega⟩ h_35 f_35
    · refine r_aload_0 (pc := 18) dX8_chosen_18 ?_
      refine r_iload_3 (pc := 19) dX8_chosen_19 ?_
      refine k_VI1 (pc := 20) c_X8_isNode lk_X8_154 ⟨Nat.le_of_ble_eq_true rfl, Nat.le_of_ble_eq_true rfl⟩ ⟨rfl, rfl⟩ ⟨Nat.le_of_ble_eq_true rfl, Nat.le_of_ble_eq_true rfl⟩ (k := 8) rfl (by decide) (by assumption) dX8_chosen_20 (Nat.le_of_ble_eq_true rfl) ?_
      refine ⟨_, _, _, rfl, by assumption, by first | assumption | exact rfl, by omega, by assumption, ?_⟩
      refine r_ifeq_b (pc := 23) (tgt := 32) dX8_chosen_23 (by decide) (fun c_23 => ?_) (fun c_23 => ?_)
      · refine r_iconst (pc := 32) dX8_chosen_32 ?_
        refine r_iret (pc := 33) hret dX8_chosen_33 rfl rfl rfl ?_
        first | exact hB (fun z => c_4 z.1) | exact hB (fun z => c_15 z.2.1) | exact hB (fun z => c_23 z.2.2.1) | exact hB (fun z => by have := z.2.2.2; omega) | exact hQ ⟨c_4, c_15, c_23, by omega⟩ h_35 f_35
      · refine r_iload_3 (pc := 26) dX8_chosen_26 ?_
        refine r_bipush (pc := 27) dX8_chosen_27 (by decide) ?_
        refine r_icmp_le (pc := 29) (tgt := 34) dX8_chosen_29 (by decide) (by omega) (by omega) (fun c_29 => ?_) (fun c_29 => ?_)
        · refine r_aload_0 (pc := 34) dX8_chosen_34 ?_
          refine k_VV0 (pc := 35) c_X8_weighsAll lk_X8_160 ⟨Nat.le_of_ble_eq_true rfl, Nat.le_of_ble_eq_true rfl⟩ ⟨rfl, rfl⟩ ⟨Nat.le_of_ble_eq_true rfl, Nat.le_of_ble_eq_true rfl⟩ (k := 8) rfl (by decide) (by assumption) dX8_chosen_35 (Nat.le_of_ble_eq_true rfl) ?_
          refine ⟨_, _, rfl, by assumption, by first | assumption | exact rfl, by assumption, fun h_35 f_35 w_35 => ?_⟩
          have m_35 : h_35 (b + 2) = mp := (f_35 _ (by omega)).trans (by assumption)
          refine r_aload_0 (pc := 38) dX8_chosen_38 ?_
          refine r_iload_1 (pc := 39) dX8_chosen_39 ?_
          refine r_iload_2 (pc := 40) dX8_chosen_40 ?_
          refine r_iload_3 (pc := 41) dX8_chosen_41 ?_
          have hwa2 : WaT (h_35 (b + 7)) := by rw [f_35 _ (by omega)]; exact hwa
          refine k_VI3 (pc := 42) c_X8_chooses lk_X8_186 ⟨Nat.le_of_ble_eq_true rfl, Nat.le_of_ble_eq_true rfl⟩ ⟨rfl, rfl⟩ ⟨Nat.le_of_ble_eq_true rfl, Nat.le_of_ble_eq_true rfl⟩ (k := 8) rfl (by decide) (by assumption) dX8_chosen_42 (Nat.le_of_ble_eq_true rfl) ?_
          refine ⟨_, _, _, _, _, rfl, by assumption, by first | assumption | exact rfl, by assumption, by assumption, by assumption, by omega, by omega, by omega, ?_⟩
          refine r_iret (pc := 45) hret dX8_chosen_45 rfl rfl rfl ?_
          first | exact hB (fun z => c_4 z.1) | exact hB (fun z => c_15 z.2.1) | exact hB (fun z => c_23 z.2.2.1) | exact hB (fun z => by have := z.2.2.2; omega) | exact hQ ⟨c_4, c_15, c_23, by omega⟩ h_35 f_35
        · refine r_iconst (pc := 32) dX8_chosen_32 ?_
          refine r_iret (pc := 33) hret dX8_chosen_33 rfl rfl rfl ?_
          first | exact hB (fun z => c_4 z.1) | exact hB (fun z => c_15 z.2.1) | exact hB (fun z => c_23 z.2.2.1) | exact hB (fun z => by have := z.2.2.2; omega) | exact hQ ⟨c_4, c_15, c_23, by omega⟩ h_35 f_35

theorem dX8_taken_0 : decode cX8_taken 0 = .ok (.iload_n 1, 1) := by decide +kernel
theorem dX8_taken_1 : decode cX8_taken 1 = .ok (.invokestatic 183, 3) := by decide +kernel
theorem dX8_taken_4 : decode cX8_taken 4 = .ok (.ifCond .eq 13, 3) := by decide +kernel
theorem dX8_taken_7 : decode cX8_taken 7 = .ok (.aload_n 0, 1) := by decide +kernel
theorem dX8_taken_8 : decode cX8_taken 8 = .ok (.iload_n 2, 1) := by decide +kernel
theorem dX8_taken_9 : decode cX8_taken 9 = .ok (.iconst 0, 1) := by decide +kernel
theorem dX8_taken_10 : decode cX8_taken 10 = .ok (.iconst 3, 1) := by decide +kernel
theorem dX8_taken_11 : decode cX8_taken 11 = .ok (.invokevirtual 137, 3) := by decide +kernel
theorem dX8_taken_14 : decode cX8_taken 14 = .ok (.ifCond .ne 5, 3) := by decide +kernel
theorem dX8_taken_17 : decode cX8_taken 17 = .ok (.iconst (-1), 1) := by decide +kernel
theorem dX8_taken_18 : decode cX8_taken 18 = .ok (.ireturn, 1) := by decide +kernel
theorem dX8_taken_19 : decode cX8_taken 19 = .ok (.aload_n 0, 1) := by decide +kernel
theorem dX8_taken_20 : decode cX8_taken 20 = .ok (.invokevirtual 160, 3) := by decide +kernel
theorem dX8_taken_23 : decode cX8_taken 23 = .ok (.aload_n 0, 1) := by decide +kernel
theorem dX8_taken_24 : decode cX8_taken 24 = .ok (.iload_n 1, 1) := by decide +kernel
theorem dX8_taken_25 : decode cX8_taken 25 = .ok (.invokevirtual 163, 3) := by decide +kernel
theorem dX8_taken_28 : decode cX8_taken 28 = .ok (.aload_n 0, 1) := by decide +kernel
theorem dX8_taken_29 : decode cX8_taken 29 = .ok (.getfield 37, 3) := by decide +kernel
theorem dX8_taken_32 : decode cX8_taken 32 = .ok (.iload_n 2, 1) := by decide +kernel
theorem dX8_taken_33 : decode cX8_taken 33 = .ok (.iaload, 1) := by decide +kernel
theorem dX8_taken_34 : decode cX8_taken 34 = .ok (.ireturn, 1) := by decide +kernel
set_option maxHeartbeats 4000000 in
set_option maxRecDepth 20000 in
theorem c_X8_taken : ConI mX8_taken (fun args N lay r h Q => ∃ (b : Nat) (mp : Int → Int) (g c : Int), args = [.ref b, vI g, vI c] ∧ MdAt lay r b ∧ h (b + 2) = mp ∧ TrM mp ∧ RlM mp ∧ (-2147483648 ≤ g ∧ g < 2147483648) ∧ (-2147483648 ≤ c ∧ c < 2147483648) ∧ WaT (h (b + 7)) ∧ (¬ ((0 ≤ g ∧ g < 16) ∧ (0 ≤ c ∧ c ≤ 3)) → Q (-1) N lay r h) ∧ (((0 ≤ g ∧ g < 16) ∧ (0 ≤ c ∧ c ≤ 3)) → ∀ h2, Fr h h2 (fun x => x = b + 8 ∨ x = b + 9 ∨ x = b + 10 ∨ x = b + 11) → Q (trs mp g c) N lay r h2)) := by
  refine ConI.of (by decide) (by rintro _ N lay r h Q ⟨b, mp, g, c, rfl, hM, hmp, hT, hR, hg, hc, hwa, hB, hQ⟩; exact ⟨rfl, Nat.le_of_ble_eq_true rfl⟩) ?_
  rintro E _ N lay r h Q ⟨b, mp, g, c, rfl, hM, hmp, hT, hR, hg, hc, hwa, hB, hQ⟩ hret
  obtain ⟨ml0, ml1, ml2, ml3, ml4, ml5, ml6, ml7, ml8, ml9, ml10, ml11, ml12, ml13, ml14, ml15, ml16, ml17, ml18, ml19, ml20, mr1, mr2, mr3, mr4, mr5, mr6, mr7, mr8, mr9, mr10, mr11, mr12, mr13, mr14, mr15, mr16, mr17, mr18, mr19, mr20⟩ := id hM
  obtain ⟨t1, t2, t3, t4, t5, t6, t7⟩ := id hT
  obtain ⟨r1, r2, r3, r4, r5, r6, r7⟩ := id hR
  show St E mX8_taken 0 [some (.ref b), some (vI g), some (vI c)] [] (0, 0) N lay r h
  refine r_iload_1 (pc := 0) dX8_taken_0 ?_
  refine k_SI1 (pc := 1) c_X8_isGroup lk_X8_183 ⟨Nat.le_of_ble_eq_true rfl, Nat.le_of_ble_eq_true rfl⟩ ⟨rfl, rfl⟩ ⟨Nat.le_of_ble_eq_true rfl, Nat.le_of_ble_eq_true rfl⟩ dX8_taken_1 (Nat.le_of_ble_eq_true rfl) ?_
  refine ⟨_, rfl, by omega, ?_⟩
  refine r_ifeq_b (pc := 4) (tgt := 17) dX8_taken_4 (by decide) (fun c_4 => ?_) (fun c_4 => ?_)
  · refine r_iconst (pc := 17) dX8_taken_17 ?_
    refine r_iret (pc := 18) hret dX8_taken_18 rfl rfl rfl ?_
    first | exact hB (by omega) | exact hQ (by omega) h_25 (fun x hx => (f_25 x (by omega)).trans (f_20 x (by omega)))
  · refine r_aload_0 (pc := 7) dX8_taken_7 ?_
    refine r_iload_2 (pc := 8) dX8_taken_8 ?_
    refine r_iconst (pc := 9) dX8_taken_9 ?_
    refine r_iconst (pc := 10) dX8_taken_10 ?_
    refine k_VI3 (pc := 11) c_X8_isIn lk_X8_137 ⟨Nat.le_of_ble_eq_true rfl, Nat.le_of_ble_eq_true rfl⟩ ⟨rfl, rfl⟩ ⟨Nat.le_of_ble_eq_true rfl, Nat.le_of_ble_eq_true rfl⟩ (k := 8) rfl (by decide) (by assumption) dX8_taken_11 (Nat.le_of_ble_eq_true rfl) ?_
    refine ⟨_, _, _, _, rfl, by omega, by omega, by omega, ?_⟩
    refine r_ifne_b (pc := 14) (tgt := 19) dX8_taken_14 (by decide) (fun c_14 => ?_) (fun c_14 => ?_)
    · refine r_aload_0 (pc := 19) dX8_taken_19 ?_
      refine k_VV0 (pc := 20) c_X8_weighsAll lk_X8_160 ⟨Nat.le_of_ble_eq_true rfl, Nat.le_of_ble_eq_true rfl⟩ ⟨rfl, rfl⟩ ⟨Nat.le_of_ble_eq_true rfl, Nat.le_of_ble_eq_true rfl⟩ (k := 8) rfl (by decide) (by assumption) dX8_taken_20 (Nat.le_of_ble_eq_true rfl) ?_
      refine ⟨_, _, rfl, by assumption, by first | assumption | exact rfl, by assumption, fun h_20 f_20 w_20 => ?_⟩
      have m_20 : h_20 (b + 2) = mp := (f_20 _ (by omega)).trans (by assumption)
      refine r_aload_0 (pc := 23) dX8_taken_23 ?_
      refine r_iload_1 (pc := 24) dX8_taken_24 ?_
      have hwa2 : WaT (h_20 (b + 7)) := by rw [f_20 _ (by omega)]; exact hwa
      refine k_VV1 (pc := 25) c_X8_places lk_X8_163 ⟨Nat.le_of_ble_eq_true rfl, Nat.le_of_ble_eq_true rfl⟩ ⟨rfl, rfl⟩ ⟨Nat.le_of_ble_eq_true rfl, Nat.le_of_ble_eq_true rfl⟩ (k := 8) rfl (by decide) (by assumption) dX8_taken_25 (Nat.le_of_ble_eq_true rfl) ?_
      refine ⟨_, _, _, rfl, by assumption, by first | assumption | exact rfl, by assumption, by assumption, by assumption, by assumption, by omega, fun h_25 f_25 a_25 b_25 c_25 => ?_⟩
      have m_25 : h_25 (b + 2) = mp := (f_25 _ (by omega)).trans (by assumption)
      refine r_aload_0 (pc := 28) dX8_taken_28 ?_
      refine gf_X8_37 (pc := 29) rfl (by assumption) dX8_taken_29 (by assumption) ?_
      refine r_iload_2 (pc := 32) dX8_taken_32 ?_
      refine r_ialdE (pc := 33) (by assumption) rfl dX8_taken_33 (by omega) (by omega) (fun i_33 => ?_)
      rw [b_25 c (by omega) (by omega)]
      refine r_iret (pc := 34) hret dX8_taken_34 rfl rfl rfl ?_
      first | exact hB (by omega) | exact hQ (by omega) h_25 (fun x hx => (f_25 x (by omega)).trans (f_20 x (by omega)))
    · refine r_iconst (pc := 17) dX8_taken_17 ?_
      refine r_iret (pc := 18) hret dX8_taken_18 rfl rfl rfl ?_
      first | exact hB (by omega) | exact hQ (by omega) h_25 (fun x hx => (f_25 x (by omega)).trans (f_20 x (by omega)))

theorem dX8_override_0 : decode cX8_override 0 = .ok (.aload_n 0, 1) := by decide +kernel
theorem dX8_override_1 : decode cX8_override 1 = .ok (.iload_n 1, 1) := by decide +kernel
theorem dX8_override_2 : decode cX8_override 2 = .ok (.iconst 0, 1) := by decide +kernel
theorem dX8_override_3 : decode cX8_override 3 = .ok (.aload_n 0, 1) := by decide +kernel
theorem dX8_override_4 : decode cX8_override 4 = .ok (.getfield 13, 3) := by decide +kernel
theorem dX8_override_7 : decode cX8_override 7 = .ok (.sipush 135, 3) := by decide +kernel
theorem dX8_override_10 : decode cX8_override 10 = .ok (.iaload, 1) := by decide +kernel
theorem dX8_override_11 : decode cX8_override 11 = .ok (.iconst 1, 1) := by decide +kernel
theorem dX8_override_12 : decode cX8_override 12 = .ok (.isub, 1) := by decide +kernel
theorem dX8_override_13 : decode cX8_override 13 = .ok (.invokevirtual 137, 3) := by decide +kernel
theorem dX8_override_16 : decode cX8_override 16 = .ok (.ifCond .eq 13, 3) := by decide +kernel
theorem dX8_override_19 : decode cX8_override 19 = .ok (.aload_n 0, 1) := by decide +kernel
theorem dX8_override_20 : decode cX8_override 20 = .ok (.iload_n 2, 1) := by decide +kernel
theorem dX8_override_21 : decode cX8_override 21 = .ok (.iconst 0, 1) := by decide +kernel
theorem dX8_override_22 : decode cX8_override 22 = .ok (.iconst 3, 1) := by decide +kernel
theorem dX8_override_23 : decode cX8_override 23 = .ok (.invokevirtual 137, 3) := by decide +kernel
theorem dX8_override_26 : decode cX8_override 26 = .ok (.ifCond .ne 5, 3) := by decide +kernel
theorem dX8_override_29 : decode cX8_override 29 = .ok (.iconst (-1), 1) := by decide +kernel
theorem dX8_override_30 : decode cX8_override 30 = .ok (.ireturn, 1) := by decide +kernel
theorem dX8_override_31 : decode cX8_override 31 = .ok (.iload_n 2, 1) := by decide +kernel
theorem dX8_override_32 : decode cX8_override 32 = .ok (.iconst 3, 1) := by decide +kernel
theorem dX8_override_33 : decode cX8_override 33 = .ok (.if_icmp .ge 17, 3) := by decide +kernel
theorem dX8_override_36 : decode cX8_override 36 = .ok (.aload_n 0, 1) := by decide +kernel
theorem dX8_override_37 : decode cX8_override 37 = .ok (.getfield 13, 3) := by decide +kernel
theorem dX8_override_40 : decode cX8_override 40 = .ok (.bipush 110, 2) := by decide +kernel
theorem dX8_override_42 : decode cX8_override 42 = .ok (.iconst 3, 1) := by decide +kernel
theorem dX8_override_43 : decode cX8_override 43 = .ok (.iload_n 1, 1) := by decide +kernel
theorem dX8_override_44 : decode cX8_override 44 = .ok (.imul, 1) := by decide +kernel
theorem dX8_override_45 : decode cX8_override 45 = .ok (.iadd, 1) := by decide +kernel
theorem dX8_override_46 : decode cX8_override 46 = .ok (.iload_n 2, 1) := by decide +kernel
theorem dX8_override_47 : decode cX8_override 47 = .ok (.iadd, 1) := by decide +kernel
theorem dX8_override_48 : decode cX8_override 48 = .ok (.iaload, 1) := by decide +kernel
theorem dX8_override_49 : decode cX8_override 49 = .ok (.ireturn, 1) := by decide +kernel
theorem dX8_override_50 : decode cX8_override 50 = .ok (.aload_n 0, 1) := by decide +kernel
theorem dX8_override_51 : decode cX8_override 51 = .ok (.invokevirtual 160, 3) := by decide +kernel
theorem dX8_override_54 : decode cX8_override 54 = .ok (.aload_n 0, 1) := by decide +kernel
theorem dX8_override_55 : decode cX8_override 55 = .ok (.aload_n 0, 1) := by decide +kernel
theorem dX8_override_56 : decode cX8_override 56 = .ok (.getfield 13, 3) := by decide +kernel
theorem dX8_override_59 : decode cX8_override 59 = .ok (.bipush 110, 2) := by decide +kernel
theorem dX8_override_61 : decode cX8_override 61 = .ok (.iconst 3, 1) := by decide +kernel
theorem dX8_override_62 : decode cX8_override 62 = .ok (.iload_n 1, 1) := by decide +kernel
theorem dX8_override_63 : decode cX8_override 63 = .ok (.imul, 1) := by decide +kernel
theorem dX8_override_64 : decode cX8_override 64 = .ok (.iadd, 1) := by decide +kernel
theorem dX8_override_65 : decode cX8_override 65 = .ok (.iaload, 1) := by decide +kernel
theorem dX8_override_66 : decode cX8_override 66 = .ok (.invokevirtual 163, 3) := by decide +kernel
theorem dX8_override_69 : decode cX8_override 69 = .ok (.aload_n 0, 1) := by decide +kernel
theorem dX8_override_70 : decode cX8_override 70 = .ok (.getfield 40, 3) := by decide +kernel
theorem dX8_override_73 : decode cX8_override 73 = .ok (.iload_n 1, 1) := by decide +kernel
theorem dX8_override_74 : decode cX8_override 74 = .ok (.iaload, 1) := by decide +kernel
theorem dX8_override_75 : decode cX8_override 75 = .ok (.ireturn, 1) := by decide +kernel
set_option maxHeartbeats 4000000 in
set_option maxRecDepth 20000 in
theorem c_X8_override : ConI mX8_override (fun args N lay r h Q => ∃ (b : Nat) (mp : Int → Int) (i w : Int), args = [.ref b, vI i, vI w] ∧ MdAt lay r b ∧ h (b + 2) = mp ∧ TrM mp ∧ RlM mp ∧ (-2147483648 ≤ i ∧ i < 2147483648) ∧ (-2147483648 ≤ w ∧ w < 2147483648) ∧ WaT (h (b + 7)) ∧ (¬ ((0 ≤ i ∧ i ≤ mp 135 - 1) ∧ (0 ≤ w ∧ w ≤ 3)) → Q (-1) N lay r h) ∧ (((0 ≤ i ∧ i ≤ mp 135 - 1) ∧ (0 ≤ w ∧ w ≤ 3)) → (w < 3 → Q (mp (110 + 3 * i + w)) N lay r h) ∧ (w = 3 → ∀ h2, Fr h h2 (fun x => x = b + 8 ∨ x = b + 9 ∨ x = b + 10 ∨ x = b + 11) → Q (std mp (mp (110 + 3 * i)) i.toNat) N lay r h2))) := by
  refine ConI.of (by decide) (by rintro _ N lay r h Q ⟨b, mp, i, w, rfl, hM, hmp, hT, hR, hi, hw, hwa, hB, hQ⟩; exact ⟨rfl, Nat.le_of_ble_eq_true rfl⟩) ?_
  rintro E _ N lay r h Q ⟨b, mp, i, w, rfl, hM, hmp, hT, hR, hi, hw, hwa, hB, hQ⟩ hret
  obtain ⟨ml0, ml1, ml2, ml3, ml4, ml5, ml6, ml7, ml8, ml9, ml10, ml11, ml12, ml13, ml14, ml15, ml16, ml17, ml18, ml19, ml20, mr1, mr2, mr3, mr4, mr5, mr6, mr7, mr8, mr9, mr10, mr11, mr12, mr13, mr14, mr15, mr16, mr17, mr18, mr19, mr20⟩ := id hM
  obtain ⟨t1, t2, t3, t4, t5, t6, t7⟩ := id hT
  obtain ⟨r1, r2, r3, r4, r5, r6, r7⟩ := id hR
  show St E mX8_override 0 [some (.ref b), some (vI i), some (vI w)] [] (0, 0) N lay r h
  refine r_aload_0 (pc := 0) dX8_override_0 ?_
  refine r_iload_1 (pc := 1) dX8_override_1 ?_
  refine r_iconst (pc := 2) dX8_override_2 ?_
  refine r_aload_0 (pc := 3) dX8_override_3 ?_
  refine gf_X8_13 (pc := 4) rfl (by assumption) dX8_override_4 (by assumption) ?_
  refine r_sipush (pc := 7) dX8_override_7 (by decide) ?_
  refine r_ialdE (pc := 10) (by assumption) (by first | assumption | exact rfl) dX8_override_10 (by omega) (by omega) (fun i_10 => ?_)
  refine r_iconst (pc := 11) dX8_override_11 ?_
  refine r_isub (pc := 12) dX8_override_12 ?_
  refine k_VI3 (pc := 13) c_X8_isIn lk_X8_137 ⟨Nat.le_of_ble_eq_true rfl, Nat.le_of_ble_eq_true rfl⟩ ⟨rfl, rfl⟩ ⟨Nat.le_of_ble_eq_true rfl, Nat.le_of_ble_eq_true rfl⟩ (k := 8) rfl (by decide) (by assumption) dX8_override_13 (Nat.le_of_ble_eq_true rfl) ?_
  refine ⟨_, _, _, _, rfl, by omega, by omega, by omega, ?_⟩
  refine r_ifeq_b (pc := 16) (tgt := 29) dX8_override_16 (by decide) (fun c_16 => ?_) (fun c_16 => ?_)
  · refine r_iconst (pc := 29) dX8_override_29 ?_
    refine r_iret (pc := 30) hret dX8_override_30 rfl rfl rfl ?_
    first | exact hB (by omega) | exact (hQ (by omega)).1 (by omega) | exact (hQ (by omega)).2 (by omega) h_66 (fun x hx => (f_66 x (by omega)).trans (f_51 x (by omega)))
  · refine r_aload_0 (pc := 19) dX8_override_19 ?_
    refine r_iload_2 (pc := 20) dX8_override_20 ?_
    refine r_iconst (pc := 21) dX8_override_21 ?_
    refine r_iconst (pc := 22) dX8_override_22 ?_
    refine k_VI3 (pc := 23) c_X8_isIn lk_X8_137 ⟨Nat.le_of_ble_eq_true rfl, Nat.le_of_ble_eq_true rfl⟩ ⟨rfl, rfl⟩ ⟨Nat.le_of_ble_eq_true rfl, Nat.le_of_ble_eq_true rfl⟩ (k := 8) rfl (by decide) (by assumption) dX8_override_23 (Nat.le_of_ble_eq_true rfl) ?_
    refine ⟨_, _, _, _, rfl, by omega, by omega, by omega, ?_⟩
    refine r_ifne_b (pc := 26) (tgt := 31) dX8_override_26 (by decide) (fun c_26 => ?_) (fun c_26 => ?_)
    · refine r_iload_2 (pc := 31) dX8_override_31 ?_
      refine r_iconst (pc := 32) dX8_override_32 ?_
      refine r_icmp_ge (pc := 33) (tgt := 50) dX8_override_33 (by decide) (by omega) (by omega) (fun c_33 => ?_) (fun c_33 => ?_)
      · refine r_aload_0 (pc := 50) dX8_override_50 ?_
        refine k_VV0 (pc := 51) c_X8_weighsAll lk_X8_160 ⟨Nat.le_of_ble_eq_true rfl, Nat.le_of_ble_eq_true rfl⟩ ⟨rfl, rfl⟩ ⟨Nat.le_of_ble_eq_true rfl, Nat.le_of_ble_eq_true rfl⟩ (k := 8) rfl (by decide) (by assumption) dX8_override_51 (Nat.le_of_ble_eq_true rfl) ?_
        refine ⟨_, _, rfl, by assumption, by first | assumption | exact rfl, by assumption, fun h_51 f_51 w_51 => ?_⟩
        have m_51 : h_51 (b + 2) = mp := (f_51 _ (by omega)).trans (by assumption)
        refine r_aload_0 (pc := 54) dX8_override_54 ?_
        refine r_aload_0 (pc := 55) dX8_override_55 ?_
        have q7 := r7 i (by omega) (by omega)
        refine gf_X8_13 (pc := 56) rfl (by assumption) dX8_override_56 (by assumption) ?_
        refine r_bipush (pc := 59) dX8_override_59 (by decide) ?_
        refine r_iconst (pc := 61) dX8_override_61 ?_
        refine r_iload_1 (pc := 62) dX8_override_62 ?_
        refine r_imul (pc := 63) dX8_override_63 ?_
        refine r_iadd (pc := 64) dX8_override_64 ?_
        refine r_ialdE (pc := 65) (by assumption) (by first | assumption | exact rfl) dX8_override_65 (by omega) (by omega) (fun i_65 => ?_)
        have hwa2 : WaT (h_51 (b + 7)) := by rw [f_51 _ (by omega)]; exact hwa
        refine k_VV1 (pc := 66) c_X8_places lk_X8_163 ⟨Nat.le_of_ble_eq_true rfl, Nat.le_of_ble_eq_true rfl⟩ ⟨rfl, rfl⟩ ⟨Nat.le_of_ble_eq_true rfl, Nat.le_of_ble_eq_true rfl⟩ (k := 8) rfl (by decide) (by assumption) dX8_override_66 (Nat.le_of_ble_eq_true rfl) ?_
        refine ⟨_, _, _, rfl, by assumption, by first | assumption | exact rfl, by assumption, by assumption, by assumption, by assumption, by omega, fun h_66 f_66 a_66 b_66 c_66 => ?_⟩
        have m_66 : h_66 (b + 2) = mp := (f_66 _ (by omega)).trans (by assumption)
        refine r_aload_0 (pc := 69) dX8_override_69 ?_
        refine gf_X8_40 (pc := 70) rfl (by assumption) dX8_override_70 (by assumption) ?_
        refine r_iload_1 (pc := 73) dX8_override_73 ?_
        refine r_ialdE (pc := 74) (by assumption) rfl dX8_override_74 (by omega) (by omega) (fun i_74 => ?_)
        rw [c_66 i (by omega) (by omega)]
        refine r_iret (pc := 75) hret dX8_override_75 rfl rfl rfl ?_
        first | exact hB (by omega) | exact (hQ (by omega)).1 (by omega) | exact (hQ (by omega)).2 (by omega) h_66 (fun x hx => (f_66 x (by omega)).trans (f_51 x (by omega)))
      · refine r_aload_0 (pc := 36) dX8_override_36 ?_
        refine gf_X8_13 (pc := 37) rfl (by assumption) dX8_override_37 (by assumption) ?_
        refine r_bipush (pc := 40) dX8_override_40 (by decide) ?_
        refine r_iconst (pc := 42) dX8_override_42 ?_
        refine r_iload_1 (pc := 43) dX8_override_43 ?_
        refine r_imul (pc := 44) dX8_override_44 ?_
        refine r_iadd (pc := 45) dX8_override_45 ?_
        refine r_iload_2 (pc := 46) dX8_override_46 ?_
        refine r_iadd (pc := 47) dX8_override_47 ?_
        refine r_ialdE (pc := 48) (by assumption) (by first | assumption | exact rfl) dX8_override_48 (by omega) (by omega) (fun i_48 => ?_)
        refine r_iret (pc := 49) hret dX8_override_49 rfl rfl rfl ?_
        first | exact hB (by omega) | exact (hQ (by omega)).1 (by omega) | exact (hQ (by omega)).2 (by omega) h_66 (fun x hx => (f_66 x (by omega)).trans (f_51 x (by omega)))
    · refine r_iconst (pc := 29) dX8_override_29 ?_
      refine r_iret (pc := 30) hret dX8_override_30 rfl rfl rfl ?_
      first | exact hB (by omega) | exact (hQ (by omega)).1 (by omega) | exact (hQ (by omega)).2 (by omega) h_66 (fun x hx => (f_66 x (by omega)).trans (f_51 x (by omega)))

theorem lwd_m {set : Int} : ∀ {k : Nat}, lwd set k < 0 → lwd set k = -4
  | 0, _ => rfl
  | k + 1, h => by
    rw [lwd_s] at h ⊢
    split at h
    · omega
    · rename_i q
      rw [if_neg q]
      exact lwd_m h
theorem dX8_held_0 : decode cX8_held 0 = .ok (.iload_n 1, 1) := by decide +kernel
theorem dX8_held_1 : decode cX8_held 1 = .ok (.invokestatic 183, 3) := by decide +kernel
theorem dX8_held_4 : decode cX8_held 4 = .ok (.ifCond .eq 13, 3) := by decide +kernel
theorem dX8_held_7 : decode cX8_held 7 = .ok (.aload_n 0, 1) := by decide +kernel
theorem dX8_held_8 : decode cX8_held 8 = .ok (.iload_n 2, 1) := by decide +kernel
theorem dX8_held_9 : decode cX8_held 9 = .ok (.iconst 0, 1) := by decide +kernel
theorem dX8_held_10 : decode cX8_held 10 = .ok (.iconst 2, 1) := by decide +kernel
theorem dX8_held_11 : decode cX8_held 11 = .ok (.invokevirtual 137, 3) := by decide +kernel
theorem dX8_held_14 : decode cX8_held 14 = .ok (.ifCond .ne 5, 3) := by decide +kernel
theorem dX8_held_17 : decode cX8_held 17 = .ok (.iconst (-1), 1) := by decide +kernel
theorem dX8_held_18 : decode cX8_held 18 = .ok (.ireturn, 1) := by decide +kernel
theorem dX8_held_19 : decode cX8_held 19 = .ok (.iload_n 2, 1) := by decide +kernel
theorem dX8_held_20 : decode cX8_held 20 = .ok (.iconst 2, 1) := by decide +kernel
theorem dX8_held_21 : decode cX8_held 21 = .ok (.if_icmp .ge 23, 3) := by decide +kernel
theorem dX8_held_24 : decode cX8_held 24 = .ok (.iload_n 2, 1) := by decide +kernel
theorem dX8_held_25 : decode cX8_held 25 = .ok (.ifCond .ne 12, 3) := by decide +kernel
theorem dX8_held_28 : decode cX8_held 28 = .ok (.aload_n 0, 1) := by decide +kernel
theorem dX8_held_29 : decode cX8_held 29 = .ok (.getfield 49, 3) := by decide +kernel
theorem dX8_held_32 : decode cX8_held 32 = .ok (.iload_n 1, 1) := by decide +kernel
theorem dX8_held_33 : decode cX8_held 33 = .ok (.iaload, 1) := by decide +kernel
theorem dX8_held_34 : decode cX8_held 34 = .ok (.goto 9, 3) := by decide +kernel
theorem dX8_held_37 : decode cX8_held 37 = .ok (.aload_n 0, 1) := by decide +kernel
theorem dX8_held_38 : decode cX8_held 38 = .ok (.getfield 52, 3) := by decide +kernel
theorem dX8_held_41 : decode cX8_held 41 = .ok (.iload_n 1, 1) := by decide +kernel
theorem dX8_held_42 : decode cX8_held 42 = .ok (.iaload, 1) := by decide +kernel
theorem dX8_held_43 : decode cX8_held 43 = .ok (.ireturn, 1) := by decide +kernel
theorem dX8_held_44 : decode cX8_held 44 = .ok (.aload_n 0, 1) := by decide +kernel
theorem dX8_held_45 : decode cX8_held 45 = .ok (.getfield 49, 3) := by decide +kernel
theorem dX8_held_48 : decode cX8_held 48 = .ok (.iload_n 1, 1) := by decide +kernel
theorem dX8_held_49 : decode cX8_held 49 = .ok (.iaload, 1) := by decide +kernel
theorem dX8_held_50 : decode cX8_held 50 = .ok (.aload_n 0, 1) := by decide +kernel
theorem dX8_held_51 : decode cX8_held 51 = .ok (.getfield 125, 3) := by decide +kernel
theorem dX8_held_54 : decode cX8_held 54 = .ok (.iand, 1) := by decide +kernel
theorem dX8_held_55 : decode cX8_held 55 = .ok (.istore_n 3, 1) := by decide +kernel
theorem dX8_held_56 : decode cX8_held 56 = .ok (.iconst 0, 1) := by decide +kernel
theorem dX8_held_57 : decode cX8_held 57 = .ok (.istore 4, 2) := by decide +kernel
theorem dX8_held_59 : decode cX8_held 59 = .ok (.iload 4, 2) := by decide +kernel
theorem dX8_held_61 : decode cX8_held 61 = .ok (.iconst 4, 1) := by decide +kernel
theorem dX8_held_62 : decode cX8_held 62 = .ok (.if_icmp .ge 43, 3) := by decide +kernel
theorem dX8_held_65 : decode cX8_held 65 = .ok (.aload_n 0, 1) := by decide +kernel
theorem dX8_held_66 : decode cX8_held 66 = .ok (.getfield 43, 3) := by decide +kernel
theorem dX8_held_69 : decode cX8_held 69 = .ok (.iconst 4, 1) := by decide +kernel
theorem dX8_held_70 : decode cX8_held 70 = .ok (.iload_n 1, 1) := by decide +kernel
theorem dX8_held_71 : decode cX8_held 71 = .ok (.imul, 1) := by decide +kernel
theorem dX8_held_72 : decode cX8_held 72 = .ok (.iload 4, 2) := by decide +kernel
theorem dX8_held_74 : decode cX8_held 74 = .ok (.iadd, 1) := by decide +kernel
theorem dX8_held_75 : decode cX8_held 75 = .ok (.iaload, 1) := by decide +kernel
theorem dX8_held_76 : decode cX8_held 76 = .ok (.istore 5, 2) := by decide +kernel
theorem dX8_held_78 : decode cX8_held 78 = .ok (.iload 5, 2) := by decide +kernel
theorem dX8_held_80 : decode cX8_held 80 = .ok (.ifCond .lt 19, 3) := by decide +kernel
theorem dX8_held_83 : decode cX8_held 83 = .ok (.iload_n 3, 1) := by decide +kernel
theorem dX8_held_84 : decode cX8_held 84 = .ok (.iload 5, 2) := by decide +kernel
theorem dX8_held_86 : decode cX8_held 86 = .ok (.bipush 10, 2) := by decide +kernel
theorem dX8_held_88 : decode cX8_held 88 = .ok (.isub, 1) := by decide +kernel
theorem dX8_held_89 : decode cX8_held 89 = .ok (.ishr, 1) := by decide +kernel
theorem dX8_held_90 : decode cX8_held 90 = .ok (.iconst 1, 1) := by decide +kernel
theorem dX8_held_91 : decode cX8_held 91 = .ok (.iand, 1) := by decide +kernel
theorem dX8_held_92 : decode cX8_held 92 = .ok (.iconst 1, 1) := by decide +kernel
theorem dX8_held_93 : decode cX8_held 93 = .ok (.if_icmp .ne 6, 3) := by decide +kernel
theorem dX8_held_96 : decode cX8_held 96 = .ok (.iload 5, 2) := by decide +kernel
theorem dX8_held_98 : decode cX8_held 98 = .ok (.ireturn, 1) := by decide +kernel
theorem dX8_held_99 : decode cX8_held 99 = .ok (.iinc 4 1, 3) := by decide +kernel
theorem dX8_held_102 : decode cX8_held 102 = .ok (.goto (-43), 3) := by decide +kernel
theorem dX8_held_105 : decode cX8_held 105 = .ok (.bipush 10, 2) := by decide +kernel
theorem dX8_held_107 : decode cX8_held 107 = .ok (.istore 4, 2) := by decide +kernel
theorem dX8_held_109 : decode cX8_held 109 = .ok (.iload 4, 2) := by decide +kernel
theorem dX8_held_111 : decode cX8_held 111 = .ok (.bipush 22, 2) := by decide +kernel
theorem dX8_held_113 : decode cX8_held 113 = .ok (.if_icmp .ge 25, 3) := by decide +kernel
theorem dX8_held_116 : decode cX8_held 116 = .ok (.iload_n 3, 1) := by decide +kernel
theorem dX8_held_117 : decode cX8_held 117 = .ok (.iload 4, 2) := by decide +kernel
theorem dX8_held_119 : decode cX8_held 119 = .ok (.bipush 10, 2) := by decide +kernel
theorem dX8_held_121 : decode cX8_held 121 = .ok (.isub, 1) := by decide +kernel
theorem dX8_held_122 : decode cX8_held 122 = .ok (.ishr, 1) := by decide +kernel
theorem dX8_held_123 : decode cX8_held 123 = .ok (.iconst 1, 1) := by decide +kernel
theorem dX8_held_124 : decode cX8_held 124 = .ok (.iand, 1) := by decide +kernel
theorem dX8_held_125 : decode cX8_held 125 = .ok (.iconst 1, 1) := by decide +kernel
theorem dX8_held_126 : decode cX8_held 126 = .ok (.if_icmp .ne 6, 3) := by decide +kernel
theorem dX8_held_129 : decode cX8_held 129 = .ok (.iload 4, 2) := by decide +kernel
theorem dX8_held_131 : decode cX8_held 131 = .ok (.ireturn, 1) := by decide +kernel
theorem dX8_held_132 : decode cX8_held 132 = .ok (.iinc 4 1, 3) := by decide +kernel
theorem dX8_held_135 : decode cX8_held 135 = .ok (.goto (-26), 3) := by decide +kernel
theorem dX8_held_138 : decode cX8_held 138 = .ok (.bipush (-4), 2) := by decide +kernel
theorem dX8_held_140 : decode cX8_held 140 = .ok (.ireturn, 1) := by decide +kernel
set_option maxHeartbeats 4000000 in
set_option maxRecDepth 20000 in
theorem c_X8_held : ConI mX8_held (fun args N lay r h Q => ∃ (b : Nat) (mp : Int → Int) (g w : Int), args = [.ref b, vI g, vI w] ∧ MdAt lay r b ∧ h (b + 2) = mp ∧ TrM mp ∧ RlM mp ∧ (-2147483648 ≤ g ∧ g < 2147483648) ∧ (-2147483648 ≤ w ∧ w < 2147483648) ∧ (¬ ((0 ≤ g ∧ g < 16) ∧ (0 ≤ w ∧ w ≤ 2)) → Q (-1) N lay r h) ∧ (((0 ≤ g ∧ g < 16) ∧ (0 ≤ w ∧ w ≤ 2)) → (w = 0 → Q (h (b + 14) g) N lay r h) ∧ (w = 1 → Q (h (b + 15) g) N lay r h) ∧ (w = 2 → Q (srv (h (b + 12)) (iA (h (b + 14) g) (h b 17)) g) N lay r h))) := by
  refine ConI.of (by decide) (by rintro _ N lay r h Q ⟨b, mp, g, w, rfl, hM, hmp, hT, hR, hg, hw, hB, hQ⟩; exact ⟨rfl, Nat.le_of_ble_eq_true rfl⟩) ?_
  rintro E _ N lay r h Q ⟨b, mp, g, w, rfl, hM, hmp, hT, hR, hg, hw, hB, hQ⟩ hret
  obtain ⟨ml0, ml1, ml2, ml3, ml4, ml5, ml6, ml7, ml8, ml9, ml10, ml11, ml12, ml13, ml14, ml15, ml16, ml17, ml18, ml19, ml20, mr1, mr2, mr3, mr4, mr5, mr6, mr7, mr8, mr9, mr10, mr11, mr12, mr13, mr14, mr15, mr16, mr17, mr18, mr19, mr20⟩ := id hM
  obtain ⟨t1, t2, t3, t4, t5, t6, t7⟩ := id hT
  obtain ⟨r1, r2, r3, r4, r5, r6, r7⟩ := id hR
  show St E mX8_held 0 [some (.ref b), some (vI g), some (vI w), none, none, none] [] (0, 0) N lay r h
  have lp2 : ∀ (set : Int) (K : Q (lwd set 12) N lay r h) (n_ : Nat) (d : Int) (x5 : Option Value), (22 - d).toNat = n_ → (10 ≤ d ∧ d ≤ 22) → (lwd set (d - 10).toNat < 0) → St E mX8_held 109 [some (.ref b), some (vI g), some (vI w), some (vI set), some (vI d), x5] [] (0, 0) N lay r h := by
    intro set K n_
    induction n_ using Nat.strongRecOn with
    | ind n_ ih =>
      intro d x5 hn_ hd hn
      obtain ⟨k, rfl⟩ : ∃ k : Nat, d = 10 + k := ⟨(d - 10).toNat, by omega⟩
      rw [show (10 + (k : Int) - 10).toNat = k by omega] at hn
      have e1 := lwd_s set k
      refine r_iload_4 (pc := 109) dX8_held_109 ?_
      refine r_bipush (pc := 111) dX8_held_111 (by decide) ?_
      refine r_icmp_ge (pc := 113) (tgt := 138) dX8_held_113 (by decide) (by omega) (by omega) (fun c_113 => ?_) (fun c_113 => ?_)
      · refine r_bipush (pc := 138) dX8_held_138 (by decide) ?_
        refine r_iret (pc := 140) hret dX8_held_140 rfl rfl rfl ?_
        first
        | (have e9 : lwd set (k + 1) = 10 + k := by rw [e1, if_pos ⟨hn, bP_iff.mpr c_126⟩]
           have e8 := lwd_st set (k + 1) (by rw [e9]; omega) (11 - k)
           rw [show k + 1 + (11 - k) = 12 by omega, e9] at e8
           rw [e8] at K
           exact K)
        | (have hk : k = 12 := by omega
           subst hk
           have e7 : lwd set 12 = -4 := lwd_m hn
           rw [e7] at K
           exact K)
      · refine r_iload_3 (pc := 116) dX8_held_116 ?_
        refine r_iload_4 (pc := 117) dX8_held_117 ?_
        refine r_bipush (pc := 119) dX8_held_119 (by decide) ?_
        refine r_isub (pc := 121) dX8_held_121 ?_
        refine r_ishr (pc := 122) dX8_held_122 (fun i_122 => ?_)
        refine r_iconst (pc := 123) dX8_held_123 ?_
        refine r_iand (pc := 124) dX8_held_124 (fun i_124 => ?_)
        refine r_iconst (pc := 125) dX8_held_125 ?_
        refine r_icmp_ne (pc := 126) (tgt := 132) dX8_held_126 (by decide) (by omega) (by omega) (fun c_126 => ?_) (fun c_126 => ?_)
        · refine r_iinc_4 (pc := 132) dX8_held_132 rfl ?_
          refine r_goto (pc := 135) (tgt := 109) dX8_held_135 (by decide) ?_
          refine ih _ (by omega) (10 + (k : Int) + 1) _ rfl (by omega) ?_
          rw [show (10 + (k : Int) + 1 - 10).toNat = k + 1 by omega, e1, if_neg (fun z => c_126 (bP_iff.mp z.2))]
          exact hn
        · refine r_iload_4 (pc := 129) dX8_held_129 ?_
          refine r_iret (pc := 131) hret dX8_held_131 rfl rfl rfl ?_
          first
          | (have e9 : lwd set (k + 1) = 10 + k := by rw [e1, if_pos ⟨hn, bP_iff.mpr c_126⟩]
             have e8 := lwd_st set (k + 1) (by rw [e9]; omega) (11 - k)
             rw [show k + 1 + (11 - k) = 12 by omega, e9] at e8
             rw [e8] at K
             exact K)
          | (have hk : k = 12 := by omega
             subst hk
             have e7 : lwd set 12 = -4 := lwd_m hn
             rw [e7] at K
             exact K)
  have lp1 : ∀ (set : Int) (hg0 : 0 ≤ g ∧ g < 16) (K : Q (srv (h (b + 12)) set g) N lay r h) (n_ : Nat) (c : Int) (x5 : Option Value), (4 - c).toNat = n_ → (0 ≤ c ∧ c ≤ 4) → (fst4 (h (b + 12)) g (bP set) c.toNat < 0) → St E mX8_held 59 [some (.ref b), some (vI g), some (vI w), some (vI set), some (vI c), x5] [] (0, 0) N lay r h := by
    intro set hg0 K n_
    induction n_ using Nat.strongRecOn with
    | ind n_ ih =>
      intro c x5 hn_ hc hn
      obtain ⟨k, rfl⟩ : ∃ k : Nat, c = k := ⟨c.toNat, by omega⟩
      rw [show ((k : Int)).toNat = k by omega] at hn
      have e1 := fst4_s (h (b + 12)) g (bP set) k
      refine r_iload_4 (pc := 59) dX8_held_59 ?_
      refine r_iconst (pc := 61) dX8_held_61 ?_
      refine r_icmp_ge (pc := 62) (tgt := 105) dX8_held_62 (by decide) (by omega) (by omega) (fun c_62 => ?_) (fun c_62 => ?_)
      · refine r_bipush (pc := 105) dX8_held_105 (by decide) ?_
        refine r_istore_4 (pc := 107) dX8_held_107 rfl ?_
        have hk4 : k = 4 := by omega
        subst hk4
        unfold srv at K
        rw [if_neg (by omega)] at K
        exact lp2 set K _ 10 _ rfl (by omega) (show (-4 : Int) < 0 by decide)
      · refine r_aload_0 (pc := 65) dX8_held_65 ?_
        refine gf_X8_43 (pc := 66) rfl (by assumption) dX8_held_66 (by assumption) ?_
        refine r_iconst (pc := 69) dX8_held_69 ?_
        refine r_iload_1 (pc := 70) dX8_held_70 ?_
        refine r_imul (pc := 71) dX8_held_71 ?_
        refine r_iload_4 (pc := 72) dX8_held_72 ?_
        refine r_iadd (pc := 74) dX8_held_74 ?_
        refine r_ialdE (pc := 75) (by assumption) (by first | assumption | exact rfl) dX8_held_75 (by omega) (by omega) (fun i_75 => ?_)
        refine r_istore_5 (pc := 76) dX8_held_76 rfl ?_
        refine r_iload_5 (pc := 78) dX8_held_78 ?_
        refine r_if_lt (pc := 80) (tgt := 99) dX8_held_80 (by decide) (by omega) (fun c_80 => ?_) (fun c_80 => ?_)
        · refine r_iinc_4 (pc := 99) dX8_held_99 rfl ?_
          refine r_goto (pc := 102) (tgt := 59) dX8_held_102 (by decide) ?_
          first
          | (refine ih _ (by omega) ((k : Int) + 1) _ rfl (by omega) ?_
             rw [show ((k : Int) + 1).toNat = k + 1 by omega, e1, if_neg (fun z => by have := z.2.1; omega)]
             exact hn)
          | (refine ih _ (by omega) ((k : Int) + 1) _ rfl (by omega) ?_
             rw [show ((k : Int) + 1).toNat = k + 1 by omega, e1, if_neg (fun z => c_93 (bP_iff.mp z.2.2))]
             exact hn)
        · refine r_iload_3 (pc := 83) dX8_held_83 ?_
          refine r_iload_5 (pc := 84) dX8_held_84 ?_
          refine r_bipush (pc := 86) dX8_held_86 (by decide) ?_
          refine r_isub (pc := 88) dX8_held_88 ?_
          refine r_ishr (pc := 89) dX8_held_89 (fun i_89 => ?_)
          refine r_iconst (pc := 90) dX8_held_90 ?_
          refine r_iand (pc := 91) dX8_held_91 (fun i_91 => ?_)
          refine r_iconst (pc := 92) dX8_held_92 ?_
          refine r_icmp_ne (pc := 93) (tgt := 99) dX8_held_93 (by decide) (by omega) (by omega) (fun c_93 => ?_) (fun c_93 => ?_)
          · refine r_iinc_4 (pc := 99) dX8_held_99 rfl ?_
            refine r_goto (pc := 102) (tgt := 59) dX8_held_102 (by decide) ?_
            first
            | (refine ih _ (by omega) ((k : Int) + 1) _ rfl (by omega) ?_
               rw [show ((k : Int) + 1).toNat = k + 1 by omega, e1, if_neg (fun z => by have := z.2.1; omega)]
               exact hn)
            | (refine ih _ (by omega) ((k : Int) + 1) _ rfl (by omega) ?_
               rw [show ((k : Int) + 1).toNat = k + 1 by omega, e1, if_neg (fun z => c_93 (bP_iff.mp z.2.2))]
               exact hn)
          · refine r_iload_5 (pc := 96) dX8_held_96 ?_
            refine r_iret (pc := 98) hret dX8_held_98 rfl rfl rfl ?_
            have e9 : fst4 (h (b + 12)) g (bP set) (k + 1) = h (b + 12) (4 * g + k) := by rw [e1, if_pos ⟨by omega, c_80, bP_iff.mpr c_93⟩]
            have e8 : fst4 (h (b + 12)) g (bP set) 4 = h (b + 12) (4 * g + k) := by
              have := fst4_st (h (b + 12)) g (bP set) (k + 1) (by rw [e9]; exact c_80) (3 - k)
              rw [show k + 1 + (3 - k) = 4 by omega, e9] at this
              exact this
            unfold srv at K
            rw [e8, if_pos c_80] at K
            exact K
  refine r_iload_1 (pc := 0) dX8_held_0 ?_
  refine k_SI1 (pc := 1) c_X8_isGroup lk_X8_183 ⟨Nat.le_of_ble_eq_true rfl, Nat.le_of_ble_eq_true rfl⟩ ⟨rfl, rfl⟩ ⟨Nat.le_of_ble_eq_true rfl, Nat.le_of_ble_eq_true rfl⟩ dX8_held_1 (Nat.le_of_ble_eq_true rfl) ?_
  refine ⟨_, rfl, by omega, ?_⟩
  refine r_ifeq_b (pc := 4) (tgt := 17) dX8_held_4 (by decide) (fun c_4 => ?_) (fun c_4 => ?_)
  · refine r_iconst (pc := 17) dX8_held_17 ?_
    refine r_iret (pc := 18) hret dX8_held_18 rfl rfl rfl ?_
    first | exact hB (by omega) | exact (hQ (by omega)).1 (by omega) | exact (hQ (by omega)).2.1 (by omega)
  · refine r_aload_0 (pc := 7) dX8_held_7 ?_
    refine r_iload_2 (pc := 8) dX8_held_8 ?_
    refine r_iconst (pc := 9) dX8_held_9 ?_
    refine r_iconst (pc := 10) dX8_held_10 ?_
    refine k_VI3 (pc := 11) c_X8_isIn lk_X8_137 ⟨Nat.le_of_ble_eq_true rfl, Nat.le_of_ble_eq_true rfl⟩ ⟨rfl, rfl⟩ ⟨Nat.le_of_ble_eq_true rfl, Nat.le_of_ble_eq_true rfl⟩ (k := 8) rfl (by decide) (by assumption) dX8_held_11 (Nat.le_of_ble_eq_true rfl) ?_
    refine ⟨_, _, _, _, rfl, by omega, by omega, by omega, ?_⟩
    refine r_ifne_b (pc := 14) (tgt := 19) dX8_held_14 (by decide) (fun c_14 => ?_) (fun c_14 => ?_)
    · refine r_iload_2 (pc := 19) dX8_held_19 ?_
      refine r_iconst (pc := 20) dX8_held_20 ?_
      refine r_icmp_ge (pc := 21) (tgt := 44) dX8_held_21 (by decide) (by omega) (by omega) (fun c_21 => ?_) (fun c_21 => ?_)
      · refine r_aload_0 (pc := 44) dX8_held_44 ?_
        refine gf_X8_49 (pc := 45) rfl (by assumption) dX8_held_45 (by assumption) ?_
        refine r_iload_1 (pc := 48) dX8_held_48 ?_
        refine r_ialdE (pc := 49) (by assumption) (by first | assumption | exact rfl) dX8_held_49 (by omega) (by omega) (fun i_49 => ?_)
        refine r_aload_0 (pc := 50) dX8_held_50 ?_
        refine gf_X8_125 (pc := 51) rfl (by assumption) dX8_held_51 (fun i_51 => ?_)
        refine r_iand (pc := 54) dX8_held_54 (fun i_54 => ?_)
        refine r_istore_3 (pc := 55) dX8_held_55 rfl ?_
        refine r_iconst (pc := 56) dX8_held_56 ?_
        refine r_istore_4 (pc := 57) dX8_held_57 rfl ?_
        exact lp1 _ (by omega) ((hQ (by omega)).2.2 (by omega)) _ 0 _ rfl (by omega) (show (-4 : Int) < 0 by decide)
      · refine r_iload_2 (pc := 24) dX8_held_24 ?_
        refine r_if_ne (pc := 25) (tgt := 37) dX8_held_25 (by decide) (by omega) (fun c_25 => ?_) (fun c_25 => ?_)
        · refine r_aload_0 (pc := 37) dX8_held_37 ?_
          refine gf_X8_52 (pc := 38) rfl (by assumption) dX8_held_38 (by assumption) ?_
          refine r_iload_1 (pc := 41) dX8_held_41 ?_
          refine r_ialdE (pc := 42) (by assumption) (by first | assumption | exact rfl) dX8_held_42 (by omega) (by omega) (fun i_42 => ?_)
          refine r_iret (pc := 43) hret dX8_held_43 rfl rfl rfl ?_
          first | exact hB (by omega) | exact (hQ (by omega)).1 (by omega) | exact (hQ (by omega)).2.1 (by omega)
        · refine r_aload_0 (pc := 28) dX8_held_28 ?_
          refine gf_X8_49 (pc := 29) rfl (by assumption) dX8_held_29 (by assumption) ?_
          refine r_iload_1 (pc := 32) dX8_held_32 ?_
          refine r_ialdE (pc := 33) (by assumption) (by first | assumption | exact rfl) dX8_held_33 (by omega) (by omega) (fun i_33 => ?_)
          refine r_goto (pc := 34) (tgt := 43) dX8_held_34 (by decide) ?_
          refine r_iret (pc := 43) hret dX8_held_43 rfl rfl rfl ?_
          first | exact hB (by omega) | exact (hQ (by omega)).1 (by omega) | exact (hQ (by omega)).2.1 (by omega)
    · refine r_iconst (pc := 17) dX8_held_17 ?_
      refine r_iret (pc := 18) hret dX8_held_18 rfl rfl rfl ?_
      first | exact hB (by omega) | exact (hQ (by omega)).1 (by omega) | exact (hQ (by omega)).2.1 (by omega)

theorem dX8_load_0 : decode cX8_load 0 = .ok (.aload_n 0, 1) := by decide +kernel
theorem dX8_load_1 : decode cX8_load 1 = .ok (.iload_n 1, 1) := by decide +kernel
theorem dX8_load_2 : decode cX8_load 2 = .ok (.invokevirtual 147, 3) := by decide +kernel
theorem dX8_load_5 : decode cX8_load 5 = .ok (.ifCond .eq 13, 3) := by decide +kernel
theorem dX8_load_8 : decode cX8_load 8 = .ok (.aload_n 0, 1) := by decide +kernel
theorem dX8_load_9 : decode cX8_load 9 = .ok (.iload_n 2, 1) := by decide +kernel
theorem dX8_load_10 : decode cX8_load 10 = .ok (.iconst 0, 1) := by decide +kernel
theorem dX8_load_11 : decode cX8_load 11 = .ok (.iconst 1, 1) := by decide +kernel
theorem dX8_load_12 : decode cX8_load 12 = .ok (.invokevirtual 137, 3) := by decide +kernel
theorem dX8_load_15 : decode cX8_load 15 = .ok (.ifCond .ne 5, 3) := by decide +kernel
theorem dX8_load_18 : decode cX8_load 18 = .ok (.iconst (-1), 1) := by decide +kernel
theorem dX8_load_19 : decode cX8_load 19 = .ok (.ireturn, 1) := by decide +kernel
theorem dX8_load_20 : decode cX8_load 20 = .ok (.iload_n 2, 1) := by decide +kernel
theorem dX8_load_21 : decode cX8_load 21 = .ok (.ifCond .ne 9, 3) := by decide +kernel
theorem dX8_load_24 : decode cX8_load 24 = .ok (.aload_n 0, 1) := by decide +kernel
theorem dX8_load_25 : decode cX8_load 25 = .ok (.iload_n 1, 1) := by decide +kernel
theorem dX8_load_26 : decode cX8_load 26 = .ok (.invokevirtual 226, 3) := by decide +kernel
theorem dX8_load_29 : decode cX8_load 29 = .ok (.ireturn, 1) := by decide +kernel
theorem dX8_load_30 : decode cX8_load 30 = .ok (.iconst 0, 1) := by decide +kernel
theorem dX8_load_31 : decode cX8_load 31 = .ok (.istore_n 3, 1) := by decide +kernel
theorem dX8_load_32 : decode cX8_load 32 = .ok (.iconst 0, 1) := by decide +kernel
theorem dX8_load_33 : decode cX8_load 33 = .ok (.istore 4, 2) := by decide +kernel
theorem dX8_load_35 : decode cX8_load 35 = .ok (.iload 4, 2) := by decide +kernel
theorem dX8_load_37 : decode cX8_load 37 = .ok (.bipush 16, 2) := by decide +kernel
theorem dX8_load_39 : decode cX8_load 39 = .ok (.if_icmp .ge 36, 3) := by decide +kernel
theorem dX8_load_42 : decode cX8_load 42 = .ok (.iload_n 3, 1) := by decide +kernel
theorem dX8_load_43 : decode cX8_load 43 = .ok (.aload_n 0, 1) := by decide +kernel
theorem dX8_load_44 : decode cX8_load 44 = .ok (.getfield 43, 3) := by decide +kernel
theorem dX8_load_47 : decode cX8_load 47 = .ok (.iload 4, 2) := by decide +kernel
theorem dX8_load_49 : decode cX8_load 49 = .ok (.iload_n 1, 1) := by decide +kernel
theorem dX8_load_50 : decode cX8_load 50 = .ok (.invokestatic 208, 3) := by decide +kernel
theorem dX8_load_53 : decode cX8_load 53 = .ok (.ifCond .eq 13, 3) := by decide +kernel
theorem dX8_load_56 : decode cX8_load 56 = .ok (.aload_n 0, 1) := by decide +kernel
theorem dX8_load_57 : decode cX8_load 57 = .ok (.getfield 52, 3) := by decide +kernel
theorem dX8_load_60 : decode cX8_load 60 = .ok (.iload 4, 2) := by decide +kernel
theorem dX8_load_62 : decode cX8_load 62 = .ok (.iaload, 1) := by decide +kernel
theorem dX8_load_63 : decode cX8_load 63 = .ok (.goto 4, 3) := by decide +kernel
theorem dX8_load_66 : decode cX8_load 66 = .ok (.iconst 0, 1) := by decide +kernel
theorem dX8_load_67 : decode cX8_load 67 = .ok (.iadd, 1) := by decide +kernel
theorem dX8_load_68 : decode cX8_load 68 = .ok (.istore_n 3, 1) := by decide +kernel
theorem dX8_load_69 : decode cX8_load 69 = .ok (.iinc 4 1, 3) := by decide +kernel
theorem dX8_load_72 : decode cX8_load 72 = .ok (.goto (-37), 3) := by decide +kernel
theorem dX8_load_75 : decode cX8_load 75 = .ok (.iload_n 3, 1) := by decide +kernel
theorem dX8_load_76 : decode cX8_load 76 = .ok (.ireturn, 1) := by decide +kernel
set_option maxHeartbeats 4000000 in
set_option maxRecDepth 20000 in
theorem c_X8_load : ConI mX8_load (fun args N lay r h Q => ∃ (b : Nat) (mp : Int → Int) (d w : Int), args = [.ref b, vI d, vI w] ∧ MdAt lay r b ∧ h (b + 2) = mp ∧ TrM mp ∧ RlM mp ∧ (-2147483648 ≤ d ∧ d < 2147483648) ∧ (-2147483648 ≤ w ∧ w < 2147483648) ∧ (¬ ((10 ≤ d ∧ d ≤ 9 + mp 130) ∧ (0 ≤ w ∧ w ≤ 1)) → Q (-1) N lay r h) ∧ (((10 ≤ d ∧ d ≤ 9 + mp 130) ∧ (0 ≤ w ∧ w ≤ 1)) → (w = 0 → Q (sm (fun g => if iA (iSr (h (b + 14) g) (d - 10)) 1 = 1 then h (b + 15) g else 0) 16) N lay r h) ∧ (w = 1 → Q (sm (fun g => if hasB (h (b + 12)) g d = true then h (b + 15) g else 0) 16) N lay r h))) := by
  refine ConI.of (by decide) (by rintro _ N lay r h Q ⟨b, mp, d, w, rfl, hM, hmp, hT, hR, hd, hw, hB, hQ⟩; exact ⟨rfl, Nat.le_of_ble_eq_true rfl⟩) ?_
  rintro E _ N lay r h Q ⟨b, mp, d, w, rfl, hM, hmp, hT, hR, hd, hw, hB, hQ⟩ hret
  obtain ⟨ml0, ml1, ml2, ml3, ml4, ml5, ml6, ml7, ml8, ml9, ml10, ml11, ml12, ml13, ml14, ml15, ml16, ml17, ml18, ml19, ml20, mr1, mr2, mr3, mr4, mr5, mr6, mr7, mr8, mr9, mr10, mr11, mr12, mr13, mr14, mr15, mr16, mr17, mr18, mr19, mr20⟩ := id hM
  obtain ⟨t1, t2, t3, t4, t5, t6, t7⟩ := id hT
  obtain ⟨r1, r2, r3, r4, r5, r6, r7⟩ := id hR
  show St E mX8_load 0 [some (.ref b), some (vI d), some (vI w), none, none] [] (0, 0) N lay r h
  have lp : ∀ (K : Q (sm (fun g => if hasB (h (b + 12)) g d = true then h (b + 15) g else 0) 16) N lay r h) (n_ : Nat) (i : Int) (s : Int), (16 - i).toNat = n_ → (0 ≤ i ∧ i ≤ 16) → (s = sm (fun g => if hasB (h (b + 12)) g d = true then h (b + 15) g else 0) i.toNat) → St E mX8_load 35 [some (.ref b), some (vI d), some (vI w), some (vI s), some (vI i)] [] (0, 0) N lay r h := by
    intro K n_
    induction n_ using Nat.strongRecOn with
    | ind n_ ih =>
      intro i s hn_ hi hs
      have e1 : sm (fun g => if hasB (h (b + 12)) g d = true then h (b + 15) g else 0) (i + 1).toNat = sm (fun g => if hasB (h (b + 12)) g d = true then h (b + 15) g else 0) i.toNat + (fun g => if hasB (h (b + 12)) g d = true then h (b + 15) g else 0) i := sm_z (by omega)
      dsimp only at e1
      refine r_iload_4 (pc := 35) dX8_load_35 ?_
      refine r_bipush (pc := 37) dX8_load_37 (by decide) ?_
      refine r_icmp_ge (pc := 39) (tgt := 75) dX8_load_39 (by decide) (by omega) (by omega) (fun c_39 => ?_) (fun c_39 => ?_)
      · refine r_iload_3 (pc := 75) dX8_load_75 ?_
        refine r_iret (pc := 76) hret dX8_load_76 rfl rfl rfl ?_
        have hi9 : i = 16 := by omega
        subst hi9
        rw [hs]
        exact K
      · refine r_iload_3 (pc := 42) dX8_load_42 ?_
        refine r_aload_0 (pc := 43) dX8_load_43 ?_
        refine gf_X8_43 (pc := 44) rfl (by assumption) dX8_load_44 (by assumption) ?_
        refine r_iload_4 (pc := 47) dX8_load_47 ?_
        refine r_iload_1 (pc := 49) dX8_load_49 ?_
        refine k_SI3 (pc := 50) c_X8_has lk_X8_208 ⟨Nat.le_of_ble_eq_true rfl, Nat.le_of_ble_eq_true rfl⟩ ⟨rfl, rfl⟩ ⟨Nat.le_of_ble_eq_true rfl, Nat.le_of_ble_eq_true rfl⟩ dX8_load_50 (Nat.le_of_ble_eq_true rfl) ?_
        refine ⟨_, _, _, rfl, by assumption, by omega, by omega, ?_⟩
        refine r_ifeq_b (pc := 53) (tgt := 66) dX8_load_53 (by decide) (fun c_53 => ?_) (fun c_53 => ?_)
        · refine r_iconst (pc := 66) dX8_load_66 ?_
          refine r_iadd (pc := 67) dX8_load_67 ?_
          refine r_istore_3 (pc := 68) dX8_load_68 rfl ?_
          refine r_iinc_4 (pc := 69) dX8_load_69 rfl ?_
          refine r_goto (pc := 72) (tgt := 35) dX8_load_72 (by decide) ?_
          first
          | (refine ih _ (by omega) (i + 1) _ rfl (by omega) ?_; rw [e1, hs, if_pos c_53])
          | (refine ih _ (by omega) (i + 1) _ rfl (by omega) ?_; rw [e1, hs, if_neg c_53])
        · refine r_aload_0 (pc := 56) dX8_load_56 ?_
          refine gf_X8_52 (pc := 57) rfl (by assumption) dX8_load_57 (by assumption) ?_
          refine r_iload_4 (pc := 60) dX8_load_60 ?_
          refine r_ialdE (pc := 62) (by assumption) (by first | assumption | exact rfl) dX8_load_62 (by omega) (by omega) (fun i_62 => ?_)
          refine r_goto (pc := 63) (tgt := 67) dX8_load_63 (by decide) ?_
          refine r_iadd (pc := 67) dX8_load_67 ?_
          refine r_istore_3 (pc := 68) dX8_load_68 rfl ?_
          refine r_iinc_4 (pc := 69) dX8_load_69 rfl ?_
          refine r_goto (pc := 72) (tgt := 35) dX8_load_72 (by decide) ?_
          first
          | (refine ih _ (by omega) (i + 1) _ rfl (by omega) ?_; rw [e1, hs, if_pos c_53])
          | (refine ih _ (by omega) (i + 1) _ rfl (by omega) ?_; rw [e1, hs, if_neg c_53])
  refine r_aload_0 (pc := 0) dX8_load_0 ?_
  refine r_iload_1 (pc := 1) dX8_load_1 ?_
  refine k_VI1 (pc := 2) c_X8_isDisk lk_X8_147 ⟨Nat.le_of_ble_eq_true rfl, Nat.le_of_ble_eq_true rfl⟩ ⟨rfl, rfl⟩ ⟨Nat.le_of_ble_eq_true rfl, Nat.le_of_ble_eq_true rfl⟩ (k := 8) rfl (by decide) (by assumption) dX8_load_2 (Nat.le_of_ble_eq_true rfl) ?_
  refine ⟨_, _, _, rfl, by assumption, by first | assumption | exact rfl, by omega, by omega, ?_⟩
  refine r_ifeq_b (pc := 5) (tgt := 18) dX8_load_5 (by decide) (fun c_5 => ?_) (fun c_5 => ?_)
  · refine r_iconst (pc := 18) dX8_load_18 ?_
    refine r_iret (pc := 19) hret dX8_load_19 rfl rfl rfl ?_
    first | exact hB (by omega) | exact (hQ (by omega)).1 (by omega)
  · refine r_aload_0 (pc := 8) dX8_load_8 ?_
    refine r_iload_2 (pc := 9) dX8_load_9 ?_
    refine r_iconst (pc := 10) dX8_load_10 ?_
    refine r_iconst (pc := 11) dX8_load_11 ?_
    refine k_VI3 (pc := 12) c_X8_isIn lk_X8_137 ⟨Nat.le_of_ble_eq_true rfl, Nat.le_of_ble_eq_true rfl⟩ ⟨rfl, rfl⟩ ⟨Nat.le_of_ble_eq_true rfl, Nat.le_of_ble_eq_true rfl⟩ (k := 8) rfl (by decide) (by assumption) dX8_load_12 (Nat.le_of_ble_eq_true rfl) ?_
    refine ⟨_, _, _, _, rfl, by omega, by omega, by omega, ?_⟩
    refine r_ifne_b (pc := 15) (tgt := 20) dX8_load_15 (by decide) (fun c_15 => ?_) (fun c_15 => ?_)
    · refine r_iload_2 (pc := 20) dX8_load_20 ?_
      refine r_if_ne (pc := 21) (tgt := 30) dX8_load_21 (by decide) (by omega) (fun c_21 => ?_) (fun c_21 => ?_)
      · refine r_iconst (pc := 30) dX8_load_30 ?_
        refine r_istore_3 (pc := 31) dX8_load_31 rfl ?_
        refine r_iconst (pc := 32) dX8_load_32 ?_
        refine r_istore_4 (pc := 33) dX8_load_33 rfl ?_
        exact lp ((hQ (by omega)).2 (by omega)) _ 0 0 rfl (by omega) rfl
      · refine r_aload_0 (pc := 24) dX8_load_24 ?_
        refine r_iload_1 (pc := 25) dX8_load_25 ?_
        refine k_VI1 (pc := 26) c_X8_loadOf lk_X8_226 ⟨Nat.le_of_ble_eq_true rfl, Nat.le_of_ble_eq_true rfl⟩ ⟨rfl, rfl⟩ ⟨Nat.le_of_ble_eq_true rfl, Nat.le_of_ble_eq_true rfl⟩ (k := 8) rfl (by decide) (by assumption) dX8_load_26 (Nat.le_of_ble_eq_true rfl) ?_
        refine ⟨_, _, rfl, by assumption, by omega, ?_⟩
        refine r_iret (pc := 29) hret dX8_load_29 rfl rfl rfl ?_
        first | exact hB (by omega) | exact (hQ (by omega)).1 (by omega)
    · refine r_iconst (pc := 18) dX8_load_18 ?_
      refine r_iret (pc := 19) hret dX8_load_19 rfl rfl rfl ?_
      first | exact hB (by omega) | exact (hQ (by omega)).1 (by omega)

theorem dX8_loses_0 : decode cX8_loses 0 = .ok (.aload_n 0, 1) := by decide +kernel
theorem dX8_loses_1 : decode cX8_loses 1 = .ok (.iload_n 1, 1) := by decide +kernel
theorem dX8_loses_2 : decode cX8_loses 2 = .ok (.invokevirtual 154, 3) := by decide +kernel
theorem dX8_loses_5 : decode cX8_loses 5 = .ok (.ifCond .eq 11, 3) := by decide +kernel
theorem dX8_loses_8 : decode cX8_loses 8 = .ok (.aload_n 0, 1) := by decide +kernel
theorem dX8_loses_9 : decode cX8_loses 9 = .ok (.iload_n 2, 1) := by decide +kernel
theorem dX8_loses_10 : decode cX8_loses 10 = .ok (.invokevirtual 154, 3) := by decide +kernel
theorem dX8_loses_13 : decode cX8_loses 13 = .ok (.ifCond .ne 5, 3) := by decide +kernel
theorem dX8_loses_16 : decode cX8_loses 16 = .ok (.iconst (-1), 1) := by decide +kernel
theorem dX8_loses_17 : decode cX8_loses 17 = .ok (.ireturn, 1) := by decide +kernel
theorem dX8_loses_18 : decode cX8_loses 18 = .ok (.iconst 0, 1) := by decide +kernel
theorem dX8_loses_19 : decode cX8_loses 19 = .ok (.istore_n 3, 1) := by decide +kernel
theorem dX8_loses_20 : decode cX8_loses 20 = .ok (.bipush 10, 2) := by decide +kernel
theorem dX8_loses_22 : decode cX8_loses 22 = .ok (.istore 4, 2) := by decide +kernel
theorem dX8_loses_24 : decode cX8_loses 24 = .ok (.iload 4, 2) := by decide +kernel
theorem dX8_loses_26 : decode cX8_loses 26 = .ok (.bipush 10, 2) := by decide +kernel
theorem dX8_loses_28 : decode cX8_loses 28 = .ok (.aload_n 0, 1) := by decide +kernel
theorem dX8_loses_29 : decode cX8_loses 29 = .ok (.getfield 13, 3) := by decide +kernel
theorem dX8_loses_32 : decode cX8_loses 32 = .ok (.sipush 130, 3) := by decide +kernel
theorem dX8_loses_35 : decode cX8_loses 35 = .ok (.iaload, 1) := by decide +kernel
theorem dX8_loses_36 : decode cX8_loses 36 = .ok (.iadd, 1) := by decide +kernel
theorem dX8_loses_37 : decode cX8_loses 37 = .ok (.if_icmp .ge 43, 3) := by decide +kernel
theorem dX8_loses_40 : decode cX8_loses 40 = .ok (.iload_n 3, 1) := by decide +kernel
theorem dX8_loses_41 : decode cX8_loses 41 = .ok (.aload_n 0, 1) := by decide +kernel
theorem dX8_loses_42 : decode cX8_loses 42 = .ok (.iload 4, 2) := by decide +kernel
theorem dX8_loses_44 : decode cX8_loses 44 = .ok (.iload_n 1, 1) := by decide +kernel
theorem dX8_loses_45 : decode cX8_loses 45 = .ok (.invokevirtual 150, 3) := by decide +kernel
theorem dX8_loses_48 : decode cX8_loses 48 = .ok (.ifCond .ne 13, 3) := by decide +kernel
theorem dX8_loses_51 : decode cX8_loses 51 = .ok (.aload_n 0, 1) := by decide +kernel
theorem dX8_loses_52 : decode cX8_loses 52 = .ok (.iload 4, 2) := by decide +kernel
theorem dX8_loses_54 : decode cX8_loses 54 = .ok (.iload_n 2, 1) := by decide +kernel
theorem dX8_loses_55 : decode cX8_loses 55 = .ok (.invokevirtual 150, 3) := by decide +kernel
theorem dX8_loses_58 : decode cX8_loses 58 = .ok (.ifCond .eq 13, 3) := by decide +kernel
theorem dX8_loses_61 : decode cX8_loses 61 = .ok (.iconst 1, 1) := by decide +kernel
theorem dX8_loses_62 : decode cX8_loses 62 = .ok (.iload 4, 2) := by decide +kernel
theorem dX8_loses_64 : decode cX8_loses 64 = .ok (.bipush 10, 2) := by decide +kernel
theorem dX8_loses_66 : decode cX8_loses 66 = .ok (.isub, 1) := by decide +kernel
theorem dX8_loses_67 : decode cX8_loses 67 = .ok (.ishl, 1) := by decide +kernel
theorem dX8_loses_68 : decode cX8_loses 68 = .ok (.goto 4, 3) := by decide +kernel
theorem dX8_loses_71 : decode cX8_loses 71 = .ok (.iconst 0, 1) := by decide +kernel
theorem dX8_loses_72 : decode cX8_loses 72 = .ok (.ior, 1) := by decide +kernel
theorem dX8_loses_73 : decode cX8_loses 73 = .ok (.istore_n 3, 1) := by decide +kernel
theorem dX8_loses_74 : decode cX8_loses 74 = .ok (.iinc 4 1, 3) := by decide +kernel
theorem dX8_loses_77 : decode cX8_loses 77 = .ok (.goto (-53), 3) := by decide +kernel
theorem dX8_loses_80 : decode cX8_loses 80 = .ok (.iconst 0, 1) := by decide +kernel
theorem dX8_loses_81 : decode cX8_loses 81 = .ok (.istore 4, 2) := by decide +kernel
theorem dX8_loses_83 : decode cX8_loses 83 = .ok (.iconst 0, 1) := by decide +kernel
theorem dX8_loses_84 : decode cX8_loses 84 = .ok (.istore 5, 2) := by decide +kernel
theorem dX8_loses_86 : decode cX8_loses 86 = .ok (.iload 5, 2) := by decide +kernel
theorem dX8_loses_88 : decode cX8_loses 88 = .ok (.bipush 16, 2) := by decide +kernel
theorem dX8_loses_90 : decode cX8_loses 90 = .ok (.if_icmp .ge 46, 3) := by decide +kernel
theorem dX8_loses_93 : decode cX8_loses 93 = .ok (.iload 4, 2) := by decide +kernel
theorem dX8_loses_95 : decode cX8_loses 95 = .ok (.aload_n 0, 1) := by decide +kernel
theorem dX8_loses_96 : decode cX8_loses 96 = .ok (.getfield 49, 3) := by decide +kernel
theorem dX8_loses_99 : decode cX8_loses 99 = .ok (.iload 5, 2) := by decide +kernel
theorem dX8_loses_101 : decode cX8_loses 101 = .ok (.iaload, 1) := by decide +kernel
theorem dX8_loses_102 : decode cX8_loses 102 = .ok (.ifCond .eq 24, 3) := by decide +kernel
theorem dX8_loses_105 : decode cX8_loses 105 = .ok (.aload_n 0, 1) := by decide +kernel
theorem dX8_loses_106 : decode cX8_loses 106 = .ok (.getfield 49, 3) := by decide +kernel
theorem dX8_loses_109 : decode cX8_loses 109 = .ok (.iload 5, 2) := by decide +kernel
theorem dX8_loses_111 : decode cX8_loses 111 = .ok (.iaload, 1) := by decide +kernel
theorem dX8_loses_112 : decode cX8_loses 112 = .ok (.iload_n 3, 1) := by decide +kernel
theorem dX8_loses_113 : decode cX8_loses 113 = .ok (.iconst (-1), 1) := by decide +kernel
theorem dX8_loses_114 : decode cX8_loses 114 = .ok (.ixor, 1) := by decide +kernel
theorem dX8_loses_115 : decode cX8_loses 115 = .ok (.iand, 1) := by decide +kernel
theorem dX8_loses_116 : decode cX8_loses 116 = .ok (.ifCond .ne 10, 3) := by decide +kernel
theorem dX8_loses_119 : decode cX8_loses 119 = .ok (.iconst 1, 1) := by decide +kernel
theorem dX8_loses_120 : decode cX8_loses 120 = .ok (.iload 5, 2) := by decide +kernel
theorem dX8_loses_122 : decode cX8_loses 122 = .ok (.ishl, 1) := by decide +kernel
theorem dX8_loses_123 : decode cX8_loses 123 = .ok (.goto 4, 3) := by decide +kernel
theorem dX8_loses_126 : decode cX8_loses 126 = .ok (.iconst 0, 1) := by decide +kernel
theorem dX8_loses_127 : decode cX8_loses 127 = .ok (.iadd, 1) := by decide +kernel
theorem dX8_loses_128 : decode cX8_loses 128 = .ok (.istore 4, 2) := by decide +kernel
theorem dX8_loses_130 : decode cX8_loses 130 = .ok (.iinc 5 1, 3) := by decide +kernel
theorem dX8_loses_133 : decode cX8_loses 133 = .ok (.goto (-47), 3) := by decide +kernel
theorem dX8_loses_136 : decode cX8_loses 136 = .ok (.iload 4, 2) := by decide +kernel
theorem dX8_loses_138 : decode cX8_loses 138 = .ok (.ireturn, 1) := by decide +kernel
set_option maxHeartbeats 4000000 in
set_option maxRecDepth 20000 in
theorem c_X8_loses : ConI mX8_loses (fun args N lay r h Q => ∃ (b : Nat) (mp : Int → Int) (n m : Int), args = [.ref b, vI n, vI m] ∧ MdAt lay r b ∧ h (b + 2) = mp ∧ TrM mp ∧ RlM mp ∧ (-2147483648 ≤ n ∧ n < 2147483648) ∧ (-2147483648 ≤ m ∧ m < 2147483648) ∧ (¬ (isNd mp n ∧ isNd mp m) → Q (-1) N lay r h) ∧ ((isNd mp n ∧ isNd mp m) → Q (sm (fun g => if h (b + 14) g ≠ 0 ∧ iA (h (b + 14) g) (iX (blm mp n m (mp 130).toNat) (-1)) = 0 then iSl 1 g else 0) 16) N lay r h)) := by
  refine ConI.of (by decide) (by rintro _ N lay r h Q ⟨b, mp, n, m, rfl, hM, hmp, hT, hR, hn, hm, hB, hQ⟩; exact ⟨rfl, Nat.le_of_ble_eq_true rfl⟩) ?_
  rintro E _ N lay r h Q ⟨b, mp, n, m, rfl, hM, hmp, hT, hR, hn, hm, hB, hQ⟩ hret
  obtain ⟨ml0, ml1, ml2, ml3, ml4, ml5, ml6, ml7, ml8, ml9, ml10, ml11, ml12, ml13, ml14, ml15, ml16, ml17, ml18, ml19, ml20, mr1, mr2, mr3, mr4, mr5, mr6, mr7, mr8, mr9, mr10, mr11, mr12, mr13, mr14, mr15, mr16, mr17, mr18, mr19, mr20⟩ := id hM
  obtain ⟨t1, t2, t3, t4, t5, t6, t7⟩ := id hT
  obtain ⟨r1, r2, r3, r4, r5, r6, r7⟩ := id hR
  show St E mX8_loses 0 [some (.ref b), some (vI n), some (vI m), none, none, none] [] (0, 0) N lay r h
  have lp2 : ∀ (bl : Int) (K : Q (sm (fun g => if h (b + 14) g ≠ 0 ∧ iA (h (b + 14) g) (iX bl (-1)) = 0 then iSl 1 g else 0) 16) N lay r h) (n_ : Nat) (i : Int) (s : Int), (16 - i).toNat = n_ → (0 ≤ i ∧ i ≤ 16) → (s = sm (fun g => if h (b + 14) g ≠ 0 ∧ iA (h (b + 14) g) (iX bl (-1)) = 0 then iSl 1 g else 0) i.toNat) → St E mX8_loses 86 [some (.ref b), some (vI n), some (vI m), some (vI bl), some (vI s), some (vI i)] [] (0, 0) N lay r h := by
    intro bl K n_
    induction n_ using Nat.strongRecOn with
    | ind n_ ih =>
      intro i s hn_ hi hs
      have e1 : sm (fun g => if h (b + 14) g ≠ 0 ∧ iA (h (b + 14) g) (iX bl (-1)) = 0 then iSl 1 g else 0) (i + 1).toNat = sm (fun g => if h (b + 14) g ≠ 0 ∧ iA (h (b + 14) g) (iX bl (-1)) = 0 then iSl 1 g else 0) i.toNat + (fun g => if h (b + 14) g ≠ 0 ∧ iA (h (b + 14) g) (iX bl (-1)) = 0 then iSl 1 g else 0) i := sm_z (by omega)
      dsimp only at e1
      refine r_iload_5 (pc := 86) dX8_loses_86 ?_
      refine r_bipush (pc := 88) dX8_loses_88 (by decide) ?_
      refine r_icmp_ge (pc := 90) (tgt := 136) dX8_loses_90 (by decide) (by omega) (by omega) (fun c_90 => ?_) (fun c_90 => ?_)
      · refine r_iload_4 (pc := 136) dX8_loses_136 ?_
        refine r_iret (pc := 138) hret dX8_loses_138 rfl rfl rfl ?_
        have hi9 : i = 16 := by omega
        subst hi9
        rw [hs]
        exact K
      · refine r_iload_4 (pc := 93) dX8_loses_93 ?_
        refine r_aload_0 (pc := 95) dX8_loses_95 ?_
        refine gf_X8_49 (pc := 96) rfl (by assumption) dX8_loses_96 (by assumption) ?_
        refine r_iload_5 (pc := 99) dX8_loses_99 ?_
        refine r_ialdE (pc := 101) (by assumption) (by first | assumption | exact rfl) dX8_loses_101 (by omega) (by omega) (fun i_101 => ?_)
        refine r_if_eq (pc := 102) (tgt := 126) dX8_loses_102 (by decide) (by omega) (fun c_102 => ?_) (fun c_102 => ?_)
        · refine r_iconst (pc := 126) dX8_loses_126 ?_
          refine r_iadd (pc := 127) dX8_loses_127 ?_
          refine r_istore_4 (pc := 128) dX8_loses_128 rfl ?_
          refine r_iinc_5 (pc := 130) dX8_loses_130 rfl ?_
          refine r_goto (pc := 133) (tgt := 86) dX8_loses_133 (by decide) ?_
          first
          | (have e9 : ¬ (h (b + 14) i ≠ 0 ∧ iA (h (b + 14) i) (iX bl (-1)) = 0) := fun z => z.1 c_102
             refine ih _ (by omega) (i + 1) _ rfl (by omega) ?_; rw [e1, hs, if_neg e9])
          | (have e9 : ¬ (h (b + 14) i ≠ 0 ∧ iA (h (b + 14) i) (iX bl (-1)) = 0) := fun z => c_116 z.2
             refine ih _ (by omega) (i + 1) _ rfl (by omega) ?_; rw [e1, hs, if_neg e9])
          | (have e9 : h (b + 14) i ≠ 0 ∧ iA (h (b + 14) i) (iX bl (-1)) = 0 := And.intro c_102 c_116
             refine ih _ (by omega) (i + 1) _ rfl (by omega) ?_; rw [e1, hs, if_pos e9])
        · refine r_aload_0 (pc := 105) dX8_loses_105 ?_
          refine gf_X8_49 (pc := 106) rfl (by assumption) dX8_loses_106 (by assumption) ?_
          refine r_iload_5 (pc := 109) dX8_loses_109 ?_
          refine r_ialdE (pc := 111) (by assumption) (by first | assumption | exact rfl) dX8_loses_111 (by omega) (by omega) (fun i_111 => ?_)
          refine r_iload_3 (pc := 112) dX8_loses_112 ?_
          refine r_iconst (pc := 113) dX8_loses_113 ?_
          refine r_ixor (pc := 114) dX8_loses_114 (fun i_114 => ?_)
          refine r_iand (pc := 115) dX8_loses_115 (fun i_115 => ?_)
          refine r_if_ne (pc := 116) (tgt := 126) dX8_loses_116 (by decide) (by omega) (fun c_116 => ?_) (fun c_116 => ?_)
          · refine r_iconst (pc := 126) dX8_loses_126 ?_
            refine r_iadd (pc := 127) dX8_loses_127 ?_
            refine r_istore_4 (pc := 128) dX8_loses_128 rfl ?_
            refine r_iinc_5 (pc := 130) dX8_loses_130 rfl ?_
            refine r_goto (pc := 133) (tgt := 86) dX8_loses_133 (by decide) ?_
            first
            | (have e9 : ¬ (h (b + 14) i ≠ 0 ∧ iA (h (b + 14) i) (iX bl (-1)) = 0) := fun z => z.1 c_102
               refine ih _ (by omega) (i + 1) _ rfl (by omega) ?_; rw [e1, hs, if_neg e9])
            | (have e9 : ¬ (h (b + 14) i ≠ 0 ∧ iA (h (b + 14) i) (iX bl (-1)) = 0) := fun z => c_116 z.2
               refine ih _ (by omega) (i + 1) _ rfl (by omega) ?_; rw [e1, hs, if_neg e9])
            | (have e9 : h (b + 14) i ≠ 0 ∧ iA (h (b + 14) i) (iX bl (-1)) = 0 := And.intro c_102 c_116
               refine ih _ (by omega) (i + 1) _ rfl (by omega) ?_; rw [e1, hs, if_pos e9])
          · refine r_iconst (pc := 119) dX8_loses_119 ?_
            refine r_iload_5 (pc := 120) dX8_loses_120 ?_
            refine r_ishl (pc := 122) dX8_loses_122 (fun i_122 => ?_)
            refine r_goto (pc := 123) (tgt := 127) dX8_loses_123 (by decide) ?_
            refine r_iadd (pc := 127) dX8_loses_127 ?_
            refine r_istore_4 (pc := 128) dX8_loses_128 rfl ?_
            refine r_iinc_5 (pc := 130) dX8_loses_130 rfl ?_
            refine r_goto (pc := 133) (tgt := 86) dX8_loses_133 (by decide) ?_
            first
            | (have e9 : ¬ (h (b + 14) i ≠ 0 ∧ iA (h (b + 14) i) (iX bl (-1)) = 0) := fun z => z.1 c_102
               refine ih _ (by omega) (i + 1) _ rfl (by omega) ?_; rw [e1, hs, if_neg e9])
            | (have e9 : ¬ (h (b + 14) i ≠ 0 ∧ iA (h (b + 14) i) (iX bl (-1)) = 0) := fun z => c_116 z.2
               refine ih _ (by omega) (i + 1) _ rfl (by omega) ?_; rw [e1, hs, if_neg e9])
            | (have e9 : h (b + 14) i ≠ 0 ∧ iA (h (b + 14) i) (iX bl (-1)) = 0 := And.intro c_102 c_116
               refine ih _ (by omega) (i + 1) _ rfl (by omega) ?_; rw [e1, hs, if_pos e9])
  have lp1 : ∀ (hn0 : isNd mp n) (hm0 : isNd mp m) (K : Q (sm (fun g => if h (b + 14) g ≠ 0 ∧ iA (h (b + 14) g) (iX (blm mp n m (mp 130).toNat) (-1)) = 0 then iSl 1 g else 0) 16) N lay r h) (n_ : Nat) (d : Int) (bl : Int), (22 - d).toNat = n_ → (10 ≤ d ∧ d ≤ 10 + mp 130) → (bl = blm mp n m (d - 10).toNat) → St E mX8_loses 24 [some (.ref b), some (vI n), some (vI m), some (vI bl), some (vI d), none] [] (0, 0) N lay r h := by
    intro hn0 hm0 K n_
    induction n_ using Nat.strongRecOn with
    | ind n_ ih =>
      intro d bl hn_ hd hbl
      obtain ⟨k, rfl⟩ : ∃ k : Nat, d = 10 + k := ⟨(d - 10).toNat, by omega⟩
      rw [show (10 + (k : Int) - 10).toNat = k by omega] at hbl
      have e1 : blm mp n m (k + 1) = iO (blm mp n m k) (if bel mp (10 + k) n ∨ bel mp (10 + k) m then iSl 1 (10 + k - 10) else 0) := rfl
      refine r_iload_4 (pc := 24) dX8_loses_24 ?_
      refine r_bipush (pc := 26) dX8_loses_26 (by decide) ?_
      refine r_aload_0 (pc := 28) dX8_loses_28 ?_
      refine gf_X8_13 (pc := 29) rfl (by assumption) dX8_loses_29 (by assumption) ?_
      refine r_sipush (pc := 32) dX8_loses_32 (by decide) ?_
      refine r_ialdE (pc := 35) (by assumption) (by first | assumption | exact rfl) dX8_loses_35 (by omega) (by omega) (fun i_35 => ?_)
      refine r_iadd (pc := 36) dX8_loses_36 ?_
      refine r_icmp_ge (pc := 37) (tgt := 80) dX8_loses_37 (by decide) (by omega) (by omega) (fun c_37 => ?_) (fun c_37 => ?_)
      · refine r_iconst (pc := 80) dX8_loses_80 ?_
        refine r_istore_4 (pc := 81) dX8_loses_81 rfl ?_
        refine r_iconst (pc := 83) dX8_loses_83 ?_
        refine r_istore_5 (pc := 84) dX8_loses_84 rfl ?_
        have hk : (k : Int) = mp 130 := by omega
        rw [← hk, show ((k : Int)).toNat = k by omega, ← hbl] at K
        exact lp2 bl K _ 0 0 rfl (by omega) rfl
      · refine r_iload_3 (pc := 40) dX8_loses_40 ?_
        refine r_aload_0 (pc := 41) dX8_loses_41 ?_
        refine r_iload_4 (pc := 42) dX8_loses_42 ?_
        refine r_iload_1 (pc := 44) dX8_loses_44 ?_
        refine k_VI2 (pc := 45) c_X8_isBelow lk_X8_150 ⟨Nat.le_of_ble_eq_true rfl, Nat.le_of_ble_eq_true rfl⟩ ⟨rfl, rfl⟩ ⟨Nat.le_of_ble_eq_true rfl, Nat.le_of_ble_eq_true rfl⟩ (k := 8) rfl (by decide) (by assumption) dX8_loses_45 (Nat.le_of_ble_eq_true rfl) ?_
        refine ⟨_, _, _, _, rfl, by assumption, by first | assumption | exact rfl, by assumption, by omega, by omega, ?_⟩
        refine r_ifne_b (pc := 48) (tgt := 61) dX8_loses_48 (by decide) (fun c_48 => ?_) (fun c_48 => ?_)
        · refine r_iconst (pc := 61) dX8_loses_61 ?_
          refine r_iload_4 (pc := 62) dX8_loses_62 ?_
          refine r_bipush (pc := 64) dX8_loses_64 (by decide) ?_
          refine r_isub (pc := 66) dX8_loses_66 ?_
          refine r_ishl (pc := 67) dX8_loses_67 (fun i_67 => ?_)
          refine r_goto (pc := 68) (tgt := 72) dX8_loses_68 (by decide) ?_
          refine r_ior (pc := 72) dX8_loses_72 (fun i_72 => ?_)
          refine r_istore_3 (pc := 73) dX8_loses_73 rfl ?_
          refine r_iinc_4 (pc := 74) dX8_loses_74 rfl ?_
          refine r_goto (pc := 77) (tgt := 24) dX8_loses_77 (by decide) ?_
          first
          | (refine ih _ (by omega) (10 + (k : Int) + 1) _ rfl (by omega) ?_; rw [show (10 + (k : Int) + 1 - 10).toNat = k + 1 by omega, e1, if_pos (Or.inl c_48), hbl])
          | (refine ih _ (by omega) (10 + (k : Int) + 1) _ rfl (by omega) ?_; rw [show (10 + (k : Int) + 1 - 10).toNat = k + 1 by omega, e1, if_pos (Or.inr c_58), hbl])
          | (refine ih _ (by omega) (10 + (k : Int) + 1) _ rfl (by omega) ?_; rw [show (10 + (k : Int) + 1 - 10).toNat = k + 1 by omega, e1, if_neg (fun z => z.elim c_48 c_58), hbl])
        · refine r_aload_0 (pc := 51) dX8_loses_51 ?_
          refine r_iload_4 (pc := 52) dX8_loses_52 ?_
          refine r_iload_2 (pc := 54) dX8_loses_54 ?_
          refine k_VI2 (pc := 55) c_X8_isBelow lk_X8_150 ⟨Nat.le_of_ble_eq_true rfl, Nat.le_of_ble_eq_true rfl⟩ ⟨rfl, rfl⟩ ⟨Nat.le_of_ble_eq_true rfl, Nat.le_of_ble_eq_true rfl⟩ (k := 8) rfl (by decide) (by assumption) dX8_loses_55 (Nat.le_of_ble_eq_true rfl) ?_
          refine ⟨_, _, _, _, rfl, by assumption, by first | assumption | exact rfl, by assumption, by omega, by omega, ?_⟩
          refine r_ifeq_b (pc := 58) (tgt := 71) dX8_loses_58 (by decide) (fun c_58 => ?_) (fun c_58 => ?_)
          · refine r_iconst (pc := 71) dX8_loses_71 ?_
            refine r_ior (pc := 72) dX8_loses_72 (fun i_72 => ?_)
            refine r_istore_3 (pc := 73) dX8_loses_73 rfl ?_
            refine r_iinc_4 (pc := 74) dX8_loses_74 rfl ?_
            refine r_goto (pc := 77) (tgt := 24) dX8_loses_77 (by decide) ?_
            first
            | (refine ih _ (by omega) (10 + (k : Int) + 1) _ rfl (by omega) ?_; rw [show (10 + (k : Int) + 1 - 10).toNat = k + 1 by omega, e1, if_pos (Or.inl c_48), hbl])
            | (refine ih _ (by omega) (10 + (k : Int) + 1) _ rfl (by omega) ?_; rw [show (10 + (k : Int) + 1 - 10).toNat = k + 1 by omega, e1, if_pos (Or.inr c_58), hbl])
            | (refine ih _ (by omega) (10 + (k : Int) + 1) _ rfl (by omega) ?_; rw [show (10 + (k : Int) + 1 - 10).toNat = k + 1 by omega, e1, if_neg (fun z => z.elim c_48 c_58), hbl])
          · refine r_iconst (pc := 61) dX8_loses_61 ?_
            refine r_iload_4 (pc := 62) dX8_loses_62 ?_
            refine r_bipush (pc := 64) dX8_loses_64 (by decide) ?_
            refine r_isub (pc := 66) dX8_loses_66 ?_
            refine r_ishl (pc := 67) dX8_loses_67 (fun i_67 => ?_)
            refine r_goto (pc := 68) (tgt := 72) dX8_loses_68 (by decide) ?_
            refine r_ior (pc := 72) dX8_loses_72 (fun i_72 => ?_)
            refine r_istore_3 (pc := 73) dX8_loses_73 rfl ?_
            refine r_iinc_4 (pc := 74) dX8_loses_74 rfl ?_
            refine r_goto (pc := 77) (tgt := 24) dX8_loses_77 (by decide) ?_
            first
            | (refine ih _ (by omega) (10 + (k : Int) + 1) _ rfl (by omega) ?_; rw [show (10 + (k : Int) + 1 - 10).toNat = k + 1 by omega, e1, if_pos (Or.inl c_48), hbl])
            | (refine ih _ (by omega) (10 + (k : Int) + 1) _ rfl (by omega) ?_; rw [show (10 + (k : Int) + 1 - 10).toNat = k + 1 by omega, e1, if_pos (Or.inr c_58), hbl])
            | (refine ih _ (by omega) (10 + (k : Int) + 1) _ rfl (by omega) ?_; rw [show (10 + (k : Int) + 1 - 10).toNat = k + 1 by omega, e1, if_neg (fun z => z.elim c_48 c_58), hbl])
  refine r_aload_0 (pc := 0) dX8_loses_0 ?_
  refine r_iload_1 (pc := 1) dX8_loses_1 ?_
  refine k_VI1 (pc := 2) c_X8_isNode lk_X8_154 ⟨Nat.le_of_ble_eq_true rfl, Nat.le_of_ble_eq_true rfl⟩ ⟨rfl, rfl⟩ ⟨Nat.le_of_ble_eq_true rfl, Nat.le_of_ble_eq_true rfl⟩ (k := 8) rfl (by decide) (by assumption) dX8_loses_2 (Nat.le_of_ble_eq_true rfl) ?_
  refine ⟨_, _, _, rfl, by assumption, by first | assumption | exact rfl, by omega, by assumption, ?_⟩
  refine r_ifeq_b (pc := 5) (tgt := 16) dX8_loses_5 (by decide) (fun c_5 => ?_) (fun c_5 => ?_)
  · refine r_iconst (pc := 16) dX8_loses_16 ?_
    refine r_iret (pc := 17) hret dX8_loses_17 rfl rfl rfl ?_
    first | exact hB (fun z => c_5 z.1) | exact hB (fun z => c_13 z.2)
  · refine r_aload_0 (pc := 8) dX8_loses_8 ?_
    refine r_iload_2 (pc := 9) dX8_loses_9 ?_
    refine k_VI1 (pc := 10) c_X8_isNode lk_X8_154 ⟨Nat.le_of_ble_eq_true rfl, Nat.le_of_ble_eq_true rfl⟩ ⟨rfl, rfl⟩ ⟨Nat.le_of_ble_eq_true rfl, Nat.le_of_ble_eq_true rfl⟩ (k := 8) rfl (by decide) (by assumption) dX8_loses_10 (Nat.le_of_ble_eq_true rfl) ?_
    refine ⟨_, _, _, rfl, by assumption, by first | assumption | exact rfl, by omega, by assumption, ?_⟩
    refine r_ifne_b (pc := 13) (tgt := 18) dX8_loses_13 (by decide) (fun c_13 => ?_) (fun c_13 => ?_)
    · refine r_iconst (pc := 18) dX8_loses_18 ?_
      refine r_istore_3 (pc := 19) dX8_loses_19 rfl ?_
      refine r_bipush (pc := 20) dX8_loses_20 (by decide) ?_
      refine r_istore_4 (pc := 22) dX8_loses_22 rfl ?_
      exact lp1 c_5 c_13 (hQ ⟨c_5, c_13⟩) _ 10 0 rfl (by omega) rfl
    · refine r_iconst (pc := 16) dX8_loses_16 ?_
      refine r_iret (pc := 17) hret dX8_loses_17 rfl rfl rfl ?_
      first | exact hB (fun z => c_5 z.1) | exact hB (fun z => c_13 z.2)

