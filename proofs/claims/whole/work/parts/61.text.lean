/-! THE TEXT of the class: letters, numbers, items -/
def TxAt (lay : LyT) (r : RfT) (x : Nat) : Prop := lay x = (6, 0) ∧ lay (x + 1) = (11, 200) ∧ lay (x + 2) = (10, 3) ∧ r x 1 = some (x + 1) ∧ r x 3 = some (x + 2)
/-- the text is the first n of tx -/
def CT (h : HpT) (x : Nat) (n : Int) (tx : Int → Int) : Prop := h x 0 = n ∧ (0 ≤ n ∧ n ≤ 200) ∧ ∀ j, 0 ≤ j → j < n → h (x + 1) j = tx j
theorem CT.of {h h2 : HpT} {x : Nat} {n : Int} {tx : Int → Int} (q : CT h x n tx) (e0 : h2 x 0 = h x 0) (e1 : h2 (x + 1) = h (x + 1)) : CT h2 x n tx := by
  unfold CT
  rw [e0, e1]
  exact q
theorem ltr_in {n : Int} {tx : Int → Int} {i : Int} (h : i < n) : ltr n tx i = tx i := if_neg (by omega)
theorem ltr_out {n : Int} {tx : Int → Int} {i : Int} (h : n ≤ i) : ltr n tx i = 0 := if_pos h
theorem dX5_append_0 : decode cX5_append 0 = .ok (.aload_n 0, 1) := by decide +kernel
theorem dX5_append_1 : decode cX5_append 1 = .ok (.getfield 19, 3) := by decide +kernel
theorem dX5_append_4 : decode cX5_append 4 = .ok (.sipush 200, 3) := by decide +kernel
theorem dX5_append_7 : decode cX5_append 7 = .ok (.if_icmp .ge 23, 3) := by decide +kernel
theorem dX5_append_10 : decode cX5_append 10 = .ok (.aload_n 0, 1) := by decide +kernel
theorem dX5_append_11 : decode cX5_append 11 = .ok (.getfield 9, 3) := by decide +kernel
theorem dX5_append_14 : decode cX5_append 14 = .ok (.aload_n 0, 1) := by decide +kernel
theorem dX5_append_15 : decode cX5_append 15 = .ok (.getfield 19, 3) := by decide +kernel
theorem dX5_append_18 : decode cX5_append 18 = .ok (.iload_n 1, 1) := by decide +kernel
theorem dX5_append_19 : decode cX5_append 19 = .ok (.castore, 1) := by decide +kernel
theorem dX5_append_20 : decode cX5_append 20 = .ok (.aload_n 0, 1) := by decide +kernel
theorem dX5_append_21 : decode cX5_append 21 = .ok (.dup, 1) := by decide +kernel
theorem dX5_append_22 : decode cX5_append 22 = .ok (.getfield 19, 3) := by decide +kernel
theorem dX5_append_25 : decode cX5_append 25 = .ok (.iconst 1, 1) := by decide +kernel
theorem dX5_append_26 : decode cX5_append 26 = .ok (.iadd, 1) := by decide +kernel
theorem dX5_append_27 : decode cX5_append 27 = .ok (.putfield 19, 3) := by decide +kernel
theorem dX5_append_30 : decode cX5_append 30 = .ok (.return_, 1) := by decide +kernel
set_option maxHeartbeats 4000000 in
set_option maxRecDepth 20000 in
theorem c_X5_append : ConV mX5_append (fun args N lay r h Q => ∃ (x : Nat) (c : Int), args = [.ref x, vI c] ∧ TxAt lay r x ∧ (0 ≤ h x 0 ∧ h x 0 < 200) ∧ (0 ≤ c ∧ c < 65536) ∧ Q N lay r (hr (hr h (x + 1) (up (h (x + 1)) (h x 0) c)) x (up (h x) 0 (h x 0 + 1)))) := by
  refine ConV.of (by decide) (by rintro _ N lay r h Q ⟨x, c, rfl, hX, hn, hc, hQ⟩; exact ⟨rfl, Nat.le_of_ble_eq_true rfl⟩) ?_
  rintro E _ N lay r h Q ⟨x, c, rfl, hX, hn, hc, hQ⟩ hret
  obtain ⟨xl0, xl1, xl2, xr1, xr3⟩ := id hX
  show St E mX5_append 0 [some (.ref x), some (vI c)] [] (0, 0) N lay r h
  refine r_aload_0 (pc := 0) dX5_append_0 ?_
  refine gf_X5_19 (pc := 1) rfl (by assumption) dX5_append_1 (fun i_1 => ?_)
  refine r_sipush (pc := 4) dX5_append_4 (by decide) ?_
  refine r_icmp_ge (pc := 7) (tgt := 30) dX5_append_7 (by decide) (by omega) (by omega) (fun c_7 => ?_) (fun c_7 => ?_)
  · try rw [hr_n (show x ≠ x + 1 by omega)]
    refine r_ret (pc := 30) hret dX5_append_30 rfl rfl rfl ?_
    first | exact hQ | omega
  · refine r_aload_0 (pc := 10) dX5_append_10 ?_
    refine gf_X5_9 (pc := 11) rfl (by assumption) dX5_append_11 (by assumption) ?_
    refine r_aload_0 (pc := 14) dX5_append_14 ?_
    refine gf_X5_19 (pc := 15) rfl (by assumption) dX5_append_15 (fun i_15 => ?_)
    refine r_iload_1 (pc := 18) dX5_append_18 ?_
    refine r_cast (pc := 19) (by assumption) dX5_append_19 (by omega) (by omega) (by omega) ?_
    refine r_aload_0 (pc := 20) dX5_append_20 ?_
    first | refine r_dupI (pc := 21) dX5_append_21 ?_ | refine r_dupA (pc := 21) dX5_append_21 ?_
    refine gf_X5_19 (pc := 22) rfl (by assumption) dX5_append_22 (fun i_22 => ?_)
    rw [hr_n (by omega)] at i_22 ⊢
    refine r_iconst (pc := 25) dX5_append_25 ?_
    refine r_iadd (pc := 26) dX5_append_26 ?_
    refine pf_X5_19 (pc := 27) rfl (by assumption) dX5_append_27 (by omega) ?_
    try rw [hr_n (show x ≠ x + 1 by omega)]
    refine r_ret (pc := 30) hret dX5_append_30 rfl rfl rfl ?_
    first | exact hQ | omega

theorem dX5_numbersOf_0 : decode cX5_numbersOf 0 = .ok (.iload_n 0, 1) := by decide +kernel
theorem dX5_numbersOf_1 : decode cX5_numbersOf 1 = .ok (.bipush 100, 2) := by decide +kernel
theorem dX5_numbersOf_3 : decode cX5_numbersOf 3 = .ok (.if_icmp .ne 7, 3) := by decide +kernel
theorem dX5_numbersOf_6 : decode cX5_numbersOf 6 = .ok (.iconst 2, 1) := by decide +kernel
theorem dX5_numbersOf_7 : decode cX5_numbersOf 7 = .ok (.goto 24, 3) := by decide +kernel
theorem dX5_numbersOf_10 : decode cX5_numbersOf 10 = .ok (.iload_n 0, 1) := by decide +kernel
theorem dX5_numbersOf_11 : decode cX5_numbersOf 11 = .ok (.bipush 99, 2) := by decide +kernel
theorem dX5_numbersOf_13 : decode cX5_numbersOf 13 = .ok (.if_icmp .ne 7, 3) := by decide +kernel
theorem dX5_numbersOf_16 : decode cX5_numbersOf 16 = .ok (.iconst 3, 1) := by decide +kernel
theorem dX5_numbersOf_17 : decode cX5_numbersOf 17 = .ok (.goto 14, 3) := by decide +kernel
theorem dX5_numbersOf_20 : decode cX5_numbersOf 20 = .ok (.iload_n 0, 1) := by decide +kernel
theorem dX5_numbersOf_21 : decode cX5_numbersOf 21 = .ok (.bipush 116, 2) := by decide +kernel
theorem dX5_numbersOf_23 : decode cX5_numbersOf 23 = .ok (.if_icmp .ne 7, 3) := by decide +kernel
theorem dX5_numbersOf_26 : decode cX5_numbersOf 26 = .ok (.iconst 1, 1) := by decide +kernel
theorem dX5_numbersOf_27 : decode cX5_numbersOf 27 = .ok (.goto 4, 3) := by decide +kernel
theorem dX5_numbersOf_30 : decode cX5_numbersOf 30 = .ok (.iconst 0, 1) := by decide +kernel
theorem dX5_numbersOf_31 : decode cX5_numbersOf 31 = .ok (.ireturn, 1) := by decide +kernel
set_option maxHeartbeats 4000000 in
set_option maxRecDepth 20000 in
theorem c_X5_numbersOf : ConI mX5_numbersOf (fun args N lay r h Q => ∃ (c : Int), args = [vI c] ∧ (0 ≤ c ∧ c < 65536) ∧ Q (if c = 100 then 2 else if c = 99 then 3 else if c = 116 then 1 else 0) N lay r h) := by
  refine ConI.of (by decide) (by rintro _ N lay r h Q ⟨c, rfl, hc, hQ⟩; exact ⟨rfl, Nat.le_of_ble_eq_true rfl⟩) ?_
  rintro E _ N lay r h Q ⟨c, rfl, hc, hQ⟩ hret
  show St E mX5_numbersOf 0 [some (vI c)] [] (0, 0) N lay r h
  refine r_iload_0 (pc := 0) dX5_numbersOf_0 ?_
  refine r_bipush (pc := 1) dX5_numbersOf_1 (by decide) ?_
  refine r_icmp_ne (pc := 3) (tgt := 10) dX5_numbersOf_3 (by decide) (by omega) (by omega) (fun c_3 => ?_) (fun c_3 => ?_)
  · refine r_iload_0 (pc := 10) dX5_numbersOf_10 ?_
    refine r_bipush (pc := 11) dX5_numbersOf_11 (by decide) ?_
    refine r_icmp_ne (pc := 13) (tgt := 20) dX5_numbersOf_13 (by decide) (by omega) (by omega) (fun c_13 => ?_) (fun c_13 => ?_)
    · refine r_iload_0 (pc := 20) dX5_numbersOf_20 ?_
      refine r_bipush (pc := 21) dX5_numbersOf_21 (by decide) ?_
      refine r_icmp_ne (pc := 23) (tgt := 30) dX5_numbersOf_23 (by decide) (by omega) (by omega) (fun c_23 => ?_) (fun c_23 => ?_)
      · refine r_iconst (pc := 30) dX5_numbersOf_30 ?_
        refine r_iret (pc := 31) hret dX5_numbersOf_31 rfl rfl rfl ?_
        first
        | (rw [if_pos (by omega)] at hQ; exact hQ)
        | (rw [if_neg (by omega), if_pos (by omega)] at hQ; exact hQ)
        | (rw [if_neg (by omega), if_neg (by omega), if_pos (by omega)] at hQ; exact hQ)
        | (rw [if_neg (by omega), if_neg (by omega), if_neg (by omega)] at hQ; exact hQ)
      · refine r_iconst (pc := 26) dX5_numbersOf_26 ?_
        refine r_goto (pc := 27) (tgt := 31) dX5_numbersOf_27 (by decide) ?_
        refine r_iret (pc := 31) hret dX5_numbersOf_31 rfl rfl rfl ?_
        first
        | (rw [if_pos (by omega)] at hQ; exact hQ)
        | (rw [if_neg (by omega), if_pos (by omega)] at hQ; exact hQ)
        | (rw [if_neg (by omega), if_neg (by omega), if_pos (by omega)] at hQ; exact hQ)
        | (rw [if_neg (by omega), if_neg (by omega), if_neg (by omega)] at hQ; exact hQ)
    · refine r_iconst (pc := 16) dX5_numbersOf_16 ?_
      refine r_goto (pc := 17) (tgt := 31) dX5_numbersOf_17 (by decide) ?_
      refine r_iret (pc := 31) hret dX5_numbersOf_31 rfl rfl rfl ?_
      first
      | (rw [if_pos (by omega)] at hQ; exact hQ)
      | (rw [if_neg (by omega), if_pos (by omega)] at hQ; exact hQ)
      | (rw [if_neg (by omega), if_neg (by omega), if_pos (by omega)] at hQ; exact hQ)
      | (rw [if_neg (by omega), if_neg (by omega), if_neg (by omega)] at hQ; exact hQ)
  · refine r_iconst (pc := 6) dX5_numbersOf_6 ?_
    refine r_goto (pc := 7) (tgt := 31) dX5_numbersOf_7 (by decide) ?_
    refine r_iret (pc := 31) hret dX5_numbersOf_31 rfl rfl rfl ?_
    first
    | (rw [if_pos (by omega)] at hQ; exact hQ)
    | (rw [if_neg (by omega), if_pos (by omega)] at hQ; exact hQ)
    | (rw [if_neg (by omega), if_neg (by omega), if_pos (by omega)] at hQ; exact hQ)
    | (rw [if_neg (by omega), if_neg (by omega), if_neg (by omega)] at hQ; exact hQ)

theorem dX5_accept_0 : decode cX5_accept 0 = .ok (.aload_n 0, 1) := by decide +kernel
theorem dX5_accept_1 : decode cX5_accept 1 = .ok (.getfield 28, 3) := by decide +kernel
theorem dX5_accept_4 : decode cX5_accept 4 = .ok (.aload_n 0, 1) := by decide +kernel
theorem dX5_accept_5 : decode cX5_accept 5 = .ok (.getfield 19, 3) := by decide +kernel
theorem dX5_accept_8 : decode cX5_accept 8 = .ok (.if_icmp .ge 16, 3) := by decide +kernel
theorem dX5_accept_11 : decode cX5_accept 11 = .ok (.aload_n 0, 1) := by decide +kernel
theorem dX5_accept_12 : decode cX5_accept 12 = .ok (.getfield 9, 3) := by decide +kernel
theorem dX5_accept_15 : decode cX5_accept 15 = .ok (.aload_n 0, 1) := by decide +kernel
theorem dX5_accept_16 : decode cX5_accept 16 = .ok (.getfield 28, 3) := by decide +kernel
theorem dX5_accept_19 : decode cX5_accept 19 = .ok (.caload, 1) := by decide +kernel
theorem dX5_accept_20 : decode cX5_accept 20 = .ok (.iload_n 1, 1) := by decide +kernel
theorem dX5_accept_21 : decode cX5_accept 21 = .ok (.if_icmp .eq 5, 3) := by decide +kernel
theorem dX5_accept_24 : decode cX5_accept 24 = .ok (.iconst 0, 1) := by decide +kernel
theorem dX5_accept_25 : decode cX5_accept 25 = .ok (.ireturn, 1) := by decide +kernel
theorem dX5_accept_26 : decode cX5_accept 26 = .ok (.aload_n 0, 1) := by decide +kernel
theorem dX5_accept_27 : decode cX5_accept 27 = .ok (.dup, 1) := by decide +kernel
theorem dX5_accept_28 : decode cX5_accept 28 = .ok (.getfield 28, 3) := by decide +kernel
theorem dX5_accept_31 : decode cX5_accept 31 = .ok (.iconst 1, 1) := by decide +kernel
theorem dX5_accept_32 : decode cX5_accept 32 = .ok (.iadd, 1) := by decide +kernel
theorem dX5_accept_33 : decode cX5_accept 33 = .ok (.putfield 28, 3) := by decide +kernel
theorem dX5_accept_36 : decode cX5_accept 36 = .ok (.iconst 1, 1) := by decide +kernel
theorem dX5_accept_37 : decode cX5_accept 37 = .ok (.ireturn, 1) := by decide +kernel
set_option maxHeartbeats 4000000 in
set_option maxRecDepth 20000 in
theorem c_X5_accept : ConI mX5_accept (fun args N lay r h Q => ∃ (x : Nat) (n : Int) (tx : Int → Int) (c : Int), args = [.ref x, vI c] ∧ TxAt lay r x ∧ CT h x n tx ∧ (0 ≤ h x 2 ∧ h x 2 < 1000) ∧ (1 ≤ c ∧ c < 65536) ∧ (¬ ltr n tx (h x 2) = c → Q 0 N lay r h) ∧ (ltr n tx (h x 2) = c → Q 1 N lay r (hr h x (up (h x) 2 (h x 2 + 1))))) := by
  refine ConI.of (by decide) (by rintro _ N lay r h Q ⟨x, n, tx, c, rfl, hX, hC, hi, hc, hB, hQ⟩; exact ⟨rfl, Nat.le_of_ble_eq_true rfl⟩) ?_
  rintro E _ N lay r h Q ⟨x, n, tx, c, rfl, hX, hC, hi, hc, hB, hQ⟩ hret
  obtain ⟨xl0, xl1, xl2, xr1, xr3⟩ := id hX
  obtain ⟨n0, nr, nx⟩ := id hC
  have li := ltr_in (n := n) (tx := tx) (i := h x 2)
  have lo := ltr_out (n := n) (tx := tx) (i := h x 2)
  have nxi := nx (h x 2)
  show St E mX5_accept 0 [some (.ref x), some (vI c)] [] (0, 0) N lay r h
  refine r_aload_0 (pc := 0) dX5_accept_0 ?_
  refine gf_X5_28 (pc := 1) rfl (by assumption) dX5_accept_1 (fun i_1 => ?_)
  refine r_aload_0 (pc := 4) dX5_accept_4 ?_
  refine gf_X5_19 (pc := 5) rfl (by assumption) dX5_accept_5 (fun i_5 => ?_)
  refine r_icmp_ge (pc := 8) (tgt := 24) dX5_accept_8 (by decide) (by omega) (by omega) (fun c_8 => ?_) (fun c_8 => ?_)
  · refine r_iconst (pc := 24) dX5_accept_24 ?_
    refine r_zret (pc := 25) hret dX5_accept_25 rfl rfl rfl (by first | exact Or.inl rfl | exact Or.inr rfl | exact bI_01 | omega) ?_
    first
    | (have k9 : n ≤ h x 2 := by omega
       exact hB (by rw [lo k9]; omega))
    | (have k9 : ¬ h (x + 1) (h x 2) = c := c_21
       exact hB (by rw [li (by omega), ← nxi (by omega) (by omega)]; exact k9))
    | (have k9 : h (x + 1) (h x 2) = c := c_21
       exact hQ (by rw [li (by omega), ← nxi (by omega) (by omega)]; exact k9))
  · refine r_aload_0 (pc := 11) dX5_accept_11 ?_
    refine gf_X5_9 (pc := 12) rfl (by assumption) dX5_accept_12 (by assumption) ?_
    refine r_aload_0 (pc := 15) dX5_accept_15 ?_
    refine gf_X5_28 (pc := 16) rfl (by assumption) dX5_accept_16 (fun i_16 => ?_)
    refine r_caldE (pc := 19) (by assumption) (by first | assumption | exact rfl) dX5_accept_19 (by omega) (by omega) (fun i_19 => ?_)
    refine r_iload_1 (pc := 20) dX5_accept_20 ?_
    refine r_icmp_eq (pc := 21) (tgt := 26) dX5_accept_21 (by decide) (by omega) (by omega) (fun c_21 => ?_) (fun c_21 => ?_)
    · refine r_aload_0 (pc := 26) dX5_accept_26 ?_
      first | refine r_dupI (pc := 27) dX5_accept_27 ?_ | refine r_dupA (pc := 27) dX5_accept_27 ?_
      refine gf_X5_28 (pc := 28) rfl (by assumption) dX5_accept_28 (fun i_28 => ?_)
      refine r_iconst (pc := 31) dX5_accept_31 ?_
      refine r_iadd (pc := 32) dX5_accept_32 ?_
      refine pf_X5_28 (pc := 33) rfl (by assumption) dX5_accept_33 (by omega) ?_
      refine r_iconst (pc := 36) dX5_accept_36 ?_
      refine r_zret (pc := 37) hret dX5_accept_37 rfl rfl rfl (by first | exact Or.inl rfl | exact Or.inr rfl | exact bI_01 | omega) ?_
      first
      | (have k9 : n ≤ h x 2 := by omega
         exact hB (by rw [lo k9]; omega))
      | (have k9 : ¬ h (x + 1) (h x 2) = c := c_21
         exact hB (by rw [li (by omega), ← nxi (by omega) (by omega)]; exact k9))
      | (have k9 : h (x + 1) (h x 2) = c := c_21
         exact hQ (by rw [li (by omega), ← nxi (by omega) (by omega)]; exact k9))
    · refine r_iconst (pc := 24) dX5_accept_24 ?_
      refine r_zret (pc := 25) hret dX5_accept_25 rfl rfl rfl (by first | exact Or.inl rfl | exact Or.inr rfl | exact bI_01 | omega) ?_
      first
      | (have k9 : n ≤ h x 2 := by omega
         exact hB (by rw [lo k9]; omega))
      | (have k9 : ¬ h (x + 1) (h x 2) = c := c_21
         exact hB (by rw [li (by omega), ← nxi (by omega) (by omega)]; exact k9))
      | (have k9 : h (x + 1) (h x 2) = c := c_21
         exact hQ (by rw [li (by omega), ← nxi (by omega) (by omega)]; exact k9))

theorem dX5_isDigitNext_0 : decode cX5_isDigitNext 0 = .ok (.aload_n 0, 1) := by decide +kernel
theorem dX5_isDigitNext_1 : decode cX5_isDigitNext 1 = .ok (.getfield 28, 3) := by decide +kernel
theorem dX5_isDigitNext_4 : decode cX5_isDigitNext 4 = .ok (.aload_n 0, 1) := by decide +kernel
theorem dX5_isDigitNext_5 : decode cX5_isDigitNext 5 = .ok (.getfield 19, 3) := by decide +kernel
theorem dX5_isDigitNext_8 : decode cX5_isDigitNext 8 = .ok (.if_icmp .ge 35, 3) := by decide +kernel
theorem dX5_isDigitNext_11 : decode cX5_isDigitNext 11 = .ok (.aload_n 0, 1) := by decide +kernel
theorem dX5_isDigitNext_12 : decode cX5_isDigitNext 12 = .ok (.getfield 9, 3) := by decide +kernel
theorem dX5_isDigitNext_15 : decode cX5_isDigitNext 15 = .ok (.aload_n 0, 1) := by decide +kernel
theorem dX5_isDigitNext_16 : decode cX5_isDigitNext 16 = .ok (.getfield 28, 3) := by decide +kernel
theorem dX5_isDigitNext_19 : decode cX5_isDigitNext 19 = .ok (.caload, 1) := by decide +kernel
theorem dX5_isDigitNext_20 : decode cX5_isDigitNext 20 = .ok (.bipush 48, 2) := by decide +kernel
theorem dX5_isDigitNext_22 : decode cX5_isDigitNext 22 = .ok (.if_icmp .lt 21, 3) := by decide +kernel
theorem dX5_isDigitNext_25 : decode cX5_isDigitNext 25 = .ok (.aload_n 0, 1) := by decide +kernel
theorem dX5_isDigitNext_26 : decode cX5_isDigitNext 26 = .ok (.getfield 9, 3) := by decide +kernel
theorem dX5_isDigitNext_29 : decode cX5_isDigitNext 29 = .ok (.aload_n 0, 1) := by decide +kernel
theorem dX5_isDigitNext_30 : decode cX5_isDigitNext 30 = .ok (.getfield 28, 3) := by decide +kernel
theorem dX5_isDigitNext_33 : decode cX5_isDigitNext 33 = .ok (.caload, 1) := by decide +kernel
theorem dX5_isDigitNext_34 : decode cX5_isDigitNext 34 = .ok (.bipush 57, 2) := by decide +kernel
theorem dX5_isDigitNext_36 : decode cX5_isDigitNext 36 = .ok (.if_icmp .gt 7, 3) := by decide +kernel
theorem dX5_isDigitNext_39 : decode cX5_isDigitNext 39 = .ok (.iconst 1, 1) := by decide +kernel
theorem dX5_isDigitNext_40 : decode cX5_isDigitNext 40 = .ok (.goto 4, 3) := by decide +kernel
theorem dX5_isDigitNext_43 : decode cX5_isDigitNext 43 = .ok (.iconst 0, 1) := by decide +kernel
theorem dX5_isDigitNext_44 : decode cX5_isDigitNext 44 = .ok (.ireturn, 1) := by decide +kernel
set_option maxHeartbeats 4000000 in
set_option maxRecDepth 20000 in
theorem c_X5_isDigitNext : ConI mX5_isDigitNext (fun args N lay r h Q => ∃ (x : Nat) (n : Int) (tx : Int → Int), args = [.ref x] ∧ TxAt lay r x ∧ CT h x n tx ∧ (0 ≤ h x 2 ∧ h x 2 < 1000) ∧ Q (bI (fig n tx (h x 2))) N lay r h) := by
  refine ConI.of (by decide) (by rintro _ N lay r h Q ⟨x, n, tx, rfl, hX, hC, hi, hQ⟩; exact ⟨rfl, Nat.le_of_ble_eq_true rfl⟩) ?_
  rintro E _ N lay r h Q ⟨x, n, tx, rfl, hX, hC, hi, hQ⟩ hret
  obtain ⟨xl0, xl1, xl2, xr1, xr3⟩ := id hX
  obtain ⟨n0, nr, nx⟩ := id hC
  have li := ltr_in (n := n) (tx := tx) (i := h x 2)
  have lo := ltr_out (n := n) (tx := tx) (i := h x 2)
  have nxi := nx (h x 2)
  show St E mX5_isDigitNext 0 [some (.ref x)] [] (0, 0) N lay r h
  refine r_aload_0 (pc := 0) dX5_isDigitNext_0 ?_
  refine gf_X5_28 (pc := 1) rfl (by assumption) dX5_isDigitNext_1 (fun i_1 => ?_)
  refine r_aload_0 (pc := 4) dX5_isDigitNext_4 ?_
  refine gf_X5_19 (pc := 5) rfl (by assumption) dX5_isDigitNext_5 (fun i_5 => ?_)
  refine r_icmp_ge (pc := 8) (tgt := 43) dX5_isDigitNext_8 (by decide) (by omega) (by omega) (fun c_8 => ?_) (fun c_8 => ?_)
  · refine r_iconst (pc := 43) dX5_isDigitNext_43 ?_
    refine r_zret (pc := 44) hret dX5_isDigitNext_44 rfl rfl rfl (by first | exact Or.inl rfl | exact Or.inr rfl | exact bI_01 | omega) ?_
    first
    | (have k9 : n ≤ h x 2 := by omega
       have k8 := lo k9
       rw [bI_f (fun z => by have := z.1; omega)] at hQ; exact hQ)
    | (have k8 := li (by omega)
       have k7 := nxi (by omega) (by omega)
       rw [bI_t ⟨by omega, by omega⟩] at hQ; exact hQ)
    | (have k8 := li (by omega)
       have k7 := nxi (by omega) (by omega)
       rw [bI_f (fun z => by have := z.1; have := z.2; omega)] at hQ; exact hQ)
  · refine r_aload_0 (pc := 11) dX5_isDigitNext_11 ?_
    refine gf_X5_9 (pc := 12) rfl (by assumption) dX5_isDigitNext_12 (by assumption) ?_
    refine r_aload_0 (pc := 15) dX5_isDigitNext_15 ?_
    refine gf_X5_28 (pc := 16) rfl (by assumption) dX5_isDigitNext_16 (fun i_16 => ?_)
    refine r_caldE (pc := 19) (by assumption) (by first | assumption | exact rfl) dX5_isDigitNext_19 (by omega) (by omega) (fun i_19 => ?_)
    refine r_bipush (pc := 20) dX5_isDigitNext_20 (by decide) ?_
    refine r_icmp_lt (pc := 22) (tgt := 43) dX5_isDigitNext_22 (by decide) (by omega) (by omega) (fun c_22 => ?_) (fun c_22 => ?_)
    · refine r_iconst (pc := 43) dX5_isDigitNext_43 ?_
      refine r_zret (pc := 44) hret dX5_isDigitNext_44 rfl rfl rfl (by first | exact Or.inl rfl | exact Or.inr rfl | exact bI_01 | omega) ?_
      first
      | (have k9 : n ≤ h x 2 := by omega
         have k8 := lo k9
         rw [bI_f (fun z => by have := z.1; omega)] at hQ; exact hQ)
      | (have k8 := li (by omega)
         have k7 := nxi (by omega) (by omega)
         rw [bI_t ⟨by omega, by omega⟩] at hQ; exact hQ)
      | (have k8 := li (by omega)
         have k7 := nxi (by omega) (by omega)
         rw [bI_f (fun z => by have := z.1; have := z.2; omega)] at hQ; exact hQ)
    · refine r_aload_0 (pc := 25) dX5_isDigitNext_25 ?_
      refine gf_X5_9 (pc := 26) rfl (by assumption) dX5_isDigitNext_26 (by assumption) ?_
      refine r_aload_0 (pc := 29) dX5_isDigitNext_29 ?_
      refine gf_X5_28 (pc := 30) rfl (by assumption) dX5_isDigitNext_30 (fun i_30 => ?_)
      refine r_caldE (pc := 33) (by assumption) (by first | assumption | exact rfl) dX5_isDigitNext_33 (by omega) (by omega) (fun i_33 => ?_)
      refine r_bipush (pc := 34) dX5_isDigitNext_34 (by decide) ?_
      refine r_icmp_gt (pc := 36) (tgt := 43) dX5_isDigitNext_36 (by decide) (by omega) (by omega) (fun c_36 => ?_) (fun c_36 => ?_)
      · refine r_iconst (pc := 43) dX5_isDigitNext_43 ?_
        refine r_zret (pc := 44) hret dX5_isDigitNext_44 rfl rfl rfl (by first | exact Or.inl rfl | exact Or.inr rfl | exact bI_01 | omega) ?_
        first
        | (have k9 : n ≤ h x 2 := by omega
           have k8 := lo k9
           rw [bI_f (fun z => by have := z.1; omega)] at hQ; exact hQ)
        | (have k8 := li (by omega)
           have k7 := nxi (by omega) (by omega)
           rw [bI_t ⟨by omega, by omega⟩] at hQ; exact hQ)
        | (have k8 := li (by omega)
           have k7 := nxi (by omega) (by omega)
           rw [bI_f (fun z => by have := z.1; have := z.2; omega)] at hQ; exact hQ)
      · refine r_iconst (pc := 39) dX5_isDigitNext_39 ?_
        refine r_goto (pc := 40) (tgt := 44) dX5_isDigitNext_40 (by decide) ?_
        refine r_zret (pc := 44) hret dX5_isDigitNext_44 rfl rfl rfl (by first | exact Or.inl rfl | exact Or.inr rfl | exact bI_01 | omega) ?_
        first
        | (have k9 : n ≤ h x 2 := by omega
           have k8 := lo k9
           rw [bI_f (fun z => by have := z.1; omega)] at hQ; exact hQ)
        | (have k8 := li (by omega)
           have k7 := nxi (by omega) (by omega)
           rw [bI_t ⟨by omega, by omega⟩] at hQ; exact hQ)
        | (have k8 := li (by omega)
           have k7 := nxi (by omega) (by omega)
           rw [bI_f (fun z => by have := z.1; have := z.2; omega)] at hQ; exact hQ)

theorem dX5_readDigit_0 : decode cX5_readDigit 0 = .ok (.aload_n 0, 1) := by decide +kernel
theorem dX5_readDigit_1 : decode cX5_readDigit 1 = .ok (.getfield 9, 3) := by decide +kernel
theorem dX5_readDigit_4 : decode cX5_readDigit 4 = .ok (.aload_n 0, 1) := by decide +kernel
theorem dX5_readDigit_5 : decode cX5_readDigit 5 = .ok (.getfield 28, 3) := by decide +kernel
theorem dX5_readDigit_8 : decode cX5_readDigit 8 = .ok (.caload, 1) := by decide +kernel
theorem dX5_readDigit_9 : decode cX5_readDigit 9 = .ok (.bipush 48, 2) := by decide +kernel
theorem dX5_readDigit_11 : decode cX5_readDigit 11 = .ok (.isub, 1) := by decide +kernel
theorem dX5_readDigit_12 : decode cX5_readDigit 12 = .ok (.istore_n 1, 1) := by decide +kernel
theorem dX5_readDigit_13 : decode cX5_readDigit 13 = .ok (.aload_n 0, 1) := by decide +kernel
theorem dX5_readDigit_14 : decode cX5_readDigit 14 = .ok (.dup, 1) := by decide +kernel
theorem dX5_readDigit_15 : decode cX5_readDigit 15 = .ok (.getfield 28, 3) := by decide +kernel
theorem dX5_readDigit_18 : decode cX5_readDigit 18 = .ok (.iconst 1, 1) := by decide +kernel
theorem dX5_readDigit_19 : decode cX5_readDigit 19 = .ok (.iadd, 1) := by decide +kernel
theorem dX5_readDigit_20 : decode cX5_readDigit 20 = .ok (.putfield 28, 3) := by decide +kernel
theorem dX5_readDigit_23 : decode cX5_readDigit 23 = .ok (.iload_n 1, 1) := by decide +kernel
theorem dX5_readDigit_24 : decode cX5_readDigit 24 = .ok (.ireturn, 1) := by decide +kernel
set_option maxHeartbeats 4000000 in
set_option maxRecDepth 20000 in
theorem c_X5_readDigit : ConI mX5_readDigit (fun args N lay r h Q => ∃ (x : Nat) (n : Int) (tx : Int → Int), args = [.ref x] ∧ TxAt lay r x ∧ CT h x n tx ∧ (0 ≤ h x 2 ∧ h x 2 < n) ∧ Q (ltr n tx (h x 2) - 48) N lay r (hr h x (up (h x) 2 (h x 2 + 1)))) := by
  refine ConI.of (by decide) (by rintro _ N lay r h Q ⟨x, n, tx, rfl, hX, hC, hi, hQ⟩; exact ⟨rfl, Nat.le_of_ble_eq_true rfl⟩) ?_
  rintro E _ N lay r h Q ⟨x, n, tx, rfl, hX, hC, hi, hQ⟩ hret
  obtain ⟨xl0, xl1, xl2, xr1, xr3⟩ := id hX
  obtain ⟨n0, nr, nx⟩ := id hC
  have li := ltr_in (n := n) (tx := tx) (i := h x 2) hi.2
  have nxi := nx (h x 2) hi.1 hi.2
  show St E mX5_readDigit 0 [some (.ref x), none] [] (0, 0) N lay r h
  refine r_aload_0 (pc := 0) dX5_readDigit_0 ?_
  refine gf_X5_9 (pc := 1) rfl (by assumption) dX5_readDigit_1 (by assumption) ?_
  refine r_aload_0 (pc := 4) dX5_readDigit_4 ?_
  refine gf_X5_28 (pc := 5) rfl (by assumption) dX5_readDigit_5 (fun i_5 => ?_)
  refine r_caldE (pc := 8) (by assumption) (by first | assumption | exact rfl) dX5_readDigit_8 (by omega) (by omega) (fun i_8 => ?_)
  rw [nxi, ← li] at i_8 ⊢
  refine r_bipush (pc := 9) dX5_readDigit_9 (by decide) ?_
  refine r_isub (pc := 11) dX5_readDigit_11 ?_
  refine r_istore_1 (pc := 12) dX5_readDigit_12 rfl ?_
  refine r_aload_0 (pc := 13) dX5_readDigit_13 ?_
  first | refine r_dupI (pc := 14) dX5_readDigit_14 ?_ | refine r_dupA (pc := 14) dX5_readDigit_14 ?_
  refine gf_X5_28 (pc := 15) rfl (by assumption) dX5_readDigit_15 (fun i_15 => ?_)
  refine r_iconst (pc := 18) dX5_readDigit_18 ?_
  refine r_iadd (pc := 19) dX5_readDigit_19 ?_
  refine pf_X5_28 (pc := 20) rfl (by assumption) dX5_readDigit_20 (by omega) ?_
  refine r_iload_1 (pc := 23) dX5_readDigit_23 ?_
  refine r_iret (pc := 24) hret dX5_readDigit_24 rfl rfl rfl ?_
  exact hQ

/-- where the k-th number begins; where it is looked for; whether the first m are there -/
def RnP (n : Int) (tx : Int → Int) (i : Int) : Nat → Int
  | 0 => i
  | k + 1 => nmE n tx (RnP n tx i k) + 1
def RnA (n : Int) (tx : Int → Int) (i : Int) : Nat → Int
  | 0 => i
  | k + 1 => nmE n tx (RnP n tx i k)
def RnO (n : Int) (tx : Int → Int) (i : Int) : Nat → Bool
  | 0 => true
  | k + 1 => RnO n tx i k && decide ((0 < k → ltr n tx (RnA n tx i k) = 44) ∧ fig n tx (RnP n tx i k))
theorem RnO_s {n : Int} {tx : Int → Int} {i : Int} {k : Nat} : RnO n tx i (k + 1) = true ↔ RnO n tx i k = true ∧ (0 < k → ltr n tx (RnA n tx i k) = 44) ∧ fig n tx (RnP n tx i k) := by
  show (RnO n tx i k && decide ((0 < k → ltr n tx (RnA n tx i k) = 44) ∧ fig n tx (RnP n tx i k))) = true ↔ _
  rw [Bool.and_eq_true, decide_eq_true_iff]
theorem RnO_m {n : Int} {tx : Int → Int} {i : Int} {k : Nat} (h : ¬ RnO n tx i k = true) : ∀ j, ¬ RnO n tx i (k + j) = true
  | 0 => h
  | j + 1 => fun z => RnO_m h j (RnO_s.mp z).1
theorem RnP_r {n : Int} {tx : Int → Int} {i : Int} : ∀ k : Nat, i ≤ RnP n tx i k ∧ RnP n tx i k ≤ i + 3 * k
  | 0 => by simp [RnP]
  | k + 1 => by
    have := RnP_r (n := n) (tx := tx) (i := i) k
    have := nmE_r (n := n) (tx := tx) (i := RnP n tx i k)
    simp only [RnP]
    omega
theorem RnA_r {n : Int} {tx : Int → Int} {i : Int} : ∀ k : Nat, i ≤ RnA n tx i k ∧ RnA n tx i k ≤ i + 3 * k
  | 0 => by simp [RnA]
  | k + 1 => by
    have := RnP_r (n := n) (tx := tx) (i := i) k
    have := nmE_r (n := n) (tx := tx) (i := RnP n tx i k)
    simp only [RnA]
    omega
theorem RnP_A {n : Int} {tx : Int → Int} {i : Int} {k : Nat} (h : 0 < k) : RnP n tx i k = RnA n tx i k + 1 := by
  cases k with
  | zero => omega
  | succ k => rfl
theorem fig_in {n : Int} {tx : Int → Int} {i : Int} (h : fig n tx i) : i < n := by
  apply Classical.byContradiction
  intro z
  have := ltr_out (n := n) (tx := tx) (i := i) (by omega)
  have := h.1
  omega
theorem hr2 {h : HpT} {x : Nat} {a : Int} {f : Int → Int} : hr (hr h x (up (h x) 2 a)) (x + 2) f x = up (h x) 2 a := by
  rw [hr_n (by omega), hr_s]
