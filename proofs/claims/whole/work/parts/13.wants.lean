/-! WANTS -/
theorem lCm_r (x y : Int) : -2147483648 ≤ lCm x y ∧ lCm x y < 2147483648 := by
  unfold lCm
  split
  · omega
  · split <;> omega
theorem lCm_lt {x y : Int} (h : lCm x y < 0) : x < y := by
  unfold lCm at h
  split at h
  · omega
  · split at h <;> omega
theorem lCm_ge {x y : Int} (h : 0 ≤ lCm x y) : y ≤ x := by
  unfold lCm at h
  split at h
  · omega
  · split at h <;> omega
theorem wS_s (u : Int) (n : Nat) {v p : Int} (h : wS u n = (v, p)) : wS u (n + 1) = if 131072 ≤ v * v / 65536 then (v * v / 65536 / 2, 2 * p + 1) else (v * v / 65536, 2 * p) := by
  simp only [wS, h]
theorem dX4_wantOf_0 : decode cX4_wantOf 0 = .ok (.iconst 0, 1) := by decide +kernel
theorem dX4_wantOf_1 : decode cX4_wantOf 1 = .ok (.istore_n 1, 1) := by decide +kernel
theorem dX4_wantOf_2 : decode cX4_wantOf 2 = .ok (.iload_n 1, 1) := by decide +kernel
theorem dX4_wantOf_3 : decode cX4_wantOf 3 = .ok (.bipush 16, 2) := by decide +kernel
theorem dX4_wantOf_5 : decode cX4_wantOf 5 = .ok (.if_icmp .ge 17, 3) := by decide +kernel
theorem dX4_wantOf_8 : decode cX4_wantOf 8 = .ok (.iload_n 0, 1) := by decide +kernel
theorem dX4_wantOf_9 : decode cX4_wantOf 9 = .ok (.iload_n 1, 1) := by decide +kernel
theorem dX4_wantOf_10 : decode cX4_wantOf 10 = .ok (.iconst 1, 1) := by decide +kernel
theorem dX4_wantOf_11 : decode cX4_wantOf 11 = .ok (.iadd, 1) := by decide +kernel
theorem dX4_wantOf_12 : decode cX4_wantOf 12 = .ok (.ishr, 1) := by decide +kernel
theorem dX4_wantOf_13 : decode cX4_wantOf 13 = .ok (.ifCond .le 9, 3) := by decide +kernel
theorem dX4_wantOf_16 : decode cX4_wantOf 16 = .ok (.iinc 1 1, 3) := by decide +kernel
theorem dX4_wantOf_19 : decode cX4_wantOf 19 = .ok (.goto (-17), 3) := by decide +kernel
theorem dX4_wantOf_22 : decode cX4_wantOf 22 = .ok (.iload_n 0, 1) := by decide +kernel
theorem dX4_wantOf_23 : decode cX4_wantOf 23 = .ok (.i2l, 1) := by decide +kernel
theorem dX4_wantOf_24 : decode cX4_wantOf 24 = .ok (.bipush 16, 2) := by decide +kernel
theorem dX4_wantOf_26 : decode cX4_wantOf 26 = .ok (.iload_n 1, 1) := by decide +kernel
theorem dX4_wantOf_27 : decode cX4_wantOf 27 = .ok (.isub, 1) := by decide +kernel
theorem dX4_wantOf_28 : decode cX4_wantOf 28 = .ok (.lshl, 1) := by decide +kernel
theorem dX4_wantOf_29 : decode cX4_wantOf 29 = .ok (.lstore_n 2, 1) := by decide +kernel
theorem dX4_wantOf_30 : decode cX4_wantOf 30 = .ok (.iconst 0, 1) := by decide +kernel
theorem dX4_wantOf_31 : decode cX4_wantOf 31 = .ok (.istore 4, 2) := by decide +kernel
theorem dX4_wantOf_33 : decode cX4_wantOf 33 = .ok (.iconst 0, 1) := by decide +kernel
theorem dX4_wantOf_34 : decode cX4_wantOf 34 = .ok (.istore 5, 2) := by decide +kernel
theorem dX4_wantOf_36 : decode cX4_wantOf 36 = .ok (.iload 5, 2) := by decide +kernel
theorem dX4_wantOf_38 : decode cX4_wantOf 38 = .ok (.bipush 12, 2) := by decide +kernel
theorem dX4_wantOf_40 : decode cX4_wantOf 40 = .ok (.if_icmp .ge 37, 3) := by decide +kernel
theorem dX4_wantOf_43 : decode cX4_wantOf 43 = .ok (.lload_n 2, 1) := by decide +kernel
theorem dX4_wantOf_44 : decode cX4_wantOf 44 = .ok (.lload_n 2, 1) := by decide +kernel
theorem dX4_wantOf_45 : decode cX4_wantOf 45 = .ok (.lmul, 1) := by decide +kernel
theorem dX4_wantOf_46 : decode cX4_wantOf 46 = .ok (.bipush 16, 2) := by decide +kernel
theorem dX4_wantOf_48 : decode cX4_wantOf 48 = .ok (.lshr, 1) := by decide +kernel
theorem dX4_wantOf_49 : decode cX4_wantOf 49 = .ok (.lstore_n 2, 1) := by decide +kernel
theorem dX4_wantOf_50 : decode cX4_wantOf 50 = .ok (.iconst 2, 1) := by decide +kernel
theorem dX4_wantOf_51 : decode cX4_wantOf 51 = .ok (.iload 4, 2) := by decide +kernel
theorem dX4_wantOf_53 : decode cX4_wantOf 53 = .ok (.imul, 1) := by decide +kernel
theorem dX4_wantOf_54 : decode cX4_wantOf 54 = .ok (.istore 4, 2) := by decide +kernel
theorem dX4_wantOf_56 : decode cX4_wantOf 56 = .ok (.lload_n 2, 1) := by decide +kernel
theorem dX4_wantOf_57 : decode cX4_wantOf 57 = .ok (.ldc2_w 23, 3) := by decide +kernel
theorem dX4_wantOf_60 : decode cX4_wantOf 60 = .ok (.lcmp, 1) := by decide +kernel
theorem dX4_wantOf_61 : decode cX4_wantOf 61 = .ok (.ifCond .lt 10, 3) := by decide +kernel
theorem dX4_wantOf_64 : decode cX4_wantOf 64 = .ok (.lload_n 2, 1) := by decide +kernel
theorem dX4_wantOf_65 : decode cX4_wantOf 65 = .ok (.iconst 1, 1) := by decide +kernel
theorem dX4_wantOf_66 : decode cX4_wantOf 66 = .ok (.lshr, 1) := by decide +kernel
theorem dX4_wantOf_67 : decode cX4_wantOf 67 = .ok (.lstore_n 2, 1) := by decide +kernel
theorem dX4_wantOf_68 : decode cX4_wantOf 68 = .ok (.iinc 4 1, 3) := by decide +kernel
theorem dX4_wantOf_71 : decode cX4_wantOf 71 = .ok (.iinc 5 1, 3) := by decide +kernel
theorem dX4_wantOf_74 : decode cX4_wantOf 74 = .ok (.goto (-38), 3) := by decide +kernel
theorem dX4_wantOf_77 : decode cX4_wantOf 77 = .ok (.ldc 25, 2) := by decide +kernel
theorem dX4_wantOf_79 : decode cX4_wantOf 79 = .ok (.sipush 4096, 3) := by decide +kernel
theorem dX4_wantOf_82 : decode cX4_wantOf 82 = .ok (.iload_n 1, 1) := by decide +kernel
theorem dX4_wantOf_83 : decode cX4_wantOf 83 = .ok (.imul, 1) := by decide +kernel
theorem dX4_wantOf_84 : decode cX4_wantOf 84 = .ok (.isub, 1) := by decide +kernel
theorem dX4_wantOf_85 : decode cX4_wantOf 85 = .ok (.iload 4, 2) := by decide +kernel
theorem dX4_wantOf_87 : decode cX4_wantOf 87 = .ok (.isub, 1) := by decide +kernel
theorem dX4_wantOf_88 : decode cX4_wantOf 88 = .ok (.ireturn, 1) := by decide +kernel
set_option maxHeartbeats 4000000 in
set_option maxRecDepth 20000 in
theorem c_X4_wantOf : ConI mX4_wantOf (fun args N lay r h Q => ∃ u, args = [vI u] ∧ (1 ≤ u ∧ u ≤ 65521) ∧ Q (wn u) N lay r h) := by
  refine ConI.of (by decide) (by rintro _ N lay r h Q ⟨u, rfl, hu, hQ⟩; exact ⟨rfl, Nat.le_of_ble_eq_true rfl⟩) ?_
  rintro E _ N lay r h Q ⟨u, rfl, hu, hQ⟩ hret
  show St E mX4_wantOf 0 [some (vI u), none, none, none, none, none] [] (0, 0) N lay r h
  have lp2 : ∀ (n_ : Nat) (i : Nat), 12 - i = n_ → (i ≤ 12) → St E mX4_wantOf 36 [some (vI u), some (vI (wE u)), some (vL (wS u i).1), none, some (vI (wS u i).2), some (vI (i : Int))] [] (0, 0) N lay r h := by
    intro n_
    induction n_ using Nat.strongRecOn with
    | ind n_ ih =>
      intro i hn_ hi
      obtain ⟨v, p, hvp⟩ : ∃ v p, wS u i = (v, p) := ⟨_, _, rfl⟩
      obtain ⟨b1, b2, b3⟩ := wS_inv hu i
      have b5 := wS_p hu (n := i) hi
      have eS := wS_s u i hvp
      simp only [hvp] at b1 b2 b3 b5 ⊢
      have b4 := w_sq b1
      have hw12 := (wE_b hu).2.2
      refine r_iload_5 (pc := 36) dX4_wantOf_36 ?_
      refine r_bipush (pc := 38) dX4_wantOf_38 (by decide) ?_
      refine r_icmp_ge (pc := 40) (tgt := 77) dX4_wantOf_40 (by decide) (by omega) (by omega) (fun c_40 => ?_) (fun c_40 => ?_)
      · refine r_ldc (pc := 77) (v := 65536) (z := 65536) dX4_wantOf_77 (w_cI 463 (by decide +kernel)) (by decide) ?_
        refine r_sipush (pc := 79) dX4_wantOf_79 (by decide) ?_
        refine r_iload_1 (pc := 82) dX4_wantOf_82 ?_
        refine r_imul (pc := 83) dX4_wantOf_83 ?_
        refine r_isub (pc := 84) dX4_wantOf_84 ?_
        refine r_iload_4 (pc := 85) dX4_wantOf_85 ?_
        refine r_isub (pc := 87) dX4_wantOf_87 ?_
        refine r_iret (pc := 88) hret dX4_wantOf_88 rfl rfl rfl ?_
        have hi12 : i = 12 := by omega
        subst hi12
        unfold wn at hQ
        rw [hvp] at hQ
        exact hQ
      · refine r_lload_2 (pc := 43) dX4_wantOf_43 ?_
        refine r_lload_2 (pc := 44) dX4_wantOf_44 ?_
        refine r_lmul (pc := 45) dX4_wantOf_45 ?_
        refine r_bipush (pc := 46) dX4_wantOf_46 (by decide) ?_
        refine r_lshr (pc := 48) dX4_wantOf_48 ?_
        rw [show lSr (v * v) 16 = v * v / 65536 from lSr_div 16 b4.2.2.1 (by omega) (by omega)]
        refine r_lstore_2 (pc := 49) dX4_wantOf_49 rfl ?_
        refine r_iconst (pc := 50) dX4_wantOf_50 ?_
        refine r_iload_4 (pc := 51) dX4_wantOf_51 ?_
        refine r_imul (pc := 53) dX4_wantOf_53 ?_
        refine r_istore_4 (pc := 54) dX4_wantOf_54 rfl ?_
        refine r_lload_2 (pc := 56) dX4_wantOf_56 ?_
        refine r_ldc2 (pc := 57) (v := 131072) (z := 131072) dX4_wantOf_57 (w_cL 462 (by decide +kernel)) (by decide) ?_
        refine r_lcmp (pc := 60) dX4_wantOf_60 (by omega) (by omega) ?_
        refine r_if_lt (pc := 61) (tgt := 71) dX4_wantOf_61 (by decide) (lCm_r _ _) (fun c_61 => ?_) (fun c_61 => ?_)
        · refine r_iinc_5 (pc := 71) dX4_wantOf_71 rfl ?_
          refine r_goto (pc := 74) (tgt := 36) dX4_wantOf_74 (by decide) ?_
          have hz := ih _ (show 12 - (i + 1) < n_ by omega) (i + 1) rfl (by omega)
          first
          | (rw [eS, if_pos (lCm_ge c_61)] at hz; exact hz)
          | (rw [eS, if_neg (Int.not_le.mpr (lCm_lt c_61))] at hz; exact hz)
        · refine r_lload_2 (pc := 64) dX4_wantOf_64 ?_
          refine r_iconst (pc := 65) dX4_wantOf_65 ?_
          refine r_lshr (pc := 66) dX4_wantOf_66 ?_
          rw [show lSr (v * v / 65536) 1 = v * v / 65536 / 2 from lSr_div 1 (by omega) (by omega) (by omega)]
          refine r_lstore_2 (pc := 67) dX4_wantOf_67 rfl ?_
          refine r_iinc_4 (pc := 68) dX4_wantOf_68 rfl ?_
          refine r_iinc_5 (pc := 71) dX4_wantOf_71 rfl ?_
          refine r_goto (pc := 74) (tgt := 36) dX4_wantOf_74 (by decide) ?_
          have hz := ih _ (show 12 - (i + 1) < n_ by omega) (i + 1) rfl (by omega)
          first
          | (rw [eS, if_pos (lCm_ge c_61)] at hz; exact hz)
          | (rw [eS, if_neg (Int.not_le.mpr (lCm_lt c_61))] at hz; exact hz)
  have aft : ∀ e : Nat, e = wE u → St E mX4_wantOf 22 [some (vI u), some (vI e), none, none, none, none] [] (0, 0) N lay r h := by
    intro e he
    subst he
    have hw15 := (wE_b hu).2.2
    have h0 := (wS_inv hu 0).1
    have e0 : lSl u (16 - (wE u : Int)) = (wS u 0).1 := by
      have := lSl_mul (x := u) (16 - wE u) (by omega) (by omega) (by simp only [wS] at h0; omega)
      rw [show ((16 - wE u : Nat) : Int) = 16 - (wE u : Int) by omega] at this
      exact this
    refine r_iload_0 (pc := 22) dX4_wantOf_22 ?_
    refine r_i2l (pc := 23) dX4_wantOf_23 (by omega) ?_
    refine r_bipush (pc := 24) dX4_wantOf_24 (by decide) ?_
    refine r_iload_1 (pc := 26) dX4_wantOf_26 ?_
    refine r_isub (pc := 27) dX4_wantOf_27 ?_
    refine r_lshl (pc := 28) dX4_wantOf_28 ?_
    rw [e0]
    refine r_lstore_2 (pc := 29) dX4_wantOf_29 rfl ?_
    refine r_iconst (pc := 30) dX4_wantOf_30 ?_
    refine r_istore_4 (pc := 31) dX4_wantOf_31 rfl ?_
    refine r_iconst (pc := 33) dX4_wantOf_33 ?_
    refine r_istore_5 (pc := 34) dX4_wantOf_34 rfl ?_
    exact lp2 _ 0 rfl (by omega)
  have lp1 : ∀ (n_ : Nat) (e : Nat), 16 - e = n_ → ((2 : Int) ^ e ≤ u) → (e ≤ 15) → St E mX4_wantOf 2 [some (vI u), some (vI (e : Int)), none, none, none, none] [] (0, 0) N lay r h := by
    intro n_
    induction n_ using Nat.strongRecOn with
    | ind n_ ih =>
      intro e hn_ he he2
      have hp : (2 : Int) ^ (e + 1) = 2 * 2 ^ e := by rw [Int.pow_succ, Int.mul_comm]
      have hp0 : (0 : Int) < 2 ^ e := Int.pow_pos (by omega)
      have hsh : iSr u ((e : Int) + 1) = u / (2 ^ (e + 1)) := iSr_div (e + 1) (by omega) (by omega)
      have hup : 0 < u / (2 ^ (e + 1)) ↔ (2 : Int) ^ (e + 1) ≤ u := by
        constructor
        · intro q
          have q1 := Int.ediv_mul_le u (b := 2 ^ (e + 1)) (by omega)
          have q2 : 1 * (2 : Int) ^ (e + 1) ≤ u / 2 ^ (e + 1) * 2 ^ (e + 1) := Int.mul_le_mul_of_nonneg_right (by omega) (by omega)
          omega
        · intro q
          have q3 := (Int.le_ediv_iff_mul_le (a := 1) (b := u) (c := 2 ^ (e + 1)) (by omega)).mpr (by omega)
          omega
      have h15 : (2 : Int) ^ (e + 1) ≤ u → e ≤ 14 := by
        intro q
        rcases Nat.lt_or_ge e 15 with a | a
        · omega
        · have : e = 15 := by omega
          subst this
          have : (65536 : Int) ≤ u := q
          omega
      refine r_iload_1 (pc := 2) dX4_wantOf_2 ?_
      refine r_bipush (pc := 3) dX4_wantOf_3 (by decide) ?_
      refine r_icmp_ge (pc := 5) (tgt := 22) dX4_wantOf_5 (by decide) (by omega) (by omega) (fun c_5 => ?_) (fun c_5 => ?_)
      · first
        | (exfalso; omega)
        | exact aft e (wE_of he (by rw [hsh] at c_13; rcases Int.lt_or_le u (2 ^ (e + 1)) with a | a; exact a; exact absurd (hup.mpr a) (by omega))).symm
      · refine r_iload_0 (pc := 8) dX4_wantOf_8 ?_
        refine r_iload_1 (pc := 9) dX4_wantOf_9 ?_
        refine r_iconst (pc := 10) dX4_wantOf_10 ?_
        refine r_iadd (pc := 11) dX4_wantOf_11 ?_
        refine r_ishr (pc := 12) dX4_wantOf_12 (fun i_12 => ?_)
        refine r_if_le (pc := 13) (tgt := 22) dX4_wantOf_13 (by decide) (by omega) (fun c_13 => ?_) (fun c_13 => ?_)
        · first
          | (exfalso; omega)
          | exact aft e (wE_of he (by rw [hsh] at c_13; rcases Int.lt_or_le u (2 ^ (e + 1)) with a | a; exact a; exact absurd (hup.mpr a) (by omega))).symm
        · refine r_iinc_1 (pc := 16) dX4_wantOf_16 rfl ?_
          refine r_goto (pc := 19) (tgt := 2) dX4_wantOf_19 (by decide) ?_
          first | exact ih _ (show 16 - (e + 1) < n_ by omega) (e + 1) rfl (by rw [hsh] at c_13; exact hup.mp c_13) (by rw [hsh] at c_13; have := h15 (hup.mp c_13); omega)
  refine r_iconst (pc := 0) dX4_wantOf_0 ?_
  refine r_istore_1 (pc := 1) dX4_wantOf_1 rfl ?_
  exact lp1 _ 0 rfl (show (1 : Int) ≤ u by omega) (by omega)

theorem dX8_wanted_0 : decode cX8_wanted 0 = .ok (.iconst 0, 1) := by decide +kernel
theorem dX8_wanted_1 : decode cX8_wanted 1 = .ok (.istore_n 1, 1) := by decide +kernel
theorem dX8_wanted_2 : decode cX8_wanted 2 = .ok (.iconst 2, 1) := by decide +kernel
theorem dX8_wanted_3 : decode cX8_wanted 3 = .ok (.iload_n 1, 1) := by decide +kernel
theorem dX8_wanted_4 : decode cX8_wanted 4 = .ok (.ishl, 1) := by decide +kernel
theorem dX8_wanted_5 : decode cX8_wanted 5 = .ok (.iload_n 0, 1) := by decide +kernel
theorem dX8_wanted_6 : decode cX8_wanted 6 = .ok (.if_icmp .gt 9, 3) := by decide +kernel
theorem dX8_wanted_9 : decode cX8_wanted 9 = .ok (.iinc 1 1, 3) := by decide +kernel
theorem dX8_wanted_12 : decode cX8_wanted 12 = .ok (.goto (-10), 3) := by decide +kernel
theorem dX8_wanted_15 : decode cX8_wanted 15 = .ok (.iload_n 0, 1) := by decide +kernel
theorem dX8_wanted_16 : decode cX8_wanted 16 = .ok (.i2l, 1) := by decide +kernel
theorem dX8_wanted_17 : decode cX8_wanted 17 = .ok (.bipush 16, 2) := by decide +kernel
theorem dX8_wanted_19 : decode cX8_wanted 19 = .ok (.iload_n 1, 1) := by decide +kernel
theorem dX8_wanted_20 : decode cX8_wanted 20 = .ok (.isub, 1) := by decide +kernel
theorem dX8_wanted_21 : decode cX8_wanted 21 = .ok (.lshl, 1) := by decide +kernel
theorem dX8_wanted_22 : decode cX8_wanted 22 = .ok (.lstore_n 2, 1) := by decide +kernel
theorem dX8_wanted_23 : decode cX8_wanted 23 = .ok (.iconst 0, 1) := by decide +kernel
theorem dX8_wanted_24 : decode cX8_wanted 24 = .ok (.istore 4, 2) := by decide +kernel
theorem dX8_wanted_26 : decode cX8_wanted 26 = .ok (.iconst 0, 1) := by decide +kernel
theorem dX8_wanted_27 : decode cX8_wanted 27 = .ok (.istore 5, 2) := by decide +kernel
theorem dX8_wanted_29 : decode cX8_wanted 29 = .ok (.iload 5, 2) := by decide +kernel
theorem dX8_wanted_31 : decode cX8_wanted 31 = .ok (.bipush 12, 2) := by decide +kernel
theorem dX8_wanted_33 : decode cX8_wanted 33 = .ok (.if_icmp .ge 40, 3) := by decide +kernel
theorem dX8_wanted_36 : decode cX8_wanted 36 = .ok (.lload_n 2, 1) := by decide +kernel
theorem dX8_wanted_37 : decode cX8_wanted 37 = .ok (.lload_n 2, 1) := by decide +kernel
theorem dX8_wanted_38 : decode cX8_wanted 38 = .ok (.lmul, 1) := by decide +kernel
theorem dX8_wanted_39 : decode cX8_wanted 39 = .ok (.ldc2_w 175, 3) := by decide +kernel
theorem dX8_wanted_42 : decode cX8_wanted 42 = .ok (.ldiv, 1) := by decide +kernel
theorem dX8_wanted_43 : decode cX8_wanted 43 = .ok (.lstore_n 2, 1) := by decide +kernel
theorem dX8_wanted_44 : decode cX8_wanted 44 = .ok (.iconst 2, 1) := by decide +kernel
theorem dX8_wanted_45 : decode cX8_wanted 45 = .ok (.iload 4, 2) := by decide +kernel
theorem dX8_wanted_47 : decode cX8_wanted 47 = .ok (.imul, 1) := by decide +kernel
theorem dX8_wanted_48 : decode cX8_wanted 48 = .ok (.istore 4, 2) := by decide +kernel
theorem dX8_wanted_50 : decode cX8_wanted 50 = .ok (.lload_n 2, 1) := by decide +kernel
theorem dX8_wanted_51 : decode cX8_wanted 51 = .ok (.ldc2_w 177, 3) := by decide +kernel
theorem dX8_wanted_54 : decode cX8_wanted 54 = .ok (.lcmp, 1) := by decide +kernel
theorem dX8_wanted_55 : decode cX8_wanted 55 = .ok (.ifCond .lt 12, 3) := by decide +kernel
theorem dX8_wanted_58 : decode cX8_wanted 58 = .ok (.lload_n 2, 1) := by decide +kernel
theorem dX8_wanted_59 : decode cX8_wanted 59 = .ok (.ldc2_w 179, 3) := by decide +kernel
theorem dX8_wanted_62 : decode cX8_wanted 62 = .ok (.ldiv, 1) := by decide +kernel
theorem dX8_wanted_63 : decode cX8_wanted 63 = .ok (.lstore_n 2, 1) := by decide +kernel
theorem dX8_wanted_64 : decode cX8_wanted 64 = .ok (.iinc 4 1, 3) := by decide +kernel
theorem dX8_wanted_67 : decode cX8_wanted 67 = .ok (.iinc 5 1, 3) := by decide +kernel
theorem dX8_wanted_70 : decode cX8_wanted 70 = .ok (.goto (-41), 3) := by decide +kernel
theorem dX8_wanted_73 : decode cX8_wanted 73 = .ok (.ldc 181, 2) := by decide +kernel
theorem dX8_wanted_75 : decode cX8_wanted 75 = .ok (.sipush 4096, 3) := by decide +kernel
theorem dX8_wanted_78 : decode cX8_wanted 78 = .ok (.iload_n 1, 1) := by decide +kernel
theorem dX8_wanted_79 : decode cX8_wanted 79 = .ok (.imul, 1) := by decide +kernel
theorem dX8_wanted_80 : decode cX8_wanted 80 = .ok (.isub, 1) := by decide +kernel
theorem dX8_wanted_81 : decode cX8_wanted 81 = .ok (.iload 4, 2) := by decide +kernel
theorem dX8_wanted_83 : decode cX8_wanted 83 = .ok (.isub, 1) := by decide +kernel
theorem dX8_wanted_84 : decode cX8_wanted 84 = .ok (.ireturn, 1) := by decide +kernel
set_option maxHeartbeats 4000000 in
set_option maxRecDepth 20000 in
theorem c_X8_wanted : ConI mX8_wanted (fun args N lay r h Q => ∃ u, args = [vI u] ∧ (1 ≤ u ∧ u ≤ 65521) ∧ Q (wn u) N lay r h) := by
  refine ConI.of (by decide) (by rintro _ N lay r h Q ⟨u, rfl, hu, hQ⟩; exact ⟨rfl, Nat.le_of_ble_eq_true rfl⟩) ?_
  rintro E _ N lay r h Q ⟨u, rfl, hu, hQ⟩ hret
  show St E mX8_wanted 0 [some (vI u), none, none, none, none, none] [] (0, 0) N lay r h
  have lp2 : ∀ (n_ : Nat) (i : Nat), 12 - i = n_ → (i ≤ 12) → St E mX8_wanted 29 [some (vI u), some (vI (wE u)), some (vL (wS u i).1), none, some (vI (wS u i).2), some (vI (i : Int))] [] (0, 0) N lay r h := by
    intro n_
    induction n_ using Nat.strongRecOn with
    | ind n_ ih =>
      intro i hn_ hi
      obtain ⟨v, p, hvp⟩ : ∃ v p, wS u i = (v, p) := ⟨_, _, rfl⟩
      obtain ⟨b1, b2, b3⟩ := wS_inv hu i
      have b5 := wS_p hu (n := i) hi
      have eS := wS_s u i hvp
      simp only [hvp] at b1 b2 b3 b5 ⊢
      have b4 := w_sq b1
      have hw12 := (wE_b hu).2.2
      refine r_iload_5 (pc := 29) dX8_wanted_29 ?_
      refine r_bipush (pc := 31) dX8_wanted_31 (by decide) ?_
      refine r_icmp_ge (pc := 33) (tgt := 73) dX8_wanted_33 (by decide) (by omega) (by omega) (fun c_33 => ?_) (fun c_33 => ?_)
      · refine r_ldc (pc := 73) (v := 65536) (z := 65536) dX8_wanted_73 (w_cI 929 (by decide +kernel)) (by decide) ?_
        refine r_sipush (pc := 75) dX8_wanted_75 (by decide) ?_
        refine r_iload_1 (pc := 78) dX8_wanted_78 ?_
        refine r_imul (pc := 79) dX8_wanted_79 ?_
        refine r_isub (pc := 80) dX8_wanted_80 ?_
        refine r_iload_4 (pc := 81) dX8_wanted_81 ?_
        refine r_isub (pc := 83) dX8_wanted_83 ?_
        refine r_iret (pc := 84) hret dX8_wanted_84 rfl rfl rfl ?_
        have hi12 : i = 12 := by omega
        subst hi12
        unfold wn at hQ
        rw [hvp] at hQ
        exact hQ
      · refine r_lload_2 (pc := 36) dX8_wanted_36 ?_
        refine r_lload_2 (pc := 37) dX8_wanted_37 ?_
        refine r_lmul (pc := 38) dX8_wanted_38 ?_
        refine r_ldc2 (pc := 39) (v := 65536) (z := 65536) dX8_wanted_39 (w_cL 926 (by decide +kernel)) (by decide) ?_
        refine r_ldiv (pc := 42) dX8_wanted_42 (by omega) (by omega) ?_
        refine r_lstore_2 (pc := 43) dX8_wanted_43 rfl ?_
        refine r_iconst (pc := 44) dX8_wanted_44 ?_
        refine r_iload_4 (pc := 45) dX8_wanted_45 ?_
        refine r_imul (pc := 47) dX8_wanted_47 ?_
        refine r_istore_4 (pc := 48) dX8_wanted_48 rfl ?_
        refine r_lload_2 (pc := 50) dX8_wanted_50 ?_
        refine r_ldc2 (pc := 51) (v := 131072) (z := 131072) dX8_wanted_51 (w_cL 927 (by decide +kernel)) (by decide) ?_
        refine r_lcmp (pc := 54) dX8_wanted_54 (by omega) (by omega) ?_
        refine r_if_lt (pc := 55) (tgt := 67) dX8_wanted_55 (by decide) (lCm_r _ _) (fun c_55 => ?_) (fun c_55 => ?_)
        · refine r_iinc_5 (pc := 67) dX8_wanted_67 rfl ?_
          refine r_goto (pc := 70) (tgt := 29) dX8_wanted_70 (by decide) ?_
          have hz := ih _ (show 12 - (i + 1) < n_ by omega) (i + 1) rfl (by omega)
          first
          | (rw [eS, if_pos (lCm_ge c_55)] at hz; exact hz)
          | (rw [eS, if_neg (Int.not_le.mpr (lCm_lt c_55))] at hz; exact hz)
        · refine r_lload_2 (pc := 58) dX8_wanted_58 ?_
          refine r_ldc2 (pc := 59) (v := 2) (z := 2) dX8_wanted_59 (w_cL 928 (by decide +kernel)) (by decide) ?_
          refine r_ldiv (pc := 62) dX8_wanted_62 (by omega) (by omega) ?_
          refine r_lstore_2 (pc := 63) dX8_wanted_63 rfl ?_
          refine r_iinc_4 (pc := 64) dX8_wanted_64 rfl ?_
          refine r_iinc_5 (pc := 67) dX8_wanted_67 rfl ?_
          refine r_goto (pc := 70) (tgt := 29) dX8_wanted_70 (by decide) ?_
          have hz := ih _ (show 12 - (i + 1) < n_ by omega) (i + 1) rfl (by omega)
          first
          | (rw [eS, if_pos (lCm_ge c_55)] at hz; exact hz)
          | (rw [eS, if_neg (Int.not_le.mpr (lCm_lt c_55))] at hz; exact hz)
  have aft : ∀ e : Nat, e = wE u → St E mX8_wanted 15 [some (vI u), some (vI e), none, none, none, none] [] (0, 0) N lay r h := by
    intro e he
    subst he
    have hw15 := (wE_b hu).2.2
    have h0 := (wS_inv hu 0).1
    have e0 : lSl u (16 - (wE u : Int)) = (wS u 0).1 := by
      have := lSl_mul (x := u) (16 - wE u) (by omega) (by omega) (by simp only [wS] at h0; omega)
      rw [show ((16 - wE u : Nat) : Int) = 16 - (wE u : Int) by omega] at this
      exact this
    refine r_iload_0 (pc := 15) dX8_wanted_15 ?_
    refine r_i2l (pc := 16) dX8_wanted_16 (by omega) ?_
    refine r_bipush (pc := 17) dX8_wanted_17 (by decide) ?_
    refine r_iload_1 (pc := 19) dX8_wanted_19 ?_
    refine r_isub (pc := 20) dX8_wanted_20 ?_
    refine r_lshl (pc := 21) dX8_wanted_21 ?_
    rw [e0]
    refine r_lstore_2 (pc := 22) dX8_wanted_22 rfl ?_
    refine r_iconst (pc := 23) dX8_wanted_23 ?_
    refine r_istore_4 (pc := 24) dX8_wanted_24 rfl ?_
    refine r_iconst (pc := 26) dX8_wanted_26 ?_
    refine r_istore_5 (pc := 27) dX8_wanted_27 rfl ?_
    exact lp2 _ 0 rfl (by omega)
  have lp1 : ∀ (n_ : Nat) (e : Nat), 16 - e = n_ → ((2 : Int) ^ e ≤ u) → (e ≤ 15) → St E mX8_wanted 2 [some (vI u), some (vI (e : Int)), none, none, none, none] [] (0, 0) N lay r h := by
    intro n_
    induction n_ using Nat.strongRecOn with
    | ind n_ ih =>
      intro e hn_ he he2
      have hp : (2 : Int) ^ (e + 1) = 2 * 2 ^ e := by rw [Int.pow_succ, Int.mul_comm]
      have hp0 : (0 : Int) < 2 ^ e := Int.pow_pos (by omega)
      have hsh : iSl 2 (e : Int) = 2 * 2 ^ e := iSl_mul e (by omega) (by omega) (by
        have h5 : ((2 ^ e : Nat) : Int) ≤ ((2 ^ 15 : Nat) : Int) := Int.ofNat_le.mpr (Nat.pow_le_pow_right (by omega) he2)
        rw [Int.natCast_pow] at h5
        have h6 : (2 : Int) ^ e ≤ 32768 := h5
        omega)
      have h15 : (2 : Int) ^ (e + 1) ≤ u → e ≤ 14 := by
        intro q
        rcases Nat.lt_or_ge e 15 with a | a
        · omega
        · have : e = 15 := by omega
          subst this
          have : (65536 : Int) ≤ u := q
          omega
      refine r_iconst (pc := 2) dX8_wanted_2 ?_
      refine r_iload_1 (pc := 3) dX8_wanted_3 ?_
      refine r_ishl (pc := 4) dX8_wanted_4 (fun i_4 => ?_)
      refine r_iload_0 (pc := 5) dX8_wanted_5 ?_
      refine r_icmp_gt (pc := 6) (tgt := 15) dX8_wanted_6 (by decide) (by omega) (by omega) (fun c_6 => ?_) (fun c_6 => ?_)
      · exact aft e (wE_of he (by rw [hsh] at c_6; omega)).symm
      · refine r_iinc_1 (pc := 9) dX8_wanted_9 rfl ?_
        refine r_goto (pc := 12) (tgt := 2) dX8_wanted_12 (by decide) ?_
        exact ih _ (show 16 - (e + 1) < n_ by omega) (e + 1) rfl (by rw [hsh] at c_6; omega) (by rw [hsh] at c_6; have := h15 (by omega); omega)
  refine r_iconst (pc := 0) dX8_wanted_0 ?_
  refine r_istore_1 (pc := 1) dX8_wanted_1 rfl ?_
  exact lp1 _ 0 rfl (show (1 : Int) ≤ u by omega) (by omega)

