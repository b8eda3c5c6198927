/-! THE CLASS: where its objects lie, what they say -/
section ROWS
variable {E : EnT} {M : MtT} {pc : Nat} {l : LcT} {st : List Value} {κ : Nat × Nat} {N : Nat} {lay : LyT} {r : RfT} {h : HpT}
theorem r_i2c {x : Int} (d : decode M.2.1 pc = .ok (.i2c, 1)) (hx : 0 ≤ x ∧ x < 65536) (k : St E M (pc + 1) l (vI x :: st) κ N lay r h) : St E M pc l (vI x :: st) κ N lay r h := by
  obtain ⟨p, la, e, s, m, args, below, meth, c, D, cA, B, Z⟩ := E
  intro O ls H locs hl hn hw
  refine lv_i2c O.1 O.2.1 d (v := Int32.ofInt x) ?_ (k O ls H locs hl hn hw)
  rw [← Int32.toInt_inj, i32_toInt (by omega)]
  refine t32 (n := x.toNat) ?_ (by omega) |>.trans (by omega)
  show ((Int32.ofInt x).toUInt32 % 65536).toNat = x.toNat
  rw [UInt32.toNat_mod]
  have e1 : (Int32.ofInt x).toUInt32.toNat = x.toNat := b32 (x := x) (by omega)
  rw [e1]
  show x.toNat % 65536 = x.toNat
  exact Nat.mod_eq_of_lt (by omega)
end ROWS
theorem TxAt.r {lay : LyT} {r r' : RfT} {x : Nat} (h : TxAt lay r x) (e : r' x = r x) : TxAt lay r' x := by unfold TxAt; rw [e]; exact h
theorem StAt.r {lay : LyT} {r r' : RfT} {x : Nat} (h : StAt lay r x) (e : r' x = r x) : StAt lay r' x := by unfold StAt; rw [e]; exact h
theorem DaAt.r {lay : LyT} {r r' : RfT} {x : Nat} (h : DaAt lay r x) (e : r' x = r x) : DaAt lay r' x := by unfold DaAt; rw [e]; exact h
theorem ObAt.r {lay : LyT} {r r' : RfT} {x : Nat} (h : ObAt lay r x) (e : r' x = r x) : ObAt lay r' x := by unfold ObAt; rw [e]; exact h
theorem PlAt.r {lay : LyT} {r r' : RfT} {x : Nat} (h : PlAt lay r x) (e : r' x = r x) (e1 : r' (x + 1) = r (x + 1)) (e4 : r' (x + 4) = r (x + 4)) : PlAt lay r' x := by unfold PlAt; rw [e, e1, e4]; exact h
/-- the class at c: text c + 1, straws c + 4, latest c + 6, trial c + 7, data c + 21, rehearsal c + 24, observations c + 27, plans from c + 31 on -/
def CAt (lay : LyT) (r : RfT) (c : Nat) : Prop := lay c = (8, 0) ∧ lay (c + 6) = (13, 5) ∧ (r c 0 = some (c + 1) ∧ r c 1 = some (c + 4) ∧ r c 2 = some (c + 6) ∧ r c 3 = some (c + 7) ∧ r c 4 = some (c + 21) ∧ r c 5 = some (c + 24) ∧ r c 6 = some (c + 27)) ∧ TxAt lay r (c + 1) ∧ StAt lay r (c + 4) ∧ PlAt lay r (c + 7) ∧ DaAt lay r (c + 21) ∧ DaAt lay r (c + 24) ∧ ObAt lay r (c + 27)
/-- the plans of the latest epochs -/
def LtAt (lay : LyT) (r : RfT) (c : Nat) (q : Int → Nat) : Prop := r c 7 = some (q 0) ∧ (∀ i, 0 ≤ i → i < 5 → r (c + 6) i = some (q i)) ∧ (∀ i, 0 ≤ i → i < 5 → PlAt lay r (q i)) ∧ (∀ i, 0 ≤ i → i < 5 → c + 31 ≤ q i ∧ q i + 14 ≤ c + 101) ∧ ∀ i j, 0 ≤ i → i < 5 → 0 ≤ j → j < 5 → i ≠ j → q i + 14 ≤ q j ∨ q j + 14 ≤ q i
/-- a plan that is a map's, settled -/
def PMap (h : HpT) (p : Nat) (M : Int → Int) : Prop := TrM M ∧ RlM M ∧ PTr h p M ∧ PWt h p M ∧ PRl h p M ∧ PSt h p M
theorem PSt.of {h h2 : HpT} {p : Nat} {mp : Int → Int} (q : PSt h p mp) (e8 : h2 (p + 8) = h (p + 8)) (e11 : h2 (p + 11) = h (p + 11)) (e12 : h2 (p + 12) = h (p + 12)) (e13 : h2 (p + 13) = h (p + 13)) : PSt h2 p mp := by
  unfold PSt
  rw [e8, e11, e12, e13]
  exact q
theorem PMap.of {h h2 : HpT} {p : Nat} {M : Int → Int} (q : PMap h p M) (e : ∀ x, p ≤ x → x < p + 14 → h2 x = h x) : PMap h2 p M := by
  obtain ⟨a, b, c, d, f, g⟩ := q
  exact ⟨a, b, c.of (e _ (by omega) (by omega)) (e _ (by omega) (by omega)) (e _ (by omega) (by omega)), d.of (e _ (by omega) (by omega)), f.of (e _ (by omega) (by omega)) (e _ (by omega) (by omega)) (e _ (by omega) (by omega)) (e _ (by omega) (by omega)) (e _ (by omega) (by omega)) (e _ (by omega) (by omega)) (e _ (by omega) (by omega)), g.of (e _ (by omega) (by omega)) (e _ (by omega) (by omega)) (e _ (by omega) (by omega)) (e _ (by omega) (by omega))⟩
theorem PMap.cp {h h2 : HpT} {p q : Nat} {M : Int → Int} (x : PMap h q M) (hC : CpP h h2 p q) : PMap h2 p M := by
  obtain ⟨a, b, c, d, f, g⟩ := x
  exact ⟨a, b, hC.tr a c, hC.wt d, hC.rl a b f, hC.st b g⟩
abbrev FrR (r r2 : RfT) (S : Nat → Prop) : Prop := ∀ x, ¬ S x → r2 x = r x
theorem CAt.r {lay : LyT} {r r2 : RfT} {c : Nat} (h : CAt lay r c) (e : FrR r r2 (fun x => x = c ∨ x = c + 6)) (e2 : ∀ j, j ≠ 7 → r2 c j = r c j) : CAt lay r2 c := by
  obtain ⟨a1, a2, ⟨b0, b1, b2, b3, b4, b5, b6⟩, d1, d2, d3, d4, d5, d6⟩ := h
  exact ⟨a1, a2, ⟨(e2 _ (by omega)).trans b0, (e2 _ (by omega)).trans b1, (e2 _ (by omega)).trans b2, (e2 _ (by omega)).trans b3, (e2 _ (by omega)).trans b4, (e2 _ (by omega)).trans b5, (e2 _ (by omega)).trans b6⟩, d1.r (e _ (by omega)), d2.r (e _ (by omega)), d3.r (e _ (by omega)) (e _ (by omega)) (e _ (by omega)), d4.r (e _ (by omega)), d5.r (e _ (by omega)), d6.r (e _ (by omega))⟩
def qN (q : Int → Nat) : Int → Nat := fun i => if i = 0 then q 4 else q (i - 1)
def kN (km : Int → Int → Int) (M : Int → Int) : Int → Int → Int := fun i => if i = 0 then M else km (i - 1)
theorem gcd_step {x y : Int} (hx : 0 ≤ x) (hy : 0 < y) : Int.gcd y (x % y) = Int.gcd x y := by
  rw [Int.gcd_comm x y]
  unfold Int.gcd
  rw [Int.natAbs_emod_of_nonneg hx, Nat.gcd_comm y.natAbs (x.natAbs % y.natAbs), ← Nat.gcd_rec]
def bd : Nat → Int
  | 0 => 230400
  | k + 1 => bd k / 2
theorem gcd_half {x y : Int} (hy : 0 < y) (hx : y < x) : 2 * (y * (x % y)) ≤ x * y := by
  have m0 := Int.emod_nonneg x (show y ≠ 0 by omega)
  have m1 := Int.emod_lt_of_pos x hy
  have q1 : 1 ≤ x / y := Int.le_ediv_of_mul_le hy (by omega)
  have q2 : y * 1 ≤ y * (x / y) := Int.mul_le_mul_of_nonneg_left q1 (by omega)
  have q3 := Int.mul_ediv_add_emod x y
  have q4 : y + x % y ≤ x := by omega
  have q5 : (y + x % y) * y ≤ x * y := Int.mul_le_mul_of_nonneg_right q4 (by omega)
  have q6 : x % y * y ≤ y * y := Int.mul_le_mul_of_nonneg_right (by omega) (by omega)
  rw [Int.add_mul] at q5
  rw [Int.mul_comm y (x % y)]
  omega
theorem bd_63 : bd 63 = 0 := by decide +kernel
theorem dX7_commonDivisor_0 : decode cX7_commonDivisor 0 = .ok (.iload_n 0, 1) := by decide +kernel
theorem dX7_commonDivisor_1 : decode cX7_commonDivisor 1 = .ok (.istore_n 2, 1) := by decide +kernel
theorem dX7_commonDivisor_2 : decode cX7_commonDivisor 2 = .ok (.iload_n 1, 1) := by decide +kernel
theorem dX7_commonDivisor_3 : decode cX7_commonDivisor 3 = .ok (.istore_n 3, 1) := by decide +kernel
theorem dX7_commonDivisor_4 : decode cX7_commonDivisor 4 = .ok (.iconst 0, 1) := by decide +kernel
theorem dX7_commonDivisor_5 : decode cX7_commonDivisor 5 = .ok (.istore 4, 2) := by decide +kernel
theorem dX7_commonDivisor_7 : decode cX7_commonDivisor 7 = .ok (.iload 4, 2) := by decide +kernel
theorem dX7_commonDivisor_9 : decode cX7_commonDivisor 9 = .ok (.bipush 64, 2) := by decide +kernel
theorem dX7_commonDivisor_11 : decode cX7_commonDivisor 11 = .ok (.if_icmp .ge 23, 3) := by decide +kernel
theorem dX7_commonDivisor_14 : decode cX7_commonDivisor 14 = .ok (.iload_n 3, 1) := by decide +kernel
theorem dX7_commonDivisor_15 : decode cX7_commonDivisor 15 = .ok (.ifCond .eq 19, 3) := by decide +kernel
theorem dX7_commonDivisor_18 : decode cX7_commonDivisor 18 = .ok (.iload_n 2, 1) := by decide +kernel
theorem dX7_commonDivisor_19 : decode cX7_commonDivisor 19 = .ok (.iload_n 3, 1) := by decide +kernel
theorem dX7_commonDivisor_20 : decode cX7_commonDivisor 20 = .ok (.irem, 1) := by decide +kernel
theorem dX7_commonDivisor_21 : decode cX7_commonDivisor 21 = .ok (.istore 5, 2) := by decide +kernel
theorem dX7_commonDivisor_23 : decode cX7_commonDivisor 23 = .ok (.iload_n 3, 1) := by decide +kernel
theorem dX7_commonDivisor_24 : decode cX7_commonDivisor 24 = .ok (.istore_n 2, 1) := by decide +kernel
theorem dX7_commonDivisor_25 : decode cX7_commonDivisor 25 = .ok (.iload 5, 2) := by decide +kernel
theorem dX7_commonDivisor_27 : decode cX7_commonDivisor 27 = .ok (.istore_n 3, 1) := by decide +kernel
theorem dX7_commonDivisor_28 : decode cX7_commonDivisor 28 = .ok (.iinc 4 1, 3) := by decide +kernel
theorem dX7_commonDivisor_31 : decode cX7_commonDivisor 31 = .ok (.goto (-24), 3) := by decide +kernel
theorem dX7_commonDivisor_34 : decode cX7_commonDivisor 34 = .ok (.iload_n 2, 1) := by decide +kernel
theorem dX7_commonDivisor_35 : decode cX7_commonDivisor 35 = .ok (.ireturn, 1) := by decide +kernel
set_option maxHeartbeats 4000000 in
set_option maxRecDepth 20000 in
theorem c_X7_commonDivisor : ConI mX7_commonDivisor (fun args N lay r h Q => ∃ (a b : Int), args = [vI a, vI b] ∧ (0 ≤ a ∧ a ≤ 480) ∧ (0 ≤ b ∧ b ≤ 480) ∧ Q ((Int.gcd a b : Nat) : Int) N lay r h) := by
  refine ConI.of (by decide) (by rintro _ N lay r h Q ⟨a, b, rfl, ha, hb9, hQ⟩; exact ⟨rfl, Nat.le_of_ble_eq_true rfl⟩) ?_
  rintro E _ N lay r h Q ⟨a, b, rfl, ha, hb9, hQ⟩ hret
  show St E mX7_commonDivisor 0 [some (vI a), some (vI b), none, none, none, none] [] (0, 0) N lay r h
  have lp : ∀ (n_ : Nat) (k : Int) (x : Int) (y : Int) (x5 : Option Value), (64 - k).toNat = n_ → (0 ≤ k ∧ k ≤ 64) → (0 ≤ x ∧ x ≤ 480) → (0 ≤ y ∧ y ≤ 480) → (Int.gcd x y = Int.gcd a b) → (k.toNat = 0 ∨ (y < x ∧ x * y ≤ bd (k.toNat - 1))) → St E mX7_commonDivisor 7 [some (vI a), some (vI b), some (vI x), some (vI y), some (vI k), x5] [] (0, 0) N lay r h := by
    intro  n_
    induction n_ using Nat.strongRecOn with
    | ind n_ ih =>
      intro k x y x5 hn_ hk hx hy hg hb
      obtain ⟨n, rfl⟩ : ∃ n : Nat, k = n := ⟨k.toNat, by omega⟩
      rw [show ((n : Int)).toNat = n by omega] at hb
      refine r_iload_4 (pc := 7) dX7_commonDivisor_7 ?_
      refine r_bipush (pc := 9) dX7_commonDivisor_9 (by decide) ?_
      refine r_icmp_ge (pc := 11) (tgt := 34) dX7_commonDivisor_11 (by decide) (by omega) (by omega) (fun c_11 => ?_) (fun c_11 => ?_)
      · refine r_iload_2 (pc := 34) dX7_commonDivisor_34 ?_
        refine r_iret (pc := 35) hret dX7_commonDivisor_35 rfl rfl rfl ?_
        have y0 : y = 0 := by
          first
          | (have k9 : y = 0 := by omega
             exact k9)
          | (have k9 : n = 64 := by omega
             subst k9
             rcases hb with z | ⟨z1, z2⟩
             · omega
             · rw [show 64 - 1 = 63 by omega, bd_63] at z2
               apply Classical.byContradiction
               intro z3
               have := Int.mul_pos (show 0 < x by omega) (show 0 < y by omega)
               omega)
        subst y0
        rw [← hg] at hQ
        have e9 : ((Int.gcd x 0 : Nat) : Int) = x := by
          rw [Int.gcd_zero_right]
          omega
        rw [e9] at hQ
        exact hQ
      · refine r_iload_3 (pc := 14) dX7_commonDivisor_14 ?_
        refine r_if_eq (pc := 15) (tgt := 34) dX7_commonDivisor_15 (by decide) (by omega) (fun c_15 => ?_) (fun c_15 => ?_)
        · refine r_iload_2 (pc := 34) dX7_commonDivisor_34 ?_
          refine r_iret (pc := 35) hret dX7_commonDivisor_35 rfl rfl rfl ?_
          have y0 : y = 0 := by
            first
            | (have k9 : y = 0 := by omega
               exact k9)
            | (have k9 : n = 64 := by omega
               subst k9
               rcases hb with z | ⟨z1, z2⟩
               · omega
               · rw [show 64 - 1 = 63 by omega, bd_63] at z2
                 apply Classical.byContradiction
                 intro z3
                 have := Int.mul_pos (show 0 < x by omega) (show 0 < y by omega)
                 omega)
          subst y0
          rw [← hg] at hQ
          have e9 : ((Int.gcd x 0 : Nat) : Int) = x := by
            rw [Int.gcd_zero_right]
            omega
          rw [e9] at hQ
          exact hQ
        · refine r_iload_2 (pc := 18) dX7_commonDivisor_18 ?_
          refine r_iload_3 (pc := 19) dX7_commonDivisor_19 ?_
          refine r_irem (pc := 20) dX7_commonDivisor_20 (by omega) (by omega) ?_
          refine r_istore_5 (pc := 21) dX7_commonDivisor_21 rfl ?_
          refine r_iload_3 (pc := 23) dX7_commonDivisor_23 ?_
          refine r_istore_2 (pc := 24) dX7_commonDivisor_24 rfl ?_
          refine r_iload_5 (pc := 25) dX7_commonDivisor_25 ?_
          refine r_istore_3 (pc := 27) dX7_commonDivisor_27 rfl ?_
          refine r_iinc_4 (pc := 28) dX7_commonDivisor_28 rfl ?_
          refine r_goto (pc := 31) (tgt := 7) dX7_commonDivisor_31 (by decide) ?_
          have m0 := Int.emod_nonneg x (show y ≠ 0 by omega)
          have m1 := Int.emod_lt_of_pos x (show 0 < y by omega)
          refine ih _ (by omega) ((n : Int) + 1) y (x % y) _ rfl (by omega) (by omega) (by omega) (by rw [gcd_step hx.1 (by omega)]; exact hg) (Or.inr ⟨m1, ?_⟩)
          rw [show ((n : Int) + 1).toNat - 1 = n by omega]
          by_cases z : n = 0
          · subst z
            have p1 : y * (x % y) ≤ 480 * 480 := Int.mul_le_mul hy.2 (by omega) m0 (by omega)
            exact p1
          · obtain ⟨z1, z2⟩ := hb.resolve_left z
            have p1 := gcd_half (show 0 < y by omega) z1
            obtain ⟨j, rfl⟩ : ∃ j, n = j + 1 := ⟨n - 1, by omega⟩
            rw [show j + 1 - 1 = j by omega] at z2
            show y * (x % y) ≤ bd j / 2
            omega
  refine r_iload_0 (pc := 0) dX7_commonDivisor_0 ?_
  refine r_istore_2 (pc := 1) dX7_commonDivisor_1 rfl ?_
  refine r_iload_1 (pc := 2) dX7_commonDivisor_2 ?_
  refine r_istore_3 (pc := 3) dX7_commonDivisor_3 rfl ?_
  refine r_iconst (pc := 4) dX7_commonDivisor_4 ?_
  refine r_istore_4 (pc := 5) dX7_commonDivisor_5 rfl ?_
  exact lp _ 0 a b _ rfl (by omega) (by omega) (by omega) rfl (Or.inl rfl)

theorem dX7_planOf_0 : decode cX7_planOf 0 = .ok (.iload_n 1, 1) := by decide +kernel
theorem dX7_planOf_1 : decode cX7_planOf 1 = .ok (.iconst 1, 1) := by decide +kernel
theorem dX7_planOf_2 : decode cX7_planOf 2 = .ok (.if_icmp .lt 21, 3) := by decide +kernel
theorem dX7_planOf_5 : decode cX7_planOf 5 = .ok (.iload_n 1, 1) := by decide +kernel
theorem dX7_planOf_6 : decode cX7_planOf 6 = .ok (.aload_n 0, 1) := by decide +kernel
theorem dX7_planOf_7 : decode cX7_planOf 7 = .ok (.getfield 225, 3) := by decide +kernel
theorem dX7_planOf_10 : decode cX7_planOf 10 = .ok (.if_icmp .gt 13, 3) := by decide +kernel
theorem dX7_planOf_13 : decode cX7_planOf 13 = .ok (.aload_n 0, 1) := by decide +kernel
theorem dX7_planOf_14 : decode cX7_planOf 14 = .ok (.getfield 225, 3) := by decide +kernel
theorem dX7_planOf_17 : decode cX7_planOf 17 = .ok (.iload_n 1, 1) := by decide +kernel
theorem dX7_planOf_18 : decode cX7_planOf 18 = .ok (.isub, 1) := by decide +kernel
theorem dX7_planOf_19 : decode cX7_planOf 19 = .ok (.iconst 5, 1) := by decide +kernel
theorem dX7_planOf_20 : decode cX7_planOf 20 = .ok (.if_icmp .lt 5, 3) := by decide +kernel
theorem dX7_planOf_23 : decode cX7_planOf 23 = .ok (.aconst_null, 1) := by decide +kernel
theorem dX7_planOf_24 : decode cX7_planOf 24 = .ok (.areturn, 1) := by decide +kernel
theorem dX7_planOf_25 : decode cX7_planOf 25 = .ok (.aload_n 0, 1) := by decide +kernel
theorem dX7_planOf_26 : decode cX7_planOf 26 = .ok (.getfield 25, 3) := by decide +kernel
theorem dX7_planOf_29 : decode cX7_planOf 29 = .ok (.aload_n 0, 1) := by decide +kernel
theorem dX7_planOf_30 : decode cX7_planOf 30 = .ok (.getfield 225, 3) := by decide +kernel
theorem dX7_planOf_33 : decode cX7_planOf 33 = .ok (.iload_n 1, 1) := by decide +kernel
theorem dX7_planOf_34 : decode cX7_planOf 34 = .ok (.isub, 1) := by decide +kernel
theorem dX7_planOf_35 : decode cX7_planOf 35 = .ok (.aaload, 1) := by decide +kernel
theorem dX7_planOf_36 : decode cX7_planOf 36 = .ok (.areturn, 1) := by decide +kernel
set_option maxHeartbeats 4000000 in
set_option maxRecDepth 20000 in
theorem c_X7_planOf : ConQ mX7_planOf (fun args N lay r h Q => ∃ (c : Nat) (q : Int → Nat) (e : Int), args = [.ref c, vI e] ∧ CAt lay r c ∧ LtAt lay r c q ∧ (-2147483648 ≤ e ∧ e < 2147483648) ∧ (¬ (1 ≤ e ∧ e ≤ h c 8 ∧ h c 8 - e < 5) → Q none N lay r h) ∧ ((1 ≤ e ∧ e ≤ h c 8 ∧ h c 8 - e < 5) → Q (some (q (h c 8 - e))) N lay r h)) := by
  refine ConQ.of (by decide) (by rintro _ N lay r h Q ⟨c, q, e, rfl, hC, hLt, he, hB, hQ⟩; exact ⟨rfl, Nat.le_of_ble_eq_true rfl⟩) ?_
  rintro E _ N lay r h Q ⟨c, q, e, rfl, hC, hLt, he, hB, hQ⟩ hret
  obtain ⟨cl0, cl6, ⟨cr0, cr1, cr2, cr3, cr4, cr5, cr6⟩, cT, cS, cP, cD, cE, cO⟩ := id hC
  obtain ⟨lr7, lr6, lpl, lrg, ldj⟩ := id hLt
  show St E mX7_planOf 0 [some (.ref c), some (vI e)] [] (0, 0) N lay r h
  refine r_iload_1 (pc := 0) dX7_planOf_0 ?_
  refine r_iconst (pc := 1) dX7_planOf_1 ?_
  refine r_icmp_lt (pc := 2) (tgt := 23) dX7_planOf_2 (by decide) (by omega) (by omega) (fun c_2 => ?_) (fun c_2 => ?_)
  · refine r_null (pc := 23) dX7_planOf_23 ?_
    refine r_aret (pc := 24) (v := none) hret dX7_planOf_24 rfl rfl rfl ?_
    exact hB (by omega)
  · refine r_iload_1 (pc := 5) dX7_planOf_5 ?_
    refine r_aload_0 (pc := 6) dX7_planOf_6 ?_
    refine gf_X7_225 (pc := 7) rfl (by assumption) dX7_planOf_7 (fun i_7 => ?_)
    refine r_icmp_gt (pc := 10) (tgt := 23) dX7_planOf_10 (by decide) (by omega) (by omega) (fun c_10 => ?_) (fun c_10 => ?_)
    · refine r_null (pc := 23) dX7_planOf_23 ?_
      refine r_aret (pc := 24) (v := none) hret dX7_planOf_24 rfl rfl rfl ?_
      exact hB (by omega)
    · refine r_aload_0 (pc := 13) dX7_planOf_13 ?_
      refine gf_X7_225 (pc := 14) rfl (by assumption) dX7_planOf_14 (fun i_14 => ?_)
      refine r_iload_1 (pc := 17) dX7_planOf_17 ?_
      refine r_isub (pc := 18) dX7_planOf_18 ?_
      refine r_iconst (pc := 19) dX7_planOf_19 ?_
      refine r_icmp_lt (pc := 20) (tgt := 25) dX7_planOf_20 (by decide) (by omega) (by omega) (fun c_20 => ?_) (fun c_20 => ?_)
      · refine r_aload_0 (pc := 25) dX7_planOf_25 ?_
        refine gf_X7_25 (pc := 26) rfl (by assumption) dX7_planOf_26 (by assumption) ?_
        refine r_aload_0 (pc := 29) dX7_planOf_29 ?_
        refine gf_X7_225 (pc := 30) rfl (by assumption) dX7_planOf_30 (fun i_30 => ?_)
        refine r_iload_1 (pc := 33) dX7_planOf_33 ?_
        refine r_isub (pc := 34) dX7_planOf_34 ?_
        refine r_aald (pc := 35) (by assumption) dX7_planOf_35 (by omega) (by omega) (lr6 _ (by omega) (by omega)) ?_
        refine r_aret (pc := 36) (v := some (q (h c 8 - e))) hret dX7_planOf_36 rfl rfl rfl ?_
        exact hQ (by omega)
      · refine r_null (pc := 23) dX7_planOf_23 ?_
        refine r_aret (pc := 24) (v := none) hret dX7_planOf_24 rfl rfl rfl ?_
        exact hB (by omega)

theorem rr_rr {r : RfT} {a : Nat} {f g : Int → Option Nat} : rr (rr r a f) a g = rr r a g := by
  funext x
  unfold rr
  split <;> rfl
theorem rr_id {r : RfT} {a : Nat} : rr r a (r a) = r := by
  funext x
  unfold rr
  split
  · rename_i e; rw [e]
  · rfl
theorem dX7_beginEpoch_0 : decode cX7_beginEpoch 0 = .ok (.aload_n 0, 1) := by decide +kernel
theorem dX7_beginEpoch_1 : decode cX7_beginEpoch 1 = .ok (.getfield 25, 3) := by decide +kernel
theorem dX7_beginEpoch_4 : decode cX7_beginEpoch 4 = .ok (.iconst 4, 1) := by decide +kernel
theorem dX7_beginEpoch_5 : decode cX7_beginEpoch 5 = .ok (.aaload, 1) := by decide +kernel
theorem dX7_beginEpoch_6 : decode cX7_beginEpoch 6 = .ok (.astore_n 2, 1) := by decide +kernel
theorem dX7_beginEpoch_7 : decode cX7_beginEpoch 7 = .ok (.iconst 4, 1) := by decide +kernel
theorem dX7_beginEpoch_8 : decode cX7_beginEpoch 8 = .ok (.istore_n 3, 1) := by decide +kernel
theorem dX7_beginEpoch_9 : decode cX7_beginEpoch 9 = .ok (.iload_n 3, 1) := by decide +kernel
theorem dX7_beginEpoch_10 : decode cX7_beginEpoch 10 = .ok (.ifCond .le 23, 3) := by decide +kernel
theorem dX7_beginEpoch_13 : decode cX7_beginEpoch 13 = .ok (.aload_n 0, 1) := by decide +kernel
theorem dX7_beginEpoch_14 : decode cX7_beginEpoch 14 = .ok (.getfield 25, 3) := by decide +kernel
theorem dX7_beginEpoch_17 : decode cX7_beginEpoch 17 = .ok (.iload_n 3, 1) := by decide +kernel
theorem dX7_beginEpoch_18 : decode cX7_beginEpoch 18 = .ok (.aload_n 0, 1) := by decide +kernel
theorem dX7_beginEpoch_19 : decode cX7_beginEpoch 19 = .ok (.getfield 25, 3) := by decide +kernel
theorem dX7_beginEpoch_22 : decode cX7_beginEpoch 22 = .ok (.iload_n 3, 1) := by decide +kernel
theorem dX7_beginEpoch_23 : decode cX7_beginEpoch 23 = .ok (.iconst 1, 1) := by decide +kernel
theorem dX7_beginEpoch_24 : decode cX7_beginEpoch 24 = .ok (.isub, 1) := by decide +kernel
theorem dX7_beginEpoch_25 : decode cX7_beginEpoch 25 = .ok (.aaload, 1) := by decide +kernel
theorem dX7_beginEpoch_26 : decode cX7_beginEpoch 26 = .ok (.aastore, 1) := by decide +kernel
theorem dX7_beginEpoch_27 : decode cX7_beginEpoch 27 = .ok (.iinc 3 (-1), 3) := by decide +kernel
theorem dX7_beginEpoch_30 : decode cX7_beginEpoch 30 = .ok (.goto (-21), 3) := by decide +kernel
theorem dX7_beginEpoch_33 : decode cX7_beginEpoch 33 = .ok (.aload_n 0, 1) := by decide +kernel
theorem dX7_beginEpoch_34 : decode cX7_beginEpoch 34 = .ok (.getfield 25, 3) := by decide +kernel
theorem dX7_beginEpoch_37 : decode cX7_beginEpoch 37 = .ok (.iconst 0, 1) := by decide +kernel
theorem dX7_beginEpoch_38 : decode cX7_beginEpoch 38 = .ok (.aload_n 2, 1) := by decide +kernel
theorem dX7_beginEpoch_39 : decode cX7_beginEpoch 39 = .ok (.aastore, 1) := by decide +kernel
theorem dX7_beginEpoch_40 : decode cX7_beginEpoch 40 = .ok (.aload_n 2, 1) := by decide +kernel
theorem dX7_beginEpoch_41 : decode cX7_beginEpoch 41 = .ok (.aload_n 1, 1) := by decide +kernel
theorem dX7_beginEpoch_42 : decode cX7_beginEpoch 42 = .ok (.invokevirtual 275, 3) := by decide +kernel
theorem dX7_beginEpoch_45 : decode cX7_beginEpoch 45 = .ok (.aload_n 0, 1) := by decide +kernel
theorem dX7_beginEpoch_46 : decode cX7_beginEpoch 46 = .ok (.aload_n 2, 1) := by decide +kernel
theorem dX7_beginEpoch_47 : decode cX7_beginEpoch 47 = .ok (.putfield 51, 3) := by decide +kernel
theorem dX7_beginEpoch_50 : decode cX7_beginEpoch 50 = .ok (.aload_n 0, 1) := by decide +kernel
theorem dX7_beginEpoch_51 : decode cX7_beginEpoch 51 = .ok (.dup, 1) := by decide +kernel
theorem dX7_beginEpoch_52 : decode cX7_beginEpoch 52 = .ok (.getfield 225, 3) := by decide +kernel
theorem dX7_beginEpoch_55 : decode cX7_beginEpoch 55 = .ok (.iconst 1, 1) := by decide +kernel
theorem dX7_beginEpoch_56 : decode cX7_beginEpoch 56 = .ok (.iadd, 1) := by decide +kernel
theorem dX7_beginEpoch_57 : decode cX7_beginEpoch 57 = .ok (.putfield 225, 3) := by decide +kernel
theorem dX7_beginEpoch_60 : decode cX7_beginEpoch 60 = .ok (.return_, 1) := by decide +kernel
set_option maxHeartbeats 4000000 in
set_option maxRecDepth 20000 in
theorem c_X7_beginEpoch : ConV mX7_beginEpoch (fun args N lay r h Q => ∃ (c p : Nat) (q : Int → Nat) (j : Int) (M : Int → Int), args = [.ref c, .ref p] ∧ CAt lay r c ∧ LtAt lay r c q ∧ (0 ≤ j ∧ j < 5) ∧ p = q j ∧ PMap h p M ∧ (1 ≤ h c 8 ∧ h c 8 < 2147483647) ∧ ∀ (r2 : RfT) (h2 : HpT), FrR r r2 (fun x => x = c ∨ x = c + 6) → CAt lay r2 c → LtAt lay r2 c (qN q) → Fr h h2 (fun x => x = c ∨ (q 4 ≤ x ∧ x < q 4 + 14)) → h2 c = up (h c) 8 (h c 8 + 1) → PMap h2 (q 4) M → Q N lay r2 h2) := by
  refine ConV.of (by decide) (by rintro _ N lay r h Q ⟨c, p, q, j, M, rfl, hC, hLt, hj, hpj, hM, hep, hQ⟩; exact ⟨rfl, Nat.le_of_ble_eq_true rfl⟩) ?_
  rintro E _ N lay r h Q ⟨c, p, q, j, M, rfl, hC, hLt, hj, hpj, hM, hep, hQ⟩ hret
  obtain ⟨cl0, cl6, ⟨cr0, cr1, cr2, cr3, cr4, cr5, cr6⟩, cT, cS, cP, cD, cE, cO⟩ := id hC
  obtain ⟨lr7, lr6, lpl, lrg, ldj⟩ := id hLt
  show St E mX7_beginEpoch 0 [some (.ref c), some (.ref p), none, none] [] (0, 0) N lay r h
  have lp : ∀ (n_ : Nat) (i : Int) (g : Int → Option Nat), (i + 1).toNat = n_ → (0 ≤ i ∧ i ≤ 4) → (∀ j, 0 ≤ j → j < 5 → g j = some (if i < j then q (j - 1) else q j)) → St E mX7_beginEpoch 9 [some (.ref c), some (.ref p), some (.ref (q 4)), some (vI i)] [] (0, 0) N lay (rr r (c + 6) g) h := by
    intro  n_
    induction n_ using Nat.strongRecOn with
    | ind n_ ih =>
      intro i g hn_ hi hg
      have rc2 : rr r (c + 6) g c 2 = some (c + 6) := by rw [rr_n (by omega)]; exact cr2
      refine r_iload_3 (pc := 9) dX7_beginEpoch_9 ?_
      refine r_if_le (pc := 10) (tgt := 33) dX7_beginEpoch_10 (by decide) (by omega) (fun c_10 => ?_) (fun c_10 => ?_)
      · refine r_aload_0 (pc := 33) dX7_beginEpoch_33 ?_
        refine gf_X7_25 (pc := 34) rfl (by assumption) dX7_beginEpoch_34 (by assumption) ?_
        refine r_iconst (pc := 37) dX7_beginEpoch_37 ?_
        refine r_aload_2 (pc := 38) dX7_beginEpoch_38 ?_
        refine r_aast (pc := 39) (by assumption) (lpl 4 (by omega) (by omega)).1 dX7_beginEpoch_39 (by omega) (by omega) ?_
        rw [rr_s, rr_rr]
        generalize hG : rup g 0 (some (q 4)) = G
        have hG2 : ∀ k, 0 ≤ k → k < 5 → G k = some (qN q k) := fun k k0 k1 => by
          rw [← hG]
          unfold rup qN
          by_cases e : k = 0
          · rw [if_pos e, if_pos e]
          · rw [if_neg e, if_neg e, hg k k0 k1, if_pos (by omega)]
        have fr : ∀ x, x ≠ c + 6 → rr r (c + 6) G x = r x := fun x hx => rr_n hx
        have l4 := (lpl 4 (by omega) (by omega)).1
        have g4 := lrg 4 (by omega) (by omega)
        have gj := lrg j hj.1 hj.2
        have dj := ldj j 4 hj.1 hj.2 (by omega) (by omega)
        have PA4 : PlAt lay (rr r (c + 6) G) (q 4) := (lpl 4 (by omega) (by omega)).r (fr _ (by omega)) (fr _ (by omega)) (fr _ (by omega))
        have PAj : PlAt lay (rr r (c + 6) G) p := by rw [hpj]; exact (lpl j hj.1 hj.2).r (fr _ (by omega)) (fr _ (by omega)) (fr _ (by omega))
        have dj2 : p = q 4 ∨ (q 4 + 14 ≤ p ∨ p + 14 ≤ q 4) := by
          by_cases e : j = 4
          · left; rw [hpj, e]
          · right; rw [hpj]; have := dj e; omega
        refine r_aload_2 (pc := 40) dX7_beginEpoch_40 ?_
        refine r_aload_1 (pc := 41) dX7_beginEpoch_41 ?_
        refine k_VV1 (pc := 42) c_X3_copyFrom lk_X7_275 ⟨Nat.le_of_ble_eq_true rfl, Nat.le_of_ble_eq_true rfl⟩ ⟨rfl, rfl⟩ ⟨Nat.le_of_ble_eq_true rfl, Nat.le_of_ble_eq_true rfl⟩ (k := 3) rfl (by decide) (by assumption) dX7_beginEpoch_42 (Nat.le_of_ble_eq_true rfl) ?_
        refine ⟨_, _, rfl, PA4, PAj, (by omega), fun h_42 f_42 a_42 => ?_⟩
        refine r_aload_0 (pc := 45) dX7_beginEpoch_45 ?_
        refine r_aload_2 (pc := 46) dX7_beginEpoch_46 ?_
        refine pf_X7_51 (pc := 47) rfl (by assumption) dX7_beginEpoch_47 ?_
        refine r_aload_0 (pc := 50) dX7_beginEpoch_50 ?_
        first | refine r_dupI (pc := 51) dX7_beginEpoch_51 ?_ | refine r_dupA (pc := 51) dX7_beginEpoch_51 ?_
        refine gf_X7_225 (pc := 52) rfl (by assumption) dX7_beginEpoch_52 (fun i_52 => ?_)
        have ec8 : h_42 c 8 = h c 8 := by rw [f_42 c (by omega)]
        rw [ec8] at i_52 ⊢
        refine r_iconst (pc := 55) dX7_beginEpoch_55 ?_
        refine r_iadd (pc := 56) dX7_beginEpoch_56 ?_
        refine pf_X7_225 (pc := 57) rfl (by assumption) dX7_beginEpoch_57 (by omega) ?_
        refine r_ret (pc := 60) hret dX7_beginEpoch_60 rfl rfl rfl ?_
        have f42c : h_42 c = h c := f_42 c (by omega)
        refine hQ _ _ (fun x hx => by rw [rr_n (by omega), rr_n (by omega)]) ?_ ?_ (fun x hx => by rw [hr_n (by omega)]; exact f_42 x (by omega)) (by rw [hr_s, f42c]) ?_
        · refine hC.r (fun x hx => by rw [rr_n (by omega), rr_n (by omega)]) (fun k hk => ?_)
          rw [rr_s]
          unfold rup
          rw [if_neg hk, fr _ (by omega)]
        · have fr2 : ∀ x, x ≠ c → x ≠ c + 6 → rr (rr r (c + 6) G) c (rup (rr r (c + 6) G c) 7 (some (q 4))) x = r x := fun x h1 h2 => by rw [rr_n h1]; exact fr x h2
          have lrg2 : ∀ i, 0 ≤ i → i < 5 → c + 31 ≤ qN q i ∧ qN q i + 14 ≤ c + 101 := fun i i0 i1 => by
            unfold qN
            split
            · exact g4
            · exact lrg _ (by omega) (by omega)
          refine ⟨?_, fun i i0 i1 => ?_, fun i i0 i1 => ?_, lrg2, fun i j i0 i1 j0 j1 e => ?_⟩
          · rw [rr_s]; unfold rup qN; rw [if_pos rfl, if_pos rfl]
          · rw [rr_n (by omega), rr_s]; exact hG2 i i0 i1
          · have l9 := lrg2 i i0 i1
            have pl9 : PlAt lay r (qN q i) := by
              unfold qN
              split
              · exact lpl 4 (by omega) (by omega)
              · exact lpl _ (by omega) (by omega)
            exact pl9.r (fr2 _ (by omega) (by omega)) (fr2 _ (by omega) (by omega)) (fr2 _ (by omega) (by omega))
          · unfold qN
            by_cases e1 : i = 0
            · rw [if_pos e1, if_neg (by omega)]; exact ldj 4 (j - 1) (by omega) (by omega) (by omega) (by omega) (by omega)
            · rw [if_neg e1]
              by_cases e2 : j = 0
              · rw [if_pos e2]; exact ldj (i - 1) 4 (by omega) (by omega) (by omega) (by omega) (by omega)
              · rw [if_neg e2]; exact ldj (i - 1) (j - 1) (by omega) (by omega) (by omega) (by omega) (by omega)
        · exact (hM.cp a_42).of (fun x h1 h2 => hr_n (by omega))
      · refine r_aload_0 (pc := 13) dX7_beginEpoch_13 ?_
        refine gf_X7_25 (pc := 14) rfl (by assumption) dX7_beginEpoch_14 (by assumption) ?_
        refine r_iload_3 (pc := 17) dX7_beginEpoch_17 ?_
        refine r_aload_0 (pc := 18) dX7_beginEpoch_18 ?_
        refine gf_X7_25 (pc := 19) rfl (by assumption) dX7_beginEpoch_19 (by assumption) ?_
        refine r_iload_3 (pc := 22) dX7_beginEpoch_22 ?_
        refine r_iconst (pc := 23) dX7_beginEpoch_23 ?_
        refine r_isub (pc := 24) dX7_beginEpoch_24 ?_
        refine r_aald (pc := 25) (b := q (i - 1)) (by assumption) dX7_beginEpoch_25 (by omega) (by omega) (by rw [rr_s, hg _ (by omega) (by omega), if_neg (by omega)]) ?_
        refine r_aast (pc := 26) (by assumption) (lpl (i - 1) (by omega) (by omega)).1 dX7_beginEpoch_26 (by omega) (by omega) ?_
        rw [rr_s]
        refine r_iinc_3 (pc := 27) dX7_beginEpoch_27 rfl ?_
        refine r_goto (pc := 30) (tgt := 9) dX7_beginEpoch_30 (by decide) ?_
        rw [rr_rr]
        refine ih _ (by omega) (i + -1) _ rfl (by omega) (fun k k0 k1 => ?_)
        by_cases e : k = i
        · rw [e]
          unfold rup
          rw [if_pos rfl, if_pos (by omega)]
        · unfold rup
          rw [if_neg e, hg k k0 k1]
          by_cases e2 : i < k
          · rw [if_pos e2, if_pos (by omega)]
          · rw [if_neg e2, if_neg (by omega)]
  refine r_aload_0 (pc := 0) dX7_beginEpoch_0 ?_
  refine gf_X7_25 (pc := 1) rfl (by assumption) dX7_beginEpoch_1 (by assumption) ?_
  refine r_iconst (pc := 4) dX7_beginEpoch_4 ?_
  refine r_aald (pc := 5) (b := q 4) (by assumption) dX7_beginEpoch_5 (by omega) (by omega) (lr6 4 (by omega) (by omega)) ?_
  refine r_astore_2 (pc := 6) dX7_beginEpoch_6 rfl ?_
  refine r_iconst (pc := 7) dX7_beginEpoch_7 ?_
  refine r_istore_3 (pc := 8) dX7_beginEpoch_8 rfl ?_
  have e0 := lp _ 4 (r (c + 6)) rfl (by omega) (fun j j0 j1 => by rw [lr6 j j0 j1, if_neg (by omega)])
  rw [rr_id] at e0
  exact e0

