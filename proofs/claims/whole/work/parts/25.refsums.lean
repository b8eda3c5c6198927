/-! THE REFERENCE: counts, sums, sets -/
def sm (f : Int → Int) : Nat → Int
  | 0 => 0
  | k + 1 => sm f k + f k
theorem sm_z {f : Int → Int} {i : Int} (h : 0 ≤ i) : sm f (i + 1).toNat = sm f i.toNat + f i := by
  obtain ⟨k, rfl⟩ : ∃ k : Nat, i = k := ⟨i.toNat, by omega⟩
  rw [show ((k : Int) + 1).toNat = k + 1 by omega, show ((k : Int)).toNat = k by omega]
  rfl
theorem sm_r {f : Int → Int} {c : Int} : ∀ {n : Nat}, (∀ k : Nat, k < n → 0 ≤ f k ∧ f k ≤ c) → 0 ≤ sm f n ∧ sm f n ≤ n * c
  | 0, _ => by simp [sm]
  | n + 1, h => by
    have h1 := sm_r (n := n) (fun k hk => h k (by omega))
    have h2 := h n (by omega)
    have h3 : ((n + 1 : Nat) : Int) * c = n * c + c := by rw [Int.natCast_add, Int.add_mul]; simp
    simp only [sm]
    omega
theorem sm_c {f g : Int → Int} : ∀ {n : Nat}, (∀ k : Nat, k < n → f k = g k) → sm f n = sm g n
  | 0, _ => rfl
  | n + 1, h => by
    simp only [sm]
    rw [sm_c (fun k hk => h k (by omega)), h n (by omega)]
def hasB (f : Int → Int) (g d : Int) : Bool := decide (f (4 * g + 0) = d ∨ f (4 * g + 1) = d ∨ f (4 * g + 2) = d ∨ f (4 * g + 3) = d)
theorem hasB_iff {f : Int → Int} {g d : Int} : hasB f g d = true ↔ ∃ c, 0 ≤ c ∧ c < 4 ∧ f (4 * g + c) = d := by
  unfold hasB
  rw [decide_eq_true_iff]
  constructor
  · intro q
    rcases q with q | q | q | q
    · exact ⟨0, by omega, by omega, q⟩
    · exact ⟨1, by omega, by omega, q⟩
    · exact ⟨2, by omega, by omega, q⟩
    · exact ⟨3, by omega, by omega, q⟩
  · intro ⟨c, c0, c4, q⟩
    rcases (show c = 0 ∨ c = 1 ∨ c = 2 ∨ c = 3 by omega) with rfl | rfl | rfl | rfl
    · exact Or.inl q
    · exact Or.inr (Or.inl q)
    · exact Or.inr (Or.inr (Or.inl q))
    · exact Or.inr (Or.inr (Or.inr q))
def pbk (f : Int → Int) (g : Int) : Nat → Int
  | 0 => 0
  | c + 1 => if 0 ≤ f (4 * g + c) then iO (pbk f g c) (iSl 1 (f (4 * g + c) - 10)) else pbk f g c
def pb (f : Int → Int) (g : Int) : Int := pbk f g 4
theorem pbk_r (f : Int → Int) (g : Int) : ∀ c, -2147483648 ≤ pbk f g c ∧ pbk f g c < 2147483648
  | 0 => by simp [pbk]
  | c + 1 => by
    simp only [pbk]
    split
    · exact iO_r _ _
    · exact pbk_r f g c
def bts (x : Int) : Int := sm (fun k => iA (iSr x k) 1) 12
theorem dX8_has_0 : decode cX8_has 0 = .ok (.iconst 0, 1) := by decide +kernel
theorem dX8_has_1 : decode cX8_has 1 = .ok (.istore_n 3, 1) := by decide +kernel
theorem dX8_has_2 : decode cX8_has 2 = .ok (.iload_n 3, 1) := by decide +kernel
theorem dX8_has_3 : decode cX8_has 3 = .ok (.iconst 4, 1) := by decide +kernel
theorem dX8_has_4 : decode cX8_has 4 = .ok (.if_icmp .ge 22, 3) := by decide +kernel
theorem dX8_has_7 : decode cX8_has 7 = .ok (.aload_n 0, 1) := by decide +kernel
theorem dX8_has_8 : decode cX8_has 8 = .ok (.iconst 4, 1) := by decide +kernel
theorem dX8_has_9 : decode cX8_has 9 = .ok (.iload_n 1, 1) := by decide +kernel
theorem dX8_has_10 : decode cX8_has 10 = .ok (.imul, 1) := by decide +kernel
theorem dX8_has_11 : decode cX8_has 11 = .ok (.iload_n 3, 1) := by decide +kernel
theorem dX8_has_12 : decode cX8_has 12 = .ok (.iadd, 1) := by decide +kernel
theorem dX8_has_13 : decode cX8_has 13 = .ok (.iaload, 1) := by decide +kernel
theorem dX8_has_14 : decode cX8_has 14 = .ok (.iload_n 2, 1) := by decide +kernel
theorem dX8_has_15 : decode cX8_has 15 = .ok (.if_icmp .ne 5, 3) := by decide +kernel
theorem dX8_has_18 : decode cX8_has 18 = .ok (.iconst 1, 1) := by decide +kernel
theorem dX8_has_19 : decode cX8_has 19 = .ok (.ireturn, 1) := by decide +kernel
theorem dX8_has_20 : decode cX8_has 20 = .ok (.iinc 3 1, 3) := by decide +kernel
theorem dX8_has_23 : decode cX8_has 23 = .ok (.goto (-21), 3) := by decide +kernel
theorem dX8_has_26 : decode cX8_has 26 = .ok (.iconst 0, 1) := by decide +kernel
theorem dX8_has_27 : decode cX8_has 27 = .ok (.ireturn, 1) := by decide +kernel
set_option maxHeartbeats 4000000 in
set_option maxRecDepth 20000 in
theorem c_X8_has : ConI mX8_has (fun args N lay r h Q => ∃ (a : Nat) (g d : Int), args = [.ref a, vI g, vI d] ∧ lay a = (10, 64) ∧ (0 ≤ g ∧ g < 16) ∧ (-2147483648 ≤ d ∧ d < 2147483648) ∧ Q (bI (hasB (h a) g d = true)) N lay r h) := by
  refine ConI.of (by decide) (by rintro _ N lay r h Q ⟨a, g, d, rfl, hla, hg, hd, hQ⟩; exact ⟨rfl, Nat.le_of_ble_eq_true rfl⟩) ?_
  rintro E _ N lay r h Q ⟨a, g, d, rfl, hla, hg, hd, hQ⟩ hret
  show St E mX8_has 0 [some (.ref a), some (vI g), some (vI d), none] [] (0, 0) N lay r h
  have lp : ∀ (n_ : Nat) (c : Int), (4 - c).toNat = n_ → (0 ≤ c ∧ c ≤ 4) → (∀ q, 0 ≤ q → q < c → h a (4 * g + q) ≠ d) → St E mX8_has 2 [some (.ref a), some (vI g), some (vI d), some (vI c)] [] (0, 0) N lay r h := by
    intro  n_
    induction n_ using Nat.strongRecOn with
    | ind n_ ih =>
      intro c hn_ hc hn
      refine r_iload_3 (pc := 2) dX8_has_2 ?_
      refine r_iconst (pc := 3) dX8_has_3 ?_
      refine r_icmp_ge (pc := 4) (tgt := 26) dX8_has_4 (by decide) (by omega) (by omega) (fun c_4 => ?_) (fun c_4 => ?_)
      · refine r_iconst (pc := 26) dX8_has_26 ?_
        refine r_zret (pc := 27) hret dX8_has_27 rfl rfl rfl (by first | exact Or.inl rfl | exact Or.inr rfl | exact bI_01 | omega) ?_
        first | (rw [bI_t (hasB_iff.mpr ⟨c, by omega, by omega, c_15⟩)] at hQ; exact hQ) | (rw [bI_f (fun z => by obtain ⟨q, q0, q1, q2⟩ := hasB_iff.mp z; exact hn q q0 (by omega) q2)] at hQ; exact hQ)
      · refine r_aload_0 (pc := 7) dX8_has_7 ?_
        refine r_iconst (pc := 8) dX8_has_8 ?_
        refine r_iload_1 (pc := 9) dX8_has_9 ?_
        refine r_imul (pc := 10) dX8_has_10 ?_
        refine r_iload_3 (pc := 11) dX8_has_11 ?_
        refine r_iadd (pc := 12) dX8_has_12 ?_
        refine r_ialdE (pc := 13) (by assumption) (by first | assumption | exact rfl) dX8_has_13 (by omega) (by omega) (fun i_13 => ?_)
        refine r_iload_2 (pc := 14) dX8_has_14 ?_
        refine r_icmp_ne (pc := 15) (tgt := 20) dX8_has_15 (by decide) (by omega) (by omega) (fun c_15 => ?_) (fun c_15 => ?_)
        · refine r_iinc_3 (pc := 20) dX8_has_20 rfl ?_
          refine r_goto (pc := 23) (tgt := 2) dX8_has_23 (by decide) ?_
          exact ih _ (by omega) (c + 1) rfl (by omega) (fun q q0 q1 => by
            by_cases e : q = c
            · subst e; exact c_15
            · exact hn q q0 (by omega))
        · refine r_iconst (pc := 18) dX8_has_18 ?_
          refine r_zret (pc := 19) hret dX8_has_19 rfl rfl rfl (by first | exact Or.inl rfl | exact Or.inr rfl | exact bI_01 | omega) ?_
          first | (rw [bI_t (hasB_iff.mpr ⟨c, by omega, by omega, c_15⟩)] at hQ; exact hQ) | (rw [bI_f (fun z => by obtain ⟨q, q0, q1, q2⟩ := hasB_iff.mp z; exact hn q q0 (by omega) q2)] at hQ; exact hQ)
  refine r_iconst (pc := 0) dX8_has_0 ?_
  refine r_istore_3 (pc := 1) dX8_has_1 rfl ?_
  exact lp _ 0 rfl (by omega) (fun q q0 q1 => by omega)

theorem dX8_placeBits_0 : decode cX8_placeBits 0 = .ok (.iconst 0, 1) := by decide +kernel
theorem dX8_placeBits_1 : decode cX8_placeBits 1 = .ok (.istore_n 2, 1) := by decide +kernel
theorem dX8_placeBits_2 : decode cX8_placeBits 2 = .ok (.iconst 0, 1) := by decide +kernel
theorem dX8_placeBits_3 : decode cX8_placeBits 3 = .ok (.istore_n 3, 1) := by decide +kernel
theorem dX8_placeBits_4 : decode cX8_placeBits 4 = .ok (.iload_n 3, 1) := by decide +kernel
theorem dX8_placeBits_5 : decode cX8_placeBits 5 = .ok (.iconst 4, 1) := by decide +kernel
theorem dX8_placeBits_6 : decode cX8_placeBits 6 = .ok (.if_icmp .ge 40, 3) := by decide +kernel
theorem dX8_placeBits_9 : decode cX8_placeBits 9 = .ok (.aload_n 0, 1) := by decide +kernel
theorem dX8_placeBits_10 : decode cX8_placeBits 10 = .ok (.getfield 43, 3) := by decide +kernel
theorem dX8_placeBits_13 : decode cX8_placeBits 13 = .ok (.iconst 4, 1) := by decide +kernel
theorem dX8_placeBits_14 : decode cX8_placeBits 14 = .ok (.iload_n 1, 1) := by decide +kernel
theorem dX8_placeBits_15 : decode cX8_placeBits 15 = .ok (.imul, 1) := by decide +kernel
theorem dX8_placeBits_16 : decode cX8_placeBits 16 = .ok (.iload_n 3, 1) := by decide +kernel
theorem dX8_placeBits_17 : decode cX8_placeBits 17 = .ok (.iadd, 1) := by decide +kernel
theorem dX8_placeBits_18 : decode cX8_placeBits 18 = .ok (.iaload, 1) := by decide +kernel
theorem dX8_placeBits_19 : decode cX8_placeBits 19 = .ok (.ifCond .lt 21, 3) := by decide +kernel
theorem dX8_placeBits_22 : decode cX8_placeBits 22 = .ok (.iload_n 2, 1) := by decide +kernel
theorem dX8_placeBits_23 : decode cX8_placeBits 23 = .ok (.iconst 1, 1) := by decide +kernel
theorem dX8_placeBits_24 : decode cX8_placeBits 24 = .ok (.aload_n 0, 1) := by decide +kernel
theorem dX8_placeBits_25 : decode cX8_placeBits 25 = .ok (.getfield 43, 3) := by decide +kernel
theorem dX8_placeBits_28 : decode cX8_placeBits 28 = .ok (.iconst 4, 1) := by decide +kernel
theorem dX8_placeBits_29 : decode cX8_placeBits 29 = .ok (.iload_n 1, 1) := by decide +kernel
theorem dX8_placeBits_30 : decode cX8_placeBits 30 = .ok (.imul, 1) := by decide +kernel
theorem dX8_placeBits_31 : decode cX8_placeBits 31 = .ok (.iload_n 3, 1) := by decide +kernel
theorem dX8_placeBits_32 : decode cX8_placeBits 32 = .ok (.iadd, 1) := by decide +kernel
theorem dX8_placeBits_33 : decode cX8_placeBits 33 = .ok (.iaload, 1) := by decide +kernel
theorem dX8_placeBits_34 : decode cX8_placeBits 34 = .ok (.bipush 10, 2) := by decide +kernel
theorem dX8_placeBits_36 : decode cX8_placeBits 36 = .ok (.isub, 1) := by decide +kernel
theorem dX8_placeBits_37 : decode cX8_placeBits 37 = .ok (.ishl, 1) := by decide +kernel
theorem dX8_placeBits_38 : decode cX8_placeBits 38 = .ok (.ior, 1) := by decide +kernel
theorem dX8_placeBits_39 : decode cX8_placeBits 39 = .ok (.istore_n 2, 1) := by decide +kernel
theorem dX8_placeBits_40 : decode cX8_placeBits 40 = .ok (.iinc 3 1, 3) := by decide +kernel
theorem dX8_placeBits_43 : decode cX8_placeBits 43 = .ok (.goto (-39), 3) := by decide +kernel
theorem dX8_placeBits_46 : decode cX8_placeBits 46 = .ok (.iload_n 2, 1) := by decide +kernel
theorem dX8_placeBits_47 : decode cX8_placeBits 47 = .ok (.ireturn, 1) := by decide +kernel
set_option maxHeartbeats 4000000 in
set_option maxRecDepth 20000 in
theorem c_X8_placeBits : ConI mX8_placeBits (fun args N lay r h Q => ∃ (b : Nat) (g : Int), args = [.ref b, vI g] ∧ MdAt lay r b ∧ (0 ≤ g ∧ g < 16) ∧ (-2147483648 ≤ pb (h (b + 12)) g ∧ pb (h (b + 12)) g < 2147483648 → Q (pb (h (b + 12)) g) N lay r h)) := by
  refine ConI.of (by decide) (by rintro _ N lay r h Q ⟨b, g, rfl, hM, hg, hQ⟩; exact ⟨rfl, Nat.le_of_ble_eq_true rfl⟩) ?_
  rintro E _ N lay r h Q ⟨b, g, rfl, hM, hg, hQ⟩ hret
  obtain ⟨ml0, ml1, ml2, ml3, ml4, ml5, ml6, ml7, ml8, ml9, ml10, ml11, ml12, ml13, ml14, ml15, ml16, ml17, ml18, ml19, ml20, mr1, mr2, mr3, mr4, mr5, mr6, mr7, mr8, mr9, mr10, mr11, mr12, mr13, mr14, mr15, mr16, mr17, mr18, mr19, mr20⟩ := id hM
  show St E mX8_placeBits 0 [some (.ref b), some (vI g), none, none] [] (0, 0) N lay r h
  have lp : ∀ (n_ : Nat) (c : Int) (bt : Int), (4 - c).toNat = n_ → (0 ≤ c ∧ c ≤ 4) → (bt = pbk (h (b + 12)) g c.toNat) → St E mX8_placeBits 4 [some (.ref b), some (vI g), some (vI bt), some (vI c)] [] (0, 0) N lay r h := by
    intro  n_
    induction n_ using Nat.strongRecOn with
    | ind n_ ih =>
      intro c bt hn_ hc hb
      have e1 : pbk (h (b + 12)) g (c + 1).toNat = if 0 ≤ h (b + 12) (4 * g + c) then iO (pbk (h (b + 12)) g c.toNat) (iSl 1 (h (b + 12) (4 * g + c) - 10)) else pbk (h (b + 12)) g c.toNat := by
        rw [show (c + 1).toNat = c.toNat + 1 by omega]
        simp only [pbk]
        rw [show ((c.toNat : Nat) : Int) = c by omega]
      refine r_iload_3 (pc := 4) dX8_placeBits_4 ?_
      refine r_iconst (pc := 5) dX8_placeBits_5 ?_
      refine r_icmp_ge (pc := 6) (tgt := 46) dX8_placeBits_6 (by decide) (by omega) (by omega) (fun c_6 => ?_) (fun c_6 => ?_)
      · refine r_iload_2 (pc := 46) dX8_placeBits_46 ?_
        refine r_iret (pc := 47) hret dX8_placeBits_47 rfl rfl rfl ?_
        have hc4 : c = 4 := by omega
        subst hc4
        rw [hb]
        exact hQ (pbk_r _ _ _)
      · refine r_aload_0 (pc := 9) dX8_placeBits_9 ?_
        refine gf_X8_43 (pc := 10) rfl (by assumption) dX8_placeBits_10 (by assumption) ?_
        refine r_iconst (pc := 13) dX8_placeBits_13 ?_
        refine r_iload_1 (pc := 14) dX8_placeBits_14 ?_
        refine r_imul (pc := 15) dX8_placeBits_15 ?_
        refine r_iload_3 (pc := 16) dX8_placeBits_16 ?_
        refine r_iadd (pc := 17) dX8_placeBits_17 ?_
        refine r_ialdE (pc := 18) (by assumption) (by first | assumption | exact rfl) dX8_placeBits_18 (by omega) (by omega) (fun i_18 => ?_)
        refine r_if_lt (pc := 19) (tgt := 40) dX8_placeBits_19 (by decide) (by omega) (fun c_19 => ?_) (fun c_19 => ?_)
        · refine r_iinc_3 (pc := 40) dX8_placeBits_40 rfl ?_
          refine r_goto (pc := 43) (tgt := 4) dX8_placeBits_43 (by decide) ?_
          first
          | (refine ih _ (by omega) (c + 1) _ rfl (by omega) ?_; rw [e1, if_neg (by omega)]; exact hb)
          | (refine ih _ (by omega) (c + 1) _ rfl (by omega) ?_; rw [e1, if_pos c_19, hb])
        · refine r_iload_2 (pc := 22) dX8_placeBits_22 ?_
          refine r_iconst (pc := 23) dX8_placeBits_23 ?_
          refine r_aload_0 (pc := 24) dX8_placeBits_24 ?_
          refine gf_X8_43 (pc := 25) rfl (by assumption) dX8_placeBits_25 (by assumption) ?_
          refine r_iconst (pc := 28) dX8_placeBits_28 ?_
          refine r_iload_1 (pc := 29) dX8_placeBits_29 ?_
          refine r_imul (pc := 30) dX8_placeBits_30 ?_
          refine r_iload_3 (pc := 31) dX8_placeBits_31 ?_
          refine r_iadd (pc := 32) dX8_placeBits_32 ?_
          refine r_ialdE (pc := 33) (by assumption) (by first | assumption | exact rfl) dX8_placeBits_33 (by omega) (by omega) (fun i_33 => ?_)
          refine r_bipush (pc := 34) dX8_placeBits_34 (by decide) ?_
          refine r_isub (pc := 36) dX8_placeBits_36 ?_
          refine r_ishl (pc := 37) dX8_placeBits_37 (fun i_37 => ?_)
          refine r_ior (pc := 38) dX8_placeBits_38 (fun i_38 => ?_)
          refine r_istore_2 (pc := 39) dX8_placeBits_39 rfl ?_
          refine r_iinc_3 (pc := 40) dX8_placeBits_40 rfl ?_
          refine r_goto (pc := 43) (tgt := 4) dX8_placeBits_43 (by decide) ?_
          first
          | (refine ih _ (by omega) (c + 1) _ rfl (by omega) ?_; rw [e1, if_neg (by omega)]; exact hb)
          | (refine ih _ (by omega) (c + 1) _ rfl (by omega) ?_; rw [e1, if_pos c_19, hb])
  refine r_iconst (pc := 0) dX8_placeBits_0 ?_
  refine r_istore_2 (pc := 1) dX8_placeBits_1 rfl ?_
  refine r_iconst (pc := 2) dX8_placeBits_2 ?_
  refine r_istore_3 (pc := 3) dX8_placeBits_3 rfl ?_
  exact lp _ 0 0 rfl (by omega) rfl

theorem dX8_groupsOf_0 : decode cX8_groupsOf 0 = .ok (.iconst 0, 1) := by decide +kernel
theorem dX8_groupsOf_1 : decode cX8_groupsOf 1 = .ok (.istore_n 2, 1) := by decide +kernel
theorem dX8_groupsOf_2 : decode cX8_groupsOf 2 = .ok (.iconst 0, 1) := by decide +kernel
theorem dX8_groupsOf_3 : decode cX8_groupsOf 3 = .ok (.istore_n 3, 1) := by decide +kernel
theorem dX8_groupsOf_4 : decode cX8_groupsOf 4 = .ok (.iload_n 3, 1) := by decide +kernel
theorem dX8_groupsOf_5 : decode cX8_groupsOf 5 = .ok (.bipush 16, 2) := by decide +kernel
theorem dX8_groupsOf_7 : decode cX8_groupsOf 7 = .ok (.if_icmp .ge 26, 3) := by decide +kernel
theorem dX8_groupsOf_10 : decode cX8_groupsOf 10 = .ok (.iload_n 2, 1) := by decide +kernel
theorem dX8_groupsOf_11 : decode cX8_groupsOf 11 = .ok (.aload_n 0, 1) := by decide +kernel
theorem dX8_groupsOf_12 : decode cX8_groupsOf 12 = .ok (.iload_n 3, 1) := by decide +kernel
theorem dX8_groupsOf_13 : decode cX8_groupsOf 13 = .ok (.iload_n 1, 1) := by decide +kernel
theorem dX8_groupsOf_14 : decode cX8_groupsOf 14 = .ok (.invokestatic 208, 3) := by decide +kernel
theorem dX8_groupsOf_17 : decode cX8_groupsOf 17 = .ok (.ifCond .eq 7, 3) := by decide +kernel
theorem dX8_groupsOf_20 : decode cX8_groupsOf 20 = .ok (.iconst 1, 1) := by decide +kernel
theorem dX8_groupsOf_21 : decode cX8_groupsOf 21 = .ok (.goto 4, 3) := by decide +kernel
theorem dX8_groupsOf_24 : decode cX8_groupsOf 24 = .ok (.iconst 0, 1) := by decide +kernel
theorem dX8_groupsOf_25 : decode cX8_groupsOf 25 = .ok (.iadd, 1) := by decide +kernel
theorem dX8_groupsOf_26 : decode cX8_groupsOf 26 = .ok (.istore_n 2, 1) := by decide +kernel
theorem dX8_groupsOf_27 : decode cX8_groupsOf 27 = .ok (.iinc 3 1, 3) := by decide +kernel
theorem dX8_groupsOf_30 : decode cX8_groupsOf 30 = .ok (.goto (-26), 3) := by decide +kernel
theorem dX8_groupsOf_33 : decode cX8_groupsOf 33 = .ok (.iload_n 2, 1) := by decide +kernel
theorem dX8_groupsOf_34 : decode cX8_groupsOf 34 = .ok (.ireturn, 1) := by decide +kernel
set_option maxHeartbeats 4000000 in
set_option maxRecDepth 20000 in
theorem c_X8_groupsOf : ConI mX8_groupsOf (fun args N lay r h Q => ∃ (a : Nat) (d : Int), args = [.ref a, vI d] ∧ lay a = (10, 64) ∧ (-2147483648 ≤ d ∧ d < 2147483648) ∧ Q (sm (fun g => bI (hasB (h a) g d = true)) 16) N lay r h) := by
  refine ConI.of (by decide) (by rintro _ N lay r h Q ⟨a, d, rfl, hla, hd, hQ⟩; exact ⟨rfl, Nat.le_of_ble_eq_true rfl⟩) ?_
  rintro E _ N lay r h Q ⟨a, d, rfl, hla, hd, hQ⟩ hret
  show St E mX8_groupsOf 0 [some (.ref a), some (vI d), none, none] [] (0, 0) N lay r h
  have lp : ∀ (n_ : Nat) (i : Int) (s : Int), (16 - i).toNat = n_ → (0 ≤ i ∧ i ≤ 16) → (s = sm (fun g => bI (hasB (h a) g d = true)) i.toNat) → St E mX8_groupsOf 4 [some (.ref a), some (vI d), some (vI s), some (vI i)] [] (0, 0) N lay r h := by
    intro  n_
    induction n_ using Nat.strongRecOn with
    | ind n_ ih =>
      intro i s hn_ hi hs
      have e1 : sm (fun g => bI (hasB (h a) g d = true)) (i + 1).toNat = sm (fun g => bI (hasB (h a) g d = true)) i.toNat + (fun g => bI (hasB (h a) g d = true)) i := sm_z (by omega)
      dsimp only at e1
      refine r_iload_3 (pc := 4) dX8_groupsOf_4 ?_
      refine r_bipush (pc := 5) dX8_groupsOf_5 (by decide) ?_
      refine r_icmp_ge (pc := 7) (tgt := 33) dX8_groupsOf_7 (by decide) (by omega) (by omega) (fun c_7 => ?_) (fun c_7 => ?_)
      · refine r_iload_2 (pc := 33) dX8_groupsOf_33 ?_
        refine r_iret (pc := 34) hret dX8_groupsOf_34 rfl rfl rfl ?_
        have hi9 : i = 16 := by omega
        subst hi9
        rw [hs]
        exact hQ
      · refine r_iload_2 (pc := 10) dX8_groupsOf_10 ?_
        refine r_aload_0 (pc := 11) dX8_groupsOf_11 ?_
        refine r_iload_3 (pc := 12) dX8_groupsOf_12 ?_
        refine r_iload_1 (pc := 13) dX8_groupsOf_13 ?_
        refine k_SI3 (pc := 14) c_X8_has lk_X8_208 ⟨Nat.le_of_ble_eq_true rfl, Nat.le_of_ble_eq_true rfl⟩ ⟨rfl, rfl⟩ ⟨Nat.le_of_ble_eq_true rfl, Nat.le_of_ble_eq_true rfl⟩ dX8_groupsOf_14 (Nat.le_of_ble_eq_true rfl) ?_
        refine ⟨_, _, _, rfl, by assumption, by omega, by omega, ?_⟩
        refine r_ifeq_b (pc := 17) (tgt := 24) dX8_groupsOf_17 (by decide) (fun c_17 => ?_) (fun c_17 => ?_)
        · refine r_iconst (pc := 24) dX8_groupsOf_24 ?_
          refine r_iadd (pc := 25) dX8_groupsOf_25 ?_
          refine r_istore_2 (pc := 26) dX8_groupsOf_26 rfl ?_
          refine r_iinc_3 (pc := 27) dX8_groupsOf_27 rfl ?_
          refine r_goto (pc := 30) (tgt := 4) dX8_groupsOf_30 (by decide) ?_
          first
          | (refine ih _ (by omega) (i + 1) _ rfl (by omega) ?_; rw [e1, hs, bI_t c_17])
          | (refine ih _ (by omega) (i + 1) _ rfl (by omega) ?_; rw [e1, hs, bI_f c_17])
        · refine r_iconst (pc := 20) dX8_groupsOf_20 ?_
          refine r_goto (pc := 21) (tgt := 25) dX8_groupsOf_21 (by decide) ?_
          refine r_iadd (pc := 25) dX8_groupsOf_25 ?_
          refine r_istore_2 (pc := 26) dX8_groupsOf_26 rfl ?_
          refine r_iinc_3 (pc := 27) dX8_groupsOf_27 rfl ?_
          refine r_goto (pc := 30) (tgt := 4) dX8_groupsOf_30 (by decide) ?_
          first
          | (refine ih _ (by omega) (i + 1) _ rfl (by omega) ?_; rw [e1, hs, bI_t c_17])
          | (refine ih _ (by omega) (i + 1) _ rfl (by omega) ?_; rw [e1, hs, bI_f c_17])
  refine r_iconst (pc := 0) dX8_groupsOf_0 ?_
  refine r_istore_2 (pc := 1) dX8_groupsOf_1 rfl ?_
  refine r_iconst (pc := 2) dX8_groupsOf_2 ?_
  refine r_istore_3 (pc := 3) dX8_groupsOf_3 rfl ?_
  exact lp _ 0 0 rfl (by omega) rfl

theorem dX8_bitsIn_0 : decode cX8_bitsIn 0 = .ok (.iconst 0, 1) := by decide +kernel
theorem dX8_bitsIn_1 : decode cX8_bitsIn 1 = .ok (.istore_n 1, 1) := by decide +kernel
theorem dX8_bitsIn_2 : decode cX8_bitsIn 2 = .ok (.iconst 0, 1) := by decide +kernel
theorem dX8_bitsIn_3 : decode cX8_bitsIn 3 = .ok (.istore_n 2, 1) := by decide +kernel
theorem dX8_bitsIn_4 : decode cX8_bitsIn 4 = .ok (.iload_n 2, 1) := by decide +kernel
theorem dX8_bitsIn_5 : decode cX8_bitsIn 5 = .ok (.bipush 12, 2) := by decide +kernel
theorem dX8_bitsIn_7 : decode cX8_bitsIn 7 = .ok (.if_icmp .ge 17, 3) := by decide +kernel
theorem dX8_bitsIn_10 : decode cX8_bitsIn 10 = .ok (.iload_n 1, 1) := by decide +kernel
theorem dX8_bitsIn_11 : decode cX8_bitsIn 11 = .ok (.iload_n 0, 1) := by decide +kernel
theorem dX8_bitsIn_12 : decode cX8_bitsIn 12 = .ok (.iload_n 2, 1) := by decide +kernel
theorem dX8_bitsIn_13 : decode cX8_bitsIn 13 = .ok (.ishr, 1) := by decide +kernel
theorem dX8_bitsIn_14 : decode cX8_bitsIn 14 = .ok (.iconst 1, 1) := by decide +kernel
theorem dX8_bitsIn_15 : decode cX8_bitsIn 15 = .ok (.iand, 1) := by decide +kernel
theorem dX8_bitsIn_16 : decode cX8_bitsIn 16 = .ok (.iadd, 1) := by decide +kernel
theorem dX8_bitsIn_17 : decode cX8_bitsIn 17 = .ok (.istore_n 1, 1) := by decide +kernel
theorem dX8_bitsIn_18 : decode cX8_bitsIn 18 = .ok (.iinc 2 1, 3) := by decide +kernel
theorem dX8_bitsIn_21 : decode cX8_bitsIn 21 = .ok (.goto (-17), 3) := by decide +kernel
theorem dX8_bitsIn_24 : decode cX8_bitsIn 24 = .ok (.iload_n 1, 1) := by decide +kernel
theorem dX8_bitsIn_25 : decode cX8_bitsIn 25 = .ok (.ireturn, 1) := by decide +kernel
set_option maxHeartbeats 4000000 in
set_option maxRecDepth 20000 in
theorem c_X8_bitsIn : ConI mX8_bitsIn (fun args N lay r h Q => ∃ (x : Int), args = [vI x] ∧ Q (bts x) N lay r h) := by
  refine ConI.of (by decide) (by rintro _ N lay r h Q ⟨x, rfl, hQ⟩; exact ⟨rfl, Nat.le_of_ble_eq_true rfl⟩) ?_
  rintro E _ N lay r h Q ⟨x, rfl, hQ⟩ hret
  show St E mX8_bitsIn 0 [some (vI x), none, none] [] (0, 0) N lay r h
  have lp : ∀ (n_ : Nat) (i : Int) (s : Int), (12 - i).toNat = n_ → (0 ≤ i ∧ i ≤ 12) → (s = sm (fun k => iA (iSr x k) 1) i.toNat) → St E mX8_bitsIn 4 [some (vI x), some (vI s), some (vI i)] [] (0, 0) N lay r h := by
    intro  n_
    induction n_ using Nat.strongRecOn with
    | ind n_ ih =>
      intro i s hn_ hi hs
      have e1 : sm (fun k => iA (iSr x k) 1) (i + 1).toNat = sm (fun k => iA (iSr x k) 1) i.toNat + (fun k => iA (iSr x k) 1) i := sm_z (by omega)
      dsimp only at e1
      refine r_iload_2 (pc := 4) dX8_bitsIn_4 ?_
      refine r_bipush (pc := 5) dX8_bitsIn_5 (by decide) ?_
      refine r_icmp_ge (pc := 7) (tgt := 24) dX8_bitsIn_7 (by decide) (by omega) (by omega) (fun c_7 => ?_) (fun c_7 => ?_)
      · refine r_iload_1 (pc := 24) dX8_bitsIn_24 ?_
        refine r_iret (pc := 25) hret dX8_bitsIn_25 rfl rfl rfl ?_
        have hi9 : i = 12 := by omega
        subst hi9
        rw [hs]
        exact hQ
      · refine r_iload_1 (pc := 10) dX8_bitsIn_10 ?_
        refine r_iload_0 (pc := 11) dX8_bitsIn_11 ?_
        refine r_iload_2 (pc := 12) dX8_bitsIn_12 ?_
        refine r_ishr (pc := 13) dX8_bitsIn_13 (fun i_13 => ?_)
        refine r_iconst (pc := 14) dX8_bitsIn_14 ?_
        refine r_iand (pc := 15) dX8_bitsIn_15 (fun i_15 => ?_)
        refine r_iadd (pc := 16) dX8_bitsIn_16 ?_
        refine r_istore_1 (pc := 17) dX8_bitsIn_17 rfl ?_
        refine r_iinc_2 (pc := 18) dX8_bitsIn_18 rfl ?_
        refine r_goto (pc := 21) (tgt := 4) dX8_bitsIn_21 (by decide) ?_
        first
        | (refine ih _ (by omega) (i + 1) _ rfl (by omega) ?_; rw [e1, hs])
  refine r_iconst (pc := 0) dX8_bitsIn_0 ?_
  refine r_istore_1 (pc := 1) dX8_bitsIn_1 rfl ?_
  refine r_iconst (pc := 2) dX8_bitsIn_2 ?_
  refine r_istore_2 (pc := 3) dX8_bitsIn_3 rfl ?_
  exact lp _ 0 0 rfl (by omega) rfl

theorem dX8_loadOf_0 : decode cX8_loadOf 0 = .ok (.iconst 0, 1) := by decide +kernel
theorem dX8_loadOf_1 : decode cX8_loadOf 1 = .ok (.istore_n 2, 1) := by decide +kernel
theorem dX8_loadOf_2 : decode cX8_loadOf 2 = .ok (.iconst 0, 1) := by decide +kernel
theorem dX8_loadOf_3 : decode cX8_loadOf 3 = .ok (.istore_n 3, 1) := by decide +kernel
theorem dX8_loadOf_4 : decode cX8_loadOf 4 = .ok (.iload_n 3, 1) := by decide +kernel
theorem dX8_loadOf_5 : decode cX8_loadOf 5 = .ok (.bipush 16, 2) := by decide +kernel
theorem dX8_loadOf_7 : decode cX8_loadOf 7 = .ok (.if_icmp .ge 39, 3) := by decide +kernel
theorem dX8_loadOf_10 : decode cX8_loadOf 10 = .ok (.iload_n 2, 1) := by decide +kernel
theorem dX8_loadOf_11 : decode cX8_loadOf 11 = .ok (.aload_n 0, 1) := by decide +kernel
theorem dX8_loadOf_12 : decode cX8_loadOf 12 = .ok (.getfield 49, 3) := by decide +kernel
theorem dX8_loadOf_15 : decode cX8_loadOf 15 = .ok (.iload_n 3, 1) := by decide +kernel
theorem dX8_loadOf_16 : decode cX8_loadOf 16 = .ok (.iaload, 1) := by decide +kernel
theorem dX8_loadOf_17 : decode cX8_loadOf 17 = .ok (.iload_n 1, 1) := by decide +kernel
theorem dX8_loadOf_18 : decode cX8_loadOf 18 = .ok (.bipush 10, 2) := by decide +kernel
theorem dX8_loadOf_20 : decode cX8_loadOf 20 = .ok (.isub, 1) := by decide +kernel
theorem dX8_loadOf_21 : decode cX8_loadOf 21 = .ok (.ishr, 1) := by decide +kernel
theorem dX8_loadOf_22 : decode cX8_loadOf 22 = .ok (.iconst 1, 1) := by decide +kernel
theorem dX8_loadOf_23 : decode cX8_loadOf 23 = .ok (.iand, 1) := by decide +kernel
theorem dX8_loadOf_24 : decode cX8_loadOf 24 = .ok (.iconst 1, 1) := by decide +kernel
theorem dX8_loadOf_25 : decode cX8_loadOf 25 = .ok (.if_icmp .ne 12, 3) := by decide +kernel
theorem dX8_loadOf_28 : decode cX8_loadOf 28 = .ok (.aload_n 0, 1) := by decide +kernel
theorem dX8_loadOf_29 : decode cX8_loadOf 29 = .ok (.getfield 52, 3) := by decide +kernel
theorem dX8_loadOf_32 : decode cX8_loadOf 32 = .ok (.iload_n 3, 1) := by decide +kernel
theorem dX8_loadOf_33 : decode cX8_loadOf 33 = .ok (.iaload, 1) := by decide +kernel
theorem dX8_loadOf_34 : decode cX8_loadOf 34 = .ok (.goto 4, 3) := by decide +kernel
theorem dX8_loadOf_37 : decode cX8_loadOf 37 = .ok (.iconst 0, 1) := by decide +kernel
theorem dX8_loadOf_38 : decode cX8_loadOf 38 = .ok (.iadd, 1) := by decide +kernel
theorem dX8_loadOf_39 : decode cX8_loadOf 39 = .ok (.istore_n 2, 1) := by decide +kernel
theorem dX8_loadOf_40 : decode cX8_loadOf 40 = .ok (.iinc 3 1, 3) := by decide +kernel
theorem dX8_loadOf_43 : decode cX8_loadOf 43 = .ok (.goto (-39), 3) := by decide +kernel
theorem dX8_loadOf_46 : decode cX8_loadOf 46 = .ok (.iload_n 2, 1) := by decide +kernel
theorem dX8_loadOf_47 : decode cX8_loadOf 47 = .ok (.ireturn, 1) := by decide +kernel
set_option maxHeartbeats 4000000 in
set_option maxRecDepth 20000 in
theorem c_X8_loadOf : ConI mX8_loadOf (fun args N lay r h Q => ∃ (b : Nat) (d : Int), args = [.ref b, vI d] ∧ MdAt lay r b ∧ (10 ≤ d ∧ d < 22) ∧ Q (sm (fun g => if iA (iSr (h (b + 14) g) (d - 10)) 1 = 1 then h (b + 15) g else 0) 16) N lay r h) := by
  refine ConI.of (by decide) (by rintro _ N lay r h Q ⟨b, d, rfl, hM, hd, hQ⟩; exact ⟨rfl, Nat.le_of_ble_eq_true rfl⟩) ?_
  rintro E _ N lay r h Q ⟨b, d, rfl, hM, hd, hQ⟩ hret
  obtain ⟨ml0, ml1, ml2, ml3, ml4, ml5, ml6, ml7, ml8, ml9, ml10, ml11, ml12, ml13, ml14, ml15, ml16, ml17, ml18, ml19, ml20, mr1, mr2, mr3, mr4, mr5, mr6, mr7, mr8, mr9, mr10, mr11, mr12, mr13, mr14, mr15, mr16, mr17, mr18, mr19, mr20⟩ := id hM
  show St E mX8_loadOf 0 [some (.ref b), some (vI d), none, none] [] (0, 0) N lay r h
  have lp : ∀ (n_ : Nat) (i : Int) (s : Int), (16 - i).toNat = n_ → (0 ≤ i ∧ i ≤ 16) → (s = sm (fun g => if iA (iSr (h (b + 14) g) (d - 10)) 1 = 1 then h (b + 15) g else 0) i.toNat) → St E mX8_loadOf 4 [some (.ref b), some (vI d), some (vI s), some (vI i)] [] (0, 0) N lay r h := by
    intro  n_
    induction n_ using Nat.strongRecOn with
    | ind n_ ih =>
      intro i s hn_ hi hs
      have e1 : sm (fun g => if iA (iSr (h (b + 14) g) (d - 10)) 1 = 1 then h (b + 15) g else 0) (i + 1).toNat = sm (fun g => if iA (iSr (h (b + 14) g) (d - 10)) 1 = 1 then h (b + 15) g else 0) i.toNat + (fun g => if iA (iSr (h (b + 14) g) (d - 10)) 1 = 1 then h (b + 15) g else 0) i := sm_z (by omega)
      dsimp only at e1
      refine r_iload_3 (pc := 4) dX8_loadOf_4 ?_
      refine r_bipush (pc := 5) dX8_loadOf_5 (by decide) ?_
      refine r_icmp_ge (pc := 7) (tgt := 46) dX8_loadOf_7 (by decide) (by omega) (by omega) (fun c_7 => ?_) (fun c_7 => ?_)
      · refine r_iload_2 (pc := 46) dX8_loadOf_46 ?_
        refine r_iret (pc := 47) hret dX8_loadOf_47 rfl rfl rfl ?_
        have hi9 : i = 16 := by omega
        subst hi9
        rw [hs]
        exact hQ
      · refine r_iload_2 (pc := 10) dX8_loadOf_10 ?_
        refine r_aload_0 (pc := 11) dX8_loadOf_11 ?_
        refine gf_X8_49 (pc := 12) rfl (by assumption) dX8_loadOf_12 (by assumption) ?_
        refine r_iload_3 (pc := 15) dX8_loadOf_15 ?_
        refine r_ialdE (pc := 16) (by assumption) (by first | assumption | exact rfl) dX8_loadOf_16 (by omega) (by omega) (fun i_16 => ?_)
        refine r_iload_1 (pc := 17) dX8_loadOf_17 ?_
        refine r_bipush (pc := 18) dX8_loadOf_18 (by decide) ?_
        refine r_isub (pc := 20) dX8_loadOf_20 ?_
        refine r_ishr (pc := 21) dX8_loadOf_21 (fun i_21 => ?_)
        refine r_iconst (pc := 22) dX8_loadOf_22 ?_
        refine r_iand (pc := 23) dX8_loadOf_23 (fun i_23 => ?_)
        refine r_iconst (pc := 24) dX8_loadOf_24 ?_
        refine r_icmp_ne (pc := 25) (tgt := 37) dX8_loadOf_25 (by decide) (by omega) (by omega) (fun c_25 => ?_) (fun c_25 => ?_)
        · refine r_iconst (pc := 37) dX8_loadOf_37 ?_
          refine r_iadd (pc := 38) dX8_loadOf_38 ?_
          refine r_istore_2 (pc := 39) dX8_loadOf_39 rfl ?_
          refine r_iinc_3 (pc := 40) dX8_loadOf_40 rfl ?_
          refine r_goto (pc := 43) (tgt := 4) dX8_loadOf_43 (by decide) ?_
          first
          | (refine ih _ (by omega) (i + 1) _ rfl (by omega) ?_; rw [e1, hs, if_pos c_25])
          | (refine ih _ (by omega) (i + 1) _ rfl (by omega) ?_; rw [e1, hs, if_neg c_25])
        · refine r_aload_0 (pc := 28) dX8_loadOf_28 ?_
          refine gf_X8_52 (pc := 29) rfl (by assumption) dX8_loadOf_29 (by assumption) ?_
          refine r_iload_3 (pc := 32) dX8_loadOf_32 ?_
          refine r_ialdE (pc := 33) (by assumption) (by first | assumption | exact rfl) dX8_loadOf_33 (by omega) (by omega) (fun i_33 => ?_)
          refine r_goto (pc := 34) (tgt := 38) dX8_loadOf_34 (by decide) ?_
          refine r_iadd (pc := 38) dX8_loadOf_38 ?_
          refine r_istore_2 (pc := 39) dX8_loadOf_39 rfl ?_
          refine r_iinc_3 (pc := 40) dX8_loadOf_40 rfl ?_
          refine r_goto (pc := 43) (tgt := 4) dX8_loadOf_43 (by decide) ?_
          first
          | (refine ih _ (by omega) (i + 1) _ rfl (by omega) ?_; rw [e1, hs, if_pos c_25])
          | (refine ih _ (by omega) (i + 1) _ rfl (by omega) ?_; rw [e1, hs, if_neg c_25])
  refine r_iconst (pc := 0) dX8_loadOf_0 ?_
  refine r_istore_2 (pc := 1) dX8_loadOf_1 rfl ?_
  refine r_iconst (pc := 2) dX8_loadOf_2 ?_
  refine r_istore_3 (pc := 3) dX8_loadOf_3 rfl ?_
  exact lp _ 0 0 rfl (by omega) rfl

theorem dX8_lost_0 : decode cX8_lost 0 = .ok (.iconst 0, 1) := by decide +kernel
theorem dX8_lost_1 : decode cX8_lost 1 = .ok (.istore_n 1, 1) := by decide +kernel
theorem dX8_lost_2 : decode cX8_lost 2 = .ok (.iconst 0, 1) := by decide +kernel
theorem dX8_lost_3 : decode cX8_lost 3 = .ok (.istore_n 2, 1) := by decide +kernel
theorem dX8_lost_4 : decode cX8_lost 4 = .ok (.iload_n 2, 1) := by decide +kernel
theorem dX8_lost_5 : decode cX8_lost 5 = .ok (.bipush 16, 2) := by decide +kernel
theorem dX8_lost_7 : decode cX8_lost 7 = .ok (.if_icmp .ge 26, 3) := by decide +kernel
theorem dX8_lost_10 : decode cX8_lost 10 = .ok (.iload_n 1, 1) := by decide +kernel
theorem dX8_lost_11 : decode cX8_lost 11 = .ok (.aload_n 0, 1) := by decide +kernel
theorem dX8_lost_12 : decode cX8_lost 12 = .ok (.getfield 49, 3) := by decide +kernel
theorem dX8_lost_15 : decode cX8_lost 15 = .ok (.iload_n 2, 1) := by decide +kernel
theorem dX8_lost_16 : decode cX8_lost 16 = .ok (.iaload, 1) := by decide +kernel
theorem dX8_lost_17 : decode cX8_lost 17 = .ok (.ifCond .ne 7, 3) := by decide +kernel
theorem dX8_lost_20 : decode cX8_lost 20 = .ok (.iconst 1, 1) := by decide +kernel
theorem dX8_lost_21 : decode cX8_lost 21 = .ok (.goto 4, 3) := by decide +kernel
theorem dX8_lost_24 : decode cX8_lost 24 = .ok (.iconst 0, 1) := by decide +kernel
theorem dX8_lost_25 : decode cX8_lost 25 = .ok (.iadd, 1) := by decide +kernel
theorem dX8_lost_26 : decode cX8_lost 26 = .ok (.istore_n 1, 1) := by decide +kernel
theorem dX8_lost_27 : decode cX8_lost 27 = .ok (.iinc 2 1, 3) := by decide +kernel
theorem dX8_lost_30 : decode cX8_lost 30 = .ok (.goto (-26), 3) := by decide +kernel
theorem dX8_lost_33 : decode cX8_lost 33 = .ok (.iload_n 1, 1) := by decide +kernel
theorem dX8_lost_34 : decode cX8_lost 34 = .ok (.ireturn, 1) := by decide +kernel
set_option maxHeartbeats 4000000 in
set_option maxRecDepth 20000 in
theorem c_X8_lost : ConI mX8_lost (fun args N lay r h Q => ∃ (b : Nat), args = [.ref b] ∧ MdAt lay r b ∧ Q (sm (fun g => bI (h (b + 14) g = 0)) 16) N lay r h) := by
  refine ConI.of (by decide) (by rintro _ N lay r h Q ⟨b, rfl, hM, hQ⟩; exact ⟨rfl, Nat.le_of_ble_eq_true rfl⟩) ?_
  rintro E _ N lay r h Q ⟨b, rfl, hM, hQ⟩ hret
  obtain ⟨ml0, ml1, ml2, ml3, ml4, ml5, ml6, ml7, ml8, ml9, ml10, ml11, ml12, ml13, ml14, ml15, ml16, ml17, ml18, ml19, ml20, mr1, mr2, mr3, mr4, mr5, mr6, mr7, mr8, mr9, mr10, mr11, mr12, mr13, mr14, mr15, mr16, mr17, mr18, mr19, mr20⟩ := id hM
  show St E mX8_lost 0 [some (.ref b), none, none] [] (0, 0) N lay r h
  have lp : ∀ (n_ : Nat) (i : Int) (s : Int), (16 - i).toNat = n_ → (0 ≤ i ∧ i ≤ 16) → (s = sm (fun g => bI (h (b + 14) g = 0)) i.toNat) → St E mX8_lost 4 [some (.ref b), some (vI s), some (vI i)] [] (0, 0) N lay r h := by
    intro  n_
    induction n_ using Nat.strongRecOn with
    | ind n_ ih =>
      intro i s hn_ hi hs
      have e1 : sm (fun g => bI (h (b + 14) g = 0)) (i + 1).toNat = sm (fun g => bI (h (b + 14) g = 0)) i.toNat + (fun g => bI (h (b + 14) g = 0)) i := sm_z (by omega)
      dsimp only at e1
      refine r_iload_2 (pc := 4) dX8_lost_4 ?_
      refine r_bipush (pc := 5) dX8_lost_5 (by decide) ?_
      refine r_icmp_ge (pc := 7) (tgt := 33) dX8_lost_7 (by decide) (by omega) (by omega) (fun c_7 => ?_) (fun c_7 => ?_)
      · refine r_iload_1 (pc := 33) dX8_lost_33 ?_
        refine r_iret (pc := 34) hret dX8_lost_34 rfl rfl rfl ?_
        have hi9 : i = 16 := by omega
        subst hi9
        rw [hs]
        exact hQ
      · refine r_iload_1 (pc := 10) dX8_lost_10 ?_
        refine r_aload_0 (pc := 11) dX8_lost_11 ?_
        refine gf_X8_49 (pc := 12) rfl (by assumption) dX8_lost_12 (by assumption) ?_
        refine r_iload_2 (pc := 15) dX8_lost_15 ?_
        refine r_ialdE (pc := 16) (by assumption) (by first | assumption | exact rfl) dX8_lost_16 (by omega) (by omega) (fun i_16 => ?_)
        refine r_if_ne (pc := 17) (tgt := 24) dX8_lost_17 (by decide) (by omega) (fun c_17 => ?_) (fun c_17 => ?_)
        · refine r_iconst (pc := 24) dX8_lost_24 ?_
          refine r_iadd (pc := 25) dX8_lost_25 ?_
          refine r_istore_1 (pc := 26) dX8_lost_26 rfl ?_
          refine r_iinc_2 (pc := 27) dX8_lost_27 rfl ?_
          refine r_goto (pc := 30) (tgt := 4) dX8_lost_30 (by decide) ?_
          first
          | (refine ih _ (by omega) (i + 1) _ rfl (by omega) ?_; rw [e1, hs, bI_t c_17])
          | (refine ih _ (by omega) (i + 1) _ rfl (by omega) ?_; rw [e1, hs, bI_f c_17])
        · refine r_iconst (pc := 20) dX8_lost_20 ?_
          refine r_goto (pc := 21) (tgt := 25) dX8_lost_21 (by decide) ?_
          refine r_iadd (pc := 25) dX8_lost_25 ?_
          refine r_istore_1 (pc := 26) dX8_lost_26 rfl ?_
          refine r_iinc_2 (pc := 27) dX8_lost_27 rfl ?_
          refine r_goto (pc := 30) (tgt := 4) dX8_lost_30 (by decide) ?_
          first
          | (refine ih _ (by omega) (i + 1) _ rfl (by omega) ?_; rw [e1, hs, bI_t c_17])
          | (refine ih _ (by omega) (i + 1) _ rfl (by omega) ?_; rw [e1, hs, bI_f c_17])
  refine r_iconst (pc := 0) dX8_lost_0 ?_
  refine r_istore_1 (pc := 1) dX8_lost_1 rfl ?_
  refine r_iconst (pc := 2) dX8_lost_2 ?_
  refine r_istore_2 (pc := 3) dX8_lost_3 rfl ?_
  exact lp _ 0 0 rfl (by omega) rfl

theorem dX8_known_0 : decode cX8_known 0 = .ok (.iconst 0, 1) := by decide +kernel
theorem dX8_known_1 : decode cX8_known 1 = .ok (.istore_n 1, 1) := by decide +kernel
theorem dX8_known_2 : decode cX8_known 2 = .ok (.iconst 0, 1) := by decide +kernel
theorem dX8_known_3 : decode cX8_known 3 = .ok (.istore_n 2, 1) := by decide +kernel
theorem dX8_known_4 : decode cX8_known 4 = .ok (.iload_n 2, 1) := by decide +kernel
theorem dX8_known_5 : decode cX8_known 5 = .ok (.iconst 5, 1) := by decide +kernel
theorem dX8_known_6 : decode cX8_known 6 = .ok (.if_icmp .ge 26, 3) := by decide +kernel
theorem dX8_known_9 : decode cX8_known 9 = .ok (.iload_n 1, 1) := by decide +kernel
theorem dX8_known_10 : decode cX8_known 10 = .ok (.aload_n 0, 1) := by decide +kernel
theorem dX8_known_11 : decode cX8_known 11 = .ok (.getfield 19, 3) := by decide +kernel
theorem dX8_known_14 : decode cX8_known 14 = .ok (.iload_n 2, 1) := by decide +kernel
theorem dX8_known_15 : decode cX8_known 15 = .ok (.iaload, 1) := by decide +kernel
theorem dX8_known_16 : decode cX8_known 16 = .ok (.ifCond .le 7, 3) := by decide +kernel
theorem dX8_known_19 : decode cX8_known 19 = .ok (.iconst 1, 1) := by decide +kernel
theorem dX8_known_20 : decode cX8_known 20 = .ok (.goto 4, 3) := by decide +kernel
theorem dX8_known_23 : decode cX8_known 23 = .ok (.iconst 0, 1) := by decide +kernel
theorem dX8_known_24 : decode cX8_known 24 = .ok (.iadd, 1) := by decide +kernel
theorem dX8_known_25 : decode cX8_known 25 = .ok (.istore_n 1, 1) := by decide +kernel
theorem dX8_known_26 : decode cX8_known 26 = .ok (.iinc 2 1, 3) := by decide +kernel
theorem dX8_known_29 : decode cX8_known 29 = .ok (.goto (-25), 3) := by decide +kernel
theorem dX8_known_32 : decode cX8_known 32 = .ok (.iload_n 1, 1) := by decide +kernel
theorem dX8_known_33 : decode cX8_known 33 = .ok (.ireturn, 1) := by decide +kernel
set_option maxHeartbeats 4000000 in
set_option maxRecDepth 20000 in
theorem c_X8_known : ConI mX8_known (fun args N lay r h Q => ∃ (b : Nat), args = [.ref b] ∧ MdAt lay r b ∧ Q (sm (fun k => bI (0 < h (b + 4) k)) 5) N lay r h) := by
  refine ConI.of (by decide) (by rintro _ N lay r h Q ⟨b, rfl, hM, hQ⟩; exact ⟨rfl, Nat.le_of_ble_eq_true rfl⟩) ?_
  rintro E _ N lay r h Q ⟨b, rfl, hM, hQ⟩ hret
  obtain ⟨ml0, ml1, ml2, ml3, ml4, ml5, ml6, ml7, ml8, ml9, ml10, ml11, ml12, ml13, ml14, ml15, ml16, ml17, ml18, ml19, ml20, mr1, mr2, mr3, mr4, mr5, mr6, mr7, mr8, mr9, mr10, mr11, mr12, mr13, mr14, mr15, mr16, mr17, mr18, mr19, mr20⟩ := id hM
  show St E mX8_known 0 [some (.ref b), none, none] [] (0, 0) N lay r h
  have lp : ∀ (n_ : Nat) (i : Int) (s : Int), (5 - i).toNat = n_ → (0 ≤ i ∧ i ≤ 5) → (s = sm (fun k => bI (0 < h (b + 4) k)) i.toNat) → St E mX8_known 4 [some (.ref b), some (vI s), some (vI i)] [] (0, 0) N lay r h := by
    intro  n_
    induction n_ using Nat.strongRecOn with
    | ind n_ ih =>
      intro i s hn_ hi hs
      have e1 : sm (fun k => bI (0 < h (b + 4) k)) (i + 1).toNat = sm (fun k => bI (0 < h (b + 4) k)) i.toNat + (fun k => bI (0 < h (b + 4) k)) i := sm_z (by omega)
      dsimp only at e1
      refine r_iload_2 (pc := 4) dX8_known_4 ?_
      refine r_iconst (pc := 5) dX8_known_5 ?_
      refine r_icmp_ge (pc := 6) (tgt := 32) dX8_known_6 (by decide) (by omega) (by omega) (fun c_6 => ?_) (fun c_6 => ?_)
      · refine r_iload_1 (pc := 32) dX8_known_32 ?_
        refine r_iret (pc := 33) hret dX8_known_33 rfl rfl rfl ?_
        have hi9 : i = 5 := by omega
        subst hi9
        rw [hs]
        exact hQ
      · refine r_iload_1 (pc := 9) dX8_known_9 ?_
        refine r_aload_0 (pc := 10) dX8_known_10 ?_
        refine gf_X8_19 (pc := 11) rfl (by assumption) dX8_known_11 (by assumption) ?_
        refine r_iload_2 (pc := 14) dX8_known_14 ?_
        refine r_ialdE (pc := 15) (by assumption) (by first | assumption | exact rfl) dX8_known_15 (by omega) (by omega) (fun i_15 => ?_)
        refine r_if_le (pc := 16) (tgt := 23) dX8_known_16 (by decide) (by omega) (fun c_16 => ?_) (fun c_16 => ?_)
        · refine r_iconst (pc := 23) dX8_known_23 ?_
          refine r_iadd (pc := 24) dX8_known_24 ?_
          refine r_istore_1 (pc := 25) dX8_known_25 rfl ?_
          refine r_iinc_2 (pc := 26) dX8_known_26 rfl ?_
          refine r_goto (pc := 29) (tgt := 4) dX8_known_29 (by decide) ?_
          first
          | (refine ih _ (by omega) (i + 1) _ rfl (by omega) ?_; rw [e1, hs, bI_t c_16])
          | (refine ih _ (by omega) (i + 1) _ rfl (by omega) ?_; rw [e1, hs, bI_f (by omega)])
        · refine r_iconst (pc := 19) dX8_known_19 ?_
          refine r_goto (pc := 20) (tgt := 24) dX8_known_20 (by decide) ?_
          refine r_iadd (pc := 24) dX8_known_24 ?_
          refine r_istore_1 (pc := 25) dX8_known_25 rfl ?_
          refine r_iinc_2 (pc := 26) dX8_known_26 rfl ?_
          refine r_goto (pc := 29) (tgt := 4) dX8_known_29 (by decide) ?_
          first
          | (refine ih _ (by omega) (i + 1) _ rfl (by omega) ?_; rw [e1, hs, bI_t c_16])
          | (refine ih _ (by omega) (i + 1) _ rfl (by omega) ?_; rw [e1, hs, bI_f (by omega)])
  refine r_iconst (pc := 0) dX8_known_0 ?_
  refine r_istore_1 (pc := 1) dX8_known_1 rfl ?_
  refine r_iconst (pc := 2) dX8_known_2 ?_
  refine r_istore_2 (pc := 3) dX8_known_3 rfl ?_
  exact lp _ 0 0 rfl (by omega) rfl

theorem dX8_full_0 : decode cX8_full 0 = .ok (.iconst 0, 1) := by decide +kernel
theorem dX8_full_1 : decode cX8_full 1 = .ok (.istore_n 1, 1) := by decide +kernel
theorem dX8_full_2 : decode cX8_full 2 = .ok (.bipush 10, 2) := by decide +kernel
theorem dX8_full_4 : decode cX8_full 4 = .ok (.istore_n 2, 1) := by decide +kernel
theorem dX8_full_5 : decode cX8_full 5 = .ok (.iload_n 2, 1) := by decide +kernel
theorem dX8_full_6 : decode cX8_full 6 = .ok (.bipush 10, 2) := by decide +kernel
theorem dX8_full_8 : decode cX8_full 8 = .ok (.aload_n 0, 1) := by decide +kernel
theorem dX8_full_9 : decode cX8_full 9 = .ok (.getfield 13, 3) := by decide +kernel
theorem dX8_full_12 : decode cX8_full 12 = .ok (.sipush 130, 3) := by decide +kernel
theorem dX8_full_15 : decode cX8_full 15 = .ok (.iaload, 1) := by decide +kernel
theorem dX8_full_16 : decode cX8_full 16 = .ok (.iadd, 1) := by decide +kernel
theorem dX8_full_17 : decode cX8_full 17 = .ok (.if_icmp .ge 21, 3) := by decide +kernel
theorem dX8_full_20 : decode cX8_full 20 = .ok (.iload_n 1, 1) := by decide +kernel
theorem dX8_full_21 : decode cX8_full 21 = .ok (.aload_n 0, 1) := by decide +kernel
theorem dX8_full_22 : decode cX8_full 22 = .ok (.getfield 13, 3) := by decide +kernel
theorem dX8_full_25 : decode cX8_full 25 = .ok (.bipush 88, 2) := by decide +kernel
theorem dX8_full_27 : decode cX8_full 27 = .ok (.iload_n 2, 1) := by decide +kernel
theorem dX8_full_28 : decode cX8_full 28 = .ok (.iadd, 1) := by decide +kernel
theorem dX8_full_29 : decode cX8_full 29 = .ok (.iaload, 1) := by decide +kernel
theorem dX8_full_30 : decode cX8_full 30 = .ok (.iadd, 1) := by decide +kernel
theorem dX8_full_31 : decode cX8_full 31 = .ok (.istore_n 1, 1) := by decide +kernel
theorem dX8_full_32 : decode cX8_full 32 = .ok (.iinc 2 1, 3) := by decide +kernel
theorem dX8_full_35 : decode cX8_full 35 = .ok (.goto (-30), 3) := by decide +kernel
theorem dX8_full_38 : decode cX8_full 38 = .ok (.iload_n 1, 1) := by decide +kernel
theorem dX8_full_39 : decode cX8_full 39 = .ok (.ireturn, 1) := by decide +kernel
set_option maxHeartbeats 4000000 in
set_option maxRecDepth 20000 in
theorem c_X8_full : ConI mX8_full (fun args N lay r h Q => ∃ (b : Nat) (mp : Int → Int), args = [.ref b] ∧ MdAt lay r b ∧ h (b + 2) = mp ∧ (0 ≤ mp 130 ∧ mp 130 ≤ 12) ∧ Q (sm (fun k => mp (88 + (10 + k))) (mp 130).toNat) N lay r h) := by
  refine ConI.of (by decide) (by rintro _ N lay r h Q ⟨b, mp, rfl, hM, hmp, h13, hQ⟩; exact ⟨rfl, Nat.le_of_ble_eq_true rfl⟩) ?_
  rintro E _ N lay r h Q ⟨b, mp, rfl, hM, hmp, h13, hQ⟩ hret
  obtain ⟨ml0, ml1, ml2, ml3, ml4, ml5, ml6, ml7, ml8, ml9, ml10, ml11, ml12, ml13, ml14, ml15, ml16, ml17, ml18, ml19, ml20, mr1, mr2, mr3, mr4, mr5, mr6, mr7, mr8, mr9, mr10, mr11, mr12, mr13, mr14, mr15, mr16, mr17, mr18, mr19, mr20⟩ := id hM
  show St E mX8_full 0 [some (.ref b), none, none] [] (0, 0) N lay r h
  have lp : ∀ (n_ : Nat) (i : Int) (s : Int), ((10 + mp 130) - i).toNat = n_ → (10 ≤ i ∧ i ≤ (10 + mp 130)) → (s = sm (fun k => mp (88 + (10 + k))) (i - 10).toNat) → St E mX8_full 5 [some (.ref b), some (vI s), some (vI i)] [] (0, 0) N lay r h := by
    intro  n_
    induction n_ using Nat.strongRecOn with
    | ind n_ ih =>
      intro i s hn_ hi hs
      have e1 : sm (fun k => mp (88 + (10 + k))) ((i - 10) + 1).toNat = sm (fun k => mp (88 + (10 + k))) (i - 10).toNat + (fun k => mp (88 + (10 + k))) (i - 10) := sm_z (by omega)
      rw [show (i - 10 + 1) = (i + 1 - 10) by omega] at e1
      dsimp only at e1
      refine r_iload_2 (pc := 5) dX8_full_5 ?_
      refine r_bipush (pc := 6) dX8_full_6 (by decide) ?_
      refine r_aload_0 (pc := 8) dX8_full_8 ?_
      refine gf_X8_13 (pc := 9) rfl (by assumption) dX8_full_9 (by assumption) ?_
      refine r_sipush (pc := 12) dX8_full_12 (by decide) ?_
      refine r_ialdE (pc := 15) (by assumption) (by first | assumption | exact rfl) dX8_full_15 (by omega) (by omega) (fun i_15 => ?_)
      refine r_iadd (pc := 16) dX8_full_16 ?_
      refine r_icmp_ge (pc := 17) (tgt := 38) dX8_full_17 (by decide) (by omega) (by omega) (fun c_17 => ?_) (fun c_17 => ?_)
      · refine r_iload_1 (pc := 38) dX8_full_38 ?_
        refine r_iret (pc := 39) hret dX8_full_39 rfl rfl rfl ?_
        have hi9 : i = 10 + mp 130 := by omega
        rw [hs, hi9, show 10 + mp 130 - 10 = mp 130 by omega]
        exact hQ
      · refine r_iload_1 (pc := 20) dX8_full_20 ?_
        refine r_aload_0 (pc := 21) dX8_full_21 ?_
        refine gf_X8_13 (pc := 22) rfl (by assumption) dX8_full_22 (by assumption) ?_
        refine r_bipush (pc := 25) dX8_full_25 (by decide) ?_
        refine r_iload_2 (pc := 27) dX8_full_27 ?_
        refine r_iadd (pc := 28) dX8_full_28 ?_
        refine r_ialdE (pc := 29) (by assumption) (by first | assumption | exact rfl) dX8_full_29 (by omega) (by omega) (fun i_29 => ?_)
        refine r_iadd (pc := 30) dX8_full_30 ?_
        refine r_istore_1 (pc := 31) dX8_full_31 rfl ?_
        refine r_iinc_2 (pc := 32) dX8_full_32 rfl ?_
        refine r_goto (pc := 35) (tgt := 5) dX8_full_35 (by decide) ?_
        first
        | (refine ih _ (by omega) (i + 1) _ rfl (by omega) ?_; rw [e1, hs, show 10 + (i - 10) = i by omega])
  refine r_iconst (pc := 0) dX8_full_0 ?_
  refine r_istore_1 (pc := 1) dX8_full_1 rfl ?_
  refine r_bipush (pc := 2) dX8_full_2 (by decide) ?_
  refine r_istore_2 (pc := 4) dX8_full_4 rfl ?_
  exact lp _ 10 0 rfl (by omega) rfl

