/-! THE REFERENCE: data: which group is copied, a tick, a failure -/
theorem iA_1 (x : Int) : 0 ≤ iA x 1 ∧ iA x 1 ≤ 1 := by
  unfold iA
  rw [pk_and (Int32.ofInt x) (m := Int32.ofInt 1) 1 rfl]
  rw [nI_toInt (by have := Nat.mod_lt (Int32.ofInt x).toBitVec.toNat (show 0 < 2 ^ 1 by decide); omega)]
  have := Nat.mod_lt (Int32.ofInt x).toBitVec.toNat (show 0 < 2 ^ 1 by decide)
  omega
theorem bts_r (x : Int) : 0 ≤ bts x ∧ bts x ≤ 12 := by
  have := sm_r (f := fun k => iA (iSr x k) 1) (c := 1) (n := 12) (fun k _ => iA_1 _)
  unfold bts
  omega
def wan (f : Int → Int) (ux : Int) (ho : Int → Int) (g : Int) : Bool := decide (iA (ho g) ux ≠ 0 ∧ iA (iA (pb f g) ux) (iX (ho g) (-1)) ≠ 0)
theorem wan_iff {f ho : Int → Int} {ux g : Int} : wan f ux ho g = true ↔ iA (ho g) ux ≠ 0 ∧ iA (iA (pb f g) ux) (iX (ho g) (-1)) ≠ 0 := by
  unfold wan
  rw [decide_eq_true_iff]
def prs (f : Int → Int) (ux : Int) (ho sz : Int → Int) : Nat → Int
  | 0 => -4
  | k + 1 => if wan f ux ho k = true ∧ (prs f ux ho sz k < 0 ∨ bts (iA (ho k) ux) < bts (iA (ho (prs f ux ho sz k)) ux) ∨ (bts (iA (ho k) ux) = bts (iA (ho (prs f ux ho sz k)) ux) ∧ sz (prs f ux ho sz k) < sz k)) then k else prs f ux ho sz k
theorem prs_or (f : Int → Int) (ux : Int) (ho sz : Int → Int) : ∀ k : Nat, prs f ux ho sz k = -4 ∨ (0 ≤ prs f ux ho sz k ∧ prs f ux ho sz k < k ∧ wan f ux ho (prs f ux ho sz k) = true)
  | 0 => Or.inl rfl
  | k + 1 => by
    simp only [prs]
    split
    · rename_i q
      exact Or.inr ⟨by omega, by omega, q.1⟩
    · rcases prs_or f ux ho sz k with q | q
      · exact Or.inl q
      · exact Or.inr ⟨q.1, by omega, q.2.2⟩
theorem prs_s (f : Int → Int) (ux : Int) (ho sz : Int → Int) (k : Nat) : prs f ux ho sz (k + 1) = if wan f ux ho k = true ∧ (prs f ux ho sz k < 0 ∨ bts (iA (ho k) ux) < bts (iA (ho (prs f ux ho sz k)) ux) ∨ (bts (iA (ho k) ux) = bts (iA (ho (prs f ux ho sz k)) ux) ∧ sz (prs f ux ho sz k) < sz k)) then (k : Int) else prs f ux ho sz k := rfl
/-- the first copy of a group of which p holds -/
def fst4 (f : Int → Int) (g : Int) (p : Int → Bool) : Nat → Int
  | 0 => -4
  | k + 1 => if fst4 f g p k < 0 ∧ 0 ≤ f (4 * g + k) ∧ p (f (4 * g + k)) = true then f (4 * g + k) else fst4 f g p k
def mP (ux hg d : Int) : Bool := decide (iA (iSr ux (d - 10)) 1 = 1 ∧ iA (iSr hg (d - 10)) 1 = 0)
theorem mP_iff {ux hg d : Int} : mP ux hg d = true ↔ iA (iSr ux (d - 10)) 1 = 1 ∧ iA (iSr hg (d - 10)) 1 = 0 := by
  unfold mP
  rw [decide_eq_true_iff]
theorem fst4_s (f : Int → Int) (g : Int) (p : Int → Bool) (k : Nat) : fst4 f g p (k + 1) = if fst4 f g p k < 0 ∧ 0 ≤ f (4 * g + k) ∧ p (f (4 * g + k)) = true then f (4 * g + k) else fst4 f g p k := rfl
theorem fst4_st (f : Int → Int) (g : Int) (p : Int → Bool) (k : Nat) (h : 0 ≤ fst4 f g p k) : ∀ j, fst4 f g p (k + j) = fst4 f g p k
  | 0 => rfl
  | j + 1 => by
    rw [← Nat.add_assoc, fst4_s, if_neg (fun z => by have := z.1; rw [fst4_st f g p k h j] at this; omega)]
    exact fst4_st f g p k h j
def cpy (f : Int → Int) (ux : Int) (ho : Int → Int) (g : Int) : Int → Int := if fst4 f g (mP ux (ho g)) 4 < 0 then ho else up ho g (iO (ho g) (iSl 1 (fst4 f g (mP ux (ho g)) 4 - 10)))
def tkk (f : Int → Int) (ux : Int) (sz ho : Int → Int) : Nat → (Int → Int) × Int
  | 0 => (ho, 0)
  | i + 1 => if prs f ux (tkk f ux sz ho i).1 sz 16 < 0 then tkk f ux sz ho i else (cpy f ux (tkk f ux sz ho i).1 (prs f ux (tkk f ux sz ho i).1 sz 16), (tkk f ux sz ho i).2 + 1)
theorem tkk_st (f : Int → Int) (ux : Int) (sz ho : Int → Int) (k : Nat) (h : prs f ux (tkk f ux sz ho k).1 sz 16 < 0) : ∀ j, tkk f ux sz ho (k + j) = tkk f ux sz ho k
  | 0 => rfl
  | j + 1 => by
    have ih := tkk_st f ux sz ho k h j
    rw [← Nat.add_assoc]
    simp only [tkk]
    rw [ih, if_pos h]
def drp (f : Int → Int) (ux : Int) (ho : Int → Int) (k : Int) : Int → Int := fun q => if 0 ≤ q ∧ q < k ∧ iA (pb f q) (iX (ho q) (-1)) = 0 ∧ iA (pb f q) ux ≠ 0 then pb f q else ho q
def tix (f : Int → Int) (ux : Int) (sz ho : Int → Int) (m : Nat) : (Int → Int) × Int := (drp f ux (tkk f ux sz ho m).1 16, (tkk f ux sz ho m).2)
def flr (ho : Int → Int) (d k : Int) : Int → Int := fun q => if 0 ≤ q ∧ q < k then iA (ho q) (iX (iSl 1 (d - 10)) (-1)) else ho q
theorem dX8_isWanting_0 : decode cX8_isWanting 0 = .ok (.aload_n 0, 1) := by decide +kernel
theorem dX8_isWanting_1 : decode cX8_isWanting 1 = .ok (.getfield 49, 3) := by decide +kernel
theorem dX8_isWanting_4 : decode cX8_isWanting 4 = .ok (.iload_n 1, 1) := by decide +kernel
theorem dX8_isWanting_5 : decode cX8_isWanting 5 = .ok (.iaload, 1) := by decide +kernel
theorem dX8_isWanting_6 : decode cX8_isWanting 6 = .ok (.aload_n 0, 1) := by decide +kernel
theorem dX8_isWanting_7 : decode cX8_isWanting 7 = .ok (.getfield 125, 3) := by decide +kernel
theorem dX8_isWanting_10 : decode cX8_isWanting 10 = .ok (.iand, 1) := by decide +kernel
theorem dX8_isWanting_11 : decode cX8_isWanting 11 = .ok (.ifCond .eq 29, 3) := by decide +kernel
theorem dX8_isWanting_14 : decode cX8_isWanting 14 = .ok (.aload_n 0, 1) := by decide +kernel
theorem dX8_isWanting_15 : decode cX8_isWanting 15 = .ok (.iload_n 1, 1) := by decide +kernel
theorem dX8_isWanting_16 : decode cX8_isWanting 16 = .ok (.invokevirtual 128, 3) := by decide +kernel
theorem dX8_isWanting_19 : decode cX8_isWanting 19 = .ok (.aload_n 0, 1) := by decide +kernel
theorem dX8_isWanting_20 : decode cX8_isWanting 20 = .ok (.getfield 125, 3) := by decide +kernel
theorem dX8_isWanting_23 : decode cX8_isWanting 23 = .ok (.iand, 1) := by decide +kernel
theorem dX8_isWanting_24 : decode cX8_isWanting 24 = .ok (.aload_n 0, 1) := by decide +kernel
theorem dX8_isWanting_25 : decode cX8_isWanting 25 = .ok (.getfield 49, 3) := by decide +kernel
theorem dX8_isWanting_28 : decode cX8_isWanting 28 = .ok (.iload_n 1, 1) := by decide +kernel
theorem dX8_isWanting_29 : decode cX8_isWanting 29 = .ok (.iaload, 1) := by decide +kernel
theorem dX8_isWanting_30 : decode cX8_isWanting 30 = .ok (.iconst (-1), 1) := by decide +kernel
theorem dX8_isWanting_31 : decode cX8_isWanting 31 = .ok (.ixor, 1) := by decide +kernel
theorem dX8_isWanting_32 : decode cX8_isWanting 32 = .ok (.iand, 1) := by decide +kernel
theorem dX8_isWanting_33 : decode cX8_isWanting 33 = .ok (.ifCond .eq 7, 3) := by decide +kernel
theorem dX8_isWanting_36 : decode cX8_isWanting 36 = .ok (.iconst 1, 1) := by decide +kernel
theorem dX8_isWanting_37 : decode cX8_isWanting 37 = .ok (.goto 4, 3) := by decide +kernel
theorem dX8_isWanting_40 : decode cX8_isWanting 40 = .ok (.iconst 0, 1) := by decide +kernel
theorem dX8_isWanting_41 : decode cX8_isWanting 41 = .ok (.ireturn, 1) := by decide +kernel
set_option maxHeartbeats 4000000 in
set_option maxRecDepth 20000 in
theorem c_X8_isWanting : ConI mX8_isWanting (fun args N lay r h Q => ∃ (b : Nat) (g : Int), args = [.ref b, vI g] ∧ MdAt lay r b ∧ (0 ≤ g ∧ g < 16) ∧ Q (bI (wan (h (b + 12)) (h b 17) (h (b + 14)) g = true)) N lay r h) := by
  refine ConI.of (by decide) (by rintro _ N lay r h Q ⟨b, g, rfl, hM, hg, hQ⟩; exact ⟨rfl, Nat.le_of_ble_eq_true rfl⟩) ?_
  rintro E _ N lay r h Q ⟨b, g, rfl, hM, hg, hQ⟩ hret
  obtain ⟨ml0, ml1, ml2, ml3, ml4, ml5, ml6, ml7, ml8, ml9, ml10, ml11, ml12, ml13, ml14, ml15, ml16, ml17, ml18, ml19, ml20, mr1, mr2, mr3, mr4, mr5, mr6, mr7, mr8, mr9, mr10, mr11, mr12, mr13, mr14, mr15, mr16, mr17, mr18, mr19, mr20⟩ := id hM
  show St E mX8_isWanting 0 [some (.ref b), some (vI g)] [] (0, 0) N lay r h
  refine r_aload_0 (pc := 0) dX8_isWanting_0 ?_
  refine gf_X8_49 (pc := 1) rfl (by assumption) dX8_isWanting_1 (by assumption) ?_
  refine r_iload_1 (pc := 4) dX8_isWanting_4 ?_
  refine r_ialdE (pc := 5) (by assumption) (by first | assumption | exact rfl) dX8_isWanting_5 (by omega) (by omega) (fun i_5 => ?_)
  refine r_aload_0 (pc := 6) dX8_isWanting_6 ?_
  refine gf_X8_125 (pc := 7) rfl (by assumption) dX8_isWanting_7 (fun i_7 => ?_)
  refine r_iand (pc := 10) dX8_isWanting_10 (fun i_10 => ?_)
  refine r_if_eq (pc := 11) (tgt := 40) dX8_isWanting_11 (by decide) (by omega) (fun c_11 => ?_) (fun c_11 => ?_)
  · refine r_iconst (pc := 40) dX8_isWanting_40 ?_
    refine r_zret (pc := 41) hret dX8_isWanting_41 rfl rfl rfl (by first | exact Or.inl rfl | exact Or.inr rfl | exact bI_01 | omega) ?_
    first | (rw [bI_t (wan_iff.mpr ⟨c_11, c_33⟩)] at hQ; exact hQ) | (rw [bI_f (fun z => (wan_iff.mp z).1 c_11)] at hQ; exact hQ) | (rw [bI_f (fun z => (wan_iff.mp z).2 c_33)] at hQ; exact hQ)
  · refine r_aload_0 (pc := 14) dX8_isWanting_14 ?_
    refine r_iload_1 (pc := 15) dX8_isWanting_15 ?_
    refine k_VI1 (pc := 16) c_X8_placeBits lk_X8_128 ⟨Nat.le_of_ble_eq_true rfl, Nat.le_of_ble_eq_true rfl⟩ ⟨rfl, rfl⟩ ⟨Nat.le_of_ble_eq_true rfl, Nat.le_of_ble_eq_true rfl⟩ (k := 8) rfl (by decide) (by assumption) dX8_isWanting_16 (Nat.le_of_ble_eq_true rfl) ?_
    refine ⟨_, _, rfl, by assumption, by omega, fun i_16 => ?_⟩
    refine r_aload_0 (pc := 19) dX8_isWanting_19 ?_
    refine gf_X8_125 (pc := 20) rfl (by assumption) dX8_isWanting_20 (fun i_20 => ?_)
    refine r_iand (pc := 23) dX8_isWanting_23 (fun i_23 => ?_)
    refine r_aload_0 (pc := 24) dX8_isWanting_24 ?_
    refine gf_X8_49 (pc := 25) rfl (by assumption) dX8_isWanting_25 (by assumption) ?_
    refine r_iload_1 (pc := 28) dX8_isWanting_28 ?_
    refine r_ialdE (pc := 29) (by assumption) (by first | assumption | exact rfl) dX8_isWanting_29 (by omega) (by omega) (fun i_29 => ?_)
    refine r_iconst (pc := 30) dX8_isWanting_30 ?_
    refine r_ixor (pc := 31) dX8_isWanting_31 (fun i_31 => ?_)
    refine r_iand (pc := 32) dX8_isWanting_32 (fun i_32 => ?_)
    refine r_if_eq (pc := 33) (tgt := 40) dX8_isWanting_33 (by decide) (by omega) (fun c_33 => ?_) (fun c_33 => ?_)
    · refine r_iconst (pc := 40) dX8_isWanting_40 ?_
      refine r_zret (pc := 41) hret dX8_isWanting_41 rfl rfl rfl (by first | exact Or.inl rfl | exact Or.inr rfl | exact bI_01 | omega) ?_
      first | (rw [bI_t (wan_iff.mpr ⟨c_11, c_33⟩)] at hQ; exact hQ) | (rw [bI_f (fun z => (wan_iff.mp z).1 c_11)] at hQ; exact hQ) | (rw [bI_f (fun z => (wan_iff.mp z).2 c_33)] at hQ; exact hQ)
    · refine r_iconst (pc := 36) dX8_isWanting_36 ?_
      refine r_goto (pc := 37) (tgt := 41) dX8_isWanting_37 (by decide) ?_
      refine r_zret (pc := 41) hret dX8_isWanting_41 rfl rfl rfl (by first | exact Or.inl rfl | exact Or.inr rfl | exact bI_01 | omega) ?_
      first | (rw [bI_t (wan_iff.mpr ⟨c_11, c_33⟩)] at hQ; exact hQ) | (rw [bI_f (fun z => (wan_iff.mp z).1 c_11)] at hQ; exact hQ) | (rw [bI_f (fun z => (wan_iff.mp z).2 c_33)] at hQ; exact hQ)

theorem dX8_pressing_0 : decode cX8_pressing 0 = .ok (.bipush (-4), 2) := by decide +kernel
theorem dX8_pressing_2 : decode cX8_pressing 2 = .ok (.istore_n 1, 1) := by decide +kernel
theorem dX8_pressing_3 : decode cX8_pressing 3 = .ok (.iconst 0, 1) := by decide +kernel
theorem dX8_pressing_4 : decode cX8_pressing 4 = .ok (.istore_n 2, 1) := by decide +kernel
theorem dX8_pressing_5 : decode cX8_pressing 5 = .ok (.iload_n 2, 1) := by decide +kernel
theorem dX8_pressing_6 : decode cX8_pressing 6 = .ok (.bipush 16, 2) := by decide +kernel
theorem dX8_pressing_8 : decode cX8_pressing 8 = .ok (.if_icmp .ge 89, 3) := by decide +kernel
theorem dX8_pressing_11 : decode cX8_pressing 11 = .ok (.aload_n 0, 1) := by decide +kernel
theorem dX8_pressing_12 : decode cX8_pressing 12 = .ok (.iload_n 2, 1) := by decide +kernel
theorem dX8_pressing_13 : decode cX8_pressing 13 = .ok (.invokevirtual 239, 3) := by decide +kernel
theorem dX8_pressing_16 : decode cX8_pressing 16 = .ok (.ifCond .eq 75, 3) := by decide +kernel
theorem dX8_pressing_19 : decode cX8_pressing 19 = .ok (.aload_n 0, 1) := by decide +kernel
theorem dX8_pressing_20 : decode cX8_pressing 20 = .ok (.getfield 49, 3) := by decide +kernel
theorem dX8_pressing_23 : decode cX8_pressing 23 = .ok (.iload_n 2, 1) := by decide +kernel
theorem dX8_pressing_24 : decode cX8_pressing 24 = .ok (.iaload, 1) := by decide +kernel
theorem dX8_pressing_25 : decode cX8_pressing 25 = .ok (.aload_n 0, 1) := by decide +kernel
theorem dX8_pressing_26 : decode cX8_pressing 26 = .ok (.getfield 125, 3) := by decide +kernel
theorem dX8_pressing_29 : decode cX8_pressing 29 = .ok (.iand, 1) := by decide +kernel
theorem dX8_pressing_30 : decode cX8_pressing 30 = .ok (.invokestatic 242, 3) := by decide +kernel
theorem dX8_pressing_33 : decode cX8_pressing 33 = .ok (.istore_n 3, 1) := by decide +kernel
theorem dX8_pressing_34 : decode cX8_pressing 34 = .ok (.iload_n 1, 1) := by decide +kernel
theorem dX8_pressing_35 : decode cX8_pressing 35 = .ok (.ifCond .ge 7, 3) := by decide +kernel
theorem dX8_pressing_38 : decode cX8_pressing 38 = .ok (.iconst 0, 1) := by decide +kernel
theorem dX8_pressing_39 : decode cX8_pressing 39 = .ok (.goto 17, 3) := by decide +kernel
theorem dX8_pressing_42 : decode cX8_pressing 42 = .ok (.aload_n 0, 1) := by decide +kernel
theorem dX8_pressing_43 : decode cX8_pressing 43 = .ok (.getfield 49, 3) := by decide +kernel
theorem dX8_pressing_46 : decode cX8_pressing 46 = .ok (.iload_n 1, 1) := by decide +kernel
theorem dX8_pressing_47 : decode cX8_pressing 47 = .ok (.iaload, 1) := by decide +kernel
theorem dX8_pressing_48 : decode cX8_pressing 48 = .ok (.aload_n 0, 1) := by decide +kernel
theorem dX8_pressing_49 : decode cX8_pressing 49 = .ok (.getfield 125, 3) := by decide +kernel
theorem dX8_pressing_52 : decode cX8_pressing 52 = .ok (.iand, 1) := by decide +kernel
theorem dX8_pressing_53 : decode cX8_pressing 53 = .ok (.invokestatic 242, 3) := by decide +kernel
theorem dX8_pressing_56 : decode cX8_pressing 56 = .ok (.istore 4, 2) := by decide +kernel
theorem dX8_pressing_58 : decode cX8_pressing 58 = .ok (.iload_n 1, 1) := by decide +kernel
theorem dX8_pressing_59 : decode cX8_pressing 59 = .ok (.ifCond .lt 30, 3) := by decide +kernel
theorem dX8_pressing_62 : decode cX8_pressing 62 = .ok (.iload_n 3, 1) := by decide +kernel
theorem dX8_pressing_63 : decode cX8_pressing 63 = .ok (.iload 4, 2) := by decide +kernel
theorem dX8_pressing_65 : decode cX8_pressing 65 = .ok (.if_icmp .lt 24, 3) := by decide +kernel
theorem dX8_pressing_68 : decode cX8_pressing 68 = .ok (.iload_n 3, 1) := by decide +kernel
theorem dX8_pressing_69 : decode cX8_pressing 69 = .ok (.iload 4, 2) := by decide +kernel
theorem dX8_pressing_71 : decode cX8_pressing 71 = .ok (.if_icmp .ne 20, 3) := by decide +kernel
theorem dX8_pressing_74 : decode cX8_pressing 74 = .ok (.aload_n 0, 1) := by decide +kernel
theorem dX8_pressing_75 : decode cX8_pressing 75 = .ok (.getfield 52, 3) := by decide +kernel
theorem dX8_pressing_78 : decode cX8_pressing 78 = .ok (.iload_n 2, 1) := by decide +kernel
theorem dX8_pressing_79 : decode cX8_pressing 79 = .ok (.iaload, 1) := by decide +kernel
theorem dX8_pressing_80 : decode cX8_pressing 80 = .ok (.aload_n 0, 1) := by decide +kernel
theorem dX8_pressing_81 : decode cX8_pressing 81 = .ok (.getfield 52, 3) := by decide +kernel
theorem dX8_pressing_84 : decode cX8_pressing 84 = .ok (.iload_n 1, 1) := by decide +kernel
theorem dX8_pressing_85 : decode cX8_pressing 85 = .ok (.iaload, 1) := by decide +kernel
theorem dX8_pressing_86 : decode cX8_pressing 86 = .ok (.if_icmp .le 5, 3) := by decide +kernel
theorem dX8_pressing_89 : decode cX8_pressing 89 = .ok (.iload_n 2, 1) := by decide +kernel
theorem dX8_pressing_90 : decode cX8_pressing 90 = .ok (.istore_n 1, 1) := by decide +kernel
theorem dX8_pressing_91 : decode cX8_pressing 91 = .ok (.iinc 2 1, 3) := by decide +kernel
theorem dX8_pressing_94 : decode cX8_pressing 94 = .ok (.goto (-89), 3) := by decide +kernel
theorem dX8_pressing_97 : decode cX8_pressing 97 = .ok (.iload_n 1, 1) := by decide +kernel
theorem dX8_pressing_98 : decode cX8_pressing 98 = .ok (.ireturn, 1) := by decide +kernel
set_option maxHeartbeats 4000000 in
set_option maxRecDepth 20000 in
theorem c_X8_pressing : ConI mX8_pressing (fun args N lay r h Q => ∃ (b : Nat), args = [.ref b] ∧ MdAt lay r b ∧ Q (prs (h (b + 12)) (h b 17) (h (b + 14)) (h (b + 15)) 16) N lay r h) := by
  refine ConI.of (by decide) (by rintro _ N lay r h Q ⟨b, rfl, hM, hQ⟩; exact ⟨rfl, Nat.le_of_ble_eq_true rfl⟩) ?_
  rintro E _ N lay r h Q ⟨b, rfl, hM, hQ⟩ hret
  obtain ⟨ml0, ml1, ml2, ml3, ml4, ml5, ml6, ml7, ml8, ml9, ml10, ml11, ml12, ml13, ml14, ml15, ml16, ml17, ml18, ml19, ml20, mr1, mr2, mr3, mr4, mr5, mr6, mr7, mr8, mr9, mr10, mr11, mr12, mr13, mr14, mr15, mr16, mr17, mr18, mr19, mr20⟩ := id hM
  show St E mX8_pressing 0 [some (.ref b), none, none, none, none] [] (0, 0) N lay r h
  have lp : ∀ (n_ : Nat) (i : Int) (x : Int) (x3 : Option Value) (x4 : Option Value), (16 - i).toNat = n_ → (0 ≤ i ∧ i ≤ 16) → (x = prs (h (b + 12)) (h b 17) (h (b + 14)) (h (b + 15)) i.toNat) → St E mX8_pressing 5 [some (.ref b), some (vI x), some (vI i), x3, x4] [] (0, 0) N lay r h := by
    intro  n_
    induction n_ using Nat.strongRecOn with
    | ind n_ ih =>
      intro i x x3 x4 hn_ hi hx
      obtain ⟨k, rfl⟩ : ∃ k : Nat, i = k := ⟨i.toNat, by omega⟩
      rw [show ((k : Int)).toNat = k by omega] at hx
      have e1 := prs_s (h (b + 12)) (h b 17) (h (b + 14)) (h (b + 15)) k
      have hor := prs_or (h (b + 12)) (h b 17) (h (b + 14)) (h (b + 15)) k
      have hxr : x = -4 ∨ (0 ≤ x ∧ x < k) := by rw [hx]; omega
      have b1 := bts_r (iA (h (b + 14) k) (h b 17))
      have b2 := bts_r (iA (h (b + 14) x) (h b 17))
      clear hor
      refine r_iload_2 (pc := 5) dX8_pressing_5 ?_
      refine r_bipush (pc := 6) dX8_pressing_6 (by decide) ?_
      refine r_icmp_ge (pc := 8) (tgt := 97) dX8_pressing_8 (by decide) (by omega) (by omega) (fun c_8 => ?_) (fun c_8 => ?_)
      · refine r_iload_1 (pc := 97) dX8_pressing_97 ?_
        refine r_iret (pc := 98) hret dX8_pressing_98 rfl rfl rfl ?_
        have hk : k = 16 := by omega
        subst hk
        rw [hx]
        exact hQ
      · refine r_aload_0 (pc := 11) dX8_pressing_11 ?_
        refine r_iload_2 (pc := 12) dX8_pressing_12 ?_
        refine k_VI1 (pc := 13) c_X8_isWanting lk_X8_239 ⟨Nat.le_of_ble_eq_true rfl, Nat.le_of_ble_eq_true rfl⟩ ⟨rfl, rfl⟩ ⟨Nat.le_of_ble_eq_true rfl, Nat.le_of_ble_eq_true rfl⟩ (k := 8) rfl (by decide) (by assumption) dX8_pressing_13 (Nat.le_of_ble_eq_true rfl) ?_
        refine ⟨_, _, rfl, by assumption, by omega, ?_⟩
        refine r_ifeq_b (pc := 16) (tgt := 91) dX8_pressing_16 (by decide) (fun c_16 => ?_) (fun c_16 => ?_)
        · refine r_iinc_2 (pc := 91) dX8_pressing_91 rfl ?_
          refine r_goto (pc := 94) (tgt := 5) dX8_pressing_94 (by decide) ?_
          first
          | (have e9 : ¬ (wan (h (b + 12)) (h b 17) (h (b + 14)) k = true ∧ (prs (h (b + 12)) (h b 17) (h (b + 14)) (h (b + 15)) k < 0 ∨ bts (iA (h (b + 14) k) (h b 17)) < bts (iA (h (b + 14) (prs (h (b + 12)) (h b 17) (h (b + 14)) (h (b + 15)) k)) (h b 17)) ∨ (bts (iA (h (b + 14) k) (h b 17)) = bts (iA (h (b + 14) (prs (h (b + 12)) (h b 17) (h (b + 14)) (h (b + 15)) k)) (h b 17)) ∧ h (b + 15) (prs (h (b + 12)) (h b 17) (h (b + 14)) (h (b + 15)) k) < h (b + 15) k))) := fun z => c_16 z.1
             refine ih _ (by omega) ((k : Int) + 1) x _ _ rfl (by omega) ?_
             rw [show ((k : Int) + 1).toNat = k + 1 by omega, e1, if_neg e9]
             exact hx)
          | (have e9 : (wan (h (b + 12)) (h b 17) (h (b + 14)) k = true ∧ (prs (h (b + 12)) (h b 17) (h (b + 14)) (h (b + 15)) k < 0 ∨ bts (iA (h (b + 14) k) (h b 17)) < bts (iA (h (b + 14) (prs (h (b + 12)) (h b 17) (h (b + 14)) (h (b + 15)) k)) (h b 17)) ∨ (bts (iA (h (b + 14) k) (h b 17)) = bts (iA (h (b + 14) (prs (h (b + 12)) (h b 17) (h (b + 14)) (h (b + 15)) k)) (h b 17)) ∧ h (b + 15) (prs (h (b + 12)) (h b 17) (h (b + 14)) (h (b + 15)) k) < h (b + 15) k))) := ⟨c_16, Or.inl (by rw [← hx]; exact c_59)⟩
             refine ih _ (by omega) ((k : Int) + 1) k _ _ rfl (by omega) ?_
             rw [show ((k : Int) + 1).toNat = k + 1 by omega, e1, if_pos e9])
          | (have e9 : (wan (h (b + 12)) (h b 17) (h (b + 14)) k = true ∧ (prs (h (b + 12)) (h b 17) (h (b + 14)) (h (b + 15)) k < 0 ∨ bts (iA (h (b + 14) k) (h b 17)) < bts (iA (h (b + 14) (prs (h (b + 12)) (h b 17) (h (b + 14)) (h (b + 15)) k)) (h b 17)) ∨ (bts (iA (h (b + 14) k) (h b 17)) = bts (iA (h (b + 14) (prs (h (b + 12)) (h b 17) (h (b + 14)) (h (b + 15)) k)) (h b 17)) ∧ h (b + 15) (prs (h (b + 12)) (h b 17) (h (b + 14)) (h (b + 15)) k) < h (b + 15) k))) := ⟨c_16, Or.inr (Or.inl (by rw [← hx]; exact c_65))⟩
             refine ih _ (by omega) ((k : Int) + 1) k _ _ rfl (by omega) ?_
             rw [show ((k : Int) + 1).toNat = k + 1 by omega, e1, if_pos e9])
          | (have e9 : (wan (h (b + 12)) (h b 17) (h (b + 14)) k = true ∧ (prs (h (b + 12)) (h b 17) (h (b + 14)) (h (b + 15)) k < 0 ∨ bts (iA (h (b + 14) k) (h b 17)) < bts (iA (h (b + 14) (prs (h (b + 12)) (h b 17) (h (b + 14)) (h (b + 15)) k)) (h b 17)) ∨ (bts (iA (h (b + 14) k) (h b 17)) = bts (iA (h (b + 14) (prs (h (b + 12)) (h b 17) (h (b + 14)) (h (b + 15)) k)) (h b 17)) ∧ h (b + 15) (prs (h (b + 12)) (h b 17) (h (b + 14)) (h (b + 15)) k) < h (b + 15) k))) := ⟨c_16, Or.inr (Or.inr (by rw [← hx]; exact ⟨c_71, c_86⟩))⟩
             refine ih _ (by omega) ((k : Int) + 1) k _ _ rfl (by omega) ?_
             rw [show ((k : Int) + 1).toNat = k + 1 by omega, e1, if_pos e9])
          | (have e9 : ¬ (wan (h (b + 12)) (h b 17) (h (b + 14)) k = true ∧ (prs (h (b + 12)) (h b 17) (h (b + 14)) (h (b + 15)) k < 0 ∨ bts (iA (h (b + 14) k) (h b 17)) < bts (iA (h (b + 14) (prs (h (b + 12)) (h b 17) (h (b + 14)) (h (b + 15)) k)) (h b 17)) ∨ (bts (iA (h (b + 14) k) (h b 17)) = bts (iA (h (b + 14) (prs (h (b + 12)) (h b 17) (h (b + 14)) (h (b + 15)) k)) (h b 17)) ∧ h (b + 15) (prs (h (b + 12)) (h b 17) (h (b + 14)) (h (b + 15)) k) < h (b + 15) k))) := fun z => by
               rw [← hx] at z
               rcases z.2 with z2 | z2 | z2
               · omega
               · omega
               · first | exact c_71 z2.1 | omega
             refine ih _ (by omega) ((k : Int) + 1) x _ _ rfl (by omega) ?_
             rw [show ((k : Int) + 1).toNat = k + 1 by omega, e1, if_neg e9]
             exact hx)
          | (exfalso; omega)
        · refine r_aload_0 (pc := 19) dX8_pressing_19 ?_
          refine gf_X8_49 (pc := 20) rfl (by assumption) dX8_pressing_20 (by assumption) ?_
          refine r_iload_2 (pc := 23) dX8_pressing_23 ?_
          refine r_ialdE (pc := 24) (by assumption) (by first | assumption | exact rfl) dX8_pressing_24 (by omega) (by omega) (fun i_24 => ?_)
          refine r_aload_0 (pc := 25) dX8_pressing_25 ?_
          refine gf_X8_125 (pc := 26) rfl (by assumption) dX8_pressing_26 (fun i_26 => ?_)
          refine r_iand (pc := 29) dX8_pressing_29 (fun i_29 => ?_)
          refine k_SI1 (pc := 30) c_X8_bitsIn lk_X8_242 ⟨Nat.le_of_ble_eq_true rfl, Nat.le_of_ble_eq_true rfl⟩ ⟨rfl, rfl⟩ ⟨Nat.le_of_ble_eq_true rfl, Nat.le_of_ble_eq_true rfl⟩ dX8_pressing_30 (Nat.le_of_ble_eq_true rfl) ?_
          refine ⟨_, rfl, ?_⟩
          refine r_istore_3 (pc := 33) dX8_pressing_33 rfl ?_
          refine r_iload_1 (pc := 34) dX8_pressing_34 ?_
          refine r_if_ge (pc := 35) (tgt := 42) dX8_pressing_35 (by decide) (by omega) (fun c_35 => ?_) (fun c_35 => ?_)
          · refine r_aload_0 (pc := 42) dX8_pressing_42 ?_
            refine gf_X8_49 (pc := 43) rfl (by assumption) dX8_pressing_43 (by assumption) ?_
            refine r_iload_1 (pc := 46) dX8_pressing_46 ?_
            refine r_ialdE (pc := 47) (by assumption) (by first | assumption | exact rfl) dX8_pressing_47 (by omega) (by omega) (fun i_47 => ?_)
            refine r_aload_0 (pc := 48) dX8_pressing_48 ?_
            refine gf_X8_125 (pc := 49) rfl (by assumption) dX8_pressing_49 (fun i_49 => ?_)
            refine r_iand (pc := 52) dX8_pressing_52 (fun i_52 => ?_)
            refine k_SI1 (pc := 53) c_X8_bitsIn lk_X8_242 ⟨Nat.le_of_ble_eq_true rfl, Nat.le_of_ble_eq_true rfl⟩ ⟨rfl, rfl⟩ ⟨Nat.le_of_ble_eq_true rfl, Nat.le_of_ble_eq_true rfl⟩ dX8_pressing_53 (Nat.le_of_ble_eq_true rfl) ?_
            refine ⟨_, rfl, ?_⟩
            refine r_istore_4 (pc := 56) dX8_pressing_56 rfl ?_
            refine r_iload_1 (pc := 58) dX8_pressing_58 ?_
            refine r_if_lt (pc := 59) (tgt := 89) dX8_pressing_59 (by decide) (by omega) (fun c_59 => ?_) (fun c_59 => ?_)
            · refine r_iload_2 (pc := 89) dX8_pressing_89 ?_
              refine r_istore_1 (pc := 90) dX8_pressing_90 rfl ?_
              refine r_iinc_2 (pc := 91) dX8_pressing_91 rfl ?_
              refine r_goto (pc := 94) (tgt := 5) dX8_pressing_94 (by decide) ?_
              first
              | (have e9 : ¬ (wan (h (b + 12)) (h b 17) (h (b + 14)) k = true ∧ (prs (h (b + 12)) (h b 17) (h (b + 14)) (h (b + 15)) k < 0 ∨ bts (iA (h (b + 14) k) (h b 17)) < bts (iA (h (b + 14) (prs (h (b + 12)) (h b 17) (h (b + 14)) (h (b + 15)) k)) (h b 17)) ∨ (bts (iA (h (b + 14) k) (h b 17)) = bts (iA (h (b + 14) (prs (h (b + 12)) (h b 17) (h (b + 14)) (h (b + 15)) k)) (h b 17)) ∧ h (b + 15) (prs (h (b + 12)) (h b 17) (h (b + 14)) (h (b + 15)) k) < h (b + 15) k))) := fun z => c_16 z.1
                 refine ih _ (by omega) ((k : Int) + 1) x _ _ rfl (by omega) ?_
                 rw [show ((k : Int) + 1).toNat = k + 1 by omega, e1, if_neg e9]
                 exact hx)
              | (have e9 : (wan (h (b + 12)) (h b 17) (h (b + 14)) k = true ∧ (prs (h (b + 12)) (h b 17) (h (b + 14)) (h (b + 15)) k < 0 ∨ bts (iA (h (b + 14) k) (h b 17)) < bts (iA (h (b + 14) (prs (h (b + 12)) (h b 17) (h (b + 14)) (h (b + 15)) k)) (h b 17)) ∨ (bts (iA (h (b + 14) k) (h b 17)) = bts (iA (h (b + 14) (prs (h (b + 12)) (h b 17) (h (b + 14)) (h (b + 15)) k)) (h b 17)) ∧ h (b + 15) (prs (h (b + 12)) (h b 17) (h (b + 14)) (h (b + 15)) k) < h (b + 15) k))) := ⟨c_16, Or.inl (by rw [← hx]; exact c_59)⟩
                 refine ih _ (by omega) ((k : Int) + 1) k _ _ rfl (by omega) ?_
                 rw [show ((k : Int) + 1).toNat = k + 1 by omega, e1, if_pos e9])
              | (have e9 : (wan (h (b + 12)) (h b 17) (h (b + 14)) k = true ∧ (prs (h (b + 12)) (h b 17) (h (b + 14)) (h (b + 15)) k < 0 ∨ bts (iA (h (b + 14) k) (h b 17)) < bts (iA (h (b + 14) (prs (h (b + 12)) (h b 17) (h (b + 14)) (h (b + 15)) k)) (h b 17)) ∨ (bts (iA (h (b + 14) k) (h b 17)) = bts (iA (h (b + 14) (prs (h (b + 12)) (h b 17) (h (b + 14)) (h (b + 15)) k)) (h b 17)) ∧ h (b + 15) (prs (h (b + 12)) (h b 17) (h (b + 14)) (h (b + 15)) k) < h (b + 15) k))) := ⟨c_16, Or.inr (Or.inl (by rw [← hx]; exact c_65))⟩
                 refine ih _ (by omega) ((k : Int) + 1) k _ _ rfl (by omega) ?_
                 rw [show ((k : Int) + 1).toNat = k + 1 by omega, e1, if_pos e9])
              | (have e9 : (wan (h (b + 12)) (h b 17) (h (b + 14)) k = true ∧ (prs (h (b + 12)) (h b 17) (h (b + 14)) (h (b + 15)) k < 0 ∨ bts (iA (h (b + 14) k) (h b 17)) < bts (iA (h (b + 14) (prs (h (b + 12)) (h b 17) (h (b + 14)) (h (b + 15)) k)) (h b 17)) ∨ (bts (iA (h (b + 14) k) (h b 17)) = bts (iA (h (b + 14) (prs (h (b + 12)) (h b 17) (h (b + 14)) (h (b + 15)) k)) (h b 17)) ∧ h (b + 15) (prs (h (b + 12)) (h b 17) (h (b + 14)) (h (b + 15)) k) < h (b + 15) k))) := ⟨c_16, Or.inr (Or.inr (by rw [← hx]; exact ⟨c_71, c_86⟩))⟩
                 refine ih _ (by omega) ((k : Int) + 1) k _ _ rfl (by omega) ?_
                 rw [show ((k : Int) + 1).toNat = k + 1 by omega, e1, if_pos e9])
              | (have e9 : ¬ (wan (h (b + 12)) (h b 17) (h (b + 14)) k = true ∧ (prs (h (b + 12)) (h b 17) (h (b + 14)) (h (b + 15)) k < 0 ∨ bts (iA (h (b + 14) k) (h b 17)) < bts (iA (h (b + 14) (prs (h (b + 12)) (h b 17) (h (b + 14)) (h (b + 15)) k)) (h b 17)) ∨ (bts (iA (h (b + 14) k) (h b 17)) = bts (iA (h (b + 14) (prs (h (b + 12)) (h b 17) (h (b + 14)) (h (b + 15)) k)) (h b 17)) ∧ h (b + 15) (prs (h (b + 12)) (h b 17) (h (b + 14)) (h (b + 15)) k) < h (b + 15) k))) := fun z => by
                   rw [← hx] at z
                   rcases z.2 with z2 | z2 | z2
                   · omega
                   · omega
                   · first | exact c_71 z2.1 | omega
                 refine ih _ (by omega) ((k : Int) + 1) x _ _ rfl (by omega) ?_
                 rw [show ((k : Int) + 1).toNat = k + 1 by omega, e1, if_neg e9]
                 exact hx)
              | (exfalso; omega)
            · refine r_iload_3 (pc := 62) dX8_pressing_62 ?_
              refine r_iload_4 (pc := 63) dX8_pressing_63 ?_
              refine r_icmp_lt (pc := 65) (tgt := 89) dX8_pressing_65 (by decide) (by omega) (by omega) (fun c_65 => ?_) (fun c_65 => ?_)
              · refine r_iload_2 (pc := 89) dX8_pressing_89 ?_
                refine r_istore_1 (pc := 90) dX8_pressing_90 rfl ?_
                refine r_iinc_2 (pc := 91) dX8_pressing_91 rfl ?_
                refine r_goto (pc := 94) (tgt := 5) dX8_pressing_94 (by decide) ?_
                first
                | (have e9 : ¬ (wan (h (b + 12)) (h b 17) (h (b + 14)) k = true ∧ (prs (h (b + 12)) (h b 17) (h (b + 14)) (h (b + 15)) k < 0 ∨ bts (iA (h (b + 14) k) (h b 17)) < bts (iA (h (b + 14) (prs (h (b + 12)) (h b 17) (h (b + 14)) (h (b + 15)) k)) (h b 17)) ∨ (bts (iA (h (b + 14) k) (h b 17)) = bts (iA (h (b + 14) (prs (h (b + 12)) (h b 17) (h (b + 14)) (h (b + 15)) k)) (h b 17)) ∧ h (b + 15) (prs (h (b + 12)) (h b 17) (h (b + 14)) (h (b + 15)) k) < h (b + 15) k))) := fun z => c_16 z.1
                   refine ih _ (by omega) ((k : Int) + 1) x _ _ rfl (by omega) ?_
                   rw [show ((k : Int) + 1).toNat = k + 1 by omega, e1, if_neg e9]
                   exact hx)
                | (have e9 : (wan (h (b + 12)) (h b 17) (h (b + 14)) k = true ∧ (prs (h (b + 12)) (h b 17) (h (b + 14)) (h (b + 15)) k < 0 ∨ bts (iA (h (b + 14) k) (h b 17)) < bts (iA (h (b + 14) (prs (h (b + 12)) (h b 17) (h (b + 14)) (h (b + 15)) k)) (h b 17)) ∨ (bts (iA (h (b + 14) k) (h b 17)) = bts (iA (h (b + 14) (prs (h (b + 12)) (h b 17) (h (b + 14)) (h (b + 15)) k)) (h b 17)) ∧ h (b + 15) (prs (h (b + 12)) (h b 17) (h (b + 14)) (h (b + 15)) k) < h (b + 15) k))) := ⟨c_16, Or.inl (by rw [← hx]; exact c_59)⟩
                   refine ih _ (by omega) ((k : Int) + 1) k _ _ rfl (by omega) ?_
                   rw [show ((k : Int) + 1).toNat = k + 1 by omega, e1, if_pos e9])
                | (have e9 : (wan (h (b + 12)) (h b 17) (h (b + 14)) k = true ∧ (prs (h (b + 12)) (h b 17) (h (b + 14)) (h (b + 15)) k < 0 ∨ bts (iA (h (b + 14) k) (h b 17)) < bts (iA (h (b + 14) (prs (h (b + 12)) (h b 17) (h (b + 14)) (h (b + 15)) k)) (h b 17)) ∨ (bts (iA (h (b + 14) k) (h b 17)) = bts (iA (h (b + 14) (prs (h (b + 12)) (h b 17) (h (b + 14)) (h (b + 15)) k)) (h b 17)) ∧ h (b + 15) (prs (h (b + 12)) (h b 17) (h (b + 14)) (h (b + 15)) k) < h (b + 15) k))) := ⟨c_16, Or.inr (Or.inl (by rw [← hx]; exact c_65))⟩
                   refine ih _ (by omega) ((k : Int) + 1) k _ _ rfl (by omega) ?_
                   rw [show ((k : Int) + 1).toNat = k + 1 by omega, e1, if_pos e9])
                | (have e9 : (wan (h (b + 12)) (h b 17) (h (b + 14)) k = true ∧ (prs (h (b + 12)) (h b 17) (h (b + 14)) (h (b + 15)) k < 0 ∨ bts (iA (h (b + 14) k) (h b 17)) < bts (iA (h (b + 14) (prs (h (b + 12)) (h b 17) (h (b + 14)) (h (b + 15)) k)) (h b 17)) ∨ (bts (iA (h (b + 14) k) (h b 17)) = bts (iA (h (b + 14) (prs (h (b + 12)) (h b 17) (h (b + 14)) (h (b + 15)) k)) (h b 17)) ∧ h (b + 15) (prs (h (b + 12)) (h b 17) (h (b + 14)) (h (b + 15)) k) < h (b + 15) k))) := ⟨c_16, Or.inr (Or.inr (by rw [← hx]; exact ⟨c_71, c_86⟩))⟩
                   refine ih _ (by omega) ((k : Int) + 1) k _ _ rfl (by omega) ?_
                   rw [show ((k : Int) + 1).toNat = k + 1 by omega, e1, if_pos e9])
                | (have e9 : ¬ (wan (h (b + 12)) (h b 17) (h (b + 14)) k = true ∧ (prs (h (b + 12)) (h b 17) (h (b + 14)) (h (b + 15)) k < 0 ∨ bts (iA (h (b + 14) k) (h b 17)) < bts (iA (h (b + 14) (prs (h (b + 12)) (h b 17) (h (b + 14)) (h (b + 15)) k)) (h b 17)) ∨ (bts (iA (h (b + 14) k) (h b 17)) = bts (iA (h (b + 14) (prs (h (b + 12)) (h b 17) (h (b + 14)) (h (b + 15)) k)) (h b 17)) ∧ h (b + 15) (prs (h (b + 12)) (h b 17) (h (b + 14)) (h (b + 15)) k) < h (b + 15) k))) := fun z => by
                     rw [← hx] at z
                     rcases z.2 with z2 | z2 | z2
                     · omega
                     · omega
                     · first | exact c_71 z2.1 | omega
                   refine ih _ (by omega) ((k : Int) + 1) x _ _ rfl (by omega) ?_
                   rw [show ((k : Int) + 1).toNat = k + 1 by omega, e1, if_neg e9]
                   exact hx)
                | (exfalso; omega)
              · refine r_iload_3 (pc := 68) dX8_pressing_68 ?_
                refine r_iload_4 (pc := 69) dX8_pressing_69 ?_
                refine r_icmp_ne (pc := 71) (tgt := 91) dX8_pressing_71 (by decide) (by omega) (by omega) (fun c_71 => ?_) (fun c_71 => ?_)
                · refine r_iinc_2 (pc := 91) dX8_pressing_91 rfl ?_
                  refine r_goto (pc := 94) (tgt := 5) dX8_pressing_94 (by decide) ?_
                  first
                  | (have e9 : ¬ (wan (h (b + 12)) (h b 17) (h (b + 14)) k = true ∧ (prs (h (b + 12)) (h b 17) (h (b + 14)) (h (b + 15)) k < 0 ∨ bts (iA (h (b + 14) k) (h b 17)) < bts (iA (h (b + 14) (prs (h (b + 12)) (h b 17) (h (b + 14)) (h (b + 15)) k)) (h b 17)) ∨ (bts (iA (h (b + 14) k) (h b 17)) = bts (iA (h (b + 14) (prs (h (b + 12)) (h b 17) (h (b + 14)) (h (b + 15)) k)) (h b 17)) ∧ h (b + 15) (prs (h (b + 12)) (h b 17) (h (b + 14)) (h (b + 15)) k) < h (b + 15) k))) := fun z => c_16 z.1
                     refine ih _ (by omega) ((k : Int) + 1) x _ _ rfl (by omega) ?_
                     rw [show ((k : Int) + 1).toNat = k + 1 by omega, e1, if_neg e9]
                     exact hx)
                  | (have e9 : (wan (h (b + 12)) (h b 17) (h (b + 14)) k = true ∧ (prs (h (b + 12)) (h b 17) (h (b + 14)) (h (b + 15)) k < 0 ∨ bts (iA (h (b + 14) k) (h b 17)) < bts (iA (h (b + 14) (prs (h (b + 12)) (h b 17) (h (b + 14)) (h (b + 15)) k)) (h b 17)) ∨ (bts (iA (h (b + 14) k) (h b 17)) = bts (iA (h (b + 14) (prs (h (b + 12)) (h b 17) (h (b + 14)) (h (b + 15)) k)) (h b 17)) ∧ h (b + 15) (prs (h (b + 12)) (h b 17) (h (b + 14)) (h (b + 15)) k) < h (b + 15) k))) := ⟨c_16, Or.inl (by rw [← hx]; exact c_59)⟩
                     refine ih _ (by omega) ((k : Int) + 1) k _ _ rfl (by omega) ?_
                     rw [show ((k : Int) + 1).toNat = k + 1 by omega, e1, if_pos e9])
                  | (have e9 : (wan (h (b + 12)) (h b 17) (h (b + 14)) k = true ∧ (prs (h (b + 12)) (h b 17) (h (b + 14)) (h (b + 15)) k < 0 ∨ bts (iA (h (b + 14) k) (h b 17)) < bts (iA (h (b + 14) (prs (h (b + 12)) (h b 17) (h (b + 14)) (h (b + 15)) k)) (h b 17)) ∨ (bts (iA (h (b + 14) k) (h b 17)) = bts (iA (h (b + 14) (prs (h (b + 12)) (h b 17) (h (b + 14)) (h (b + 15)) k)) (h b 17)) ∧ h (b + 15) (prs (h (b + 12)) (h b 17) (h (b + 14)) (h (b + 15)) k) < h (b + 15) k))) := ⟨c_16, Or.inr (Or.inl (by rw [← hx]; exact c_65))⟩
                     refine ih _ (by omega) ((k : Int) + 1) k _ _ rfl (by omega) ?_
                     rw [show ((k : Int) + 1).toNat = k + 1 by omega, e1, if_pos e9])
                  | (have e9 : (wan (h (b + 12)) (h b 17) (h (b + 14)) k = true ∧ (prs (h (b + 12)) (h b 17) (h (b + 14)) (h (b + 15)) k < 0 ∨ bts (iA (h (b + 14) k) (h b 17)) < bts (iA (h (b + 14) (prs (h (b + 12)) (h b 17) (h (b + 14)) (h (b + 15)) k)) (h b 17)) ∨ (bts (iA (h (b + 14) k) (h b 17)) = bts (iA (h (b + 14) (prs (h (b + 12)) (h b 17) (h (b + 14)) (h (b + 15)) k)) (h b 17)) ∧ h (b + 15) (prs (h (b + 12)) (h b 17) (h (b + 14)) (h (b + 15)) k) < h (b + 15) k))) := ⟨c_16, Or.inr (Or.inr (by rw [← hx]; exact ⟨c_71, c_86⟩))⟩
                     refine ih _ (by omega) ((k : Int) + 1) k _ _ rfl (by omega) ?_
                     rw [show ((k : Int) + 1).toNat = k + 1 by omega, e1, if_pos e9])
                  | (have e9 : ¬ (wan (h (b + 12)) (h b 17) (h (b + 14)) k = true ∧ (prs (h (b + 12)) (h b 17) (h (b + 14)) (h (b + 15)) k < 0 ∨ bts (iA (h (b + 14) k) (h b 17)) < bts (iA (h (b + 14) (prs (h (b + 12)) (h b 17) (h (b + 14)) (h (b + 15)) k)) (h b 17)) ∨ (bts (iA (h (b + 14) k) (h b 17)) = bts (iA (h (b + 14) (prs (h (b + 12)) (h b 17) (h (b + 14)) (h (b + 15)) k)) (h b 17)) ∧ h (b + 15) (prs (h (b + 12)) (h b 17) (h (b + 14)) (h (b + 15)) k) < h (b + 15) k))) := fun z => by
                       rw [← hx] at z
                       rcases z.2 with z2 | z2 | z2
                       · omega
                       · omega
                       · first | exact c_71 z2.1 | omega
                     refine ih _ (by omega) ((k : Int) + 1) x _ _ rfl (by omega) ?_
                     rw [show ((k : Int) + 1).toNat = k + 1 by omega, e1, if_neg e9]
                     exact hx)
                  | (exfalso; omega)
                · refine r_aload_0 (pc := 74) dX8_pressing_74 ?_
                  refine gf_X8_52 (pc := 75) rfl (by assumption) dX8_pressing_75 (by assumption) ?_
                  refine r_iload_2 (pc := 78) dX8_pressing_78 ?_
                  refine r_ialdE (pc := 79) (by assumption) (by first | assumption | exact rfl) dX8_pressing_79 (by omega) (by omega) (fun i_79 => ?_)
                  refine r_aload_0 (pc := 80) dX8_pressing_80 ?_
                  refine gf_X8_52 (pc := 81) rfl (by assumption) dX8_pressing_81 (by assumption) ?_
                  refine r_iload_1 (pc := 84) dX8_pressing_84 ?_
                  refine r_ialdE (pc := 85) (by assumption) (by first | assumption | exact rfl) dX8_pressing_85 (by omega) (by omega) (fun i_85 => ?_)
                  refine r_icmp_le (pc := 86) (tgt := 91) dX8_pressing_86 (by decide) (by omega) (by omega) (fun c_86 => ?_) (fun c_86 => ?_)
                  · refine r_iinc_2 (pc := 91) dX8_pressing_91 rfl ?_
                    refine r_goto (pc := 94) (tgt := 5) dX8_pressing_94 (by decide) ?_
                    first
                    | (have e9 : ¬ (wan (h (b + 12)) (h b 17) (h (b + 14)) k = true ∧ (prs (h (b + 12)) (h b 17) (h (b + 14)) (h (b + 15)) k < 0 ∨ bts (iA (h (b + 14) k) (h b 17)) < bts (iA (h (b + 14) (prs (h (b + 12)) (h b 17) (h (b + 14)) (h (b + 15)) k)) (h b 17)) ∨ (bts (iA (h (b + 14) k) (h b 17)) = bts (iA (h (b + 14) (prs (h (b + 12)) (h b 17) (h (b + 14)) (h (b + 15)) k)) (h b 17)) ∧ h (b + 15) (prs (h (b + 12)) (h b 17) (h (b + 14)) (h (b + 15)) k) < h (b + 15) k))) := fun z => c_16 z.1
                       refine ih _ (by omega) ((k : Int) + 1) x _ _ rfl (by omega) ?_
                       rw [show ((k : Int) + 1).toNat = k + 1 by omega, e1, if_neg e9]
                       exact hx)
                    | (have e9 : (wan (h (b + 12)) (h b 17) (h (b + 14)) k = true ∧ (prs (h (b + 12)) (h b 17) (h (b + 14)) (h (b + 15)) k < 0 ∨ bts (iA (h (b + 14) k) (h b 17)) < bts (iA (h (b + 14) (prs (h (b + 12)) (h b 17) (h (b + 14)) (h (b + 15)) k)) (h b 17)) ∨ (bts (iA (h (b + 14) k) (h b 17)) = bts (iA (h (b + 14) (prs (h (b + 12)) (h b 17) (h (b + 14)) (h (b + 15)) k)) (h b 17)) ∧ h (b + 15) (prs (h (b + 12)) (h b 17) (h (b + 14)) (h (b + 15)) k) < h (b + 15) k))) := ⟨c_16, Or.inl (by rw [← hx]; exact c_59)⟩
                       refine ih _ (by omega) ((k : Int) + 1) k _ _ rfl (by omega) ?_
                       rw [show ((k : Int) + 1).toNat = k + 1 by omega, e1, if_pos e9])
                    | (have e9 : (wan (h (b + 12)) (h b 17) (h (b + 14)) k = true ∧ (prs (h (b + 12)) (h b 17) (h (b + 14)) (h (b + 15)) k < 0 ∨ bts (iA (h (b + 14) k) (h b 17)) < bts (iA (h (b + 14) (prs (h (b + 12)) (h b 17) (h (b + 14)) (h (b + 15)) k)) (h b 17)) ∨ (bts (iA (h (b + 14) k) (h b 17)) = bts (iA (h (b + 14) (prs (h (b + 12)) (h b 17) (h (b + 14)) (h (b + 15)) k)) (h b 17)) ∧ h (b + 15) (prs (h (b + 12)) (h b 17) (h (b + 14)) (h (b + 15)) k) < h (b + 15) k))) := ⟨c_16, Or.inr (Or.inl (by rw [← hx]; exact c_65))⟩
                       refine ih _ (by omega) ((k : Int) + 1) k _ _ rfl (by omega) ?_
                       rw [show ((k : Int) + 1).toNat = k + 1 by omega, e1, if_pos e9])
                    | (have e9 : (wan (h (b + 12)) (h b 17) (h (b + 14)) k = true ∧ (prs (h (b + 12)) (h b 17) (h (b + 14)) (h (b + 15)) k < 0 ∨ bts (iA (h (b + 14) k) (h b 17)) < bts (iA (h (b + 14) (prs (h (b + 12)) (h b 17) (h (b + 14)) (h (b + 15)) k)) (h b 17)) ∨ (bts (iA (h (b + 14) k) (h b 17)) = bts (iA (h (b + 14) (prs (h (b + 12)) (h b 17) (h (b + 14)) (h (b + 15)) k)) (h b 17)) ∧ h (b + 15) (prs (h (b + 12)) (h b 17) (h (b + 14)) (h (b + 15)) k) < h (b + 15) k))) := ⟨c_16, Or.inr (Or.inr (by rw [← hx]; exact ⟨c_71, c_86⟩))⟩
                       refine ih _ (by omega) ((k : Int) + 1) k _ _ rfl (by omega) ?_
                       rw [show ((k : Int) + 1).toNat = k + 1 by omega, e1, if_pos e9])
                    | (have e9 : ¬ (wan (h (b + 12)) (h b 17) (h (b + 14)) k = true ∧ (prs (h (b + 12)) (h b 17) (h (b + 14)) (h (b + 15)) k < 0 ∨ bts (iA (h (b + 14) k) (h b 17)) < bts (iA (h (b + 14) (prs (h (b + 12)) (h b 17) (h (b + 14)) (h (b + 15)) k)) (h b 17)) ∨ (bts (iA (h (b + 14) k) (h b 17)) = bts (iA (h (b + 14) (prs (h (b + 12)) (h b 17) (h (b + 14)) (h (b + 15)) k)) (h b 17)) ∧ h (b + 15) (prs (h (b + 12)) (h b 17) (h (b + 14)) (h (b + 15)) k) < h (b + 15) k))) := fun z => by
                         rw [← hx] at z
                         rcases z.2 with z2 | z2 | z2
                         · omega
                         · omega
                         · first | exact c_71 z2.1 | omega
                       refine ih _ (by omega) ((k : Int) + 1) x _ _ rfl (by omega) ?_
                       rw [show ((k : Int) + 1).toNat = k + 1 by omega, e1, if_neg e9]
                       exact hx)
                    | (exfalso; omega)
                  · refine r_iload_2 (pc := 89) dX8_pressing_89 ?_
                    refine r_istore_1 (pc := 90) dX8_pressing_90 rfl ?_
                    refine r_iinc_2 (pc := 91) dX8_pressing_91 rfl ?_
                    refine r_goto (pc := 94) (tgt := 5) dX8_pressing_94 (by decide) ?_
                    first
                    | (have e9 : ¬ (wan (h (b + 12)) (h b 17) (h (b + 14)) k = true ∧ (prs (h (b + 12)) (h b 17) (h (b + 14)) (h (b + 15)) k < 0 ∨ bts (iA (h (b + 14) k) (h b 17)) < bts (iA (h (b + 14) (prs (h (b + 12)) (h b 17) (h (b + 14)) (h (b + 15)) k)) (h b 17)) ∨ (bts (iA (h (b + 14) k) (h b 17)) = bts (iA (h (b + 14) (prs (h (b + 12)) (h b 17) (h (b + 14)) (h (b + 15)) k)) (h b 17)) ∧ h (b + 15) (prs (h (b + 12)) (h b 17) (h (b + 14)) (h (b + 15)) k) < h (b + 15) k))) := fun z => c_16 z.1
                       refine ih _ (by omega) ((k : Int) + 1) x _ _ rfl (by omega) ?_
                       rw [show ((k : Int) + 1).toNat = k + 1 by omega, e1, if_neg e9]
                       exact hx)
                    | (have e9 : (wan (h (b + 12)) (h b 17) (h (b + 14)) k = true ∧ (prs (h (b + 12)) (h b 17) (h (b + 14)) (h (b + 15)) k < 0 ∨ bts (iA (h (b + 14) k) (h b 17)) < bts (iA (h (b + 14) (prs (h (b + 12)) (h b 17) (h (b + 14)) (h (b + 15)) k)) (h b 17)) ∨ (bts (iA (h (b + 14) k) (h b 17)) = bts (iA (h (b + 14) (prs (h (b + 12)) (h b 17) (h (b + 14)) (h (b + 15)) k)) (h b 17)) ∧ h (b + 15) (prs (h (b + 12)) (h b 17) (h (b + 14)) (h (b + 15)) k) < h (b + 15) k))) := ⟨c_16, Or.inl (by rw [← hx]; exact c_59)⟩
                       refine ih _ (by omega) ((k : Int) + 1) k _ _ rfl (by omega) ?_
                       rw [show ((k : Int) + 1).toNat = k + 1 by omega, e1, if_pos e9])
                    | (have e9 : (wan (h (b + 12)) (h b 17) (h (b + 14)) k = true ∧ (prs (h (b + 12)) (h b 17) (h (b + 14)) (h (b + 15)) k < 0 ∨ bts (iA (h (b + 14) k) (h b 17)) < bts (iA (h (b + 14) (prs (h (b + 12)) (h b 17) (h (b + 14)) (h (b + 15)) k)) (h b 17)) ∨ (bts (iA (h (b + 14) k) (h b 17)) = bts (iA (h (b + 14) (prs (h (b + 12)) (h b 17) (h (b + 14)) (h (b + 15)) k)) (h b 17)) ∧ h (b + 15) (prs (h (b + 12)) (h b 17) (h (b + 14)) (h (b + 15)) k) < h (b + 15) k))) := ⟨c_16, Or.inr (Or.inl (by rw [← hx]; exact c_65))⟩
                       refine ih _ (by omega) ((k : Int) + 1) k _ _ rfl (by omega) ?_
                       rw [show ((k : Int) + 1).toNat = k + 1 by omega, e1, if_pos e9])
                    | (have e9 : (wan (h (b + 12)) (h b 17) (h (b + 14)) k = true ∧ (prs (h (b + 12)) (h b 17) (h (b + 14)) (h (b + 15)) k < 0 ∨ bts (iA (h (b + 14) k) (h b 17)) < bts (iA (h (b + 14) (prs (h (b + 12)) (h b 17) (h (b + 14)) (h (b + 15)) k)) (h b 17)) ∨ (bts (iA (h (b + 14) k) (h b 17)) = bts (iA (h (b + 14) (prs (h (b + 12)) (h b 17) (h (b + 14)) (h (b + 15)) k)) (h b 17)) ∧ h (b + 15) (prs (h (b + 12)) (h b 17) (h (b + 14)) (h (b + 15)) k) < h (b + 15) k))) := ⟨c_16, Or.inr (Or.inr (by rw [← hx]; exact ⟨c_71, c_86⟩))⟩
                       refine ih _ (by omega) ((k : Int) + 1) k _ _ rfl (by omega) ?_
                       rw [show ((k : Int) + 1).toNat = k + 1 by omega, e1, if_pos e9])
                    | (have e9 : ¬ (wan (h (b + 12)) (h b 17) (h (b + 14)) k = true ∧ (prs (h (b + 12)) (h b 17) (h (b + 14)) (h (b + 15)) k < 0 ∨ bts (iA (h (b + 14) k) (h b 17)) < bts (iA (h (b + 14) (prs (h (b + 12)) (h b 17) (h (b + 14)) (h (b + 15)) k)) (h b 17)) ∨ (bts (iA (h (b + 14) k) (h b 17)) = bts (iA (h (b + 14) (prs (h (b + 12)) (h b 17) (h (b + 14)) (h (b + 15)) k)) (h b 17)) ∧ h (b + 15) (prs (h (b + 12)) (h b 17) (h (b + 14)) (h (b + 15)) k) < h (b + 15) k))) := fun z => by
                         rw [← hx] at z
                         rcases z.2 with z2 | z2 | z2
                         · omega
                         · omega
                         · first | exact c_71 z2.1 | omega
                       refine ih _ (by omega) ((k : Int) + 1) x _ _ rfl (by omega) ?_
                       rw [show ((k : Int) + 1).toNat = k + 1 by omega, e1, if_neg e9]
                       exact hx)
                    | (exfalso; omega)
          · refine r_iconst (pc := 38) dX8_pressing_38 ?_
            refine r_goto (pc := 39) (tgt := 56) dX8_pressing_39 (by decide) ?_
            refine r_istore_4 (pc := 56) dX8_pressing_56 rfl ?_
            refine r_iload_1 (pc := 58) dX8_pressing_58 ?_
            refine r_if_lt (pc := 59) (tgt := 89) dX8_pressing_59 (by decide) (by omega) (fun c_59 => ?_) (fun c_59 => ?_)
            · refine r_iload_2 (pc := 89) dX8_pressing_89 ?_
              refine r_istore_1 (pc := 90) dX8_pressing_90 rfl ?_
              refine r_iinc_2 (pc := 91) dX8_pressing_91 rfl ?_
              refine r_goto (pc := 94) (tgt := 5) dX8_pressing_94 (by decide) ?_
              first
              | (have e9 : ¬ (wan (h (b + 12)) (h b 17) (h (b + 14)) k = true ∧ (prs (h (b + 12)) (h b 17) (h (b + 14)) (h (b + 15)) k < 0 ∨ bts (iA (h (b + 14) k) (h b 17)) < bts (iA (h (b + 14) (prs (h (b + 12)) (h b 17) (h (b + 14)) (h (b + 15)) k)) (h b 17)) ∨ (bts (iA (h (b + 14) k) (h b 17)) = bts (iA (h (b + 14) (prs (h (b + 12)) (h b 17) (h (b + 14)) (h (b + 15)) k)) (h b 17)) ∧ h (b + 15) (prs (h (b + 12)) (h b 17) (h (b + 14)) (h (b + 15)) k) < h (b + 15) k))) := fun z => c_16 z.1
                 refine ih _ (by omega) ((k : Int) + 1) x _ _ rfl (by omega) ?_
                 rw [show ((k : Int) + 1).toNat = k + 1 by omega, e1, if_neg e9]
                 exact hx)
              | (have e9 : (wan (h (b + 12)) (h b 17) (h (b + 14)) k = true ∧ (prs (h (b + 12)) (h b 17) (h (b + 14)) (h (b + 15)) k < 0 ∨ bts (iA (h (b + 14) k) (h b 17)) < bts (iA (h (b + 14) (prs (h (b + 12)) (h b 17) (h (b + 14)) (h (b + 15)) k)) (h b 17)) ∨ (bts (iA (h (b + 14) k) (h b 17)) = bts (iA (h (b + 14) (prs (h (b + 12)) (h b 17) (h (b + 14)) (h (b + 15)) k)) (h b 17)) ∧ h (b + 15) (prs (h (b + 12)) (h b 17) (h (b + 14)) (h (b + 15)) k) < h (b + 15) k))) := ⟨c_16, Or.inl (by rw [← hx]; exact c_59)⟩
                 refine ih _ (by omega) ((k : Int) + 1) k _ _ rfl (by omega) ?_
                 rw [show ((k : Int) + 1).toNat = k + 1 by omega, e1, if_pos e9])
              | (have e9 : (wan (h (b + 12)) (h b 17) (h (b + 14)) k = true ∧ (prs (h (b + 12)) (h b 17) (h (b + 14)) (h (b + 15)) k < 0 ∨ bts (iA (h (b + 14) k) (h b 17)) < bts (iA (h (b + 14) (prs (h (b + 12)) (h b 17) (h (b + 14)) (h (b + 15)) k)) (h b 17)) ∨ (bts (iA (h (b + 14) k) (h b 17)) = bts (iA (h (b + 14) (prs (h (b + 12)) (h b 17) (h (b + 14)) (h (b + 15)) k)) (h b 17)) ∧ h (b + 15) (prs (h (b + 12)) (h b 17) (h (b + 14)) (h (b + 15)) k) < h (b + 15) k))) := ⟨c_16, Or.inr (Or.inl (by rw [← hx]; exact c_65))⟩
                 refine ih _ (by omega) ((k : Int) + 1) k _ _ rfl (by omega) ?_
                 rw [show ((k : Int) + 1).toNat = k + 1 by omega, e1, if_pos e9])
              | (have e9 : (wan (h (b + 12)) (h b 17) (h (b + 14)) k = true ∧ (prs (h (b + 12)) (h b 17) (h (b + 14)) (h (b + 15)) k < 0 ∨ bts (iA (h (b + 14) k) (h b 17)) < bts (iA (h (b + 14) (prs (h (b + 12)) (h b 17) (h (b + 14)) (h (b + 15)) k)) (h b 17)) ∨ (bts (iA (h (b + 14) k) (h b 17)) = bts (iA (h (b + 14) (prs (h (b + 12)) (h b 17) (h (b + 14)) (h (b + 15)) k)) (h b 17)) ∧ h (b + 15) (prs (h (b + 12)) (h b 17) (h (b + 14)) (h (b + 15)) k) < h (b + 15) k))) := ⟨c_16, Or.inr (Or.inr (by rw [← hx]; exact ⟨c_71, c_86⟩))⟩
                 refine ih _ (by omega) ((k : Int) + 1) k _ _ rfl (by omega) ?_
                 rw [show ((k : Int) + 1).toNat = k + 1 by omega, e1, if_pos e9])
              | (have e9 : ¬ (wan (h (b + 12)) (h b 17) (h (b + 14)) k = true ∧ (prs (h (b + 12)) (h b 17) (h (b + 14)) (h (b + 15)) k < 0 ∨ bts (iA (h (b + 14) k) (h b 17)) < bts (iA (h (b + 14) (prs (h (b + 12)) (h b 17) (h (b + 14)) (h (b + 15)) k)) (h b 17)) ∨ (bts (iA (h (b + 14) k) (h b 17)) = bts (iA (h (b + 14) (prs (h (b + 12)) (h b 17) (h (b + 14)) (h (b + 15)) k)) (h b 17)) ∧ h (b + 15) (prs (h (b + 12)) (h b 17) (h (b + 14)) (h (b + 15)) k) < h (b + 15) k))) := fun z => by
                   rw [← hx] at z
                   rcases z.2 with z2 | z2 | z2
                   · omega
                   · omega
                   · first | exact c_71 z2.1 | omega
                 refine ih _ (by omega) ((k : Int) + 1) x _ _ rfl (by omega) ?_
                 rw [show ((k : Int) + 1).toNat = k + 1 by omega, e1, if_neg e9]
                 exact hx)
              | (exfalso; omega)
            · refine r_iload_3 (pc := 62) dX8_pressing_62 ?_
              refine r_iload_4 (pc := 63) dX8_pressing_63 ?_
              refine r_icmp_lt (pc := 65) (tgt := 89) dX8_pressing_65 (by decide) (by omega) (by omega) (fun c_65 => ?_) (fun c_65 => ?_)
              · refine r_iload_2 (pc := 89) dX8_pressing_89 ?_
                refine r_istore_1 (pc := 90) dX8_pressing_90 rfl ?_
                refine r_iinc_2 (pc := 91) dX8_pressing_91 rfl ?_
                refine r_goto (pc := 94) (tgt := 5) dX8_pressing_94 (by decide) ?_
                first
                | (have e9 : ¬ (wan (h (b + 12)) (h b 17) (h (b + 14)) k = true ∧ (prs (h (b + 12)) (h b 17) (h (b + 14)) (h (b + 15)) k < 0 ∨ bts (iA (h (b + 14) k) (h b 17)) < bts (iA (h (b + 14) (prs (h (b + 12)) (h b 17) (h (b + 14)) (h (b + 15)) k)) (h b 17)) ∨ (bts (iA (h (b + 14) k) (h b 17)) = bts (iA (h (b + 14) (prs (h (b + 12)) (h b 17) (h (b + 14)) (h (b + 15)) k)) (h b 17)) ∧ h (b + 15) (prs (h (b + 12)) (h b 17) (h (b + 14)) (h (b + 15)) k) < h (b + 15) k))) := fun z => c_16 z.1
                   refine ih _ (by omega) ((k : Int) + 1) x _ _ rfl (by omega) ?_
                   rw [show ((k : Int) + 1).toNat = k + 1 by omega, e1, if_neg e9]
                   exact hx)
                | (have e9 : (wan (h (b + 12)) (h b 17) (h (b + 14)) k = true ∧ (prs (h (b + 12)) (h b 17) (h (b + 14)) (h (b + 15)) k < 0 ∨ bts (iA (h (b + 14) k) (h b 17)) < bts (iA (h (b + 14) (prs (h (b + 12)) (h b 17) (h (b + 14)) (h (b + 15)) k)) (h b 17)) ∨ (bts (iA (h (b + 14) k) (h b 17)) = bts (iA (h (b + 14) (prs (h (b + 12)) (h b 17) (h (b + 14)) (h (b + 15)) k)) (h b 17)) ∧ h (b + 15) (prs (h (b + 12)) (h b 17) (h (b + 14)) (h (b + 15)) k) < h (b + 15) k))) := ⟨c_16, Or.inl (by rw [← hx]; exact c_59)⟩
                   refine ih _ (by omega) ((k : Int) + 1) k _ _ rfl (by omega) ?_
                   rw [show ((k : Int) + 1).toNat = k + 1 by omega, e1, if_pos e9])
                | (have e9 : (wan (h (b + 12)) (h b 17) (h (b + 14)) k = true ∧ (prs (h (b + 12)) (h b 17) (h (b + 14)) (h (b + 15)) k < 0 ∨ bts (iA (h (b + 14) k) (h b 17)) < bts (iA (h (b + 14) (prs (h (b + 12)) (h b 17) (h (b + 14)) (h (b + 15)) k)) (h b 17)) ∨ (bts (iA (h (b + 14) k) (h b 17)) = bts (iA (h (b + 14) (prs (h (b + 12)) (h b 17) (h (b + 14)) (h (b + 15)) k)) (h b 17)) ∧ h (b + 15) (prs (h (b + 12)) (h b 17) (h (b + 14)) (h (b + 15)) k) < h (b + 15) k))) := ⟨c_16, Or.inr (Or.inl (by rw [← hx]; exact c_65))⟩
                   refine ih _ (by omega) ((k : Int) + 1) k _ _ rfl (by omega) ?_
                   rw [show ((k : Int) + 1).toNat = k + 1 by omega, e1, if_pos e9])
                | (have e9 : (wan (h (b + 12)) (h b 17) (h (b + 14)) k = true ∧ (prs (h (b + 12)) (h b 17) (h (b + 14)) (h (b + 15)) k < 0 ∨ bts (iA (h (b + 14) k) (h b 17)) < bts (iA (h (b + 14) (prs (h (b + 12)) (h b 17) (h (b + 14)) (h (b + 15)) k)) (h b 17)) ∨ (bts (iA (h (b + 14) k) (h b 17)) = bts (iA (h (b + 14) (prs (h (b + 12)) (h b 17) (h (b + 14)) (h (b + 15)) k)) (h b 17)) ∧ h (b + 15) (prs (h (b + 12)) (h b 17) (h (b + 14)) (h (b + 15)) k) < h (b + 15) k))) := ⟨c_16, Or.inr (Or.inr (by rw [← hx]; exact ⟨c_71, c_86⟩))⟩
                   refine ih _ (by omega) ((k : Int) + 1) k _ _ rfl (by omega) ?_
                   rw [show ((k : Int) + 1).toNat = k + 1 by omega, e1, if_pos e9])
                | (have e9 : ¬ (wan (h (b + 12)) (h b 17) (h (b + 14)) k = true ∧ (prs (h (b + 12)) (h b 17) (h (b + 14)) (h (b + 15)) k < 0 ∨ bts (iA (h (b + 14) k) (h b 17)) < bts (iA (h (b + 14) (prs (h (b + 12)) (h b 17) (h (b + 14)) (h (b + 15)) k)) (h b 17)) ∨ (bts (iA (h (b + 14) k) (h b 17)) = bts (iA (h (b + 14) (prs (h (b + 12)) (h b 17) (h (b + 14)) (h (b + 15)) k)) (h b 17)) ∧ h (b + 15) (prs (h (b + 12)) (h b 17) (h (b + 14)) (h (b + 15)) k) < h (b + 15) k))) := fun z => by
                     rw [← hx] at z
                     rcases z.2 with z2 | z2 | z2
                     · omega
                     · omega
                     · first | exact c_71 z2.1 | omega
                   refine ih _ (by omega) ((k : Int) + 1) x _ _ rfl (by omega) ?_
                   rw [show ((k : Int) + 1).toNat = k + 1 by omega, e1, if_neg e9]
                   exact hx)
                | (exfalso; omega)
              · refine r_iload_3 (pc := 68) dX8_pressing_68 ?_
                refine r_iload_4 (pc := 69) dX8_pressing_69 ?_
                refine r_icmp_ne (pc := 71) (tgt := 91) dX8_pressing_71 (by decide) (by omega) (by omega) (fun c_71 => ?_) (fun c_71 => ?_)
                · refine r_iinc_2 (pc := 91) dX8_pressing_91 rfl ?_
                  refine r_goto (pc := 94) (tgt := 5) dX8_pressing_94 (by decide) ?_
                  first
                  | (have e9 : ¬ (wan (h (b + 12)) (h b 17) (h (b + 14)) k = true ∧ (prs (h (b + 12)) (h b 17) (h (b + 14)) (h (b + 15)) k < 0 ∨ bts (iA (h (b + 14) k) (h b 17)) < bts (iA (h (b + 14) (prs (h (b + 12)) (h b 17) (h (b + 14)) (h (b + 15)) k)) (h b 17)) ∨ (bts (iA (h (b + 14) k) (h b 17)) = bts (iA (h (b + 14) (prs (h (b + 12)) (h b 17) (h (b + 14)) (h (b + 15)) k)) (h b 17)) ∧ h (b + 15) (prs (h (b + 12)) (h b 17) (h (b + 14)) (h (b + 15)) k) < h (b + 15) k))) := fun z => c_16 z.1
                     refine ih _ (by omega) ((k : Int) + 1) x _ _ rfl (by omega) ?_
                     rw [show ((k : Int) + 1).toNat = k + 1 by omega, e1, if_neg e9]
                     exact hx)
                  | (have e9 : (wan (h (b + 12)) (h b 17) (h (b + 14)) k = true ∧ (prs (h (b + 12)) (h b 17) (h (b + 14)) (h (b + 15)) k < 0 ∨ bts (iA (h (b + 14) k) (h b 17)) < bts (iA (h (b + 14) (prs (h (b + 12)) (h b 17) (h (b + 14)) (h (b + 15)) k)) (h b 17)) ∨ (bts (iA (h (b + 14) k) (h b 17)) = bts (iA (h (b + 14) (prs (h (b + 12)) (h b 17) (h (b + 14)) (h (b + 15)) k)) (h b 17)) ∧ h (b + 15) (prs (h (b + 12)) (h b 17) (h (b + 14)) (h (b + 15)) k) < h (b + 15) k))) := ⟨c_16, Or.inl (by rw [← hx]; exact c_59)⟩
                     refine ih _ (by omega) ((k : Int) + 1) k _ _ rfl (by omega) ?_
                     rw [show ((k : Int) + 1).toNat = k + 1 by omega, e1, if_pos e9])
                  | (have e9 : (wan (h (b + 12)) (h b 17) (h (b + 14)) k = true ∧ (prs (h (b + 12)) (h b 17) (h (b + 14)) (h (b + 15)) k < 0 ∨ bts (iA (h (b + 14) k) (h b 17)) < bts (iA (h (b + 14) (prs (h (b + 12)) (h b 17) (h (b + 14)) (h (b + 15)) k)) (h b 17)) ∨ (bts (iA (h (b + 14) k) (h b 17)) = bts (iA (h (b + 14) (prs (h (b + 12)) (h b 17) (h (b + 14)) (h (b + 15)) k)) (h b 17)) ∧ h (b + 15) (prs (h (b + 12)) (h b 17) (h (b + 14)) (h (b + 15)) k) < h (b + 15) k))) := ⟨c_16, Or.inr (Or.inl (by rw [← hx]; exact c_65))⟩
                     refine ih _ (by omega) ((k : Int) + 1) k _ _ rfl (by omega) ?_
                     rw [show ((k : Int) + 1).toNat = k + 1 by omega, e1, if_pos e9])
                  | (have e9 : (wan (h (b + 12)) (h b 17) (h (b + 14)) k = true ∧ (prs (h (b + 12)) (h b 17) (h (b + 14)) (h (b + 15)) k < 0 ∨ bts (iA (h (b + 14) k) (h b 17)) < bts (iA (h (b + 14) (prs (h (b + 12)) (h b 17) (h (b + 14)) (h (b + 15)) k)) (h b 17)) ∨ (bts (iA (h (b + 14) k) (h b 17)) = bts (iA (h (b + 14) (prs (h (b + 12)) (h b 17) (h (b + 14)) (h (b + 15)) k)) (h b 17)) ∧ h (b + 15) (prs (h (b + 12)) (h b 17) (h (b + 14)) (h (b + 15)) k) < h (b + 15) k))) := ⟨c_16, Or.inr (Or.inr (by rw [← hx]; exact ⟨c_71, c_86⟩))⟩
                     refine ih _ (by omega) ((k : Int) + 1) k _ _ rfl (by omega) ?_
                     rw [show ((k : Int) + 1).toNat = k + 1 by omega, e1, if_pos e9])
                  | (have e9 : ¬ (wan (h (b + 12)) (h b 17) (h (b + 14)) k = true ∧ (prs (h (b + 12)) (h b 17) (h (b + 14)) (h (b + 15)) k < 0 ∨ bts (iA (h (b + 14) k) (h b 17)) < bts (iA (h (b + 14) (prs (h (b + 12)) (h b 17) (h (b + 14)) (h (b + 15)) k)) (h b 17)) ∨ (bts (iA (h (b + 14) k) (h b 17)) = bts (iA (h (b + 14) (prs (h (b + 12)) (h b 17) (h (b + 14)) (h (b + 15)) k)) (h b 17)) ∧ h (b + 15) (prs (h (b + 12)) (h b 17) (h (b + 14)) (h (b + 15)) k) < h (b + 15) k))) := fun z => by
                       rw [← hx] at z
                       rcases z.2 with z2 | z2 | z2
                       · omega
                       · omega
                       · first | exact c_71 z2.1 | omega
                     refine ih _ (by omega) ((k : Int) + 1) x _ _ rfl (by omega) ?_
                     rw [show ((k : Int) + 1).toNat = k + 1 by omega, e1, if_neg e9]
                     exact hx)
                  | (exfalso; omega)
                · refine r_aload_0 (pc := 74) dX8_pressing_74 ?_
                  refine gf_X8_52 (pc := 75) rfl (by assumption) dX8_pressing_75 (by assumption) ?_
                  refine r_iload_2 (pc := 78) dX8_pressing_78 ?_
                  refine r_ialdE (pc := 79) (by assumption) (by first | assumption | exact rfl) dX8_pressing_79 (by omega) (by omega) (fun i_79 => ?_)
                  refine r_aload_0 (pc := 80) dX8_pressing_80 ?_
                  refine gf_X8_52 (pc := 81) rfl (by assumption) dX8_pressing_81 (by assumption) ?_
                  refine r_iload_1 (pc := 84) dX8_pressing_84 ?_
                  refine r_ialdE (pc := 85) (by assumption) (by first | assumption | exact rfl) dX8_pressing_85 (by omega) (by omega) (fun i_85 => ?_)
                  refine r_icmp_le (pc := 86) (tgt := 91) dX8_pressing_86 (by decide) (by omega) (by omega) (fun c_86 => ?_) (fun c_86 => ?_)
                  · refine r_iinc_2 (pc := 91) dX8_pressing_91 rfl ?_
                    refine r_goto (pc := 94) (tgt := 5) dX8_pressing_94 (by decide) ?_
                    first
                    | (have e9 : ¬ (wan (h (b + 12)) (h b 17) (h (b + 14)) k = true ∧ (prs (h (b + 12)) (h b 17) (h (b + 14)) (h (b + 15)) k < 0 ∨ bts (iA (h (b + 14) k) (h b 17)) < bts (iA (h (b + 14) (prs (h (b + 12)) (h b 17) (h (b + 14)) (h (b + 15)) k)) (h b 17)) ∨ (bts (iA (h (b + 14) k) (h b 17)) = bts (iA (h (b + 14) (prs (h (b + 12)) (h b 17) (h (b + 14)) (h (b + 15)) k)) (h b 17)) ∧ h (b + 15) (prs (h (b + 12)) (h b 17) (h (b + 14)) (h (b + 15)) k) < h (b + 15) k))) := fun z => c_16 z.1
                       refine ih _ (by omega) ((k : Int) + 1) x _ _ rfl (by omega) ?_
                       rw [show ((k : Int) + 1).toNat = k + 1 by omega, e1, if_neg e9]
                       exact hx)
                    | (have e9 : (wan (h (b + 12)) (h b 17) (h (b + 14)) k = true ∧ (prs (h (b + 12)) (h b 17) (h (b + 14)) (h (b + 15)) k < 0 ∨ bts (iA (h (b + 14) k) (h b 17)) < bts (iA (h (b + 14) (prs (h (b + 12)) (h b 17) (h (b + 14)) (h (b + 15)) k)) (h b 17)) ∨ (bts (iA (h (b + 14) k) (h b 17)) = bts (iA (h (b + 14) (prs (h (b + 12)) (h b 17) (h (b + 14)) (h (b + 15)) k)) (h b 17)) ∧ h (b + 15) (prs (h (b + 12)) (h b 17) (h (b + 14)) (h (b + 15)) k) < h (b + 15) k))) := ⟨c_16, Or.inl (by rw [← hx]; exact c_59)⟩
                       refine ih _ (by omega) ((k : Int) + 1) k _ _ rfl (by omega) ?_
                       rw [show ((k : Int) + 1).toNat = k + 1 by omega, e1, if_pos e9])
                    | (have e9 : (wan (h (b + 12)) (h b 17) (h (b + 14)) k = true ∧ (prs (h (b + 12)) (h b 17) (h (b + 14)) (h (b + 15)) k < 0 ∨ bts (iA (h (b + 14) k) (h b 17)) < bts (iA (h (b + 14) (prs (h (b + 12)) (h b 17) (h (b + 14)) (h (b + 15)) k)) (h b 17)) ∨ (bts (iA (h (b + 14) k) (h b 17)) = bts (iA (h (b + 14) (prs (h (b + 12)) (h b 17) (h (b + 14)) (h (b + 15)) k)) (h b 17)) ∧ h (b + 15) (prs (h (b + 12)) (h b 17) (h (b + 14)) (h (b + 15)) k) < h (b + 15) k))) := ⟨c_16, Or.inr (Or.inl (by rw [← hx]; exact c_65))⟩
                       refine ih _ (by omega) ((k : Int) + 1) k _ _ rfl (by omega) ?_
                       rw [show ((k : Int) + 1).toNat = k + 1 by omega, e1, if_pos e9])
                    | (have e9 : (wan (h (b + 12)) (h b 17) (h (b + 14)) k = true ∧ (prs (h (b + 12)) (h b 17) (h (b + 14)) (h (b + 15)) k < 0 ∨ bts (iA (h (b + 14) k) (h b 17)) < bts (iA (h (b + 14) (prs (h (b + 12)) (h b 17) (h (b + 14)) (h (b + 15)) k)) (h b 17)) ∨ (bts (iA (h (b + 14) k) (h b 17)) = bts (iA (h (b + 14) (prs (h (b + 12)) (h b 17) (h (b + 14)) (h (b + 15)) k)) (h b 17)) ∧ h (b + 15) (prs (h (b + 12)) (h b 17) (h (b + 14)) (h (b + 15)) k) < h (b + 15) k))) := ⟨c_16, Or.inr (Or.inr (by rw [← hx]; exact ⟨c_71, c_86⟩))⟩
                       refine ih _ (by omega) ((k : Int) + 1) k _ _ rfl (by omega) ?_
                       rw [show ((k : Int) + 1).toNat = k + 1 by omega, e1, if_pos e9])
                    | (have e9 : ¬ (wan (h (b + 12)) (h b 17) (h (b + 14)) k = true ∧ (prs (h (b + 12)) (h b 17) (h (b + 14)) (h (b + 15)) k < 0 ∨ bts (iA (h (b + 14) k) (h b 17)) < bts (iA (h (b + 14) (prs (h (b + 12)) (h b 17) (h (b + 14)) (h (b + 15)) k)) (h b 17)) ∨ (bts (iA (h (b + 14) k) (h b 17)) = bts (iA (h (b + 14) (prs (h (b + 12)) (h b 17) (h (b + 14)) (h (b + 15)) k)) (h b 17)) ∧ h (b + 15) (prs (h (b + 12)) (h b 17) (h (b + 14)) (h (b + 15)) k) < h (b + 15) k))) := fun z => by
                         rw [← hx] at z
                         rcases z.2 with z2 | z2 | z2
                         · omega
                         · omega
                         · first | exact c_71 z2.1 | omega
                       refine ih _ (by omega) ((k : Int) + 1) x _ _ rfl (by omega) ?_
                       rw [show ((k : Int) + 1).toNat = k + 1 by omega, e1, if_neg e9]
                       exact hx)
                    | (exfalso; omega)
                  · refine r_iload_2 (pc := 89) dX8_pressing_89 ?_
                    refine r_istore_1 (pc := 90) dX8_pressing_90 rfl ?_
                    refine r_iinc_2 (pc := 91) dX8_pressing_91 rfl ?_
                    refine r_goto (pc := 94) (tgt := 5) dX8_pressing_94 (by decide) ?_
                    first
                    | (have e9 : ¬ (wan (h (b + 12)) (h b 17) (h (b + 14)) k = true ∧ (prs (h (b + 12)) (h b 17) (h (b + 14)) (h (b + 15)) k < 0 ∨ bts (iA (h (b + 14) k) (h b 17)) < bts (iA (h (b + 14) (prs (h (b + 12)) (h b 17) (h (b + 14)) (h (b + 15)) k)) (h b 17)) ∨ (bts (iA (h (b + 14) k) (h b 17)) = bts (iA (h (b + 14) (prs (h (b + 12)) (h b 17) (h (b + 14)) (h (b + 15)) k)) (h b 17)) ∧ h (b + 15) (prs (h (b + 12)) (h b 17) (h (b + 14)) (h (b + 15)) k) < h (b + 15) k))) := fun z => c_16 z.1
                       refine ih _ (by omega) ((k : Int) + 1) x _ _ rfl (by omega) ?_
                       rw [show ((k : Int) + 1).toNat = k + 1 by omega, e1, if_neg e9]
                       exact hx)
                    | (have e9 : (wan (h (b + 12)) (h b 17) (h (b + 14)) k = true ∧ (prs (h (b + 12)) (h b 17) (h (b + 14)) (h (b + 15)) k < 0 ∨ bts (iA (h (b + 14) k) (h b 17)) < bts (iA (h (b + 14) (prs (h (b + 12)) (h b 17) (h (b + 14)) (h (b + 15)) k)) (h b 17)) ∨ (bts (iA (h (b + 14) k) (h b 17)) = bts (iA (h (b + 14) (prs (h (b + 12)) (h b 17) (h (b + 14)) (h (b + 15)) k)) (h b 17)) ∧ h (b + 15) (prs (h (b + 12)) (h b 17) (h (b + 14)) (h (b + 15)) k) < h (b + 15) k))) := ⟨c_16, Or.inl (by rw [← hx]; exact c_59)⟩
                       refine ih _ (by omega) ((k : Int) + 1) k _ _ rfl (by omega) ?_
                       rw [show ((k : Int) + 1).toNat = k + 1 by omega, e1, if_pos e9])
                    | (have e9 : (wan (h (b + 12)) (h b 17) (h (b + 14)) k = true ∧ (prs (h (b + 12)) (h b 17) (h (b + 14)) (h (b + 15)) k < 0 ∨ bts (iA (h (b + 14) k) (h b 17)) < bts (iA (h (b + 14) (prs (h (b + 12)) (h b 17) (h (b + 14)) (h (b + 15)) k)) (h b 17)) ∨ (bts (iA (h (b + 14) k) (h b 17)) = bts (iA (h (b + 14) (prs (h (b + 12)) (h b 17) (h (b + 14)) (h (b + 15)) k)) (h b 17)) ∧ h (b + 15) (prs (h (b + 12)) (h b 17) (h (b + 14)) (h (b + 15)) k) < h (b + 15) k))) := ⟨c_16, Or.inr (Or.inl (by rw [← hx]; exact c_65))⟩
                       refine ih _ (by omega) ((k : Int) + 1) k _ _ rfl (by omega) ?_
                       rw [show ((k : Int) + 1).toNat = k + 1 by omega, e1, if_pos e9])
                    | (have e9 : (wan (h (b + 12)) (h b 17) (h (b + 14)) k = true ∧ (prs (h (b + 12)) (h b 17) (h (b + 14)) (h (b + 15)) k < 0 ∨ bts (iA (h (b + 14) k) (h b 17)) < bts (iA (h (b + 14) (prs (h (b + 12)) (h b 17) (h (b + 14)) (h (b + 15)) k)) (h b 17)) ∨ (bts (iA (h (b + 14) k) (h b 17)) = bts (iA (h (b + 14) (prs (h (b + 12)) (h b 17) (h (b + 14)) (h (b + 15)) k)) (h b 17)) ∧ h (b + 15) (prs (h (b + 12)) (h b 17) (h (b + 14)) (h (b + 15)) k) < h (b + 15) k))) := ⟨c_16, Or.inr (Or.inr (by rw [← hx]; exact ⟨c_71, c_86⟩))⟩
                       refine ih _ (by omega) ((k : Int) + 1) k _ _ rfl (by omega) ?_
                       rw [show ((k : Int) + 1).toNat = k + 1 by omega, e1, if_pos e9])
                    | (have e9 : ¬ (wan (h (b + 12)) (h b 17) (h (b + 14)) k = true ∧ (prs (h (b + 12)) (h b 17) (h (b + 14)) (h (b + 15)) k < 0 ∨ bts (iA (h (b + 14) k) (h b 17)) < bts (iA (h (b + 14) (prs (h (b + 12)) (h b 17) (h (b + 14)) (h (b + 15)) k)) (h b 17)) ∨ (bts (iA (h (b + 14) k) (h b 17)) = bts (iA (h (b + 14) (prs (h (b + 12)) (h b 17) (h (b + 14)) (h (b + 15)) k)) (h b 17)) ∧ h (b + 15) (prs (h (b + 12)) (h b 17) (h (b + 14)) (h (b + 15)) k) < h (b + 15) k))) := fun z => by
                         rw [← hx] at z
                         rcases z.2 with z2 | z2 | z2
                         · omega
                         · omega
                         · first | exact c_71 z2.1 | omega
                       refine ih _ (by omega) ((k : Int) + 1) x _ _ rfl (by omega) ?_
                       rw [show ((k : Int) + 1).toNat = k + 1 by omega, e1, if_neg e9]
                       exact hx)
                    | (exfalso; omega)
  refine r_bipush (pc := 0) dX8_pressing_0 (by decide) ?_
  refine r_istore_1 (pc := 2) dX8_pressing_2 rfl ?_
  refine r_iconst (pc := 3) dX8_pressing_3 ?_
  refine r_istore_2 (pc := 4) dX8_pressing_4 rfl ?_
  exact lp _ 0 (-4) _ _ rfl (by omega) rfl

theorem dX8_copiesTo_0 : decode cX8_copiesTo 0 = .ok (.iconst 0, 1) := by decide +kernel
theorem dX8_copiesTo_1 : decode cX8_copiesTo 1 = .ok (.istore_n 2, 1) := by decide +kernel
theorem dX8_copiesTo_2 : decode cX8_copiesTo 2 = .ok (.iload_n 2, 1) := by decide +kernel
theorem dX8_copiesTo_3 : decode cX8_copiesTo 3 = .ok (.iconst 4, 1) := by decide +kernel
theorem dX8_copiesTo_4 : decode cX8_copiesTo 4 = .ok (.if_icmp .ge 71, 3) := by decide +kernel
theorem dX8_copiesTo_7 : decode cX8_copiesTo 7 = .ok (.aload_n 0, 1) := by decide +kernel
theorem dX8_copiesTo_8 : decode cX8_copiesTo 8 = .ok (.getfield 43, 3) := by decide +kernel
theorem dX8_copiesTo_11 : decode cX8_copiesTo 11 = .ok (.iconst 4, 1) := by decide +kernel
theorem dX8_copiesTo_12 : decode cX8_copiesTo 12 = .ok (.iload_n 1, 1) := by decide +kernel
theorem dX8_copiesTo_13 : decode cX8_copiesTo 13 = .ok (.imul, 1) := by decide +kernel
theorem dX8_copiesTo_14 : decode cX8_copiesTo 14 = .ok (.iload_n 2, 1) := by decide +kernel
theorem dX8_copiesTo_15 : decode cX8_copiesTo 15 = .ok (.iadd, 1) := by decide +kernel
theorem dX8_copiesTo_16 : decode cX8_copiesTo 16 = .ok (.iaload, 1) := by decide +kernel
theorem dX8_copiesTo_17 : decode cX8_copiesTo 17 = .ok (.istore_n 3, 1) := by decide +kernel
theorem dX8_copiesTo_18 : decode cX8_copiesTo 18 = .ok (.iload_n 3, 1) := by decide +kernel
theorem dX8_copiesTo_19 : decode cX8_copiesTo 19 = .ok (.ifCond .lt 50, 3) := by decide +kernel
theorem dX8_copiesTo_22 : decode cX8_copiesTo 22 = .ok (.aload_n 0, 1) := by decide +kernel
theorem dX8_copiesTo_23 : decode cX8_copiesTo 23 = .ok (.getfield 125, 3) := by decide +kernel
theorem dX8_copiesTo_26 : decode cX8_copiesTo 26 = .ok (.iload_n 3, 1) := by decide +kernel
theorem dX8_copiesTo_27 : decode cX8_copiesTo 27 = .ok (.bipush 10, 2) := by decide +kernel
theorem dX8_copiesTo_29 : decode cX8_copiesTo 29 = .ok (.isub, 1) := by decide +kernel
theorem dX8_copiesTo_30 : decode cX8_copiesTo 30 = .ok (.ishr, 1) := by decide +kernel
theorem dX8_copiesTo_31 : decode cX8_copiesTo 31 = .ok (.iconst 1, 1) := by decide +kernel
theorem dX8_copiesTo_32 : decode cX8_copiesTo 32 = .ok (.iand, 1) := by decide +kernel
theorem dX8_copiesTo_33 : decode cX8_copiesTo 33 = .ok (.iconst 1, 1) := by decide +kernel
theorem dX8_copiesTo_34 : decode cX8_copiesTo 34 = .ok (.if_icmp .ne 35, 3) := by decide +kernel
theorem dX8_copiesTo_37 : decode cX8_copiesTo 37 = .ok (.aload_n 0, 1) := by decide +kernel
theorem dX8_copiesTo_38 : decode cX8_copiesTo 38 = .ok (.getfield 49, 3) := by decide +kernel
theorem dX8_copiesTo_41 : decode cX8_copiesTo 41 = .ok (.iload_n 1, 1) := by decide +kernel
theorem dX8_copiesTo_42 : decode cX8_copiesTo 42 = .ok (.iaload, 1) := by decide +kernel
theorem dX8_copiesTo_43 : decode cX8_copiesTo 43 = .ok (.iload_n 3, 1) := by decide +kernel
theorem dX8_copiesTo_44 : decode cX8_copiesTo 44 = .ok (.bipush 10, 2) := by decide +kernel
theorem dX8_copiesTo_46 : decode cX8_copiesTo 46 = .ok (.isub, 1) := by decide +kernel
theorem dX8_copiesTo_47 : decode cX8_copiesTo 47 = .ok (.ishr, 1) := by decide +kernel
theorem dX8_copiesTo_48 : decode cX8_copiesTo 48 = .ok (.iconst 1, 1) := by decide +kernel
theorem dX8_copiesTo_49 : decode cX8_copiesTo 49 = .ok (.iand, 1) := by decide +kernel
theorem dX8_copiesTo_50 : decode cX8_copiesTo 50 = .ok (.ifCond .ne 19, 3) := by decide +kernel
theorem dX8_copiesTo_53 : decode cX8_copiesTo 53 = .ok (.aload_n 0, 1) := by decide +kernel
theorem dX8_copiesTo_54 : decode cX8_copiesTo 54 = .ok (.getfield 49, 3) := by decide +kernel
theorem dX8_copiesTo_57 : decode cX8_copiesTo 57 = .ok (.iload_n 1, 1) := by decide +kernel
theorem dX8_copiesTo_58 : decode cX8_copiesTo 58 = .ok (.dup2, 1) := by decide +kernel
theorem dX8_copiesTo_59 : decode cX8_copiesTo 59 = .ok (.iaload, 1) := by decide +kernel
theorem dX8_copiesTo_60 : decode cX8_copiesTo 60 = .ok (.iconst 1, 1) := by decide +kernel
theorem dX8_copiesTo_61 : decode cX8_copiesTo 61 = .ok (.iload_n 3, 1) := by decide +kernel
theorem dX8_copiesTo_62 : decode cX8_copiesTo 62 = .ok (.bipush 10, 2) := by decide +kernel
theorem dX8_copiesTo_64 : decode cX8_copiesTo 64 = .ok (.isub, 1) := by decide +kernel
theorem dX8_copiesTo_65 : decode cX8_copiesTo 65 = .ok (.ishl, 1) := by decide +kernel
theorem dX8_copiesTo_66 : decode cX8_copiesTo 66 = .ok (.ior, 1) := by decide +kernel
theorem dX8_copiesTo_67 : decode cX8_copiesTo 67 = .ok (.iastore, 1) := by decide +kernel
theorem dX8_copiesTo_68 : decode cX8_copiesTo 68 = .ok (.return_, 1) := by decide +kernel
theorem dX8_copiesTo_69 : decode cX8_copiesTo 69 = .ok (.iinc 2 1, 3) := by decide +kernel
theorem dX8_copiesTo_72 : decode cX8_copiesTo 72 = .ok (.goto (-70), 3) := by decide +kernel
theorem dX8_copiesTo_75 : decode cX8_copiesTo 75 = .ok (.return_, 1) := by decide +kernel
set_option maxHeartbeats 4000000 in
set_option maxRecDepth 20000 in
theorem c_X8_copiesTo : ConV mX8_copiesTo (fun args N lay r h Q => ∃ (b : Nat) (g : Int), args = [.ref b, vI g] ∧ MdAt lay r b ∧ (0 ≤ g ∧ g < 16) ∧ Q N lay r (hr h (b + 14) (cpy (h (b + 12)) (h b 17) (h (b + 14)) g))) := by
  refine ConV.of (by decide) (by rintro _ N lay r h Q ⟨b, g, rfl, hM, hg, hQ⟩; exact ⟨rfl, Nat.le_of_ble_eq_true rfl⟩) ?_
  rintro E _ N lay r h Q ⟨b, g, rfl, hM, hg, hQ⟩ hret
  obtain ⟨ml0, ml1, ml2, ml3, ml4, ml5, ml6, ml7, ml8, ml9, ml10, ml11, ml12, ml13, ml14, ml15, ml16, ml17, ml18, ml19, ml20, mr1, mr2, mr3, mr4, mr5, mr6, mr7, mr8, mr9, mr10, mr11, mr12, mr13, mr14, mr15, mr16, mr17, mr18, mr19, mr20⟩ := id hM
  show St E mX8_copiesTo 0 [some (.ref b), some (vI g), none, none] [] (0, 0) N lay r h
  have lp : ∀ (n_ : Nat) (c : Int) (x3 : Option Value), (4 - c).toNat = n_ → (0 ≤ c ∧ c ≤ 4) → (fst4 (h (b + 12)) g (mP (h b 17) (h (b + 14) g)) c.toNat < 0) → St E mX8_copiesTo 2 [some (.ref b), some (vI g), some (vI c), x3] [] (0, 0) N lay r h := by
    intro  n_
    induction n_ using Nat.strongRecOn with
    | ind n_ ih =>
      intro c x3 hn_ hc hn
      obtain ⟨k, rfl⟩ : ∃ k : Nat, c = k := ⟨c.toNat, by omega⟩
      rw [show ((k : Int)).toNat = k by omega] at hn
      have e1 := fst4_s (h (b + 12)) g (mP (h b 17) (h (b + 14) g)) k
      refine r_iload_2 (pc := 2) dX8_copiesTo_2 ?_
      refine r_iconst (pc := 3) dX8_copiesTo_3 ?_
      refine r_icmp_ge (pc := 4) (tgt := 75) dX8_copiesTo_4 (by decide) (by omega) (by omega) (fun c_4 => ?_) (fun c_4 => ?_)
      · refine r_ret (pc := 75) hret dX8_copiesTo_75 rfl rfl rfl ?_
        first
        | (have e9 : fst4 (h (b + 12)) g (mP (h b 17) (h (b + 14) g)) (k + 1) = h (b + 12) (4 * g + k) := by rw [e1, if_pos ⟨by omega, c_19, mP_iff.mpr ⟨c_34, c_50⟩⟩]
           have e8 : fst4 (h (b + 12)) g (mP (h b 17) (h (b + 14) g)) 4 = h (b + 12) (4 * g + k) := by
             have := fst4_st (h (b + 12)) g (mP (h b 17) (h (b + 14) g)) (k + 1) (by rw [e9]; exact c_19) (3 - k)
             rw [show k + 1 + (3 - k) = 4 by omega, e9] at this
             exact this
           unfold cpy at hQ
           rw [e8, if_neg (by omega)] at hQ
           exact hQ)
        | (have hk4 : k = 4 := by omega
           subst hk4
           unfold cpy at hQ
           rw [if_pos hn, hr_id] at hQ
           exact hQ)
      · refine r_aload_0 (pc := 7) dX8_copiesTo_7 ?_
        refine gf_X8_43 (pc := 8) rfl (by assumption) dX8_copiesTo_8 (by assumption) ?_
        refine r_iconst (pc := 11) dX8_copiesTo_11 ?_
        refine r_iload_1 (pc := 12) dX8_copiesTo_12 ?_
        refine r_imul (pc := 13) dX8_copiesTo_13 ?_
        refine r_iload_2 (pc := 14) dX8_copiesTo_14 ?_
        refine r_iadd (pc := 15) dX8_copiesTo_15 ?_
        refine r_ialdE (pc := 16) (by assumption) (by first | assumption | exact rfl) dX8_copiesTo_16 (by omega) (by omega) (fun i_16 => ?_)
        refine r_istore_3 (pc := 17) dX8_copiesTo_17 rfl ?_
        refine r_iload_3 (pc := 18) dX8_copiesTo_18 ?_
        refine r_if_lt (pc := 19) (tgt := 69) dX8_copiesTo_19 (by decide) (by omega) (fun c_19 => ?_) (fun c_19 => ?_)
        · refine r_iinc_2 (pc := 69) dX8_copiesTo_69 rfl ?_
          refine r_goto (pc := 72) (tgt := 2) dX8_copiesTo_72 (by decide) ?_
          first
          | (have e9 : ¬ (fst4 (h (b + 12)) g (mP (h b 17) (h (b + 14) g)) k < 0 ∧ 0 ≤ h (b + 12) (4 * g + k) ∧ mP (h b 17) (h (b + 14) g) (h (b + 12) (4 * g + k)) = true) := fun z => by have := z.2.1; omega
             exact ih _ (by omega) ((k : Int) + 1) _ rfl (by omega) (by rw [show ((k : Int) + 1).toNat = k + 1 by omega, e1, if_neg e9]; exact hn))
          | (have e9 : ¬ (fst4 (h (b + 12)) g (mP (h b 17) (h (b + 14) g)) k < 0 ∧ 0 ≤ h (b + 12) (4 * g + k) ∧ mP (h b 17) (h (b + 14) g) (h (b + 12) (4 * g + k)) = true) := fun z => c_34 (mP_iff.mp z.2.2).1
             exact ih _ (by omega) ((k : Int) + 1) _ rfl (by omega) (by rw [show ((k : Int) + 1).toNat = k + 1 by omega, e1, if_neg e9]; exact hn))
          | (have e9 : ¬ (fst4 (h (b + 12)) g (mP (h b 17) (h (b + 14) g)) k < 0 ∧ 0 ≤ h (b + 12) (4 * g + k) ∧ mP (h b 17) (h (b + 14) g) (h (b + 12) (4 * g + k)) = true) := fun z => c_50 (mP_iff.mp z.2.2).2
             exact ih _ (by omega) ((k : Int) + 1) _ rfl (by omega) (by rw [show ((k : Int) + 1).toNat = k + 1 by omega, e1, if_neg e9]; exact hn))
        · refine r_aload_0 (pc := 22) dX8_copiesTo_22 ?_
          refine gf_X8_125 (pc := 23) rfl (by assumption) dX8_copiesTo_23 (fun i_23 => ?_)
          refine r_iload_3 (pc := 26) dX8_copiesTo_26 ?_
          refine r_bipush (pc := 27) dX8_copiesTo_27 (by decide) ?_
          refine r_isub (pc := 29) dX8_copiesTo_29 ?_
          refine r_ishr (pc := 30) dX8_copiesTo_30 (fun i_30 => ?_)
          refine r_iconst (pc := 31) dX8_copiesTo_31 ?_
          refine r_iand (pc := 32) dX8_copiesTo_32 (fun i_32 => ?_)
          refine r_iconst (pc := 33) dX8_copiesTo_33 ?_
          refine r_icmp_ne (pc := 34) (tgt := 69) dX8_copiesTo_34 (by decide) (by omega) (by omega) (fun c_34 => ?_) (fun c_34 => ?_)
          · refine r_iinc_2 (pc := 69) dX8_copiesTo_69 rfl ?_
            refine r_goto (pc := 72) (tgt := 2) dX8_copiesTo_72 (by decide) ?_
            first
            | (have e9 : ¬ (fst4 (h (b + 12)) g (mP (h b 17) (h (b + 14) g)) k < 0 ∧ 0 ≤ h (b + 12) (4 * g + k) ∧ mP (h b 17) (h (b + 14) g) (h (b + 12) (4 * g + k)) = true) := fun z => by have := z.2.1; omega
               exact ih _ (by omega) ((k : Int) + 1) _ rfl (by omega) (by rw [show ((k : Int) + 1).toNat = k + 1 by omega, e1, if_neg e9]; exact hn))
            | (have e9 : ¬ (fst4 (h (b + 12)) g (mP (h b 17) (h (b + 14) g)) k < 0 ∧ 0 ≤ h (b + 12) (4 * g + k) ∧ mP (h b 17) (h (b + 14) g) (h (b + 12) (4 * g + k)) = true) := fun z => c_34 (mP_iff.mp z.2.2).1
               exact ih _ (by omega) ((k : Int) + 1) _ rfl (by omega) (by rw [show ((k : Int) + 1).toNat = k + 1 by omega, e1, if_neg e9]; exact hn))
            | (have e9 : ¬ (fst4 (h (b + 12)) g (mP (h b 17) (h (b + 14) g)) k < 0 ∧ 0 ≤ h (b + 12) (4 * g + k) ∧ mP (h b 17) (h (b + 14) g) (h (b + 12) (4 * g + k)) = true) := fun z => c_50 (mP_iff.mp z.2.2).2
               exact ih _ (by omega) ((k : Int) + 1) _ rfl (by omega) (by rw [show ((k : Int) + 1).toNat = k + 1 by omega, e1, if_neg e9]; exact hn))
          · refine r_aload_0 (pc := 37) dX8_copiesTo_37 ?_
            refine gf_X8_49 (pc := 38) rfl (by assumption) dX8_copiesTo_38 (by assumption) ?_
            refine r_iload_1 (pc := 41) dX8_copiesTo_41 ?_
            refine r_ialdE (pc := 42) (by assumption) (by first | assumption | exact rfl) dX8_copiesTo_42 (by omega) (by omega) (fun i_42 => ?_)
            refine r_iload_3 (pc := 43) dX8_copiesTo_43 ?_
            refine r_bipush (pc := 44) dX8_copiesTo_44 (by decide) ?_
            refine r_isub (pc := 46) dX8_copiesTo_46 ?_
            refine r_ishr (pc := 47) dX8_copiesTo_47 (fun i_47 => ?_)
            refine r_iconst (pc := 48) dX8_copiesTo_48 ?_
            refine r_iand (pc := 49) dX8_copiesTo_49 (fun i_49 => ?_)
            refine r_if_ne (pc := 50) (tgt := 69) dX8_copiesTo_50 (by decide) (by omega) (fun c_50 => ?_) (fun c_50 => ?_)
            · refine r_iinc_2 (pc := 69) dX8_copiesTo_69 rfl ?_
              refine r_goto (pc := 72) (tgt := 2) dX8_copiesTo_72 (by decide) ?_
              first
              | (have e9 : ¬ (fst4 (h (b + 12)) g (mP (h b 17) (h (b + 14) g)) k < 0 ∧ 0 ≤ h (b + 12) (4 * g + k) ∧ mP (h b 17) (h (b + 14) g) (h (b + 12) (4 * g + k)) = true) := fun z => by have := z.2.1; omega
                 exact ih _ (by omega) ((k : Int) + 1) _ rfl (by omega) (by rw [show ((k : Int) + 1).toNat = k + 1 by omega, e1, if_neg e9]; exact hn))
              | (have e9 : ¬ (fst4 (h (b + 12)) g (mP (h b 17) (h (b + 14) g)) k < 0 ∧ 0 ≤ h (b + 12) (4 * g + k) ∧ mP (h b 17) (h (b + 14) g) (h (b + 12) (4 * g + k)) = true) := fun z => c_34 (mP_iff.mp z.2.2).1
                 exact ih _ (by omega) ((k : Int) + 1) _ rfl (by omega) (by rw [show ((k : Int) + 1).toNat = k + 1 by omega, e1, if_neg e9]; exact hn))
              | (have e9 : ¬ (fst4 (h (b + 12)) g (mP (h b 17) (h (b + 14) g)) k < 0 ∧ 0 ≤ h (b + 12) (4 * g + k) ∧ mP (h b 17) (h (b + 14) g) (h (b + 12) (4 * g + k)) = true) := fun z => c_50 (mP_iff.mp z.2.2).2
                 exact ih _ (by omega) ((k : Int) + 1) _ rfl (by omega) (by rw [show ((k : Int) + 1).toNat = k + 1 by omega, e1, if_neg e9]; exact hn))
            · refine r_aload_0 (pc := 53) dX8_copiesTo_53 ?_
              refine gf_X8_49 (pc := 54) rfl (by assumption) dX8_copiesTo_54 (by assumption) ?_
              refine r_iload_1 (pc := 57) dX8_copiesTo_57 ?_
              refine r_dup2 (pc := 58) dX8_copiesTo_58 ?_
              refine r_ialdE (pc := 59) (by assumption) (by first | assumption | exact rfl) dX8_copiesTo_59 (by omega) (by omega) (fun i_59 => ?_)
              refine r_iconst (pc := 60) dX8_copiesTo_60 ?_
              refine r_iload_3 (pc := 61) dX8_copiesTo_61 ?_
              refine r_bipush (pc := 62) dX8_copiesTo_62 (by decide) ?_
              refine r_isub (pc := 64) dX8_copiesTo_64 ?_
              refine r_ishl (pc := 65) dX8_copiesTo_65 (fun i_65 => ?_)
              refine r_ior (pc := 66) dX8_copiesTo_66 (fun i_66 => ?_)
              refine r_iastE (pc := 67) (by assumption) (by first | assumption | exact rfl) dX8_copiesTo_67 (by omega) (by omega) (by omega) ?_
              refine r_ret (pc := 68) hret dX8_copiesTo_68 rfl rfl rfl ?_
              first
              | (have e9 : fst4 (h (b + 12)) g (mP (h b 17) (h (b + 14) g)) (k + 1) = h (b + 12) (4 * g + k) := by rw [e1, if_pos ⟨by omega, c_19, mP_iff.mpr ⟨c_34, c_50⟩⟩]
                 have e8 : fst4 (h (b + 12)) g (mP (h b 17) (h (b + 14) g)) 4 = h (b + 12) (4 * g + k) := by
                   have := fst4_st (h (b + 12)) g (mP (h b 17) (h (b + 14) g)) (k + 1) (by rw [e9]; exact c_19) (3 - k)
                   rw [show k + 1 + (3 - k) = 4 by omega, e9] at this
                   exact this
                 unfold cpy at hQ
                 rw [e8, if_neg (by omega)] at hQ
                 exact hQ)
              | (have hk4 : k = 4 := by omega
                 subst hk4
                 unfold cpy at hQ
                 rw [if_pos hn, hr_id] at hQ
                 exact hQ)
  refine r_iconst (pc := 0) dX8_copiesTo_0 ?_
  refine r_istore_2 (pc := 1) dX8_copiesTo_1 rfl ?_
  exact lp _ 0 _ rfl (by omega) (show (-4 : Int) < 0 by decide)

