/-! DATA: bits counted, sets of disks that are up or hold a group -/
def popN (n : Nat) : Nat :=
  let a := n - ((n >>> 1) &&& 1431655765)
  let b := (a &&& 858993459) + ((a >>> 2) &&& 858993459)
  let c := (b + (b >>> 4)) &&& 252645135
  let d := c + (c >>> 8)
  let e := d + (d >>> 16)
  e &&& 63
def cntN (n : Nat) : Nat := n % 2 + n / 2 % 2 + n / 4 % 2 + n / 8 % 2 + n / 16 % 2 + n / 32 % 2 + n / 64 % 2 + n / 128 % 2 + n / 256 % 2 + n / 512 % 2 + n / 1024 % 2 + n / 2048 % 2
theorem popN_ok : (List.range 4096).all (fun n => popN n == cntN n) = true := by decide +kernel
theorem iUr_n {n : Nat} (h : n < 2147483648) {k : Nat} (hk : k < 32) : iUr (n : Int) (k : Int) = ((n >>> k : Nat) : Int) := by
  have h1 : n >>> k ≤ n := by rw [Nat.shiftRight_eq_div_pow]; exact Nat.div_le_self _ _
  refine t32 (n := n >>> k) ?_ (by omega)
  have e2 : ((Int32.ofInt (k : Int)).toUInt32 &&& Int32.toUInt32 31).toNat = k := by
    have : (Int32.ofInt (k : Int)).toUInt32.toNat = k := by
      have := b32 (x := (k : Int)) (by omega)
      rw [Int.toNat_natCast] at this
      exact this
    rw [UInt32.toNat_and, this]
    show k &&& 31 = k
    exact (Nat.and_two_pow_sub_one_eq_mod (n := 5) k).trans (Nat.mod_eq_of_lt (by omega))
  show (((Int32.ofInt (n : Int)).toUInt32 >>> ((Int32.ofInt (k : Int)).toUInt32 &&& Int32.toUInt32 31)).toNat) = n >>> k
  rw [UInt32.toNat_shiftRight, e2, Nat.mod_eq_of_lt (by omega)]
  have := b32 (x := (n : Int)) (by omega)
  rw [Int.toNat_natCast] at this
  have e3 : (Int32.ofInt (n : Int)).toUInt32.toNat = n := this
  rw [e3]
theorem iA_nn {n m : Nat} (h : n < 2147483648) (hm : m < 2147483648) : iA (n : Int) (m : Int) = ((n &&& m : Nat) : Int) := by
  rw [iA_n (by omega) (by omega), Int.toNat_natCast, Int.toNat_natCast]
theorem bts_n {n : Nat} (h : n < 4096) : bts (n : Int) = ((cntN n : Nat) : Int) := by
  have e : ∀ k : Nat, k < 12 → iA (iSr (n : Int) k) 1 = ((n / 2 ^ k % 2 : Nat) : Int) := by
    intro k hk
    have h2 : (2 : Int) ^ k = ((2 ^ k : Nat) : Int) := by simp
    have h5 : n / 2 ^ k ≤ n := Nat.div_le_self _ _
    rw [iSr_div k (by omega) (by omega), h2, ← Int.natCast_ediv]
    have e9 := iA_nn (n := n / 2 ^ k) (m := 1) (by omega) (by omega)
    have e8 : (n / 2 ^ k) &&& 1 = n / 2 ^ k % 2 := Nat.and_two_pow_sub_one_eq_mod (n := 1) _
    rw [e8] at e9
    exact e9
  unfold bts
  rw [sm_c (g := fun k => ((n / 2 ^ k.toNat % 2 : Nat) : Int)) (fun k hk => by rw [e k hk, Int.toNat_natCast])]
  have q : ∀ j : Nat, ((fun k : Int => ((n / 2 ^ k.toNat % 2 : Nat) : Int)) (j : Nat)) = ((n / 2 ^ j % 2 : Nat) : Int) := fun j => by dsimp only; rw [Int.toNat_natCast]
  simp only [sm, q]
  unfold cntN
  simp only [Nat.pow_zero, Nat.div_one]
  simp
theorem pop_eq {x : Int} (h : 0 ≤ x ∧ x < 4096) : iA (iA ((iA (x - iA (iUr x 1) 1431655765) 858993459 + iA (iUr (x - iA (iUr x 1) 1431655765) 2) 858993459) + iUr (iA (x - iA (iUr x 1) 1431655765) 858993459 + iA (iUr (x - iA (iUr x 1) 1431655765) 2) 858993459) 4) 252645135 + iUr (iA ((iA (x - iA (iUr x 1) 1431655765) 858993459 + iA (iUr (x - iA (iUr x 1) 1431655765) 2) 858993459) + iUr (iA (x - iA (iUr x 1) 1431655765) 858993459 + iA (iUr (x - iA (iUr x 1) 1431655765) 2) 858993459) 4) 252645135) 8 + iUr (iA ((iA (x - iA (iUr x 1) 1431655765) 858993459 + iA (iUr (x - iA (iUr x 1) 1431655765) 2) 858993459) + iUr (iA (x - iA (iUr x 1) 1431655765) 858993459 + iA (iUr (x - iA (iUr x 1) 1431655765) 2) 858993459) 4) 252645135 + iUr (iA ((iA (x - iA (iUr x 1) 1431655765) 858993459 + iA (iUr (x - iA (iUr x 1) 1431655765) 2) 858993459) + iUr (iA (x - iA (iUr x 1) 1431655765) 858993459 + iA (iUr (x - iA (iUr x 1) 1431655765) 2) 858993459) 4) 252645135) 8) 16) 63 = bts x := by
  obtain ⟨n, rfl⟩ : ∃ n : Nat, x = n := ⟨x.toNat, by omega⟩
  have hs : ∀ (a k : Nat), a >>> k ≤ a := fun a k => by rw [Nat.shiftRight_eq_div_pow]; exact Nat.div_le_self _ _
  have l1 : (n >>> 1) &&& 1431655765 ≤ n := Nat.le_trans Nat.and_le_left (hs n 1)
  have e1 : (n : Int) - iA (iUr (n : Int) 1) 1431655765 = ((n - ((n >>> 1) &&& 1431655765) : Nat) : Int) := by
    have a1 : iUr (n : Int) 1 = ((n >>> 1 : Nat) : Int) := iUr_n (by omega) (k := 1) (by omega)
    have s1 := hs n 1
    have a2 : iA ((n >>> 1 : Nat) : Int) 1431655765 = (((n >>> 1) &&& 1431655765 : Nat) : Int) := iA_nn (m := 1431655765) (by omega) (by omega)
    rw [a1, a2]
    omega
  rw [e1]
  obtain ⟨a, ha⟩ : ∃ a, a = n - ((n >>> 1) &&& 1431655765) := ⟨_, rfl⟩
  rw [← ha]
  have la : a < 4096 := by omega
  have e2 : iA (a : Int) 858993459 + iA (iUr (a : Int) 2) 858993459 = (((a &&& 858993459) + ((a >>> 2) &&& 858993459) : Nat) : Int) := by
    have a1 : iUr (a : Int) 2 = ((a >>> 2 : Nat) : Int) := iUr_n (by omega) (k := 2) (by omega)
    have s1 := hs a 2
    have a2 : iA ((a >>> 2 : Nat) : Int) 858993459 = (((a >>> 2) &&& 858993459 : Nat) : Int) := iA_nn (m := 858993459) (by omega) (by omega)
    have a3 : iA (a : Int) 858993459 = ((a &&& 858993459 : Nat) : Int) := iA_nn (m := 858993459) (by omega) (by omega)
    rw [a1, a2, a3]
    omega
  rw [e2]
  obtain ⟨b, hb⟩ : ∃ b, b = (a &&& 858993459) + ((a >>> 2) &&& 858993459) := ⟨_, rfl⟩
  have lb : b < 8192 := by
    have := Nat.and_le_left (n := a) (m := 858993459)
    have := Nat.and_le_left (n := a >>> 2) (m := 858993459)
    have := hs a 2
    omega
  rw [← hb]
  have e3 : iA ((b : Int) + iUr (b : Int) 4) 252645135 = (((b + (b >>> 4)) &&& 252645135 : Nat) : Int) := by
    have a1 : iUr (b : Int) 4 = ((b >>> 4 : Nat) : Int) := iUr_n (by omega) (k := 4) (by omega)
    have s1 := hs b 4
    rw [a1, ← Int.natCast_add]
    exact iA_nn (m := 252645135) (by omega) (by omega)
  rw [e3]
  obtain ⟨c, hc⟩ : ∃ c, c = (b + (b >>> 4)) &&& 252645135 := ⟨_, rfl⟩
  have lc : c < 16384 := by
    have := Nat.and_le_left (n := b + (b >>> 4)) (m := 252645135)
    have := hs b 4
    omega
  rw [← hc]
  have e4 : (c : Int) + iUr (c : Int) 8 = ((c + (c >>> 8) : Nat) : Int) := by
    have a1 : iUr (c : Int) 8 = ((c >>> 8 : Nat) : Int) := iUr_n (by omega) (k := 8) (by omega)
    rw [a1]
    omega
  rw [e4]
  obtain ⟨d, hd⟩ : ∃ d, d = c + (c >>> 8) := ⟨_, rfl⟩
  have ld : d < 32768 := by
    have := hs c 8
    omega
  rw [← hd]
  have e5 : iA ((d : Int) + iUr (d : Int) 16) 63 = (((d + (d >>> 16)) &&& 63 : Nat) : Int) := by
    have a1 : iUr (d : Int) 16 = ((d >>> 16 : Nat) : Int) := iUr_n (by omega) (k := 16) (by omega)
    have s1 := hs d 16
    rw [a1, ← Int.natCast_add]
    exact iA_nn (m := 63) (by omega) (by omega)
  rw [e5, bts_n (by omega)]
  have e6 : popN n = cntN n := by
    have := List.all_eq_true.mp popN_ok n (List.mem_range.mpr (by omega))
    exact eq_of_beq this
  have e7 : popN n = (d + (d >>> 16)) &&& 63 := by
    subst hd hc hb ha
    rfl
  rw [← e6, e7]

theorem dJ6_bitCount_0f7a4_0 : decode cJ6_bitCount_0f7a4 0 = .ok (.iload_n 0, 1) := by decide +kernel
theorem dJ6_bitCount_0f7a4_1 : decode cJ6_bitCount_0f7a4 1 = .ok (.iload_n 0, 1) := by decide +kernel
theorem dJ6_bitCount_0f7a4_2 : decode cJ6_bitCount_0f7a4 2 = .ok (.iconst 1, 1) := by decide +kernel
theorem dJ6_bitCount_0f7a4_3 : decode cJ6_bitCount_0f7a4 3 = .ok (.iushr, 1) := by decide +kernel
theorem dJ6_bitCount_0f7a4_4 : decode cJ6_bitCount_0f7a4 4 = .ok (.ldc_w 265, 3) := by decide +kernel
theorem dJ6_bitCount_0f7a4_7 : decode cJ6_bitCount_0f7a4 7 = .ok (.iand, 1) := by decide +kernel
theorem dJ6_bitCount_0f7a4_8 : decode cJ6_bitCount_0f7a4 8 = .ok (.isub, 1) := by decide +kernel
theorem dJ6_bitCount_0f7a4_9 : decode cJ6_bitCount_0f7a4 9 = .ok (.istore_n 0, 1) := by decide +kernel
theorem dJ6_bitCount_0f7a4_10 : decode cJ6_bitCount_0f7a4 10 = .ok (.iload_n 0, 1) := by decide +kernel
theorem dJ6_bitCount_0f7a4_11 : decode cJ6_bitCount_0f7a4 11 = .ok (.ldc_w 266, 3) := by decide +kernel
theorem dJ6_bitCount_0f7a4_14 : decode cJ6_bitCount_0f7a4 14 = .ok (.iand, 1) := by decide +kernel
theorem dJ6_bitCount_0f7a4_15 : decode cJ6_bitCount_0f7a4 15 = .ok (.iload_n 0, 1) := by decide +kernel
theorem dJ6_bitCount_0f7a4_16 : decode cJ6_bitCount_0f7a4 16 = .ok (.iconst 2, 1) := by decide +kernel
theorem dJ6_bitCount_0f7a4_17 : decode cJ6_bitCount_0f7a4 17 = .ok (.iushr, 1) := by decide +kernel
theorem dJ6_bitCount_0f7a4_18 : decode cJ6_bitCount_0f7a4 18 = .ok (.ldc_w 266, 3) := by decide +kernel
theorem dJ6_bitCount_0f7a4_21 : decode cJ6_bitCount_0f7a4 21 = .ok (.iand, 1) := by decide +kernel
theorem dJ6_bitCount_0f7a4_22 : decode cJ6_bitCount_0f7a4 22 = .ok (.iadd, 1) := by decide +kernel
theorem dJ6_bitCount_0f7a4_23 : decode cJ6_bitCount_0f7a4 23 = .ok (.istore_n 0, 1) := by decide +kernel
theorem dJ6_bitCount_0f7a4_24 : decode cJ6_bitCount_0f7a4 24 = .ok (.iload_n 0, 1) := by decide +kernel
theorem dJ6_bitCount_0f7a4_25 : decode cJ6_bitCount_0f7a4 25 = .ok (.iload_n 0, 1) := by decide +kernel
theorem dJ6_bitCount_0f7a4_26 : decode cJ6_bitCount_0f7a4 26 = .ok (.iconst 4, 1) := by decide +kernel
theorem dJ6_bitCount_0f7a4_27 : decode cJ6_bitCount_0f7a4 27 = .ok (.iushr, 1) := by decide +kernel
theorem dJ6_bitCount_0f7a4_28 : decode cJ6_bitCount_0f7a4 28 = .ok (.iadd, 1) := by decide +kernel
theorem dJ6_bitCount_0f7a4_29 : decode cJ6_bitCount_0f7a4 29 = .ok (.ldc_w 267, 3) := by decide +kernel
theorem dJ6_bitCount_0f7a4_32 : decode cJ6_bitCount_0f7a4 32 = .ok (.iand, 1) := by decide +kernel
theorem dJ6_bitCount_0f7a4_33 : decode cJ6_bitCount_0f7a4 33 = .ok (.istore_n 0, 1) := by decide +kernel
theorem dJ6_bitCount_0f7a4_34 : decode cJ6_bitCount_0f7a4 34 = .ok (.iload_n 0, 1) := by decide +kernel
theorem dJ6_bitCount_0f7a4_35 : decode cJ6_bitCount_0f7a4 35 = .ok (.iload_n 0, 1) := by decide +kernel
theorem dJ6_bitCount_0f7a4_36 : decode cJ6_bitCount_0f7a4 36 = .ok (.bipush 8, 2) := by decide +kernel
theorem dJ6_bitCount_0f7a4_38 : decode cJ6_bitCount_0f7a4 38 = .ok (.iushr, 1) := by decide +kernel
theorem dJ6_bitCount_0f7a4_39 : decode cJ6_bitCount_0f7a4 39 = .ok (.iadd, 1) := by decide +kernel
theorem dJ6_bitCount_0f7a4_40 : decode cJ6_bitCount_0f7a4 40 = .ok (.istore_n 0, 1) := by decide +kernel
theorem dJ6_bitCount_0f7a4_41 : decode cJ6_bitCount_0f7a4 41 = .ok (.iload_n 0, 1) := by decide +kernel
theorem dJ6_bitCount_0f7a4_42 : decode cJ6_bitCount_0f7a4 42 = .ok (.iload_n 0, 1) := by decide +kernel
theorem dJ6_bitCount_0f7a4_43 : decode cJ6_bitCount_0f7a4 43 = .ok (.bipush 16, 2) := by decide +kernel
theorem dJ6_bitCount_0f7a4_45 : decode cJ6_bitCount_0f7a4 45 = .ok (.iushr, 1) := by decide +kernel
theorem dJ6_bitCount_0f7a4_46 : decode cJ6_bitCount_0f7a4 46 = .ok (.iadd, 1) := by decide +kernel
theorem dJ6_bitCount_0f7a4_47 : decode cJ6_bitCount_0f7a4 47 = .ok (.istore_n 0, 1) := by decide +kernel
theorem dJ6_bitCount_0f7a4_48 : decode cJ6_bitCount_0f7a4 48 = .ok (.iload_n 0, 1) := by decide +kernel
theorem dJ6_bitCount_0f7a4_49 : decode cJ6_bitCount_0f7a4 49 = .ok (.bipush 63, 2) := by decide +kernel
theorem dJ6_bitCount_0f7a4_51 : decode cJ6_bitCount_0f7a4 51 = .ok (.iand, 1) := by decide +kernel
theorem dJ6_bitCount_0f7a4_52 : decode cJ6_bitCount_0f7a4 52 = .ok (.ireturn, 1) := by decide +kernel
set_option maxHeartbeats 4000000 in
set_option maxRecDepth 20000 in
theorem c_J6_bitCount_0f7a4 : ConI mJ6_bitCount_0f7a4 (fun args N lay r h Q => ∃ (x : Int), args = [vI x] ∧ (0 ≤ x ∧ x < 4096) ∧ Q (bts x) N lay r h) := by
  refine ConI.of (by decide) (by rintro _ N lay r h Q ⟨x, rfl, hx, hQ⟩; exact ⟨rfl, Nat.le_of_ble_eq_true rfl⟩) ?_
  rintro E _ N lay r h Q ⟨x, rfl, hx, hQ⟩ hret
  show St E mJ6_bitCount_0f7a4 0 [some (vI x)] [] (0, 0) N lay r h
  refine r_iload_0 (pc := 0) dJ6_bitCount_0f7a4_0 ?_
  refine r_iload_0 (pc := 1) dJ6_bitCount_0f7a4_1 ?_
  refine r_iconst (pc := 2) dJ6_bitCount_0f7a4_2 ?_
  refine r_iushr (pc := 3) dJ6_bitCount_0f7a4_3 (fun i_3 => ?_)
  refine r_ldcw (pc := 4) (v := 1431655765) (z := 1431655765) dJ6_bitCount_0f7a4_4 (w_cI 624 (by decide +kernel)) (by decide) ?_
  refine r_iand (pc := 7) dJ6_bitCount_0f7a4_7 (fun i_7 => ?_)
  refine r_isub (pc := 8) dJ6_bitCount_0f7a4_8 ?_
  refine r_istore_0 (pc := 9) dJ6_bitCount_0f7a4_9 ?_
  refine r_iload_0 (pc := 10) dJ6_bitCount_0f7a4_10 ?_
  refine r_ldcw (pc := 11) (v := 858993459) (z := 858993459) dJ6_bitCount_0f7a4_11 (w_cI 625 (by decide +kernel)) (by decide) ?_
  refine r_iand (pc := 14) dJ6_bitCount_0f7a4_14 (fun i_14 => ?_)
  refine r_iload_0 (pc := 15) dJ6_bitCount_0f7a4_15 ?_
  refine r_iconst (pc := 16) dJ6_bitCount_0f7a4_16 ?_
  refine r_iushr (pc := 17) dJ6_bitCount_0f7a4_17 (fun i_17 => ?_)
  refine r_ldcw (pc := 18) (v := 858993459) (z := 858993459) dJ6_bitCount_0f7a4_18 (w_cI 625 (by decide +kernel)) (by decide) ?_
  refine r_iand (pc := 21) dJ6_bitCount_0f7a4_21 (fun i_21 => ?_)
  refine r_iadd (pc := 22) dJ6_bitCount_0f7a4_22 ?_
  refine r_istore_0 (pc := 23) dJ6_bitCount_0f7a4_23 ?_
  refine r_iload_0 (pc := 24) dJ6_bitCount_0f7a4_24 ?_
  refine r_iload_0 (pc := 25) dJ6_bitCount_0f7a4_25 ?_
  refine r_iconst (pc := 26) dJ6_bitCount_0f7a4_26 ?_
  refine r_iushr (pc := 27) dJ6_bitCount_0f7a4_27 (fun i_27 => ?_)
  refine r_iadd (pc := 28) dJ6_bitCount_0f7a4_28 ?_
  refine r_ldcw (pc := 29) (v := 252645135) (z := 252645135) dJ6_bitCount_0f7a4_29 (w_cI 626 (by decide +kernel)) (by decide) ?_
  refine r_iand (pc := 32) dJ6_bitCount_0f7a4_32 (fun i_32 => ?_)
  refine r_istore_0 (pc := 33) dJ6_bitCount_0f7a4_33 ?_
  refine r_iload_0 (pc := 34) dJ6_bitCount_0f7a4_34 ?_
  refine r_iload_0 (pc := 35) dJ6_bitCount_0f7a4_35 ?_
  refine r_bipush (pc := 36) dJ6_bitCount_0f7a4_36 (by decide) ?_
  refine r_iushr (pc := 38) dJ6_bitCount_0f7a4_38 (fun i_38 => ?_)
  refine r_iadd (pc := 39) dJ6_bitCount_0f7a4_39 ?_
  refine r_istore_0 (pc := 40) dJ6_bitCount_0f7a4_40 ?_
  refine r_iload_0 (pc := 41) dJ6_bitCount_0f7a4_41 ?_
  refine r_iload_0 (pc := 42) dJ6_bitCount_0f7a4_42 ?_
  refine r_bipush (pc := 43) dJ6_bitCount_0f7a4_43 (by decide) ?_
  refine r_iushr (pc := 45) dJ6_bitCount_0f7a4_45 (fun i_45 => ?_)
  refine r_iadd (pc := 46) dJ6_bitCount_0f7a4_46 ?_
  refine r_istore_0 (pc := 47) dJ6_bitCount_0f7a4_47 ?_
  refine r_iload_0 (pc := 48) dJ6_bitCount_0f7a4_48 ?_
  refine r_bipush (pc := 49) dJ6_bitCount_0f7a4_49 (by decide) ?_
  refine r_iand (pc := 51) dJ6_bitCount_0f7a4_51 (fun i_51 => ?_)
  refine r_iret (pc := 52) hret dJ6_bitCount_0f7a4_52 rfl rfl rfl ?_
  rw [pop_eq hx]
  exact hQ

def DaAt (lay : LyT) (r : RfT) (a : Nat) : Prop := lay a = (1, 0) ∧ lay (a + 1) = (10, 16) ∧ lay (a + 2) = (10, 16) ∧ r a 1 = some (a + 1) ∧ r a 2 = some (a + 2)
/-- sets of disks; sizes -/
def Ms (x : Int) : Prop := 0 ≤ x ∧ x < 4096
def MkI (ux : Int) (ho : Int → Int) : Prop := Ms ux ∧ ∀ g, 0 ≤ g → g < 16 → Ms (ho g)
/-- the data at a say: ux is up, ho holds, the sizes are sz -/
def DaS (h : HpT) (a : Nat) (ux : Int) (sz ho : Int → Int) : Prop := h a 0 = ux ∧ (∀ g, 0 ≤ g → g < 16 → h (a + 1) g = sz g) ∧ (∀ g, 0 ≤ g → g < 16 → h (a + 2) g = ho g)
theorem DaS.of {h h2 : HpT} {a : Nat} {ux : Int} {sz ho : Int → Int} (q : DaS h a ux sz ho) (e0 : h2 a = h a) (e1 : h2 (a + 1) = h (a + 1)) (e2 : h2 (a + 2) = h (a + 2)) : DaS h2 a ux sz ho := by
  unfold DaS
  rw [e0, e1, e2]
  exact q
theorem Ms_A {x y : Int} (hx : Ms x) (hy : Ms y) : Ms (iA x y) := by
  have := A_le (x := x) (y := y) ⟨hx.1, by have := hx.2; omega⟩ ⟨hy.1, by have := hy.2; omega⟩
  exact ⟨this.1, by have := hx.2; omega⟩
theorem Ms_An {x y : Int} (hx : Ms x) (hy : Ms y) : Ms (iA x (iX y (-1))) := by
  have := An_le (x := x) (y := y) ⟨hx.1, by have := hx.2; omega⟩ ⟨hy.1, by have := hy.2; omega⟩
  exact ⟨this.1, by have := hx.2; omega⟩
theorem Ms_O {x y : Int} (hx : Ms x) (hy : Ms y) : Ms (iO x y) := O_12 hx hy
theorem Ms_S {d : Int} (h : 10 ≤ d ∧ d < 22) : Ms (iSl 1 (d - 10)) := by
  have := S_12 (j := d - 10) (by omega) (by omega)
  exact ⟨by omega, this.2⟩
theorem Ms.b {x : Int} (h : Ms x) : 0 ≤ x ∧ x < 2147483648 := ⟨h.1, by have := h.2; omega⟩
theorem Ms.t {x d : Int} (h : Ms x) (hd : 10 ≤ d ∧ d < 22) : iA x (iSl 1 (d - 10)) ≠ 0 ↔ bP x d = true := by
  rw [tb_t h.b (by omega) (by omega), bP_iff, tb_r1 h.b (by omega) (by omega)]
theorem bP_01 {x d : Int} (h : Ms x) (hd : 10 ≤ d ∧ d < 22) : iA (iSr x (d - 10)) 1 = if bP x d = true then 1 else 0 := by
  by_cases e : bP x d = true
  · rw [if_pos e]; exact bP_iff.mp e
  · rw [if_neg e, tb_r h.b (by omega) (by omega), if_neg (fun z => e (bP_iff.mpr ((tb_r1 h.b (by omega) (by omega)).mpr z)))]
theorem an_id {x d : Int} (h : Ms x) (hd : 10 ≤ d ∧ d < 22) (hb : ¬ bP x d = true) : iA x (iX (iSl 1 (d - 10)) (-1)) = x := by
  have hs := Ms_S hd
  refine tb_eq12 (Ms_An h hs) h (fun k hk => ?_)
  rw [tb_An h.b hs.b, tb_S (by omega) (by omega)]
  by_cases e : (k : Int) = d - 10
  · have : tb x k = false := by
      cases z : tb x k with
      | false => rfl
      | true => exact absurd (bP_iff.mpr ((tb_r1 h.b (by omega) (by omega)).mpr (by rw [show (d - 10).toNat = k by omega]; exact z))) hb
    rw [this]; rfl
  · rw [decide_eq_false e]; simp
theorem dX0_isUp_0 : decode cX0_isUp 0 = .ok (.aload_n 0, 1) := by decide +kernel
theorem dX0_isUp_1 : decode cX0_isUp 1 = .ok (.getfield 30, 3) := by decide +kernel
theorem dX0_isUp_4 : decode cX0_isUp 4 = .ok (.iload_n 1, 1) := by decide +kernel
theorem dX0_isUp_5 : decode cX0_isUp 5 = .ok (.invokestatic 43, 3) := by decide +kernel
theorem dX0_isUp_8 : decode cX0_isUp 8 = .ok (.iand, 1) := by decide +kernel
theorem dX0_isUp_9 : decode cX0_isUp 9 = .ok (.ifCond .eq 7, 3) := by decide +kernel
theorem dX0_isUp_12 : decode cX0_isUp 12 = .ok (.iconst 1, 1) := by decide +kernel
theorem dX0_isUp_13 : decode cX0_isUp 13 = .ok (.goto 4, 3) := by decide +kernel
theorem dX0_isUp_16 : decode cX0_isUp 16 = .ok (.iconst 0, 1) := by decide +kernel
theorem dX0_isUp_17 : decode cX0_isUp 17 = .ok (.ireturn, 1) := by decide +kernel
set_option maxHeartbeats 4000000 in
set_option maxRecDepth 20000 in
theorem c_X0_isUp : ConI mX0_isUp (fun args N lay r h Q => ∃ (a : Nat) (ux : Int) (sz ho : Int → Int) (d : Int), args = [.ref a, vI d] ∧ DaAt lay r a ∧ DaS h a ux sz ho ∧ MkI ux ho ∧ (10 ≤ d ∧ d < 22) ∧ Q (bI (bP ux d = true)) N lay r h) := by
  refine ConI.of (by decide) (by rintro _ N lay r h Q ⟨a, ux, sz, ho, d, rfl, hD, hV, hM, hd, hQ⟩; exact ⟨rfl, Nat.le_of_ble_eq_true rfl⟩) ?_
  rintro E _ N lay r h Q ⟨a, ux, sz, ho, d, rfl, hD, hV, hM, hd, hQ⟩ hret
  obtain ⟨dl0, dl1, dl2, dr1, dr2⟩ := id hD
  obtain ⟨d0, d1, d2⟩ := id hV
  have bt := hM.1.t hd
  show St E mX0_isUp 0 [some (.ref a), some (vI d)] [] (0, 0) N lay r h
  refine r_aload_0 (pc := 0) dX0_isUp_0 ?_
  refine gf_X0_30 (pc := 1) rfl (by assumption) dX0_isUp_1 (fun i_1 => ?_)
  rw [d0] at i_1 ⊢
  refine r_iload_1 (pc := 4) dX0_isUp_4 ?_
  refine k_SNI1 (pc := 5) c_X7_bitOf lk_X0_43 ⟨Nat.le_of_ble_eq_true rfl, Nat.le_of_ble_eq_true rfl⟩ ⟨rfl, rfl⟩ ⟨Nat.le_of_ble_eq_true rfl, Nat.le_of_ble_eq_true rfl⟩ dX0_isUp_5 (Nat.le_of_ble_eq_true rfl) ?_
  refine ⟨_, rfl, fun i_5 => ?_⟩
  refine r_iand (pc := 8) dX0_isUp_8 (fun i_8 => ?_)
  refine r_if_eq (pc := 9) (tgt := 16) dX0_isUp_9 (by decide) (by omega) (fun c_9 => ?_) (fun c_9 => ?_)
  · refine r_iconst (pc := 16) dX0_isUp_16 ?_
    refine r_zret (pc := 17) hret dX0_isUp_17 rfl rfl rfl (by first | exact Or.inl rfl | exact Or.inr rfl | exact bI_01 | omega) ?_
    first | (rw [bI_t (bt.mp c_9)] at hQ; exact hQ) | (rw [bI_f (fun z => (bt.mpr z) c_9)] at hQ; exact hQ)
  · refine r_iconst (pc := 12) dX0_isUp_12 ?_
    refine r_goto (pc := 13) (tgt := 17) dX0_isUp_13 (by decide) ?_
    refine r_zret (pc := 17) hret dX0_isUp_17 rfl rfl rfl (by first | exact Or.inl rfl | exact Or.inr rfl | exact bI_01 | omega) ?_
    first | (rw [bI_t (bt.mp c_9)] at hQ; exact hQ) | (rw [bI_f (fun z => (bt.mpr z) c_9)] at hQ; exact hQ)

theorem dX0_setUp_0 : decode cX0_setUp 0 = .ok (.aload_n 0, 1) := by decide +kernel
theorem dX0_setUp_1 : decode cX0_setUp 1 = .ok (.iload_n 2, 1) := by decide +kernel
theorem dX0_setUp_2 : decode cX0_setUp 2 = .ok (.ifCond .eq 15, 3) := by decide +kernel
theorem dX0_setUp_5 : decode cX0_setUp 5 = .ok (.aload_n 0, 1) := by decide +kernel
theorem dX0_setUp_6 : decode cX0_setUp 6 = .ok (.getfield 30, 3) := by decide +kernel
theorem dX0_setUp_9 : decode cX0_setUp 9 = .ok (.iload_n 1, 1) := by decide +kernel
theorem dX0_setUp_10 : decode cX0_setUp 10 = .ok (.invokestatic 43, 3) := by decide +kernel
theorem dX0_setUp_13 : decode cX0_setUp 13 = .ok (.ior, 1) := by decide +kernel
theorem dX0_setUp_14 : decode cX0_setUp 14 = .ok (.goto 14, 3) := by decide +kernel
theorem dX0_setUp_17 : decode cX0_setUp 17 = .ok (.aload_n 0, 1) := by decide +kernel
theorem dX0_setUp_18 : decode cX0_setUp 18 = .ok (.getfield 30, 3) := by decide +kernel
theorem dX0_setUp_21 : decode cX0_setUp 21 = .ok (.iload_n 1, 1) := by decide +kernel
theorem dX0_setUp_22 : decode cX0_setUp 22 = .ok (.invokestatic 43, 3) := by decide +kernel
theorem dX0_setUp_25 : decode cX0_setUp 25 = .ok (.iconst (-1), 1) := by decide +kernel
theorem dX0_setUp_26 : decode cX0_setUp 26 = .ok (.ixor, 1) := by decide +kernel
theorem dX0_setUp_27 : decode cX0_setUp 27 = .ok (.iand, 1) := by decide +kernel
theorem dX0_setUp_28 : decode cX0_setUp 28 = .ok (.putfield 30, 3) := by decide +kernel
theorem dX0_setUp_31 : decode cX0_setUp 31 = .ok (.return_, 1) := by decide +kernel
set_option maxHeartbeats 4000000 in
set_option maxRecDepth 20000 in
theorem c_X0_setUp : ConV mX0_setUp (fun args N lay r h Q => ∃ (a : Nat) (d z : Int), args = [.ref a, vI d, vI z] ∧ DaAt lay r a ∧ (z = 0 ∨ z = 1) ∧ (z = 0 → Q N lay r (hr h a (up (h a) 0 (iA (h a 0) (iX (iSl 1 (d - 10)) (-1)))))) ∧ (z = 1 → Q N lay r (hr h a (up (h a) 0 (iO (h a 0) (iSl 1 (d - 10))))))) := by
  refine ConV.of (by decide) (by rintro _ N lay r h Q ⟨a, d, z, rfl, hD, hz, hQ0, hQ1⟩; exact ⟨rfl, Nat.le_of_ble_eq_true rfl⟩) ?_
  rintro E _ N lay r h Q ⟨a, d, z, rfl, hD, hz, hQ0, hQ1⟩ hret
  obtain ⟨dl0, dl1, dl2, dr1, dr2⟩ := id hD
  show St E mX0_setUp 0 [some (.ref a), some (vI d), some (vI z)] [] (0, 0) N lay r h
  refine r_aload_0 (pc := 0) dX0_setUp_0 ?_
  refine r_iload_2 (pc := 1) dX0_setUp_1 ?_
  refine r_if_eq (pc := 2) (tgt := 17) dX0_setUp_2 (by decide) (by omega) (fun c_2 => ?_) (fun c_2 => ?_)
  · refine r_aload_0 (pc := 17) dX0_setUp_17 ?_
    refine gf_X0_30 (pc := 18) rfl (by assumption) dX0_setUp_18 (fun i_18 => ?_)
    refine r_iload_1 (pc := 21) dX0_setUp_21 ?_
    refine k_SNI1 (pc := 22) c_X7_bitOf lk_X0_43 ⟨Nat.le_of_ble_eq_true rfl, Nat.le_of_ble_eq_true rfl⟩ ⟨rfl, rfl⟩ ⟨Nat.le_of_ble_eq_true rfl, Nat.le_of_ble_eq_true rfl⟩ dX0_setUp_22 (Nat.le_of_ble_eq_true rfl) ?_
    refine ⟨_, rfl, fun i_22 => ?_⟩
    refine r_iconst (pc := 25) dX0_setUp_25 ?_
    refine r_ixor (pc := 26) dX0_setUp_26 (fun i_26 => ?_)
    refine r_iand (pc := 27) dX0_setUp_27 (fun i_27 => ?_)
    refine pf_X0_30 (pc := 28) rfl (by assumption) dX0_setUp_28 (by omega) ?_
    refine r_ret (pc := 31) hret dX0_setUp_31 rfl rfl rfl ?_
    first | exact hQ0 (by omega) | exact hQ1 (by omega)
  · refine r_aload_0 (pc := 5) dX0_setUp_5 ?_
    refine gf_X0_30 (pc := 6) rfl (by assumption) dX0_setUp_6 (fun i_6 => ?_)
    refine r_iload_1 (pc := 9) dX0_setUp_9 ?_
    refine k_SNI1 (pc := 10) c_X7_bitOf lk_X0_43 ⟨Nat.le_of_ble_eq_true rfl, Nat.le_of_ble_eq_true rfl⟩ ⟨rfl, rfl⟩ ⟨Nat.le_of_ble_eq_true rfl, Nat.le_of_ble_eq_true rfl⟩ dX0_setUp_10 (Nat.le_of_ble_eq_true rfl) ?_
    refine ⟨_, rfl, fun i_10 => ?_⟩
    refine r_ior (pc := 13) dX0_setUp_13 (fun i_13 => ?_)
    refine r_goto (pc := 14) (tgt := 28) dX0_setUp_14 (by decide) ?_
    refine pf_X0_30 (pc := 28) rfl (by assumption) dX0_setUp_28 (by omega) ?_
    refine r_ret (pc := 31) hret dX0_setUp_31 rfl rfl rfl ?_
    first | exact hQ0 (by omega) | exact hQ1 (by omega)

theorem dX0_letFail_0 : decode cX0_letFail 0 = .ok (.iconst 0, 1) := by decide +kernel
theorem dX0_letFail_1 : decode cX0_letFail 1 = .ok (.istore_n 2, 1) := by decide +kernel
theorem dX0_letFail_2 : decode cX0_letFail 2 = .ok (.aload_n 0, 1) := by decide +kernel
theorem dX0_letFail_3 : decode cX0_letFail 3 = .ok (.iload_n 1, 1) := by decide +kernel
theorem dX0_letFail_4 : decode cX0_letFail 4 = .ok (.iconst 0, 1) := by decide +kernel
theorem dX0_letFail_5 : decode cX0_letFail 5 = .ok (.invokevirtual 46, 3) := by decide +kernel
theorem dX0_letFail_8 : decode cX0_letFail 8 = .ok (.iconst 0, 1) := by decide +kernel
theorem dX0_letFail_9 : decode cX0_letFail 9 = .ok (.istore_n 3, 1) := by decide +kernel
theorem dX0_letFail_10 : decode cX0_letFail 10 = .ok (.iload_n 3, 1) := by decide +kernel
theorem dX0_letFail_11 : decode cX0_letFail 11 = .ok (.bipush 16, 2) := by decide +kernel
theorem dX0_letFail_13 : decode cX0_letFail 13 = .ok (.if_icmp .ge 41, 3) := by decide +kernel
theorem dX0_letFail_16 : decode cX0_letFail 16 = .ok (.aload_n 0, 1) := by decide +kernel
theorem dX0_letFail_17 : decode cX0_letFail 17 = .ok (.getfield 15, 3) := by decide +kernel
theorem dX0_letFail_20 : decode cX0_letFail 20 = .ok (.iload_n 3, 1) := by decide +kernel
theorem dX0_letFail_21 : decode cX0_letFail 21 = .ok (.iaload, 1) := by decide +kernel
theorem dX0_letFail_22 : decode cX0_letFail 22 = .ok (.iload_n 1, 1) := by decide +kernel
theorem dX0_letFail_23 : decode cX0_letFail 23 = .ok (.invokestatic 43, 3) := by decide +kernel
theorem dX0_letFail_26 : decode cX0_letFail 26 = .ok (.iand, 1) := by decide +kernel
theorem dX0_letFail_27 : decode cX0_letFail 27 = .ok (.ifCond .eq 21, 3) := by decide +kernel
theorem dX0_letFail_30 : decode cX0_letFail 30 = .ok (.iinc 2 1, 3) := by decide +kernel
theorem dX0_letFail_33 : decode cX0_letFail 33 = .ok (.aload_n 0, 1) := by decide +kernel
theorem dX0_letFail_34 : decode cX0_letFail 34 = .ok (.getfield 15, 3) := by decide +kernel
theorem dX0_letFail_37 : decode cX0_letFail 37 = .ok (.iload_n 3, 1) := by decide +kernel
theorem dX0_letFail_38 : decode cX0_letFail 38 = .ok (.dup2, 1) := by decide +kernel
theorem dX0_letFail_39 : decode cX0_letFail 39 = .ok (.iaload, 1) := by decide +kernel
theorem dX0_letFail_40 : decode cX0_letFail 40 = .ok (.iload_n 1, 1) := by decide +kernel
theorem dX0_letFail_41 : decode cX0_letFail 41 = .ok (.invokestatic 43, 3) := by decide +kernel
theorem dX0_letFail_44 : decode cX0_letFail 44 = .ok (.iconst (-1), 1) := by decide +kernel
theorem dX0_letFail_45 : decode cX0_letFail 45 = .ok (.ixor, 1) := by decide +kernel
theorem dX0_letFail_46 : decode cX0_letFail 46 = .ok (.iand, 1) := by decide +kernel
theorem dX0_letFail_47 : decode cX0_letFail 47 = .ok (.iastore, 1) := by decide +kernel
theorem dX0_letFail_48 : decode cX0_letFail 48 = .ok (.iinc 3 1, 3) := by decide +kernel
theorem dX0_letFail_51 : decode cX0_letFail 51 = .ok (.goto (-41), 3) := by decide +kernel
theorem dX0_letFail_54 : decode cX0_letFail 54 = .ok (.iload_n 2, 1) := by decide +kernel
theorem dX0_letFail_55 : decode cX0_letFail 55 = .ok (.ireturn, 1) := by decide +kernel
set_option maxHeartbeats 4000000 in
set_option maxRecDepth 20000 in
theorem c_X0_letFail : ConI mX0_letFail (fun args N lay r h Q => ∃ (a : Nat) (ux : Int) (sz ho : Int → Int) (d : Int), args = [.ref a, vI d] ∧ DaAt lay r a ∧ DaS h a ux sz ho ∧ MkI ux ho ∧ (10 ≤ d ∧ d < 22) ∧ ∀ f, (∀ q, 0 ≤ q → q < 16 → f q = flr ho d 16 q) → Q (sm (fun g => iA (iSr (ho g) (d - 10)) 1) 16) N lay r (hr (hr h a (up (h a) 0 (iA ux (iX (iSl 1 (d - 10)) (-1))))) (a + 2) f)) := by
  refine ConI.of (by decide) (by rintro _ N lay r h Q ⟨a, ux, sz, ho, d, rfl, hD, hV, hM, hd, hQ⟩; exact ⟨rfl, Nat.le_of_ble_eq_true rfl⟩) ?_
  rintro E _ N lay r h Q ⟨a, ux, sz, ho, d, rfl, hD, hV, hM, hd, hQ⟩ hret
  obtain ⟨dl0, dl1, dl2, dr1, dr2⟩ := id hD
  obtain ⟨d0, d1, d2⟩ := id hV
  show St E mX0_letFail 0 [some (.ref a), some (vI d), none, none] [] (0, 0) N lay r h
  have lp : ∀ (n_ : Nat) (g : Int) (s : Int) (f : Int → Int), (16 - g).toNat = n_ → (0 ≤ g ∧ g ≤ 16) → (s = sm (fun g => iA (iSr (ho g) (d - 10)) 1) g.toNat) → (∀ q, 0 ≤ q → q < 16 → f q = flr ho d g q) → St E mX0_letFail 10 [some (.ref a), some (vI d), some (vI s), some (vI g)] [] (0, 0) N lay r (hr (hr h a (up (h a) 0 (iA ux (iX (iSl 1 (d - 10)) (-1))))) (a + 2) f) := by
    intro  n_
    induction n_ using Nat.strongRecOn with
    | ind n_ ih =>
      intro g s f hn_ hg hs hf
      refine r_iload_3 (pc := 10) dX0_letFail_10 ?_
      refine r_bipush (pc := 11) dX0_letFail_11 (by decide) ?_
      refine r_icmp_ge (pc := 13) (tgt := 54) dX0_letFail_13 (by decide) (by omega) (by omega) (fun c_13 => ?_) (fun c_13 => ?_)
      · refine r_iload_2 (pc := 54) dX0_letFail_54 ?_
        refine r_iret (pc := 55) hret dX0_letFail_55 rfl rfl rfl ?_
        have hg9 : g = 16 := by omega
        subst hg9
        rw [hs]
        exact hQ f hf
      · have mg := hM.2 g (by omega) (by omega)
        have bt := mg.t hd
        have fg : f g = ho g := by rw [hf g (by omega) (by omega)]; exact if_neg (by omega)
        refine r_aload_0 (pc := 16) dX0_letFail_16 ?_
        refine gf_X0_15 (pc := 17) rfl (by assumption) dX0_letFail_17 (by assumption) ?_
        refine r_iload_3 (pc := 20) dX0_letFail_20 ?_
        refine r_ialdE (pc := 21) (by assumption) (by first | exact hr_s | assumption) dX0_letFail_21 (by omega) (by omega) (fun i_21 => ?_)
        rw [fg] at i_21 ⊢
        refine r_iload_1 (pc := 22) dX0_letFail_22 ?_
        refine k_SNI1 (pc := 23) c_X7_bitOf lk_X0_43 ⟨Nat.le_of_ble_eq_true rfl, Nat.le_of_ble_eq_true rfl⟩ ⟨rfl, rfl⟩ ⟨Nat.le_of_ble_eq_true rfl, Nat.le_of_ble_eq_true rfl⟩ dX0_letFail_23 (Nat.le_of_ble_eq_true rfl) ?_
        refine ⟨_, rfl, fun i_23 => ?_⟩
        refine r_iand (pc := 26) dX0_letFail_26 (fun i_26 => ?_)
        refine r_if_eq (pc := 27) (tgt := 48) dX0_letFail_27 (by decide) (by omega) (fun c_27 => ?_) (fun c_27 => ?_)
        · refine r_iinc_3 (pc := 48) dX0_letFail_48 rfl ?_
          refine r_goto (pc := 51) (tgt := 10) dX0_letFail_51 (by decide) ?_
          first
          | (have k9 : iA (ho g) (iSl 1 (d - 10)) = 0 := c_27
             have k8 : ¬ bP (ho g) d = true := fun z => (bt.mpr z) k9
             refine ih _ (by omega) (g + 1) _ f rfl (by omega) ?_ (fun q q0 q1 => ?_)
             · rw [sm_z hg.1, bP_01 mg hd, if_neg k8, hs]; omega
             · rw [hf q q0 q1]
               unfold flr
               by_cases e : q = g
               · rw [if_neg (by omega), if_pos (by omega), e, an_id mg hd k8]
               · by_cases e2 : 0 ≤ q ∧ q < g
                 · rw [if_pos e2, if_pos (by omega)]
                 · rw [if_neg e2, if_neg (by omega)])
          | (have k9 : ¬ iA (ho g) (iSl 1 (d - 10)) = 0 := c_27
             have k8 : bP (ho g) d = true := bt.mp k9
             rw [hr_hr]
             refine ih _ (by omega) (g + 1) _ _ rfl (by omega) ?_ (fun q q0 q1 => ?_)
             · rw [sm_z hg.1, bP_01 mg hd, if_pos k8, hs]
             · unfold flr
               by_cases e : q = g
               · rw [e, up_s, if_pos (by omega)]
               · rw [up_n e, hf q q0 q1]
                 unfold flr
                 by_cases e2 : 0 ≤ q ∧ q < g
                 · rw [if_pos e2, if_pos (by omega)]
                 · rw [if_neg e2, if_neg (by omega)])
        · refine r_iinc_2 (pc := 30) dX0_letFail_30 rfl ?_
          refine r_aload_0 (pc := 33) dX0_letFail_33 ?_
          refine gf_X0_15 (pc := 34) rfl (by assumption) dX0_letFail_34 (by assumption) ?_
          refine r_iload_3 (pc := 37) dX0_letFail_37 ?_
          refine r_dup2 (pc := 38) dX0_letFail_38 ?_
          refine r_ialdE (pc := 39) (by assumption) (by first | exact hr_s | assumption) dX0_letFail_39 (by omega) (by omega) (fun i_39 => ?_)
          rw [fg] at i_39 ⊢
          refine r_iload_1 (pc := 40) dX0_letFail_40 ?_
          refine k_SNI1 (pc := 41) c_X7_bitOf lk_X0_43 ⟨Nat.le_of_ble_eq_true rfl, Nat.le_of_ble_eq_true rfl⟩ ⟨rfl, rfl⟩ ⟨Nat.le_of_ble_eq_true rfl, Nat.le_of_ble_eq_true rfl⟩ dX0_letFail_41 (Nat.le_of_ble_eq_true rfl) ?_
          refine ⟨_, rfl, fun i_41 => ?_⟩
          refine r_iconst (pc := 44) dX0_letFail_44 ?_
          refine r_ixor (pc := 45) dX0_letFail_45 (fun i_45 => ?_)
          refine r_iand (pc := 46) dX0_letFail_46 (fun i_46 => ?_)
          refine r_iastE (pc := 47) (by assumption) (by first | exact hr_s | assumption) dX0_letFail_47 (by omega) (by omega) (by omega) ?_
          refine r_iinc_3 (pc := 48) dX0_letFail_48 rfl ?_
          refine r_goto (pc := 51) (tgt := 10) dX0_letFail_51 (by decide) ?_
          first
          | (have k9 : iA (ho g) (iSl 1 (d - 10)) = 0 := c_27
             have k8 : ¬ bP (ho g) d = true := fun z => (bt.mpr z) k9
             refine ih _ (by omega) (g + 1) _ f rfl (by omega) ?_ (fun q q0 q1 => ?_)
             · rw [sm_z hg.1, bP_01 mg hd, if_neg k8, hs]; omega
             · rw [hf q q0 q1]
               unfold flr
               by_cases e : q = g
               · rw [if_neg (by omega), if_pos (by omega), e, an_id mg hd k8]
               · by_cases e2 : 0 ≤ q ∧ q < g
                 · rw [if_pos e2, if_pos (by omega)]
                 · rw [if_neg e2, if_neg (by omega)])
          | (have k9 : ¬ iA (ho g) (iSl 1 (d - 10)) = 0 := c_27
             have k8 : bP (ho g) d = true := bt.mp k9
             rw [hr_hr]
             refine ih _ (by omega) (g + 1) _ _ rfl (by omega) ?_ (fun q q0 q1 => ?_)
             · rw [sm_z hg.1, bP_01 mg hd, if_pos k8, hs]
             · unfold flr
               by_cases e : q = g
               · rw [e, up_s, if_pos (by omega)]
               · rw [up_n e, hf q q0 q1]
                 unfold flr
                 by_cases e2 : 0 ≤ q ∧ q < g
                 · rw [if_pos e2, if_pos (by omega)]
                 · rw [if_neg e2, if_neg (by omega)])
  refine r_iconst (pc := 0) dX0_letFail_0 ?_
  refine r_istore_2 (pc := 1) dX0_letFail_1 rfl ?_
  refine r_aload_0 (pc := 2) dX0_letFail_2 ?_
  refine r_iload_1 (pc := 3) dX0_letFail_3 ?_
  refine r_iconst (pc := 4) dX0_letFail_4 ?_
  refine k_VV2 (pc := 5) c_X0_setUp lk_X0_46 ⟨Nat.le_of_ble_eq_true rfl, Nat.le_of_ble_eq_true rfl⟩ ⟨rfl, rfl⟩ ⟨Nat.le_of_ble_eq_true rfl, Nat.le_of_ble_eq_true rfl⟩ (k := 0) rfl (by decide) (by assumption) dX0_letFail_5 (Nat.le_of_ble_eq_true rfl) ?_
  refine ⟨_, _, _, rfl, by assumption, Or.inl rfl, fun _ => ?_, fun z_5 => absurd z_5 (show ¬ (0 : Int) = 1 by decide)⟩
  refine r_iconst (pc := 8) dX0_letFail_8 ?_
  refine r_istore_3 (pc := 9) dX0_letFail_9 rfl ?_
  rw [d0]
  have e0 := lp _ 0 0 (h (a + 2)) rfl (by omega) rfl (fun q q0 q1 => by rw [d2 q q0 q1]; exact (if_neg (by omega)).symm)
  rw [show hr (hr h a (up (h a) 0 (iA ux (iX (iSl 1 (d - 10)) (-1))))) (a + 2) (h (a + 2)) = hr h a (up (h a) 0 (iA ux (iX (iSl 1 (d - 10)) (-1)))) by rw [hr_c (by omega), hr_id]] at e0
  exact e0

theorem dX0_sizeOn_0 : decode cX0_sizeOn 0 = .ok (.iconst 0, 1) := by decide +kernel
theorem dX0_sizeOn_1 : decode cX0_sizeOn 1 = .ok (.istore_n 3, 1) := by decide +kernel
theorem dX0_sizeOn_2 : decode cX0_sizeOn 2 = .ok (.iconst 0, 1) := by decide +kernel
theorem dX0_sizeOn_3 : decode cX0_sizeOn 3 = .ok (.istore 4, 2) := by decide +kernel
theorem dX0_sizeOn_5 : decode cX0_sizeOn 5 = .ok (.iload 4, 2) := by decide +kernel
theorem dX0_sizeOn_7 : decode cX0_sizeOn 7 = .ok (.bipush 16, 2) := by decide +kernel
theorem dX0_sizeOn_9 : decode cX0_sizeOn 9 = .ok (.if_icmp .ge 31, 3) := by decide +kernel
theorem dX0_sizeOn_12 : decode cX0_sizeOn 12 = .ok (.aload_n 2, 1) := by decide +kernel
theorem dX0_sizeOn_13 : decode cX0_sizeOn 13 = .ok (.iload 4, 2) := by decide +kernel
theorem dX0_sizeOn_15 : decode cX0_sizeOn 15 = .ok (.iaload, 1) := by decide +kernel
theorem dX0_sizeOn_16 : decode cX0_sizeOn 16 = .ok (.iload_n 1, 1) := by decide +kernel
theorem dX0_sizeOn_17 : decode cX0_sizeOn 17 = .ok (.invokestatic 43, 3) := by decide +kernel
theorem dX0_sizeOn_20 : decode cX0_sizeOn 20 = .ok (.iand, 1) := by decide +kernel
theorem dX0_sizeOn_21 : decode cX0_sizeOn 21 = .ok (.ifCond .eq 13, 3) := by decide +kernel
theorem dX0_sizeOn_24 : decode cX0_sizeOn 24 = .ok (.iload_n 3, 1) := by decide +kernel
theorem dX0_sizeOn_25 : decode cX0_sizeOn 25 = .ok (.aload_n 0, 1) := by decide +kernel
theorem dX0_sizeOn_26 : decode cX0_sizeOn 26 = .ok (.getfield 9, 3) := by decide +kernel
theorem dX0_sizeOn_29 : decode cX0_sizeOn 29 = .ok (.iload 4, 2) := by decide +kernel
theorem dX0_sizeOn_31 : decode cX0_sizeOn 31 = .ok (.iaload, 1) := by decide +kernel
theorem dX0_sizeOn_32 : decode cX0_sizeOn 32 = .ok (.iadd, 1) := by decide +kernel
theorem dX0_sizeOn_33 : decode cX0_sizeOn 33 = .ok (.istore_n 3, 1) := by decide +kernel
theorem dX0_sizeOn_34 : decode cX0_sizeOn 34 = .ok (.iinc 4 1, 3) := by decide +kernel
theorem dX0_sizeOn_37 : decode cX0_sizeOn 37 = .ok (.goto (-32), 3) := by decide +kernel
theorem dX0_sizeOn_40 : decode cX0_sizeOn 40 = .ok (.iload_n 3, 1) := by decide +kernel
theorem dX0_sizeOn_41 : decode cX0_sizeOn 41 = .ok (.ireturn, 1) := by decide +kernel
set_option maxHeartbeats 4000000 in
set_option maxRecDepth 20000 in
theorem c_X0_sizeOn : ConI mX0_sizeOn (fun args N lay r h Q => ∃ (a : Nat) (ux : Int) (sz ho : Int → Int) (d : Int) (m : Nat) (st : Int → Int), args = [.ref a, vI d, .ref m] ∧ DaAt lay r a ∧ DaS h a ux sz ho ∧ MkI ux ho ∧ (10 ≤ d ∧ d < 22) ∧ lay m = (10, 16) ∧ (∀ g, 0 ≤ g → g < 16 → h m g = st g ∧ Ms (st g)) ∧ Q (sm (fun g => if bP (st g) d = true then sz g else 0) 16) N lay r h) := by
  refine ConI.of (by decide) (by rintro _ N lay r h Q ⟨a, ux, sz, ho, d, m, st, rfl, hD, hV, hM, hd, hm, hst, hQ⟩; exact ⟨rfl, Nat.le_of_ble_eq_true rfl⟩) ?_
  rintro E _ N lay r h Q ⟨a, ux, sz, ho, d, m, st, rfl, hD, hV, hM, hd, hm, hst, hQ⟩ hret
  obtain ⟨dl0, dl1, dl2, dr1, dr2⟩ := id hD
  obtain ⟨d0, d1, d2⟩ := id hV
  show St E mX0_sizeOn 0 [some (.ref a), some (vI d), some (.ref m), none, none] [] (0, 0) N lay r h
  have lp : ∀ (n_ : Nat) (g : Int) (s : Int), (16 - g).toNat = n_ → (0 ≤ g ∧ g ≤ 16) → (s = sm (fun g => if bP (st g) d = true then sz g else 0) g.toNat) → St E mX0_sizeOn 5 [some (.ref a), some (vI d), some (.ref m), some (vI s), some (vI g)] [] (0, 0) N lay r h := by
    intro  n_
    induction n_ using Nat.strongRecOn with
    | ind n_ ih =>
      intro g s hn_ hg hs
      refine r_iload_4 (pc := 5) dX0_sizeOn_5 ?_
      refine r_bipush (pc := 7) dX0_sizeOn_7 (by decide) ?_
      refine r_icmp_ge (pc := 9) (tgt := 40) dX0_sizeOn_9 (by decide) (by omega) (by omega) (fun c_9 => ?_) (fun c_9 => ?_)
      · refine r_iload_3 (pc := 40) dX0_sizeOn_40 ?_
        refine r_iret (pc := 41) hret dX0_sizeOn_41 rfl rfl rfl ?_
        have hg9 : g = 16 := by omega
        subst hg9
        rw [hs]
        exact hQ
      · have mg := hst g (by omega) (by omega)
        have bt := mg.2.t hd
        refine r_aload_2 (pc := 12) dX0_sizeOn_12 ?_
        refine r_iload_4 (pc := 13) dX0_sizeOn_13 ?_
        refine r_ialdE (pc := 15) (by assumption) (by first | assumption | exact rfl) dX0_sizeOn_15 (by omega) (by omega) (fun i_15 => ?_)
        rw [mg.1] at i_15 ⊢
        refine r_iload_1 (pc := 16) dX0_sizeOn_16 ?_
        refine k_SNI1 (pc := 17) c_X7_bitOf lk_X0_43 ⟨Nat.le_of_ble_eq_true rfl, Nat.le_of_ble_eq_true rfl⟩ ⟨rfl, rfl⟩ ⟨Nat.le_of_ble_eq_true rfl, Nat.le_of_ble_eq_true rfl⟩ dX0_sizeOn_17 (Nat.le_of_ble_eq_true rfl) ?_
        refine ⟨_, rfl, fun i_17 => ?_⟩
        refine r_iand (pc := 20) dX0_sizeOn_20 (fun i_20 => ?_)
        refine r_if_eq (pc := 21) (tgt := 34) dX0_sizeOn_21 (by decide) (by omega) (fun c_21 => ?_) (fun c_21 => ?_)
        · refine r_iinc_4 (pc := 34) dX0_sizeOn_34 rfl ?_
          refine r_goto (pc := 37) (tgt := 5) dX0_sizeOn_37 (by decide) ?_
          first
          | (have k9 : iA (st g) (iSl 1 (d - 10)) = 0 := c_21
             refine ih _ (by omega) (g + 1) _ rfl (by omega) ?_
             rw [sm_z hg.1, if_neg (fun z => (bt.mpr z) k9), hs]
             omega)
          | (have k9 : ¬ iA (st g) (iSl 1 (d - 10)) = 0 := c_21
             refine ih _ (by omega) (g + 1) _ rfl (by omega) ?_
             rw [sm_z hg.1, if_pos (bt.mp k9), hs])
        · refine r_iload_3 (pc := 24) dX0_sizeOn_24 ?_
          refine r_aload_0 (pc := 25) dX0_sizeOn_25 ?_
          refine gf_X0_9 (pc := 26) rfl (by assumption) dX0_sizeOn_26 (by assumption) ?_
          refine r_iload_4 (pc := 29) dX0_sizeOn_29 ?_
          refine r_ialdE (pc := 31) (by assumption) (by first | assumption | exact rfl) dX0_sizeOn_31 (by omega) (by omega) (fun i_31 => ?_)
          rw [d1 g (by omega) (by omega)] at i_31 ⊢
          refine r_iadd (pc := 32) dX0_sizeOn_32 ?_
          refine r_istore_3 (pc := 33) dX0_sizeOn_33 rfl ?_
          refine r_iinc_4 (pc := 34) dX0_sizeOn_34 rfl ?_
          refine r_goto (pc := 37) (tgt := 5) dX0_sizeOn_37 (by decide) ?_
          first
          | (have k9 : iA (st g) (iSl 1 (d - 10)) = 0 := c_21
             refine ih _ (by omega) (g + 1) _ rfl (by omega) ?_
             rw [sm_z hg.1, if_neg (fun z => (bt.mpr z) k9), hs]
             omega)
          | (have k9 : ¬ iA (st g) (iSl 1 (d - 10)) = 0 := c_21
             refine ih _ (by omega) (g + 1) _ rfl (by omega) ?_
             rw [sm_z hg.1, if_pos (bt.mp k9), hs])
  refine r_iconst (pc := 0) dX0_sizeOn_0 ?_
  refine r_istore_3 (pc := 1) dX0_sizeOn_1 rfl ?_
  refine r_iconst (pc := 2) dX0_sizeOn_2 ?_
  refine r_istore_4 (pc := 3) dX0_sizeOn_3 rfl ?_
  exact lp _ 0 0 rfl (by omega) rfl

theorem dX0_isWaiting_0 : decode cX0_isWaiting 0 = .ok (.aload_n 0, 1) := by decide +kernel
theorem dX0_isWaiting_1 : decode cX0_isWaiting 1 = .ok (.getfield 15, 3) := by decide +kernel
theorem dX0_isWaiting_4 : decode cX0_isWaiting 4 = .ok (.iload_n 1, 1) := by decide +kernel
theorem dX0_isWaiting_5 : decode cX0_isWaiting 5 = .ok (.iaload, 1) := by decide +kernel
theorem dX0_isWaiting_6 : decode cX0_isWaiting 6 = .ok (.aload_n 0, 1) := by decide +kernel
theorem dX0_isWaiting_7 : decode cX0_isWaiting 7 = .ok (.getfield 30, 3) := by decide +kernel
theorem dX0_isWaiting_10 : decode cX0_isWaiting 10 = .ok (.iand, 1) := by decide +kernel
theorem dX0_isWaiting_11 : decode cX0_isWaiting 11 = .ok (.ifCond .ne 7, 3) := by decide +kernel
theorem dX0_isWaiting_14 : decode cX0_isWaiting 14 = .ok (.iconst 1, 1) := by decide +kernel
theorem dX0_isWaiting_15 : decode cX0_isWaiting 15 = .ok (.goto 4, 3) := by decide +kernel
theorem dX0_isWaiting_18 : decode cX0_isWaiting 18 = .ok (.iconst 0, 1) := by decide +kernel
theorem dX0_isWaiting_19 : decode cX0_isWaiting 19 = .ok (.ireturn, 1) := by decide +kernel
set_option maxHeartbeats 4000000 in
set_option maxRecDepth 20000 in
theorem c_X0_isWaiting : ConI mX0_isWaiting (fun args N lay r h Q => ∃ (a : Nat) (ux : Int) (sz ho : Int → Int) (g : Int), args = [.ref a, vI g] ∧ DaAt lay r a ∧ DaS h a ux sz ho ∧ MkI ux ho ∧ (0 ≤ g ∧ g < 16) ∧ Q (bI (iA (ho g) ux = 0)) N lay r h) := by
  refine ConI.of (by decide) (by rintro _ N lay r h Q ⟨a, ux, sz, ho, g, rfl, hD, hV, hM, hg, hQ⟩; exact ⟨rfl, Nat.le_of_ble_eq_true rfl⟩) ?_
  rintro E _ N lay r h Q ⟨a, ux, sz, ho, g, rfl, hD, hV, hM, hg, hQ⟩ hret
  obtain ⟨dl0, dl1, dl2, dr1, dr2⟩ := id hD
  obtain ⟨d0, d1, d2⟩ := id hV
  show St E mX0_isWaiting 0 [some (.ref a), some (vI g)] [] (0, 0) N lay r h
  refine r_aload_0 (pc := 0) dX0_isWaiting_0 ?_
  refine gf_X0_15 (pc := 1) rfl (by assumption) dX0_isWaiting_1 (by assumption) ?_
  refine r_iload_1 (pc := 4) dX0_isWaiting_4 ?_
  refine r_ialdE (pc := 5) (by assumption) (by first | assumption | exact rfl) dX0_isWaiting_5 (by omega) (by omega) (fun i_5 => ?_)
  rw [d2 g hg.1 hg.2] at i_5 ⊢
  refine r_aload_0 (pc := 6) dX0_isWaiting_6 ?_
  refine gf_X0_30 (pc := 7) rfl (by assumption) dX0_isWaiting_7 (fun i_7 => ?_)
  rw [d0] at i_7 ⊢
  refine r_iand (pc := 10) dX0_isWaiting_10 (fun i_10 => ?_)
  refine r_if_ne (pc := 11) (tgt := 18) dX0_isWaiting_11 (by decide) (by omega) (fun c_11 => ?_) (fun c_11 => ?_)
  · refine r_iconst (pc := 18) dX0_isWaiting_18 ?_
    refine r_zret (pc := 19) hret dX0_isWaiting_19 rfl rfl rfl (by first | exact Or.inl rfl | exact Or.inr rfl | exact bI_01 | omega) ?_
    first | (rw [bI_t c_11] at hQ; exact hQ) | (rw [bI_f c_11] at hQ; exact hQ)
  · refine r_iconst (pc := 14) dX0_isWaiting_14 ?_
    refine r_goto (pc := 15) (tgt := 19) dX0_isWaiting_15 (by decide) ?_
    refine r_zret (pc := 19) hret dX0_isWaiting_19 rfl rfl rfl (by first | exact Or.inl rfl | exact Or.inr rfl | exact bI_01 | omega) ?_
    first | (rw [bI_t c_11] at hQ; exact hQ) | (rw [bI_f c_11] at hQ; exact hQ)

theorem dX0_isIncomplete_0 : decode cX0_isIncomplete 0 = .ok (.aload_n 0, 1) := by decide +kernel
theorem dX0_isIncomplete_1 : decode cX0_isIncomplete 1 = .ok (.iload_n 2, 1) := by decide +kernel
theorem dX0_isIncomplete_2 : decode cX0_isIncomplete 2 = .ok (.invokevirtual 50, 3) := by decide +kernel
theorem dX0_isIncomplete_5 : decode cX0_isIncomplete 5 = .ok (.ifCond .ne 30, 3) := by decide +kernel
theorem dX0_isIncomplete_8 : decode cX0_isIncomplete 8 = .ok (.aload_n 1, 1) := by decide +kernel
theorem dX0_isIncomplete_9 : decode cX0_isIncomplete 9 = .ok (.getfield 34, 3) := by decide +kernel
theorem dX0_isIncomplete_12 : decode cX0_isIncomplete 12 = .ok (.iload_n 2, 1) := by decide +kernel
theorem dX0_isIncomplete_13 : decode cX0_isIncomplete 13 = .ok (.iaload, 1) := by decide +kernel
theorem dX0_isIncomplete_14 : decode cX0_isIncomplete 14 = .ok (.aload_n 0, 1) := by decide +kernel
theorem dX0_isIncomplete_15 : decode cX0_isIncomplete 15 = .ok (.getfield 30, 3) := by decide +kernel
theorem dX0_isIncomplete_18 : decode cX0_isIncomplete 18 = .ok (.iand, 1) := by decide +kernel
theorem dX0_isIncomplete_19 : decode cX0_isIncomplete 19 = .ok (.aload_n 0, 1) := by decide +kernel
theorem dX0_isIncomplete_20 : decode cX0_isIncomplete 20 = .ok (.getfield 15, 3) := by decide +kernel
theorem dX0_isIncomplete_23 : decode cX0_isIncomplete 23 = .ok (.iload_n 2, 1) := by decide +kernel
theorem dX0_isIncomplete_24 : decode cX0_isIncomplete 24 = .ok (.iaload, 1) := by decide +kernel
theorem dX0_isIncomplete_25 : decode cX0_isIncomplete 25 = .ok (.iconst (-1), 1) := by decide +kernel
theorem dX0_isIncomplete_26 : decode cX0_isIncomplete 26 = .ok (.ixor, 1) := by decide +kernel
theorem dX0_isIncomplete_27 : decode cX0_isIncomplete 27 = .ok (.iand, 1) := by decide +kernel
theorem dX0_isIncomplete_28 : decode cX0_isIncomplete 28 = .ok (.ifCond .eq 7, 3) := by decide +kernel
theorem dX0_isIncomplete_31 : decode cX0_isIncomplete 31 = .ok (.iconst 1, 1) := by decide +kernel
theorem dX0_isIncomplete_32 : decode cX0_isIncomplete 32 = .ok (.goto 4, 3) := by decide +kernel
theorem dX0_isIncomplete_35 : decode cX0_isIncomplete 35 = .ok (.iconst 0, 1) := by decide +kernel
theorem dX0_isIncomplete_36 : decode cX0_isIncomplete 36 = .ok (.ireturn, 1) := by decide +kernel
set_option maxHeartbeats 4000000 in
set_option maxRecDepth 20000 in
theorem c_X0_isIncomplete : ConI mX0_isIncomplete (fun args N lay r h Q => ∃ (a : Nat) (ux : Int) (sz ho : Int → Int) (p n : Nat) (F : Int → Int) (g : Int), args = [.ref a, .ref p, vI g] ∧ DaAt lay r a ∧ DaS h a ux sz ho ∧ MkI ux ho ∧ lay p = (4, n) ∧ lay (p + 11) = (10, 64) ∧ lay (p + 13) = (10, 16) ∧ r p 9 = some (p + 11) ∧ r p 11 = some (p + 13) ∧ FdI F ∧ (∀ j, 0 ≤ j → j < 64 → h (p + 11) j = F j) ∧ (∀ g, 0 ≤ g → g < 16 → h (p + 13) g = pb F g) ∧ (0 ≤ g ∧ g < 16) ∧ Q (bI (wan F ux ho g = true)) N lay r h) := by
  refine ConI.of (by decide) (by rintro _ N lay r h Q ⟨a, ux, sz, ho, p, n, F, g, rfl, hD, hV, hM, pl0, pl11, pl13, pr9, pr11, hF, hp1, hp2, hg, hQ⟩; exact ⟨rfl, Nat.le_of_ble_eq_true rfl⟩) ?_
  rintro E _ N lay r h Q ⟨a, ux, sz, ho, p, n, F, g, rfl, hD, hV, hM, pl0, pl11, pl13, pr9, pr11, hF, hp1, hp2, hg, hQ⟩ hret
  obtain ⟨dl0, dl1, dl2, dr1, dr2⟩ := id hD
  obtain ⟨d0, d1, d2⟩ := id hV
  show St E mX0_isIncomplete 0 [some (.ref a), some (.ref p), some (vI g)] [] (0, 0) N lay r h
  refine r_aload_0 (pc := 0) dX0_isIncomplete_0 ?_
  refine r_iload_2 (pc := 1) dX0_isIncomplete_1 ?_
  refine k_VI1 (pc := 2) c_X0_isWaiting lk_X0_50 ⟨Nat.le_of_ble_eq_true rfl, Nat.le_of_ble_eq_true rfl⟩ ⟨rfl, rfl⟩ ⟨Nat.le_of_ble_eq_true rfl, Nat.le_of_ble_eq_true rfl⟩ (k := 0) rfl (by decide) (by assumption) dX0_isIncomplete_2 (Nat.le_of_ble_eq_true rfl) ?_
  refine ⟨_, _, _, _, _, rfl, by assumption, by assumption, by assumption, by omega, ?_⟩
  refine r_ifne_b (pc := 5) (tgt := 35) dX0_isIncomplete_5 (by decide) (fun c_5 => ?_) (fun c_5 => ?_)
  · refine r_iconst (pc := 35) dX0_isIncomplete_35 ?_
    refine r_zret (pc := 36) hret dX0_isIncomplete_36 rfl rfl rfl (by first | exact Or.inl rfl | exact Or.inr rfl | exact bI_01 | omega) ?_
    first
    | (have k9 : iA (ho g) ux = 0 := c_5
       rw [bI_f (fun z => (wan_iff.mp z).1 k9)] at hQ; exact hQ)
    | (have k9 : iA (iA (pb F g) ux) (iX (ho g) (-1)) = 0 := c_28
       rw [bI_f (fun z => (wan_iff.mp z).2 k9)] at hQ; exact hQ)
    | (have k9 : ¬ iA (iA (pb F g) ux) (iX (ho g) (-1)) = 0 := c_28
       rw [bI_t (wan_iff.mpr ⟨c_5, k9⟩)] at hQ; exact hQ)
  · refine r_aload_1 (pc := 8) dX0_isIncomplete_8 ?_
    refine gf_X0_34 (pc := 9) rfl (by assumption) dX0_isIncomplete_9 (by assumption) ?_
    refine r_iload_2 (pc := 12) dX0_isIncomplete_12 ?_
    refine r_ialdE (pc := 13) (by assumption) (by first | assumption | exact rfl) dX0_isIncomplete_13 (by omega) (by omega) (fun i_13 => ?_)
    rw [hp2 g hg.1 hg.2] at i_13 ⊢
    refine r_aload_0 (pc := 14) dX0_isIncomplete_14 ?_
    refine gf_X0_30 (pc := 15) rfl (by assumption) dX0_isIncomplete_15 (fun i_15 => ?_)
    rw [d0] at i_15 ⊢
    refine r_iand (pc := 18) dX0_isIncomplete_18 (fun i_18 => ?_)
    refine r_aload_0 (pc := 19) dX0_isIncomplete_19 ?_
    refine gf_X0_15 (pc := 20) rfl (by assumption) dX0_isIncomplete_20 (by assumption) ?_
    refine r_iload_2 (pc := 23) dX0_isIncomplete_23 ?_
    refine r_ialdE (pc := 24) (by assumption) (by first | assumption | exact rfl) dX0_isIncomplete_24 (by omega) (by omega) (fun i_24 => ?_)
    rw [d2 g hg.1 hg.2] at i_24 ⊢
    refine r_iconst (pc := 25) dX0_isIncomplete_25 ?_
    refine r_ixor (pc := 26) dX0_isIncomplete_26 (fun i_26 => ?_)
    refine r_iand (pc := 27) dX0_isIncomplete_27 (fun i_27 => ?_)
    refine r_if_eq (pc := 28) (tgt := 35) dX0_isIncomplete_28 (by decide) (by omega) (fun c_28 => ?_) (fun c_28 => ?_)
    · refine r_iconst (pc := 35) dX0_isIncomplete_35 ?_
      refine r_zret (pc := 36) hret dX0_isIncomplete_36 rfl rfl rfl (by first | exact Or.inl rfl | exact Or.inr rfl | exact bI_01 | omega) ?_
      first
      | (have k9 : iA (ho g) ux = 0 := c_5
         rw [bI_f (fun z => (wan_iff.mp z).1 k9)] at hQ; exact hQ)
      | (have k9 : iA (iA (pb F g) ux) (iX (ho g) (-1)) = 0 := c_28
         rw [bI_f (fun z => (wan_iff.mp z).2 k9)] at hQ; exact hQ)
      | (have k9 : ¬ iA (iA (pb F g) ux) (iX (ho g) (-1)) = 0 := c_28
         rw [bI_t (wan_iff.mpr ⟨c_5, k9⟩)] at hQ; exact hQ)
    · refine r_iconst (pc := 31) dX0_isIncomplete_31 ?_
      refine r_goto (pc := 32) (tgt := 36) dX0_isIncomplete_32 (by decide) ?_
      refine r_zret (pc := 36) hret dX0_isIncomplete_36 rfl rfl rfl (by first | exact Or.inl rfl | exact Or.inr rfl | exact bI_01 | omega) ?_
      first
      | (have k9 : iA (ho g) ux = 0 := c_5
         rw [bI_f (fun z => (wan_iff.mp z).1 k9)] at hQ; exact hQ)
      | (have k9 : iA (iA (pb F g) ux) (iX (ho g) (-1)) = 0 := c_28
         rw [bI_f (fun z => (wan_iff.mp z).2 k9)] at hQ; exact hQ)
      | (have k9 : ¬ iA (iA (pb F g) ux) (iX (ho g) (-1)) = 0 := c_28
         rw [bI_t (wan_iff.mpr ⟨c_5, k9⟩)] at hQ; exact hQ)

theorem dX0_countLost_0 : decode cX0_countLost 0 = .ok (.iconst 0, 1) := by decide +kernel
theorem dX0_countLost_1 : decode cX0_countLost 1 = .ok (.istore_n 1, 1) := by decide +kernel
theorem dX0_countLost_2 : decode cX0_countLost 2 = .ok (.iconst 0, 1) := by decide +kernel
theorem dX0_countLost_3 : decode cX0_countLost 3 = .ok (.istore_n 2, 1) := by decide +kernel
theorem dX0_countLost_4 : decode cX0_countLost 4 = .ok (.iload_n 2, 1) := by decide +kernel
theorem dX0_countLost_5 : decode cX0_countLost 5 = .ok (.bipush 16, 2) := by decide +kernel
theorem dX0_countLost_7 : decode cX0_countLost 7 = .ok (.if_icmp .ge 26, 3) := by decide +kernel
theorem dX0_countLost_10 : decode cX0_countLost 10 = .ok (.iload_n 1, 1) := by decide +kernel
theorem dX0_countLost_11 : decode cX0_countLost 11 = .ok (.aload_n 0, 1) := by decide +kernel
theorem dX0_countLost_12 : decode cX0_countLost 12 = .ok (.getfield 15, 3) := by decide +kernel
theorem dX0_countLost_15 : decode cX0_countLost 15 = .ok (.iload_n 2, 1) := by decide +kernel
theorem dX0_countLost_16 : decode cX0_countLost 16 = .ok (.iaload, 1) := by decide +kernel
theorem dX0_countLost_17 : decode cX0_countLost 17 = .ok (.ifCond .ne 7, 3) := by decide +kernel
theorem dX0_countLost_20 : decode cX0_countLost 20 = .ok (.iconst 1, 1) := by decide +kernel
theorem dX0_countLost_21 : decode cX0_countLost 21 = .ok (.goto 4, 3) := by decide +kernel
theorem dX0_countLost_24 : decode cX0_countLost 24 = .ok (.iconst 0, 1) := by decide +kernel
theorem dX0_countLost_25 : decode cX0_countLost 25 = .ok (.iadd, 1) := by decide +kernel
theorem dX0_countLost_26 : decode cX0_countLost 26 = .ok (.istore_n 1, 1) := by decide +kernel
theorem dX0_countLost_27 : decode cX0_countLost 27 = .ok (.iinc 2 1, 3) := by decide +kernel
theorem dX0_countLost_30 : decode cX0_countLost 30 = .ok (.goto (-26), 3) := by decide +kernel
theorem dX0_countLost_33 : decode cX0_countLost 33 = .ok (.iload_n 1, 1) := by decide +kernel
theorem dX0_countLost_34 : decode cX0_countLost 34 = .ok (.ireturn, 1) := by decide +kernel
set_option maxHeartbeats 4000000 in
set_option maxRecDepth 20000 in
theorem c_X0_countLost : ConI mX0_countLost (fun args N lay r h Q => ∃ (a : Nat) (ux : Int) (sz ho : Int → Int) , args = [.ref a] ∧ DaAt lay r a ∧ DaS h a ux sz ho ∧ MkI ux ho ∧ Q (sm (fun g => bI (ho g = 0)) 16) N lay r h) := by
  refine ConI.of (by decide) (by rintro _ N lay r h Q ⟨a, ux, sz, ho, rfl, hD, hV, hM, hQ⟩; exact ⟨rfl, Nat.le_of_ble_eq_true rfl⟩) ?_
  rintro E _ N lay r h Q ⟨a, ux, sz, ho, rfl, hD, hV, hM, hQ⟩ hret
  obtain ⟨dl0, dl1, dl2, dr1, dr2⟩ := id hD
  obtain ⟨d0, d1, d2⟩ := id hV
  show St E mX0_countLost 0 [some (.ref a), none, none] [] (0, 0) N lay r h
  have lp : ∀ (n_ : Nat) (g : Int) (s : Int), (16 - g).toNat = n_ → (0 ≤ g ∧ g ≤ 16) → (s = sm (fun g => bI (ho g = 0)) g.toNat) → St E mX0_countLost 4 [some (.ref a), some (vI s), some (vI g)] [] (0, 0) N lay r h := by
    intro  n_
    induction n_ using Nat.strongRecOn with
    | ind n_ ih =>
      intro g s hn_ hg hs
      refine r_iload_2 (pc := 4) dX0_countLost_4 ?_
      refine r_bipush (pc := 5) dX0_countLost_5 (by decide) ?_
      refine r_icmp_ge (pc := 7) (tgt := 33) dX0_countLost_7 (by decide) (by omega) (by omega) (fun c_7 => ?_) (fun c_7 => ?_)
      · refine r_iload_1 (pc := 33) dX0_countLost_33 ?_
        refine r_iret (pc := 34) hret dX0_countLost_34 rfl rfl rfl ?_
        have hg9 : g = 16 := by omega
        subst hg9
        rw [hs]
        exact hQ
      · refine r_iload_1 (pc := 10) dX0_countLost_10 ?_
        refine r_aload_0 (pc := 11) dX0_countLost_11 ?_
        refine gf_X0_15 (pc := 12) rfl (by assumption) dX0_countLost_12 (by assumption) ?_
        refine r_iload_2 (pc := 15) dX0_countLost_15 ?_
        refine r_ialdE (pc := 16) (by assumption) (by first | assumption | exact rfl) dX0_countLost_16 (by omega) (by omega) (fun i_16 => ?_)
        rw [d2 g (by omega) (by omega)] at i_16 ⊢
        refine r_if_ne (pc := 17) (tgt := 24) dX0_countLost_17 (by decide) (by omega) (fun c_17 => ?_) (fun c_17 => ?_)
        · refine r_iconst (pc := 24) dX0_countLost_24 ?_
          refine r_iadd (pc := 25) dX0_countLost_25 ?_
          refine r_istore_1 (pc := 26) dX0_countLost_26 rfl ?_
          refine r_iinc_2 (pc := 27) dX0_countLost_27 rfl ?_
          refine r_goto (pc := 30) (tgt := 4) dX0_countLost_30 (by decide) ?_
          first
          | (have k9 : ho g = 0 := c_17
             refine ih _ (by omega) (g + 1) _ rfl (by omega) ?_
             rw [sm_z hg.1, bI_t k9, hs])
          | (have k9 : ¬ (ho g = 0) := c_17
             refine ih _ (by omega) (g + 1) _ rfl (by omega) ?_
             rw [sm_z hg.1, bI_f k9, hs])
        · refine r_iconst (pc := 20) dX0_countLost_20 ?_
          refine r_goto (pc := 21) (tgt := 25) dX0_countLost_21 (by decide) ?_
          refine r_iadd (pc := 25) dX0_countLost_25 ?_
          refine r_istore_1 (pc := 26) dX0_countLost_26 rfl ?_
          refine r_iinc_2 (pc := 27) dX0_countLost_27 rfl ?_
          refine r_goto (pc := 30) (tgt := 4) dX0_countLost_30 (by decide) ?_
          first
          | (have k9 : ho g = 0 := c_17
             refine ih _ (by omega) (g + 1) _ rfl (by omega) ?_
             rw [sm_z hg.1, bI_t k9, hs])
          | (have k9 : ¬ (ho g = 0) := c_17
             refine ih _ (by omega) (g + 1) _ rfl (by omega) ?_
             rw [sm_z hg.1, bI_f k9, hs])
  refine r_iconst (pc := 0) dX0_countLost_0 ?_
  refine r_istore_1 (pc := 1) dX0_countLost_1 rfl ?_
  refine r_iconst (pc := 2) dX0_countLost_2 ?_
  refine r_istore_2 (pc := 3) dX0_countLost_3 rfl ?_
  exact lp _ 0 0 rfl (by omega) rfl

theorem dX0_countWaiting_0 : decode cX0_countWaiting 0 = .ok (.iconst 0, 1) := by decide +kernel
theorem dX0_countWaiting_1 : decode cX0_countWaiting 1 = .ok (.istore_n 1, 1) := by decide +kernel
theorem dX0_countWaiting_2 : decode cX0_countWaiting 2 = .ok (.iconst 0, 1) := by decide +kernel
theorem dX0_countWaiting_3 : decode cX0_countWaiting 3 = .ok (.istore_n 2, 1) := by decide +kernel
theorem dX0_countWaiting_4 : decode cX0_countWaiting 4 = .ok (.iload_n 2, 1) := by decide +kernel
theorem dX0_countWaiting_5 : decode cX0_countWaiting 5 = .ok (.bipush 16, 2) := by decide +kernel
theorem dX0_countWaiting_7 : decode cX0_countWaiting 7 = .ok (.if_icmp .ge 25, 3) := by decide +kernel
theorem dX0_countWaiting_10 : decode cX0_countWaiting 10 = .ok (.iload_n 1, 1) := by decide +kernel
theorem dX0_countWaiting_11 : decode cX0_countWaiting 11 = .ok (.aload_n 0, 1) := by decide +kernel
theorem dX0_countWaiting_12 : decode cX0_countWaiting 12 = .ok (.iload_n 2, 1) := by decide +kernel
theorem dX0_countWaiting_13 : decode cX0_countWaiting 13 = .ok (.invokevirtual 50, 3) := by decide +kernel
theorem dX0_countWaiting_16 : decode cX0_countWaiting 16 = .ok (.ifCond .eq 7, 3) := by decide +kernel
theorem dX0_countWaiting_19 : decode cX0_countWaiting 19 = .ok (.iconst 1, 1) := by decide +kernel
theorem dX0_countWaiting_20 : decode cX0_countWaiting 20 = .ok (.goto 4, 3) := by decide +kernel
theorem dX0_countWaiting_23 : decode cX0_countWaiting 23 = .ok (.iconst 0, 1) := by decide +kernel
theorem dX0_countWaiting_24 : decode cX0_countWaiting 24 = .ok (.iadd, 1) := by decide +kernel
theorem dX0_countWaiting_25 : decode cX0_countWaiting 25 = .ok (.istore_n 1, 1) := by decide +kernel
theorem dX0_countWaiting_26 : decode cX0_countWaiting 26 = .ok (.iinc 2 1, 3) := by decide +kernel
theorem dX0_countWaiting_29 : decode cX0_countWaiting 29 = .ok (.goto (-25), 3) := by decide +kernel
theorem dX0_countWaiting_32 : decode cX0_countWaiting 32 = .ok (.iload_n 1, 1) := by decide +kernel
theorem dX0_countWaiting_33 : decode cX0_countWaiting 33 = .ok (.ireturn, 1) := by decide +kernel
set_option maxHeartbeats 4000000 in
set_option maxRecDepth 20000 in
theorem c_X0_countWaiting : ConI mX0_countWaiting (fun args N lay r h Q => ∃ (a : Nat) (ux : Int) (sz ho : Int → Int) , args = [.ref a] ∧ DaAt lay r a ∧ DaS h a ux sz ho ∧ MkI ux ho ∧ Q (sm (fun g => bI (iA (ho g) ux = 0)) 16) N lay r h) := by
  refine ConI.of (by decide) (by rintro _ N lay r h Q ⟨a, ux, sz, ho, rfl, hD, hV, hM, hQ⟩; exact ⟨rfl, Nat.le_of_ble_eq_true rfl⟩) ?_
  rintro E _ N lay r h Q ⟨a, ux, sz, ho, rfl, hD, hV, hM, hQ⟩ hret
  obtain ⟨dl0, dl1, dl2, dr1, dr2⟩ := id hD
  obtain ⟨d0, d1, d2⟩ := id hV
  show St E mX0_countWaiting 0 [some (.ref a), none, none] [] (0, 0) N lay r h
  have lp : ∀ (n_ : Nat) (g : Int) (s : Int), (16 - g).toNat = n_ → (0 ≤ g ∧ g ≤ 16) → (s = sm (fun g => bI (iA (ho g) ux = 0)) g.toNat) → St E mX0_countWaiting 4 [some (.ref a), some (vI s), some (vI g)] [] (0, 0) N lay r h := by
    intro  n_
    induction n_ using Nat.strongRecOn with
    | ind n_ ih =>
      intro g s hn_ hg hs
      refine r_iload_2 (pc := 4) dX0_countWaiting_4 ?_
      refine r_bipush (pc := 5) dX0_countWaiting_5 (by decide) ?_
      refine r_icmp_ge (pc := 7) (tgt := 32) dX0_countWaiting_7 (by decide) (by omega) (by omega) (fun c_7 => ?_) (fun c_7 => ?_)
      · refine r_iload_1 (pc := 32) dX0_countWaiting_32 ?_
        refine r_iret (pc := 33) hret dX0_countWaiting_33 rfl rfl rfl ?_
        have hg9 : g = 16 := by omega
        subst hg9
        rw [hs]
        exact hQ
      · refine r_iload_1 (pc := 10) dX0_countWaiting_10 ?_
        refine r_aload_0 (pc := 11) dX0_countWaiting_11 ?_
        refine r_iload_2 (pc := 12) dX0_countWaiting_12 ?_
        refine k_VI1 (pc := 13) c_X0_isWaiting lk_X0_50 ⟨Nat.le_of_ble_eq_true rfl, Nat.le_of_ble_eq_true rfl⟩ ⟨rfl, rfl⟩ ⟨Nat.le_of_ble_eq_true rfl, Nat.le_of_ble_eq_true rfl⟩ (k := 0) rfl (by decide) (by assumption) dX0_countWaiting_13 (Nat.le_of_ble_eq_true rfl) ?_
        refine ⟨_, _, _, _, _, rfl, by assumption, by assumption, by assumption, by omega, ?_⟩
        refine r_ifeq_b (pc := 16) (tgt := 23) dX0_countWaiting_16 (by decide) (fun c_16 => ?_) (fun c_16 => ?_)
        · refine r_iconst (pc := 23) dX0_countWaiting_23 ?_
          refine r_iadd (pc := 24) dX0_countWaiting_24 ?_
          refine r_istore_1 (pc := 25) dX0_countWaiting_25 rfl ?_
          refine r_iinc_2 (pc := 26) dX0_countWaiting_26 rfl ?_
          refine r_goto (pc := 29) (tgt := 4) dX0_countWaiting_29 (by decide) ?_
          first
          | (have k9 : iA (ho g) ux = 0 := c_16
             refine ih _ (by omega) (g + 1) _ rfl (by omega) ?_
             rw [sm_z hg.1, bI_t k9, hs])
          | (have k9 : ¬ (iA (ho g) ux = 0) := c_16
             refine ih _ (by omega) (g + 1) _ rfl (by omega) ?_
             rw [sm_z hg.1, bI_f k9, hs])
        · refine r_iconst (pc := 19) dX0_countWaiting_19 ?_
          refine r_goto (pc := 20) (tgt := 24) dX0_countWaiting_20 (by decide) ?_
          refine r_iadd (pc := 24) dX0_countWaiting_24 ?_
          refine r_istore_1 (pc := 25) dX0_countWaiting_25 rfl ?_
          refine r_iinc_2 (pc := 26) dX0_countWaiting_26 rfl ?_
          refine r_goto (pc := 29) (tgt := 4) dX0_countWaiting_29 (by decide) ?_
          first
          | (have k9 : iA (ho g) ux = 0 := c_16
             refine ih _ (by omega) (g + 1) _ rfl (by omega) ?_
             rw [sm_z hg.1, bI_t k9, hs])
          | (have k9 : ¬ (iA (ho g) ux = 0) := c_16
             refine ih _ (by omega) (g + 1) _ rfl (by omega) ?_
             rw [sm_z hg.1, bI_f k9, hs])
  refine r_iconst (pc := 0) dX0_countWaiting_0 ?_
  refine r_istore_1 (pc := 1) dX0_countWaiting_1 rfl ?_
  refine r_iconst (pc := 2) dX0_countWaiting_2 ?_
  refine r_istore_2 (pc := 3) dX0_countWaiting_3 rfl ?_
  exact lp _ 0 0 rfl (by omega) rfl

theorem dX0_countIncomplete_0 : decode cX0_countIncomplete 0 = .ok (.iconst 0, 1) := by decide +kernel
theorem dX0_countIncomplete_1 : decode cX0_countIncomplete 1 = .ok (.istore_n 2, 1) := by decide +kernel
theorem dX0_countIncomplete_2 : decode cX0_countIncomplete 2 = .ok (.iconst 0, 1) := by decide +kernel
theorem dX0_countIncomplete_3 : decode cX0_countIncomplete 3 = .ok (.istore_n 3, 1) := by decide +kernel
theorem dX0_countIncomplete_4 : decode cX0_countIncomplete 4 = .ok (.iload_n 3, 1) := by decide +kernel
theorem dX0_countIncomplete_5 : decode cX0_countIncomplete 5 = .ok (.bipush 16, 2) := by decide +kernel
theorem dX0_countIncomplete_7 : decode cX0_countIncomplete 7 = .ok (.if_icmp .ge 26, 3) := by decide +kernel
theorem dX0_countIncomplete_10 : decode cX0_countIncomplete 10 = .ok (.iload_n 2, 1) := by decide +kernel
theorem dX0_countIncomplete_11 : decode cX0_countIncomplete 11 = .ok (.aload_n 0, 1) := by decide +kernel
theorem dX0_countIncomplete_12 : decode cX0_countIncomplete 12 = .ok (.aload_n 1, 1) := by decide +kernel
theorem dX0_countIncomplete_13 : decode cX0_countIncomplete 13 = .ok (.iload_n 3, 1) := by decide +kernel
theorem dX0_countIncomplete_14 : decode cX0_countIncomplete 14 = .ok (.invokevirtual 54, 3) := by decide +kernel
theorem dX0_countIncomplete_17 : decode cX0_countIncomplete 17 = .ok (.ifCond .eq 7, 3) := by decide +kernel
theorem dX0_countIncomplete_20 : decode cX0_countIncomplete 20 = .ok (.iconst 1, 1) := by decide +kernel
theorem dX0_countIncomplete_21 : decode cX0_countIncomplete 21 = .ok (.goto 4, 3) := by decide +kernel
theorem dX0_countIncomplete_24 : decode cX0_countIncomplete 24 = .ok (.iconst 0, 1) := by decide +kernel
theorem dX0_countIncomplete_25 : decode cX0_countIncomplete 25 = .ok (.iadd, 1) := by decide +kernel
theorem dX0_countIncomplete_26 : decode cX0_countIncomplete 26 = .ok (.istore_n 2, 1) := by decide +kernel
theorem dX0_countIncomplete_27 : decode cX0_countIncomplete 27 = .ok (.iinc 3 1, 3) := by decide +kernel
theorem dX0_countIncomplete_30 : decode cX0_countIncomplete 30 = .ok (.goto (-26), 3) := by decide +kernel
theorem dX0_countIncomplete_33 : decode cX0_countIncomplete 33 = .ok (.iload_n 2, 1) := by decide +kernel
theorem dX0_countIncomplete_34 : decode cX0_countIncomplete 34 = .ok (.ireturn, 1) := by decide +kernel
set_option maxHeartbeats 4000000 in
set_option maxRecDepth 20000 in
theorem c_X0_countIncomplete : ConI mX0_countIncomplete (fun args N lay r h Q => ∃ (a : Nat) (ux : Int) (sz ho : Int → Int) (p n : Nat) (F : Int → Int), args = [.ref a, .ref p] ∧ DaAt lay r a ∧ DaS h a ux sz ho ∧ MkI ux ho ∧ lay p = (4, n) ∧ lay (p + 11) = (10, 64) ∧ lay (p + 13) = (10, 16) ∧ r p 9 = some (p + 11) ∧ r p 11 = some (p + 13) ∧ FdI F ∧ (∀ j, 0 ≤ j → j < 64 → h (p + 11) j = F j) ∧ (∀ g, 0 ≤ g → g < 16 → h (p + 13) g = pb F g) ∧ Q (sm (fun g => bI (wan F ux ho g = true)) 16) N lay r h) := by
  refine ConI.of (by decide) (by rintro _ N lay r h Q ⟨a, ux, sz, ho, p, n, F, rfl, hD, hV, hM, pl0, pl11, pl13, pr9, pr11, hF, hp1, hp2, hQ⟩; exact ⟨rfl, Nat.le_of_ble_eq_true rfl⟩) ?_
  rintro E _ N lay r h Q ⟨a, ux, sz, ho, p, n, F, rfl, hD, hV, hM, pl0, pl11, pl13, pr9, pr11, hF, hp1, hp2, hQ⟩ hret
  obtain ⟨dl0, dl1, dl2, dr1, dr2⟩ := id hD
  obtain ⟨d0, d1, d2⟩ := id hV
  show St E mX0_countIncomplete 0 [some (.ref a), some (.ref p), none, none] [] (0, 0) N lay r h
  have lp : ∀ (n_ : Nat) (g : Int) (s : Int), (16 - g).toNat = n_ → (0 ≤ g ∧ g ≤ 16) → (s = sm (fun g => bI (wan F ux ho g = true)) g.toNat) → St E mX0_countIncomplete 4 [some (.ref a), some (.ref p), some (vI s), some (vI g)] [] (0, 0) N lay r h := by
    intro  n_
    induction n_ using Nat.strongRecOn with
    | ind n_ ih =>
      intro g s hn_ hg hs
      refine r_iload_3 (pc := 4) dX0_countIncomplete_4 ?_
      refine r_bipush (pc := 5) dX0_countIncomplete_5 (by decide) ?_
      refine r_icmp_ge (pc := 7) (tgt := 33) dX0_countIncomplete_7 (by decide) (by omega) (by omega) (fun c_7 => ?_) (fun c_7 => ?_)
      · refine r_iload_2 (pc := 33) dX0_countIncomplete_33 ?_
        refine r_iret (pc := 34) hret dX0_countIncomplete_34 rfl rfl rfl ?_
        have hg9 : g = 16 := by omega
        subst hg9
        rw [hs]
        exact hQ
      · refine r_iload_2 (pc := 10) dX0_countIncomplete_10 ?_
        refine r_aload_0 (pc := 11) dX0_countIncomplete_11 ?_
        refine r_aload_1 (pc := 12) dX0_countIncomplete_12 ?_
        refine r_iload_3 (pc := 13) dX0_countIncomplete_13 ?_
        refine k_VI2 (pc := 14) c_X0_isIncomplete lk_X0_54 ⟨Nat.le_of_ble_eq_true rfl, Nat.le_of_ble_eq_true rfl⟩ ⟨rfl, rfl⟩ ⟨Nat.le_of_ble_eq_true rfl, Nat.le_of_ble_eq_true rfl⟩ (k := 0) rfl (by decide) (by assumption) dX0_countIncomplete_14 (Nat.le_of_ble_eq_true rfl) ?_
        refine ⟨_, _, _, _, _, _, _, _, rfl, by assumption, by assumption, by assumption, by assumption, by assumption, by assumption, by assumption, by assumption, by assumption, by assumption, by assumption, by omega, ?_⟩
        refine r_ifeq_b (pc := 17) (tgt := 24) dX0_countIncomplete_17 (by decide) (fun c_17 => ?_) (fun c_17 => ?_)
        · refine r_iconst (pc := 24) dX0_countIncomplete_24 ?_
          refine r_iadd (pc := 25) dX0_countIncomplete_25 ?_
          refine r_istore_2 (pc := 26) dX0_countIncomplete_26 rfl ?_
          refine r_iinc_3 (pc := 27) dX0_countIncomplete_27 rfl ?_
          refine r_goto (pc := 30) (tgt := 4) dX0_countIncomplete_30 (by decide) ?_
          first
          | (have k9 : wan F ux ho g = true := c_17
             refine ih _ (by omega) (g + 1) _ rfl (by omega) ?_
             rw [sm_z hg.1, bI_t k9, hs])
          | (have k9 : ¬ (wan F ux ho g = true) := c_17
             refine ih _ (by omega) (g + 1) _ rfl (by omega) ?_
             rw [sm_z hg.1, bI_f k9, hs])
        · refine r_iconst (pc := 20) dX0_countIncomplete_20 ?_
          refine r_goto (pc := 21) (tgt := 25) dX0_countIncomplete_21 (by decide) ?_
          refine r_iadd (pc := 25) dX0_countIncomplete_25 ?_
          refine r_istore_2 (pc := 26) dX0_countIncomplete_26 rfl ?_
          refine r_iinc_3 (pc := 27) dX0_countIncomplete_27 rfl ?_
          refine r_goto (pc := 30) (tgt := 4) dX0_countIncomplete_30 (by decide) ?_
          first
          | (have k9 : wan F ux ho g = true := c_17
             refine ih _ (by omega) (g + 1) _ rfl (by omega) ?_
             rw [sm_z hg.1, bI_t k9, hs])
          | (have k9 : ¬ (wan F ux ho g = true) := c_17
             refine ih _ (by omega) (g + 1) _ rfl (by omega) ?_
             rw [sm_z hg.1, bI_f k9, hs])
  refine r_iconst (pc := 0) dX0_countIncomplete_0 ?_
  refine r_istore_2 (pc := 1) dX0_countIncomplete_1 rfl ?_
  refine r_iconst (pc := 2) dX0_countIncomplete_2 ?_
  refine r_istore_3 (pc := 3) dX0_countIncomplete_3 rfl ?_
  exact lp _ 0 0 rfl (by omega) rfl

