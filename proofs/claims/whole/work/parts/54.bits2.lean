/-! BITS of sets of disks -/
def tb (x : Int) (k : Nat) : Bool := x.toNat.testBit k
theorem b32 {x : Int} (h : 0 ≤ x ∧ x < 2147483648) : (Int32.ofInt x).toBitVec.toNat = x.toNat := by
  show (BitVec.ofInt 32 x).toNat = x.toNat
  rw [BitVec.toNat_ofInt]
  rw [Int.emod_eq_of_lt (by omega) (by omega)]
theorem t32 {z : Int32} {n : Nat} (h : z.toBitVec.toNat = n) (h2 : n < 2147483648) : z.toInt = n := by
  show z.toBitVec.toInt = n
  rw [BitVec.toInt_eq_toNat_cond, h, if_pos (by omega)]
theorem iA_n {x y : Int} (hx : 0 ≤ x ∧ x < 2147483648) (hy : 0 ≤ y ∧ y < 2147483648) : iA x y = ((x.toNat &&& y.toNat : Nat) : Int) := by
  refine t32 (n := x.toNat &&& y.toNat) ?_ ?_
  · rw [Int32.toBitVec_and, BitVec.toNat_and, b32 hx, b32 hy]
  · exact Nat.lt_of_le_of_lt Nat.and_le_left (by omega)
theorem iO_n {x y : Int} (hx : 0 ≤ x ∧ x < 2147483648) (hy : 0 ≤ y ∧ y < 2147483648) : iO x y = ((x.toNat ||| y.toNat : Nat) : Int) := by
  refine t32 (n := x.toNat ||| y.toNat) ?_ ?_
  · rw [Int32.toBitVec_or, BitVec.toNat_or, b32 hx, b32 hy]
  · exact Nat.or_lt_two_pow (n := 31) (by omega) (by omega)
theorem iX_n {x y : Int} (hx : 0 ≤ x ∧ x < 2147483648) (hy : 0 ≤ y ∧ y < 2147483648) : iX x y = ((x.toNat ^^^ y.toNat : Nat) : Int) := by
  refine t32 (n := x.toNat ^^^ y.toNat) ?_ ?_
  · rw [Int32.toBitVec_xor, BitVec.toNat_xor, b32 hx, b32 hy]
  · exact Nat.xor_lt_two_pow (n := 31) (by omega) (by omega)
theorem iAn_n {x y : Int} (hx : 0 ≤ x ∧ x < 2147483648) (hy : 0 ≤ y ∧ y < 2147483648) : iA x (iX y (-1)) = ((x.toNat &&& (y.toNat ^^^ 4294967295) : Nat) : Int) := by
  refine t32 (n := x.toNat &&& (y.toNat ^^^ 4294967295)) ?_ ?_
  · unfold iX
    rw [Int32.ofInt_toInt, Int32.toBitVec_and, Int32.toBitVec_xor, BitVec.toNat_and, BitVec.toNat_xor, b32 hx, b32 hy]
    rfl
  · exact Nat.lt_of_le_of_lt Nat.and_le_left (by omega)
theorem iS1_n {j : Nat} (hj : j < 31) : iSl 1 (j : Int) = ((2 ^ j : Nat) : Int) := by
  have h2 : (2 : Int) ^ j < 2147483648 := by
    have := Nat.pow_lt_pow_right (a := 2) (by omega) hj
    have e : ((2 ^ j : Nat) : Int) = (2 : Int) ^ j := by simp
    omega
  rw [iSl_mul j (by omega) (by omega) (by omega)]
  simp
theorem tb_n (n k : Nat) : tb (n : Int) k = n.testBit k := by unfold tb; rw [Int.toNat_natCast]
theorem tb_A {x y : Int} (hx : 0 ≤ x ∧ x < 2147483648) (hy : 0 ≤ y ∧ y < 2147483648) (k : Nat) : tb (iA x y) k = (tb x k && tb y k) := by
  rw [iA_n hx hy, tb_n, Nat.testBit_and]; rfl
theorem tb_O {x y : Int} (hx : 0 ≤ x ∧ x < 2147483648) (hy : 0 ≤ y ∧ y < 2147483648) (k : Nat) : tb (iO x y) k = (tb x k || tb y k) := by
  rw [iO_n hx hy, tb_n, Nat.testBit_or]; rfl
theorem tb_X {x y : Int} (hx : 0 ≤ x ∧ x < 2147483648) (hy : 0 ≤ y ∧ y < 2147483648) (k : Nat) : tb (iX x y) k = (tb x k ^^ tb y k) := by
  rw [iX_n hx hy, tb_n, Nat.testBit_xor]; rfl
theorem tb_big {x : Int} {n k : Nat} (h : x < (2 ^ n : Nat)) (hk : n ≤ k) : tb x k = false := by
  unfold tb
  by_cases h0 : 0 ≤ x
  · refine Nat.testBit_lt_two_pow (Nat.lt_of_lt_of_le (m := 2 ^ n) (by omega) (Nat.pow_le_pow_right (by omega) hk))
  · rw [show x.toNat = 0 by omega]; simp
theorem tb_An {x y : Int} (hx : 0 ≤ x ∧ x < 2147483648) (hy : 0 ≤ y ∧ y < 2147483648) (k : Nat) : tb (iA x (iX y (-1))) k = (tb x k && !tb y k) := by
  rw [iAn_n hx hy, tb_n, Nat.testBit_and, Nat.testBit_xor]
  have e : (4294967295 : Nat) = 2 ^ 32 - 1 := rfl
  rw [e, Nat.testBit_two_pow_sub_one]
  by_cases hk : k < 32
  · simp [hk, tb]
  · have : x.toNat.testBit k = false := tb_big (x := x) (n := 31) (by omega) (by omega)
    simp [tb, this]
theorem tb_S {j : Int} (h0 : 0 ≤ j) (hj : j < 31) (k : Nat) : tb (iSl 1 j) k = decide ((k : Int) = j) := by
  obtain ⟨n, rfl⟩ : ∃ n : Nat, j = n := ⟨j.toNat, by omega⟩
  rw [iS1_n (by omega), tb_n, Nat.testBit_two_pow]
  by_cases e : n = k
  · rw [decide_eq_true e, decide_eq_true (by omega)]
  · rw [decide_eq_false e, decide_eq_false (by omega)]
theorem S_r {j : Int} {n : Nat} (h0 : 0 ≤ j) (hj : j < n) (hn : n < 32) : 0 < iSl 1 j ∧ iSl 1 j < (2 ^ n : Nat) := by
  obtain ⟨m, rfl⟩ : ∃ n : Nat, j = n := ⟨j.toNat, by omega⟩
  rw [iS1_n (by omega)]
  have h1 := Nat.pow_lt_pow_right (a := 2) (by omega) (show m < n by omega)
  have h2 := Nat.two_pow_pos m
  omega
theorem S_12 {j : Int} (h0 : 0 ≤ j) (hj : j < 12) : 0 < iSl 1 j ∧ iSl 1 j < 4096 := S_r (n := 12) h0 hj (by omega)
theorem A_le {x y : Int} (hx : 0 ≤ x ∧ x < 2147483648) (hy : 0 ≤ y ∧ y < 2147483648) : 0 ≤ iA x y ∧ iA x y ≤ x := by
  rw [iA_n hx hy]
  have := Nat.and_le_left (n := x.toNat) (m := y.toNat)
  omega
theorem An_le {x y : Int} (hx : 0 ≤ x ∧ x < 2147483648) (hy : 0 ≤ y ∧ y < 2147483648) : 0 ≤ iA x (iX y (-1)) ∧ iA x (iX y (-1)) ≤ x := by
  rw [iAn_n hx hy]
  have := Nat.and_le_left (n := x.toNat) (m := y.toNat ^^^ 4294967295)
  omega
theorem O_lt {x y : Int} {n : Nat} (hn : n ≤ 31) (hx : 0 ≤ x ∧ x < (2 ^ n : Nat)) (hy : 0 ≤ y ∧ y < (2 ^ n : Nat)) : 0 ≤ iO x y ∧ iO x y < (2 ^ n : Nat) := by
  have h1 := Nat.pow_le_pow_right (n := 2) (by omega) hn
  rw [iO_n (by omega) (by omega)]
  have := Nat.or_lt_two_pow (n := n) (x := x.toNat) (y := y.toNat) (by omega) (by omega)
  omega
theorem O_12 {x y : Int} (hx : 0 ≤ x ∧ x < 4096) (hy : 0 ≤ y ∧ y < 4096) : 0 ≤ iO x y ∧ iO x y < 4096 := O_lt (n := 12) (by omega) hx hy
theorem X_12 {x y : Int} (hx : 0 ≤ x ∧ x < 4096) (hy : 0 ≤ y ∧ y < 4096) : 0 ≤ iX x y ∧ iX x y < 4096 := by
  rw [iX_n (by omega) (by omega)]
  have := Nat.xor_lt_two_pow (n := 12) (x := x.toNat) (y := y.toNat) (by omega) (by omega)
  omega
theorem tb_eq {x y : Int} (hx : 0 ≤ x) (hy : 0 ≤ y) (h : ∀ k, tb x k = tb y k) : x = y := by
  have := Nat.eq_of_testBit_eq (x := x.toNat) (y := y.toNat) h
  omega
theorem tb_eq12 {x y : Int} (hx : 0 ≤ x ∧ x < 4096) (hy : 0 ≤ y ∧ y < 4096) (h : ∀ k : Nat, k < 12 → tb x k = tb y k) : x = y := by
  refine tb_eq hx.1 hy.1 (fun k => ?_)
  by_cases e : k < 12
  · exact h k e
  · rw [tb_big (n := 12) hx.2 (by omega), tb_big (n := 12) hy.2 (by omega)]
theorem tb_0 (k : Nat) : tb 0 k = false := by unfold tb; simp
theorem tb_z {x : Int} (hx : 0 ≤ x) : x = 0 ↔ ∀ k, tb x k = false := by
  constructor
  · rintro rfl k; exact tb_0 k
  · intro q
    exact tb_eq hx (by omega) (fun k => by rw [q k, tb_0])
theorem tb_nz {x : Int} (hx : 0 ≤ x) : x ≠ 0 ↔ ∃ k, tb x k = true := by
  constructor
  · intro q
    apply Classical.byContradiction
    intro z
    exact q ((tb_z hx).mpr (fun k => by cases e : tb x k with | false => rfl | true => exact (z ⟨k, e⟩).elim))
  · rintro ⟨k, q⟩ z
    rw [z, tb_0] at q
    cases q
theorem tb_nz12 {x : Int} (hx : 0 ≤ x ∧ x < 4096) : x ≠ 0 ↔ ∃ k, k < 12 ∧ tb x k = true := by
  rw [tb_nz hx.1]
  constructor
  · rintro ⟨k, q⟩
    refine ⟨k, ?_, q⟩
    apply Classical.byContradiction
    intro z
    rw [tb_big (n := 12) hx.2 (by omega)] at q
    cases q
  · rintro ⟨k, _, q⟩; exact ⟨k, q⟩
theorem tb_t {x j : Int} (hx : 0 ≤ x ∧ x < 2147483648) (h0 : 0 ≤ j) (hj : j < 31) : iA x (iSl 1 j) ≠ 0 ↔ tb x j.toNat = true := by
  have s := S_r (n := 31) h0 hj (by omega)
  rw [tb_nz (A_le hx ⟨by omega, s.2⟩).1]
  constructor
  · rintro ⟨k, q⟩
    rw [tb_A hx ⟨by omega, s.2⟩, tb_S h0 hj] at q
    simp only [Bool.and_eq_true, decide_eq_true_eq] at q
    rw [show j.toNat = k by omega]
    exact q.1
  · intro q
    refine ⟨j.toNat, ?_⟩
    rw [tb_A hx ⟨by omega, s.2⟩, tb_S h0 hj, q, decide_eq_true (by omega)]
    rfl
theorem tb_r {x j : Int} (hx : 0 ≤ x ∧ x < 2147483648) (h0 : 0 ≤ j) (hj : j < 31) : iA (iSr x j) 1 = if tb x j.toNat = true then 1 else 0 := by
  obtain ⟨n, rfl⟩ : ∃ n : Nat, j = n := ⟨j.toNat, by omega⟩
  have h2 : (2 : Int) ^ n = ((2 ^ n : Nat) : Int) := by simp
  have h3 := Nat.two_pow_pos n
  have h4 : x / 2 ^ n = ((x.toNat / 2 ^ n : Nat) : Int) := by
    rw [h2, Int.natCast_ediv, Int.toNat_of_nonneg hx.1]
  have h5 : x.toNat / 2 ^ n ≤ x.toNat := Nat.div_le_self _ _
  obtain ⟨m, hm⟩ : ∃ m, m = x.toNat / 2 ^ n := ⟨_, rfl⟩
  rw [← hm] at h4 h5
  rw [iSr_div n hx (by omega), h4, iA_n ⟨by omega, by omega⟩ (by omega), Int.toNat_natCast, Int.toNat_natCast]
  unfold tb
  rw [Nat.testBit_eq_decide_div_mod_eq, ← hm]
  have e : m &&& Int.toNat 1 = m % 2 := Nat.and_two_pow_sub_one_eq_mod (n := 1) _
  rw [e]
  split
  · rename_i q
    simp only [decide_eq_true_eq] at q
    omega
  · rename_i q
    simp only [decide_eq_true_eq] at q
    omega
theorem tb_r1 {x j : Int} (hx : 0 ≤ x ∧ x < 2147483648) (h0 : 0 ≤ j) (hj : j < 31) : iA (iSr x j) 1 = 1 ↔ tb x j.toNat = true := by
  rw [tb_r hx h0 hj]
  split
  · rename_i q; simp [q]
  · rename_i q; simp [q]
theorem or_add {x : Int} {n : Nat} (hn : n < 31) (hx : 0 ≤ x ∧ x < (2 ^ n : Nat)) : iO x (iSl 1 (n : Int)) = x + iSl 1 (n : Int) := by
  have h1 := Nat.pow_le_pow_right (n := 2) (by omega) (show n ≤ 30 by omega)
  rw [iS1_n (by omega), iO_n (by omega) (by omega), Int.toNat_natCast]
  have e : x.toNat ||| 2 ^ n = 2 ^ n + x.toNat := by
    rw [Nat.or_comm]
    have := Nat.two_pow_add_eq_or_of_lt (i := n) (b := x.toNat) (by omega) 1
    simpa using this.symm
  rw [e]
  omega

