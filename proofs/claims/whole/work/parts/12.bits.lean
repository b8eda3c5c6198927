/-! BITS AND WANTS -/
theorem wb_tb (n : Nat) : (lN n).toBitVec = BitVec.ofNat 64 n := rfl
theorem wb_inj {a b : Int64} (h : a.toBitVec = b.toBitVec) : a = b := Int64.toBitVec_inj.mp h
theorem wb_tn {n : Nat} (h : n < 2 ^ 64) : (lN n).toBitVec.toNat = n := by rw [wb_tb, BitVec.toNat_ofNat, Nat.mod_eq_of_lt h]
theorem wb_c : ∀ k, k < 64 → ((nI k).toInt64 &&& 63) = lN k := by decide +kernel
theorem wb_sm : ∀ k, k < 64 → (BitVec.ofNat 64 k).smod 64 = BitVec.ofNat 64 k := by decide +kernel
theorem wb_shl (n : Nat) {k : Nat} (hk : k < 64) : lN n <<< ((nI k).toInt64 &&& 63) = lN (n * 2 ^ k) := by
  rw [wb_c k hk]
  apply wb_inj
  rw [Int64.toBitVec_shiftLeft, wb_tb, wb_tb, wb_tb, wb_sm k hk]
  apply BitVec.eq_of_toNat_eq
  rw [BitVec.shiftLeft_eq', BitVec.toNat_shiftLeft, BitVec.toNat_ofNat, BitVec.toNat_ofNat, BitVec.toNat_ofNat, Nat.mod_eq_of_lt (show k < 2 ^ 64 by omega), Nat.shiftLeft_eq, Nat.mul_mod, Nat.mod_mod, ← Nat.mul_mod]
theorem pf_lI {a : Nat} (h : a < 2 ^ 63) : (lN a).toInt = (a : Int) := lg_ofNat_toInt h
theorem pf_shr {a d : Nat} {D : Int64} (hD : (D.toBitVec.smod 64).toNat = d) (h : a < 2 ^ 62) : lN a >>> D = lN (a / 2 ^ d) := by
  have hd : a / 2 ^ d ≤ a := Nat.div_le_self _ _
  apply Int64.toInt_inj.mp
  have e : (lN a >>> D).toInt = (lN a).toInt >>> d := by
    rw [← hD]
    exact BitVec.toInt_sshiftRight ..
  rw [e, Int.shiftRight_eq_div_pow, pf_lI (by omega), pf_lI (by omega)]
  rfl
theorem s_l : ∀ n, n < 32 → ((nI n &&& 31).toBitVec.smod 32).toNat = n := by decide +kernel

theorem ofI_nI (k : Nat) : Int32.ofInt (k : Int) = nI k := Int32.toBitVec_inj.mp (by show BitVec.ofInt 32 (k : Int) = BitVec.ofNat 32 k; simp)
theorem ofI_lN (k : Nat) : Int64.ofInt (k : Int) = lN k := Int64.toBitVec_inj.mp (by show BitVec.ofInt 64 (k : Int) = BitVec.ofNat 64 k; simp)
theorem iSr_div {x : Int} (k : Nat) (hx : 0 ≤ x ∧ x < 2147483648) (hk : k < 32) : iSr x k = x / 2 ^ k := by
  unfold iSr
  rw [ofI_nI, pk_shr _ _ k (s_l k hk), i32_toInt (by omega), Int.shiftRight_eq_div_pow]
  norm_cast
theorem iSl_mul {x : Int} (k : Nat) (hx : 0 ≤ x) (hk : k < 32) (h2 : x * 2 ^ k < 2147483648) : iSl x k = x * 2 ^ k := by
  obtain ⟨n, rfl⟩ : ∃ n : Nat, x = n := ⟨x.toNat, by omega⟩
  have h3 : n * 2 ^ k < 2 ^ 32 := by
    have : ((n * 2 ^ k : Nat) : Int) < 2147483648 := by rw [Int.natCast_mul, Int.natCast_pow]; exact h2
    omega
  unfold iSl
  rw [ofI_nI, ofI_nI, pk_shlN _ k (s_l k hk) h3, nI_toInt (by
    have : ((n * 2 ^ k : Nat) : Int) < 2147483648 := by rw [Int.natCast_mul, Int.natCast_pow]; exact h2
    omega), Int.natCast_mul, Int.natCast_pow]
  rfl
theorem lSl_mul {x : Int} (k : Nat) (hx : 0 ≤ x) (hk : k < 64) (h2 : x * 2 ^ k < 9223372036854775808) : lSl x k = x * 2 ^ k := by
  obtain ⟨n, rfl⟩ : ∃ n : Nat, x = n := ⟨x.toNat, by omega⟩
  have h3 : ((n * 2 ^ k : Nat) : Int) < 9223372036854775808 := by rw [Int.natCast_mul, Int.natCast_pow]; exact h2
  unfold lSl
  rw [ofI_nI, ofI_lN, wb_shl n hk, pf_lI (by omega), Int.natCast_mul, Int.natCast_pow]
  rfl
theorem lSr_div {x : Int} (k : Nat) (hx : 0 ≤ x) (hk : k < 64) (h2 : x < 4611686018427387904) : lSr x k = x / 2 ^ k := by
  obtain ⟨n, rfl⟩ : ∃ n : Nat, x = n := ⟨x.toNat, by omega⟩
  have h4 : n / 2 ^ k ≤ n := Nat.div_le_self _ _
  unfold lSr
  rw [ofI_nI, ofI_lN, wb_c k hk, pf_shr (d := k) (by rw [wb_tb, wb_sm k hk, BitVec.toNat_ofNat, Nat.mod_eq_of_lt (by omega)]) (by omega), pf_lI (by omega), Int.natCast_ediv, Int.natCast_pow]
  rfl
def wE (u : Int) : Nat := Nat.log2 u.toNat
def wS (u : Int) : Nat → Int × Int
  | 0 => (u * 2 ^ (16 - wE u), 0)
  | n + 1 => if 131072 ≤ (wS u n).1 * (wS u n).1 / 65536 then ((wS u n).1 * (wS u n).1 / 65536 / 2, 2 * (wS u n).2 + 1) else ((wS u n).1 * (wS u n).1 / 65536, 2 * (wS u n).2)
def wn (u : Int) : Int := 65536 - 4096 * (wE u : Int) - (wS u 12).2
theorem wE_of {u : Int} {e : Nat} (h1 : (2 : Int) ^ e ≤ u) (h2 : u < (2 : Int) ^ (e + 1)) : wE u = e := by
  have h0 : (0 : Int) < 2 ^ e := Int.pow_pos (by omega)
  obtain ⟨n, rfl⟩ : ∃ n : Nat, u = n := ⟨u.toNat, by omega⟩
  unfold wE
  rw [Int.toNat_natCast, Nat.log2_eq_iff (by omega)]
  constructor
  · have : ((2 ^ e : Nat) : Int) ≤ (n : Int) := by rw [Int.natCast_pow]; exact h1
    omega
  · have : (n : Int) < ((2 ^ (e + 1) : Nat) : Int) := by rw [Int.natCast_pow]; exact h2
    omega
theorem wE_b {u : Int} (h : 1 ≤ u ∧ u ≤ 65521) : (2 : Int) ^ wE u ≤ u ∧ u < (2 : Int) ^ (wE u + 1) ∧ wE u ≤ 15 := by
  obtain ⟨n, rfl⟩ : ∃ n : Nat, u = n := ⟨u.toNat, by omega⟩
  have h1 := (Nat.log2_eq_iff (n := n) (k := Nat.log2 n) (by omega)).mp rfl
  have h2 : Nat.log2 n < 16 := (Nat.log2_lt (by omega)).mpr (by omega)
  unfold wE
  rw [Int.toNat_natCast]
  refine ⟨?_, ?_, by omega⟩
  · have := h1.1
    have h5 : ((2 ^ Nat.log2 n : Nat) : Int) ≤ (n : Int) := by omega
    rwa [Int.natCast_pow] at h5
  · have := h1.2
    have h5 : (n : Int) < ((2 ^ (Nat.log2 n + 1) : Nat) : Int) := by omega
    rwa [Int.natCast_pow] at h5
theorem w_sq {v : Int} (h : 65536 ≤ v ∧ v < 131072) : 65536 ≤ v * v / 65536 ∧ v * v / 65536 < 262144 ∧ 0 ≤ v * v ∧ v * v < 17179869184 := by
  have h1 : 65536 * 65536 ≤ v * v := Int.mul_le_mul h.1 h.1 (by omega) (by omega)
  have h2 : v * v ≤ 131071 * 131071 := Int.mul_le_mul (by omega) (by omega) (by omega) (by omega)
  omega
theorem wS_inv {u : Int} (h : 1 ≤ u ∧ u ≤ 65521) : ∀ n : Nat, (65536 ≤ (wS u n).1 ∧ (wS u n).1 < 131072) ∧ 0 ≤ (wS u n).2 ∧ (wS u n).2 < 2 ^ n
  | 0 => by
    obtain ⟨a1, a2, a3⟩ := wE_b h
    have h16 : (2 : Int) ^ wE u * 2 ^ (16 - wE u) = 65536 := by rw [← Int.pow_add, show wE u + (16 - wE u) = 16 by omega]; rfl
    have h17 : (2 : Int) ^ (wE u + 1) * 2 ^ (16 - wE u) = 131072 := by rw [← Int.pow_add, show wE u + 1 + (16 - wE u) = 17 by omega]; rfl
    have hp : (0 : Int) < 2 ^ (16 - wE u) := Int.pow_pos (by omega)
    refine ⟨⟨?_, ?_⟩, Int.le_refl _, show (0 : Int) < 2 ^ 0 by decide⟩
    · rw [← h16]
      exact Int.mul_le_mul_of_nonneg_right a1 (by omega)
    · rw [← h17]
      exact Int.mul_lt_mul_of_pos_right a2 hp
  | n + 1 => by
    obtain ⟨b1, b2, b3⟩ := wS_inv h n
    have b4 := w_sq b1
    have hp : (2 : Int) ^ (n + 1) = 2 * 2 ^ n := by rw [Int.pow_succ, Int.mul_comm]
    simp only [wS]
    split
    · refine ⟨⟨?_, ?_⟩, ?_, ?_⟩ <;> simp only <;> omega
    · refine ⟨⟨?_, ?_⟩, ?_, ?_⟩ <;> simp only <;> omega
theorem wS_p {u : Int} (h : 1 ≤ u ∧ u ≤ 65521) {n : Nat} (hn : n ≤ 12) : 0 ≤ (wS u n).2 ∧ (wS u n).2 < 4096 := by
  obtain ⟨-, b2, b3⟩ := wS_inv h n
  have h2 : (2 : Int) ^ n ≤ 2 ^ 12 := by
    have h5 : ((2 ^ n : Nat) : Int) ≤ ((2 ^ 12 : Nat) : Int) := Int.ofNat_le.mpr (Nat.pow_le_pow_right (by omega) hn)
    rwa [Int.natCast_pow, Int.natCast_pow] at h5
  omega
theorem wn_r {u : Int} (h : 1 ≤ u ∧ u ≤ 65521) : 1 ≤ wn u ∧ wn u ≤ 65536 := by
  have h1 := wS_p h (n := 12) (by omega)
  have h2 := (wE_b h).2.2
  unfold wn
  omega
