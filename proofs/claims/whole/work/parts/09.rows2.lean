/-! FURTHER ROWS: bits, constants, switches, copies of arrays, library functions -/
def iA (x y : Int) : Int := (Int32.ofInt x &&& Int32.ofInt y).toInt
def iO (x y : Int) : Int := (Int32.ofInt x ||| Int32.ofInt y).toInt
def iX (x y : Int) : Int := (Int32.ofInt x ^^^ Int32.ofInt y).toInt
def iSl (x y : Int) : Int := (Int32.ofInt x <<< (Int32.ofInt y &&& 31)).toInt
def iSr (x y : Int) : Int := (Int32.ofInt x >>> (Int32.ofInt y &&& 31)).toInt
def iUr (x y : Int) : Int := ((Int32.ofInt x).toUInt32 >>> ((Int32.ofInt y).toUInt32 &&& Int32.toUInt32 31)).toInt32.toInt
def lSl (x y : Int) : Int := (Int64.ofInt x <<< ((Int32.ofInt y).toInt64 &&& 63)).toInt
def lSr (x y : Int) : Int := (Int64.ofInt x >>> ((Int32.ofInt y).toInt64 &&& 63)).toInt
def lCm (x y : Int) : Int := if y < x then 1 else if x = y then 0 else -1
theorem i32_rng (x : Int32) : -2147483648 ≤ x.toInt ∧ x.toInt < 2147483648 := by
  have h1 := Int32.le_toInt x
  have h2 := Int32.toInt_lt x
  omega
theorem iA_r (x y : Int) : -2147483648 ≤ iA x y ∧ iA x y < 2147483648 := i32_rng _
theorem iO_r (x y : Int) : -2147483648 ≤ iO x y ∧ iO x y < 2147483648 := i32_rng _
theorem iX_r (x y : Int) : -2147483648 ≤ iX x y ∧ iX x y < 2147483648 := i32_rng _
theorem iSl_r (x y : Int) : -2147483648 ≤ iSl x y ∧ iSl x y < 2147483648 := i32_rng _
theorem iSr_r (x y : Int) : -2147483648 ≤ iSr x y ∧ iSr x y < 2147483648 := i32_rng _
theorem iUr_r (x y : Int) : -2147483648 ≤ iUr x y ∧ iUr x y < 2147483648 := i32_rng _
theorem w_cI {own : String} {idx : Nat} {v : Int32} (i : Nat) (h : lw_tbl[i]? = some (.constant own idx v)) : Cond.constant own idx v ∈ lwT := inT i h rfl
theorem w_cL {own : String} {idx : Nat} {v : Int64} (i : Nat) (h : lw_tbl[i]? = some (.constantLong own idx v)) : Cond.constantLong own idx v ∈ lwT := inT i h rfl
section ROWS
variable {E : EnT} {M : MtT} {pc : Nat} {l : LcT} {st : List Value} {κ : Nat × Nat} {N : Nat} {lay : LyT} {r : RfT} {h : HpT}
theorem r_iand {x y : Int} (d : decode M.2.1 pc = .ok (.iand, 1)) (k : -2147483648 ≤ iA x y ∧ iA x y < 2147483648 → St E M (pc + 1) l (vI (iA x y) :: st) κ N lay r h) : St E M pc l (vI y :: vI x :: st) κ N lay r h := by
  obtain ⟨p, la, e, s, m, args, below, meth, c, D, cA, B, Z⟩ := E
  intro O ls H locs hl hn hw
  refine lv_iand O.1 O.2.1 d ?_
  rw [← Int32.ofInt_toInt (Int32.ofInt x &&& Int32.ofInt y)]
  exact k (iA_r x y) O ls H locs hl hn hw
theorem r_ior {x y : Int} (d : decode M.2.1 pc = .ok (.ior, 1)) (k : -2147483648 ≤ iO x y ∧ iO x y < 2147483648 → St E M (pc + 1) l (vI (iO x y) :: st) κ N lay r h) : St E M pc l (vI y :: vI x :: st) κ N lay r h := by
  obtain ⟨p, la, e, s, m, args, below, meth, c, D, cA, B, Z⟩ := E
  intro O ls H locs hl hn hw
  refine lv_ior O.1 O.2.1 d ?_
  rw [← Int32.ofInt_toInt (Int32.ofInt x ||| Int32.ofInt y)]
  exact k (iO_r x y) O ls H locs hl hn hw
theorem r_ixor {x y : Int} (d : decode M.2.1 pc = .ok (.ixor, 1)) (k : -2147483648 ≤ iX x y ∧ iX x y < 2147483648 → St E M (pc + 1) l (vI (iX x y) :: st) κ N lay r h) : St E M pc l (vI y :: vI x :: st) κ N lay r h := by
  obtain ⟨p, la, e, s, m, args, below, meth, c, D, cA, B, Z⟩ := E
  intro O ls H locs hl hn hw
  refine lv_ixor O.1 O.2.1 d ?_
  rw [← Int32.ofInt_toInt (Int32.ofInt x ^^^ Int32.ofInt y)]
  exact k (iX_r x y) O ls H locs hl hn hw
theorem r_ishl {x y : Int} (d : decode M.2.1 pc = .ok (.ishl, 1)) (k : -2147483648 ≤ iSl x y ∧ iSl x y < 2147483648 → St E M (pc + 1) l (vI (iSl x y) :: st) κ N lay r h) : St E M pc l (vI y :: vI x :: st) κ N lay r h := by
  obtain ⟨p, la, e, s, m, args, below, meth, c, D, cA, B, Z⟩ := E
  intro O ls H locs hl hn hw
  refine lv_ishl O.1 O.2.1 d ?_
  rw [← Int32.ofInt_toInt (Int32.ofInt x <<< (Int32.ofInt y &&& 31))]
  exact k (iSl_r x y) O ls H locs hl hn hw
theorem r_ishr {x y : Int} (d : decode M.2.1 pc = .ok (.ishr, 1)) (k : -2147483648 ≤ iSr x y ∧ iSr x y < 2147483648 → St E M (pc + 1) l (vI (iSr x y) :: st) κ N lay r h) : St E M pc l (vI y :: vI x :: st) κ N lay r h := by
  obtain ⟨p, la, e, s, m, args, below, meth, c, D, cA, B, Z⟩ := E
  intro O ls H locs hl hn hw
  refine lv_ishr O.1 O.2.1 d ?_
  rw [← Int32.ofInt_toInt (Int32.ofInt x >>> (Int32.ofInt y &&& 31))]
  exact k (iSr_r x y) O ls H locs hl hn hw
theorem r_iushr {x y : Int} (d : decode M.2.1 pc = .ok (.iushr, 1)) (k : -2147483648 ≤ iUr x y ∧ iUr x y < 2147483648 → St E M (pc + 1) l (vI (iUr x y) :: st) κ N lay r h) : St E M pc l (vI y :: vI x :: st) κ N lay r h := by
  obtain ⟨p, la, e, s, m, args, below, meth, c, D, cA, B, Z⟩ := E
  intro O ls H locs hl hn hw
  refine lv_iushr O.1 O.2.1 d (v := Int32.ofInt (iUr x y)) (Int32.ofInt_toInt _).symm ?_
  exact k (iUr_r x y) O ls H locs hl hn hw
theorem r_lshl {x y : Int} (d : decode M.2.1 pc = .ok (.lshl, 1)) (k : St E M (pc + 1) l (vL (lSl x y) :: st) κ N lay r h) : St E M pc l (vI y :: vL x :: st) κ N lay r h := by
  obtain ⟨p, la, e, s, m, args, below, meth, c, D, cA, B, Z⟩ := E
  intro O ls H locs hl hn hw
  refine lv_lshl O.1 O.2.1 d (v := Int64.ofInt (lSl x y)) (Int64.ofInt_toInt _).symm ?_
  exact k O ls H locs hl hn hw
theorem r_lshr {x y : Int} (d : decode M.2.1 pc = .ok (.lshr, 1)) (k : St E M (pc + 1) l (vL (lSr x y) :: st) κ N lay r h) : St E M pc l (vI y :: vL x :: st) κ N lay r h := by
  obtain ⟨p, la, e, s, m, args, below, meth, c, D, cA, B, Z⟩ := E
  intro O ls H locs hl hn hw
  refine lv_lshr O.1 O.2.1 d (v := Int64.ofInt (lSr x y)) (Int64.ofInt_toInt _).symm ?_
  exact k O ls H locs hl hn hw
theorem r_lcmp {x y : Int} (d : decode M.2.1 pc = .ok (.lcmp, 1)) (hx9 : -9223372036854775808 ≤ x ∧ x < 9223372036854775808) (hy9 : -9223372036854775808 ≤ y ∧ y < 9223372036854775808) (k : St E M (pc + 1) l (vI (lCm x y) :: st) κ N lay r h) : St E M pc l (vL y :: vL x :: st) κ N lay r h := by
  obtain ⟨p, la, e, s, m, args, below, meth, c, D, cA, B, Z⟩ := E
  intro O ls H locs hl hn hw
  refine W.lcmp O.1 O.2.1 d ?_
  have e9 : lg_cmp (Int64.ofInt x) (Int64.ofInt y) = Int32.ofInt (lCm x y) := by
    unfold lg_cmp lCm
    simp only [gt_iff_lt, Int64.lt_iff_toInt_lt, ← Int64.toInt_inj, i64_toInt hx9, i64_toInt hy9]
    split
    · rfl
    · split <;> rfl
  rw [e9]
  exact k O ls H locs hl hn hw
theorem r_ldc {idx : Nat} {v : Int32} {z : Int} (d : decode M.2.1 pc = .ok (.ldc idx, 2)) (hw9 : Cond.constant M.1.cls idx v ∈ lwT) (hz : v = Int32.ofInt z) (k : St E M (pc + 2) l (vI z :: st) κ N lay r h) : St E M pc l st κ N lay r h := by
  obtain ⟨p, la, e, s, m, args, below, meth, c, D, cA, B, Z⟩ := E
  intro O ls H locs hl hn hw
  subst hz
  exact lv_ldc O.1 O.2.1 O.2.2.2.1 (O.2.2.2.2.1 _ hw9) d (k O ls H locs hl hn hw)
theorem r_ldcw {idx : Nat} {v : Int32} {z : Int} (d : decode M.2.1 pc = .ok (.ldc_w idx, 3)) (hw9 : Cond.constant M.1.cls idx v ∈ lwT) (hz : v = Int32.ofInt z) (k : St E M (pc + 3) l (vI z :: st) κ N lay r h) : St E M pc l st κ N lay r h := by
  obtain ⟨p, la, e, s, m, args, below, meth, c, D, cA, B, Z⟩ := E
  intro O ls H locs hl hn hw
  subst hz
  exact lv_ldcw O.1 O.2.1 O.2.2.2.1 (O.2.2.2.2.1 _ hw9) d (k O ls H locs hl hn hw)
theorem r_ldc2 {idx : Nat} {v : Int64} {z : Int} (d : decode M.2.1 pc = .ok (.ldc2_w idx, 3)) (hw9 : Cond.constantLong M.1.cls idx v ∈ lwT) (hz : v = Int64.ofInt z) (k : St E M (pc + 3) l (vL z :: st) κ N lay r h) : St E M pc l st κ N lay r h := by
  obtain ⟨p, la, e, s, m, args, below, meth, c, D, cA, B, Z⟩ := E
  intro O ls H locs hl hn hw
  subst hz
  exact lv_ldc2 O.1 O.2.1 O.2.2.2.1 (O.2.2.2.2.1 _ hw9) d (k O ls H locs hl hn hw)
theorem r_lconst {n : Fin 2} {z : Int} (d : decode M.2.1 pc = .ok (.lconst n, 1)) (hz : z = (n.val : Int)) (k : St E M (pc + 1) l (vL z :: st) κ N lay r h) : St E M pc l st κ N lay r h := by
  obtain ⟨p, la, e, s, m, args, below, meth, c, D, cA, B, Z⟩ := E
  intro O ls H locs hl hn hw
  subst hz
  refine lv_lconst O.1 O.2.1 d (v := Int64.ofInt (n.val : Int)) ?_ (k O ls H locs hl hn hw)
  rcases (show n = 0 ∨ n = 1 by omega) with rfl | rfl <;> rfl
theorem r_tableOut {x dflt lo hi : Int} {offs : Array Int} {len tgt : Nat} (d : decode M.2.1 pc = .ok (.tableswitch dflt lo hi offs, len)) (hx9 : -2147483648 ≤ x ∧ x < 2147483648) (h9 : x < lo ∨ hi < x) (ht : (pc : Int) + dflt = (tgt : Int)) (k : St E M tgt l st κ N lay r h) : St E M pc l (vI x :: st) κ N lay r h := by
  obtain ⟨p, la, e, s, m, args, below, meth, c, D, cA, B, Z⟩ := E
  intro O ls H locs hl hn hw
  exact lv_tableOut O.1 O.2.1 d (by rw [i32_toInt hx9]; exact h9) ht (k O ls H locs hl hn hw)
theorem r_tableIn {x dflt lo hi off : Int} {offs : Array Int} {len tgt : Nat} (d : decode M.2.1 pc = .ok (.tableswitch dflt lo hi offs, len)) (hx9 : -2147483648 ≤ x ∧ x < 2147483648) (h1 : lo ≤ x) (h2 : x ≤ hi) (ho : offs[(x - lo).toNat]? = some off) (ht : (pc : Int) + off = (tgt : Int)) (k : St E M tgt l st κ N lay r h) : St E M pc l (vI x :: st) κ N lay r h := by
  obtain ⟨p, la, e, s, m, args, below, meth, c, D, cA, B, Z⟩ := E
  intro O ls H locs hl hn hw
  exact lv_tableIn O.1 O.2.1 d (by rw [i32_toInt hx9]; omega) (by rw [i32_toInt hx9]; omega) (by rw [i32_toInt hx9]; exact ho) ht (k O ls H locs hl hn hw)
theorem r_lookup {x dflt off : Int} {ps : Array (Int × Int)} {len tgt : Nat} (d : decode M.2.1 pc = .ok (.lookupswitch dflt ps, len)) (hx9 : -2147483648 ≤ x ∧ x < 2147483648) (hp : (ps.toList.zip (ps.toList.drop 1)).all (fun (a, next) => a.1 < next.1) = true) (ho : Op.lookupswitch.offset ps.toList dflt x = off) (ht : (pc : Int) + off = (tgt : Int)) (k : St E M tgt l st κ N lay r h) : St E M pc l (vI x :: st) κ N lay r h := by
  obtain ⟨p, la, e, s, m, args, below, meth, c, D, cA, B, Z⟩ := E
  intro O ls H locs hl hn hw
  exact lv_lookup O.1 O.2.1 d hp (by rw [i32_toInt hx9]; exact ho) ht (k O ls H locs hl hn hw)
theorem r_objInit {idx a : Nat} (hlk : Cond.methodLink M.1.cls idx Lib.objectInit ∈ lwT) (d : decode M.2.1 pc = .ok (.invokespecial idx, 3)) (hf : 1 ≤ M.2.2.2.2.frames) (hlo : (st.map fun v => v.category).sum + 12 ≤ M.2.2.2.2.locals) (k : St E M (pc + 3) l st κ N lay r h) : St E M pc l (.ref a :: st) κ N lay r h := by
  obtain ⟨p, la, e, s, m, args, below, meth, c, D, cA, B, Z⟩ := E
  intro O ls H locs hl hn hw
  obtain ⟨hx, hb, hml, hown, hts, hK, hnw, hB, hnm⟩ := id O
  exact W.objInit hx hb hown (hts _ hlk) (hts _ (inT 90 (by decide +kernel) rfl)) (hts _ (inT 91 (by decide +kernel) rfl)) rfl (by rw [hml]; exact hl.1) rfl d hf (by show 2 * 0 + _ + 12 ≤ _; omega) (k O ls H locs hl hn hw)
theorem r_max {idx : Nat} {x y : Int} (hlk : Cond.methodLink M.1.cls idx Lib.Math.max.name ∈ lwT) (d : decode M.2.1 pc = .ok (.invokestatic idx, 3)) (hx9 : -2147483648 ≤ x ∧ x < 2147483648) (hy9 : -2147483648 ≤ y ∧ y < 2147483648) (hf : 1 ≤ M.2.2.2.2.frames) (hlo : (st.map fun v => v.category).sum + 13 ≤ M.2.2.2.2.locals) (hκ : Kp κ M) (k : St E M (pc + 3) l (vI (if x < y then y else x) :: st) κ N lay r h) : St E M pc l (vI y :: vI x :: st) κ N lay r h := by
  obtain ⟨p, la, e, s, m, args, below, meth, c, D, cA, B, Z⟩ := E
  intro O ls H locs hl hn hw
  obtain ⟨hx, hb, hml, hown, hts, hK, hnw, hB, hnm⟩ := id O
  refine va_mmax hx hb (by rw [hml]; exact hl.1.symm) hown (hts _ hlk) (hts _ (inT 747 (by decide +kernel) rfl)) (hts _ (inT 83 (by decide +kernel) rfl)) (hts _ (inT 748 (by decide +kernel) rfl)) hf hlo hκ.1 hκ.2 d ?_
  have e9 : (if Int32.ofInt x < Int32.ofInt y then Int32.ofInt y else Int32.ofInt x) = Int32.ofInt (if x < y then y else x) := by
    simp only [i32_lt hx9 hy9]
    split <;> rfl
  rw [e9]
  exact k O ls H locs hl hn hw
theorem r_min {idx : Nat} {x y : Int} (hlk : Cond.methodLink M.1.cls idx Lib.Math.min.name ∈ lwT) (d : decode M.2.1 pc = .ok (.invokestatic idx, 3)) (hx9 : -2147483648 ≤ x ∧ x < 2147483648) (hy9 : -2147483648 ≤ y ∧ y < 2147483648) (hf : 1 ≤ M.2.2.2.2.frames) (hlo : (st.map fun v => v.category).sum + 13 ≤ M.2.2.2.2.locals) (hκ : Kp κ M) (k : St E M (pc + 3) l (vI (if y < x then y else x) :: st) κ N lay r h) : St E M pc l (vI y :: vI x :: st) κ N lay r h := by
  obtain ⟨p, la, e, s, m, args, below, meth, c, D, cA, B, Z⟩ := E
  intro O ls H locs hl hn hw
  obtain ⟨hx, hb, hml, hown, hts, hK, hnw, hB, hnm⟩ := id O
  refine va_mmin hx hb (by rw [hml]; exact hl.1.symm) hown (hts _ hlk) (hts _ (inT 750 (by decide +kernel) rfl)) (hts _ (inT 83 (by decide +kernel) rfl)) (hts _ (inT 751 (by decide +kernel) rfl)) hf hlo hκ.1 hκ.2 d ?_
  have e9 : (if Int32.ofInt y < Int32.ofInt x then Int32.ofInt y else Int32.ofInt x) = Int32.ofInt (if y < x then y else x) := by
    simp only [i32_lt hy9 hx9]
    split <;> rfl
  rw [e9]
  exact k O ls H locs hl hn hw
def cpR (f g : Int → Int) (n : Int) : Int → Int := fun j => if 0 ≤ j ∧ j < n then f j else g j
theorem r_acopy {idx a0 a n n0 n1 : Nat} (hlk : Cond.methodLink M.1.cls idx arraycopyName ∈ lwT) (d : decode M.2.1 pc = .ok (.invokestatic idx, 3)) (hl0 : lay a0 = (10, n0)) (hl1 : lay a = (10, n1)) (hn0 : n ≤ n0) (hn1 : n ≤ n1) (hn31 : n < 2147483648) (hf : 1 ≤ M.2.2.2.2.frames) (hlo : (st.map fun v => v.category).sum + 18 ≤ M.2.2.2.2.locals)
    (kk : St E M (pc + 3) l st κ N lay r (hr h a (cpR (h a0) (h a) n))) : St E M pc l (vI n :: vI 0 :: .ref a :: vI 0 :: .ref a0 :: st) κ N lay r h := by
  obtain ⟨p, la, e, s, m, args, below, meth, c, D, cA, B, Z⟩ := E
  intro O ls H locs hl hn hw
  obtain ⟨hx, hb, hml, hown, hts, hK, hnw, hB, hnm⟩ := id O
  obtain ⟨hP, hz, hly, hR, hNs, hS⟩ := id hw
  obtain ⟨b1, b2⟩ := hly a (by rw [hl1]; exact Nat.succ_ne_zero 9)
  obtain ⟨b3, b4⟩ := hly a0 (by rw [hl0]; exact Nat.succ_ne_zero 9)
  have en : (Int32.ofInt (n : Int)).toNatClampNeg = n := by rw [i32_clamp (by omega)]; omega
  have e0 : (Int32.ofInt (0 : Int)).toNatClampNeg = 0 := rfl
  have nn : ¬ Int32.ofInt (n : Int) < 0 := fun q => by
    have := (i32_lt (x := n) (y := 0) (by omega) (by omega)).mp q
    omega
  refine va_copyi hx hb (by rw [hml]; exact hl.1.symm) hown (hts _ hlk) (hts _ (inT 506 (by decide +kernel) rfl)) (hts _ (inT 505 (by decide +kernel) rfl)) (hts _ (inT 80 (by decide +kernel) rfl)) hK hP wl_D (vaS_0 hS) (a0 - B) (a - B) 0 0 (a0 := a0) (n0 := n0) (n1 := n1) (ty := .int) (f := fun j => Int32.ofInt (h a0 (j : Nat))) (g := fun j => Int32.ofInt (h a (j : Nat))) (by rw [wl_get b3 b4, cellE_i (k := 0) hl0 (by omega)]) (by rw [wl_get b1 b2, cellE_i (k := 0) hl1 (by omega)]) rfl rfl rfl
    (sp := Int32.ofInt 0) (dp := Int32.ofInt 0) (n := Int32.ofInt n) (by decide) (by decide) nn (by rw [en, e0]; omega) (by rw [en, e0]; omega) (fun i _ => rfl) hf (by show _ + (nativeFrameWords "java/lang/System" "arraycopy" 5 + 11) ≤ _; rw [show nativeFrameWords "java/lang/System" "arraycopy" 5 = 7 by decide]; omega) d (fun H1 locs1 hP1 hD1 hS1 => W_size (fun hu => ?_))
  have e9 : va_cpy (fun j : Nat => Int32.ofInt (h a0 (j : Nat))) (fun j : Nat => Int32.ofInt (h a (j : Nat))) (Int32.ofInt (0 : Int)).toNatClampNeg (Int32.ofInt (0 : Int)).toNatClampNeg (Int32.ofInt (n : Int)).toNatClampNeg = fun j : Nat => Int32.ofInt (cpR (h a0) (h a) n (j : Nat)) := by
    funext q
    rw [en, e0]
    unfold va_cpy cpR
    by_cases e : q < n
    · rw [if_pos (by omega), if_pos (by omega), show 0 + (q - 0) = q by omega]
    · rw [if_neg (by omega), if_neg (by omega)]
  rw [e9, wl_set (r' := r) (h' := hr h a (cpR (h a0) (h a) n)) b1 b2 (by rw [cellE_i (k := 0) hl1 (by omega), hr_s]) (fun b hb => ⟨rfl, hr_n hb⟩)] at hP1
  have h8 := hS1.1
  refine kk O ls H1 locs1 hl hn ⟨hP1, by omega, hly, fun b j => ?_, hNs, vaS_tr hS hS1⟩
  by_cases e7 : b = a
  · subst e7
    rw [hr_s]
    unfold cpR
    split
    · exact hR _ _
    · exact hR _ _
  · rw [hr_n e7]
    exact hR _ _
theorem r_aald {a n b : Nat} {z : Int} (hla : lay a = (13, n)) (d : decode M.2.1 pc = .ok (.aaload, 1)) (hi : 0 ≤ z ∧ z < n) (h31 : z < 2147483648) (hb9 : r a z = some b) (kk : St E M (pc + 1) l (.ref b :: st) κ N lay r h) : St E M pc l (vI z :: .ref a :: st) κ N lay r h := by
  obtain ⟨p, la, e, s, m, args, below, meth, c, D, cA, B, Z⟩ := E
  intro O ls H locs hl hn hw
  obtain ⟨hx, hb, hml, hown, hts, hK, hnw, hB, hnm⟩ := id O
  obtain ⟨hP, hz, hly, hR, hNs, hS⟩ := id hw
  obtain ⟨b1, b2⟩ := hly a (by rw [hla]; exact Nat.succ_ne_zero 12)
  refine va_aldq hx hb hK hP (a - B) 3 (n := n) (C := RX3) (f := fun j => r a (j : Nat)) (by rw [wl_get b1 b2, cellE_q hla]) rfl (vp_in_z hi h31) d ?_
  rw [i32_clamp (by omega), show ((z.toNat : Nat) : Int) = z by omega, hb9]
  exact kk O ls H locs hl hn hw
theorem r_aast {a n b nn : Nat} {z : Int} (hla : lay a = (13, n)) (hlb : lay b = (4, nn)) (d : decode M.2.1 pc = .ok (.aastore, 1)) (hi : 0 ≤ z ∧ z < n) (h31 : z < 2147483648) (kk : St E M (pc + 1) l st κ N lay (rr r a (rup (r a) z (some b))) h) : St E M pc l (.ref b :: vI z :: .ref a :: st) κ N lay r h := by
  obtain ⟨p, la, e, s, m, args, below, meth, c, D, cA, B, Z⟩ := E
  intro O ls H locs hl hn hw
  obtain ⟨hx, hb, hml, hown, hts, hK, hnw, hB, hnm⟩ := id O
  obtain ⟨hP, hz, hly, hR, hNs, hS⟩ := id hw
  obtain ⟨b1, b2⟩ := hly a (by rw [hla]; exact Nat.succ_ne_zero 12)
  obtain ⟨b3, b4⟩ := hly b (by rw [hlb]; exact Nat.succ_ne_zero 3)
  refine va_astq hx hb hK hP wl_D (vaS_0 hS) (a - B) 3 (b - B) 3 (r := (RX3, TX3, 12)) (n := n) (f := fun j => r a (j : Nat)) (by rw [wl_get b1 b2, cellE_q hla]) rfl (by rw [wl_get b3 b4, cellE_o (k := 3) hlb (by omega)]) rfl (vp_in_z hi h31) d (fun H1 locs1 hP1 hD1 hS1 => W_size (fun hu => ?_))
  have e9 : va_up (fun j : Nat => r a (j : Nat)) (Int32.ofInt z).toNatClampNeg (some b) = fun j : Nat => rup (r a) z (some b) (j : Nat) := by
    funext q
    rw [i32_clamp (by omega)]
    unfold va_up rup
    by_cases e : q = z.toNat
    · rw [if_pos e, if_pos (by omega)]
    · rw [if_neg e, if_neg (by omega)]
  rw [e9, wl_set (r' := rr r a (rup (r a) z (some b))) (h' := h) b1 b2 (by rw [cellE_q hla, rr_s]) (fun b hb => ⟨rr_n hb, rfl⟩)] at hP1
  have h8 := hS1.1
  exact kk O ls H1 locs1 hl hn ⟨hP1, by omega, hly, hR, hNs, vaS_tr hS hS1⟩
end ROWS
