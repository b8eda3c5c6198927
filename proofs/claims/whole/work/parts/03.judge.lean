/-! THE JUDGEMENT: St, and the rows of the instructions that touch no heap -/
abbrev cls9 : List vw_C := [(RX0, TX0, 3), (RX1, TX1, 5), (RX2, TX2, 4), (RX3, TX3, 12), (RX4, TX4, 1), (RX5, TX5, 4), (RX6, TX6, 5), (RX7, TX7, 9), (RX8, TX8, 25)]
abbrev tyA (cA : Nat → ClassId) : List (ClassId × FieldType) := [(cA 0, .int), (cA 1, .char), (cA 2, .boolean), (cA 3, .object RX3)]
/-- the links of nest mates, which are no words of the good kind -/
def isNst : Cond → Bool
  | .methodLinkNest .. => true
  | .arrayOver (.object _) => true
  | _ => false
def nwL : List Cond := lw_tbl.filter isNst
def RgT (h : HpT) : Prop := ∀ a k, -2147483648 ≤ h a k ∧ h a k < 2147483648
def LyOk (B N : Nat) (lay : LyT) : Prop := ∀ a, (lay a).1 ≠ 0 → B ≤ a ∧ a < N
/-- the world at a state -/
def Wo (D : va_G) (cA : Nat → ClassId) (B N : Nat) (lay : LyT) (r : RfT) (h : HpT) (U : State) : Prop :=
  va_P D cls9 (wl B N cA lay r h) U.heap ∧ U.heap.size = N ∧ LyOk B N lay ∧ RgT h ∧ B ≤ N ∧ va_K D cls9 (tyA cA) U ∧ ∀ w ∈ nwL, va_Nw w U
abbrev EnT : Type := Program × Launch × Env × State × MethodId × Array Value × List Frame × Method × Code × va_G × (Nat → ClassId) × Nat × (State → Prop)
abbrev MtT : Type := MethodName × ByteArray × Nat × Option FieldType × Room
def Ok (E : EnT) (M : MtT) : Prop := match E with
  | (p, l, e, s, m, args, below, meth, c, D, cA, B, Z) =>
    p.tables.exec = Jvm.exec ∧ c.code = M.2.1 ∧ c.maxLocals = M.2.2.1 ∧ s.vm.findClass M.1.cls = some m.cls ∧ (∀ w ∈ lwT, w.before args s = true) ∧ va_K D cls9 (tyA cA) s ∧ (∀ w ∈ nwL, va_Nw w s) ∧ B ≤ s.heap.size ∧ meth.name = M.1.name
def Wh (E : EnT) (κ : Nat × Nat) (N : Nat) (lay : LyT) (r : RfT) (h : HpT) (H : Heap) (locs : List Loc) : Prop := match E with
  | (p, l, e, s, m, args, below, meth, c, D, cA, B, Z) =>
    va_P D cls9 (wl B N cA lay r h) H ∧ H.size = N ∧ LyOk B N lay ∧ RgT h ∧ N = s.heap.size + κ.1 ∧ va_S (fun q => B ≤ q) s.heap H locs
def Go (E : EnT) (M : MtT) (pc : Nat) (ls : Array Slot) (st : List Value) (H : Heap) (locs : List Loc) (κ : Nat × Nat) : Prop := match E with
  | (p, l, e, s, m, args, below, meth, c, D, cA, B, Z) => W p l e M.2.2.2.2 s m args below meth c H locs κ.1 κ.2 Z (F0 m pc ls st)
/-- the machine at pc, with these locals, this stack, this heap, comes to its end -/
def St (E : EnT) (M : MtT) (pc : Nat) (l : LcT) (st : List Value) (κ : Nat × Nat) (N : Nat) (lay : LyT) (r : RfT) (h : HpT) : Prop :=
  Ok E M → ∀ (ls : Array Slot) (H : Heap) (locs : List Loc), lv_has ls M.2.2.1 (lcs 0 l) → l.length = M.2.2.1 → Wh E κ N lay r h H locs → Go E M pc ls st H locs κ
theorem W_size {p : Program} {l : Launch} {e : Env} {R : Room} {s : State} {m : MethodId} {args : Array Value} {below : List Frame} {meth : Method} {c : Code} {H : Heap} {locs : List Loc} {cells slots : Nat} {Q : State → Prop} {g : JFrame}
    (k : H.size ≤ s.heap.size + cells → W p l e R s m args below meth c H locs cells slots Q g) : W p l e R s m args below meth c H locs cells slots Q g :=
  fun T hT X => k (by rw [← hT]; exact X.same.2.2.1) T hT X
theorem vaS_0 {A : Nat → Prop} {H0 H : Heap} {locs : List Loc} (h : va_S A H0 H locs) : va_S A H H locs := ⟨Nat.le_refl _, fun _ _ _ => rfl, h.2.2⟩
theorem vaS_tr {A : Nat → Prop} {H0 H H1 : Heap} {locs locs1 : List Loc} (h : va_S A H0 H locs) (h1 : va_S A H H1 locs1) : va_S A H0 H1 locs1 :=
  ⟨Nat.le_trans h.1 h1.1, fun q a b => by rw [h1.2.1 q (Nat.lt_of_lt_of_le a h.1) b]; exact h.2.1 q a b, h1.2.2⟩
section ROWS
variable {E : EnT} {M : MtT} {pc : Nat} {l : LcT} {st : List Value} {κ : Nat × Nat} {N : Nat} {lay : LyT} {r : RfT} {h : HpT}
theorem r_iconst {n : Int} (d : decode M.2.1 pc = .ok (.iconst n, 1)) (k : St E M (pc + 1) l (vI n :: st) κ N lay r h) : St E M pc l st κ N lay r h := by
  obtain ⟨p, la, e, s, m, args, below, meth, c, D, cA, B, Z⟩ := E
  intro O ls H locs hl hn hw
  exact lv_iconst O.1 O.2.1 d rfl (k O ls H locs hl hn hw)
theorem r_bipush {n : Int} (d : decode M.2.1 pc = .ok (.bipush n, 2)) (hv : (Int8.ofInt n).toInt32 = Int32.ofInt n) (k : St E M (pc + 2) l (vI n :: st) κ N lay r h) : St E M pc l st κ N lay r h := by
  obtain ⟨p, la, e, s, m, args, below, meth, c, D, cA, B, Z⟩ := E
  intro O ls H locs hl hn hw
  exact lv_bipush O.1 O.2.1 d hv (k O ls H locs hl hn hw)
theorem r_sipush {n : Int} (d : decode M.2.1 pc = .ok (.sipush n, 3)) (hv : (Int16.ofInt n).toInt32 = Int32.ofInt n) (k : St E M (pc + 3) l (vI n :: st) κ N lay r h) : St E M pc l st κ N lay r h := by
  obtain ⟨p, la, e, s, m, args, below, meth, c, D, cA, B, Z⟩ := E
  intro O ls H locs hl hn hw
  exact lv_sipush O.1 O.2.1 d hv (k O ls H locs hl hn hw)
theorem r_iadd {x y : Int} (d : decode M.2.1 pc = .ok (.iadd, 1)) (k : St E M (pc + 1) l (vI (x + y) :: st) κ N lay r h) : St E M pc l (vI y :: vI x :: st) κ N lay r h := by
  obtain ⟨p, la, e, s, m, args, below, meth, c, D, cA, B, Z⟩ := E
  intro O ls H locs hl hn hw
  refine lv_iadd O.1 O.2.1 d ?_
  rw [← Int32.ofInt_add]
  exact k O ls H locs hl hn hw
theorem r_isub {x y : Int} (d : decode M.2.1 pc = .ok (.isub, 1)) (k : St E M (pc + 1) l (vI (x - y) :: st) κ N lay r h) : St E M pc l (vI y :: vI x :: st) κ N lay r h := by
  obtain ⟨p, la, e, s, m, args, below, meth, c, D, cA, B, Z⟩ := E
  intro O ls H locs hl hn hw
  refine lv_isub O.1 O.2.1 d ?_
  rw [← Int32.ofInt_sub]
  exact k O ls H locs hl hn hw
theorem r_imul {x y : Int} (d : decode M.2.1 pc = .ok (.imul, 1)) (k : St E M (pc + 1) l (vI (x * y) :: st) κ N lay r h) : St E M pc l (vI y :: vI x :: st) κ N lay r h := by
  obtain ⟨p, la, e, s, m, args, below, meth, c, D, cA, B, Z⟩ := E
  intro O ls H locs hl hn hw
  refine lv_imul O.1 O.2.1 d ?_
  rw [← Int32.ofInt_mul]
  exact k O ls H locs hl hn hw
theorem i32_toInt {z : Int} (h : -2147483648 ≤ z ∧ z < 2147483648) : (Int32.ofInt z).toInt = z := by
  rw [Int32.toInt_ofInt, show Int32.size = 4294967296 from rfl]
  exact Int.bmod_eq_of_le (by omega) (by omega)
theorem i64_toInt {z : Int} (h : -9223372036854775808 ≤ z ∧ z < 9223372036854775808) : (Int64.ofInt z).toInt = z := by
  rw [Int64.toInt_ofInt, show Int64.size = 18446744073709551616 from rfl]
  exact Int.bmod_eq_of_le (by omega) (by omega)
theorem i32_lt {x y : Int} (hx : -2147483648 ≤ x ∧ x < 2147483648) (hy : -2147483648 ≤ y ∧ y < 2147483648) : Int32.ofInt x < Int32.ofInt y ↔ x < y := by
  rw [Int32.lt_iff_toInt_lt, i32_toInt hx, i32_toInt hy]
theorem i32_le {x y : Int} (hx : -2147483648 ≤ x ∧ x < 2147483648) (hy : -2147483648 ≤ y ∧ y < 2147483648) : Int32.ofInt x ≤ Int32.ofInt y ↔ x ≤ y := by
  rw [Int32.le_iff_toInt_le, i32_toInt hx, i32_toInt hy]
theorem i32_eq {x y : Int} (hx : -2147483648 ≤ x ∧ x < 2147483648) (hy : -2147483648 ≤ y ∧ y < 2147483648) : Int32.ofInt x = Int32.ofInt y ↔ x = y := by
  rw [← Int32.toInt_inj, i32_toInt hx, i32_toInt hy]
theorem i32_div {x y : Int} (hx : 0 ≤ x ∧ x < 2147483648) (hy : 0 < y ∧ y < 2147483648) : Int32.ofInt x / Int32.ofInt y = Int32.ofInt (x / y) := by
  rw [← Int32.toInt_inj, Int32.toInt_div, i32_toInt (by omega), i32_toInt (by omega), Int.tdiv_eq_ediv_of_nonneg hx.1]
  have h1 : 0 ≤ x / y := Int.ediv_nonneg hx.1 (by omega)
  have h2 : x / y ≤ x := Int.ediv_le_self _ hx.1
  rw [i32_toInt (by omega), Int.bmod_eq_of_le (by omega) (by omega)]
theorem i64_div {x y : Int} (hx : 0 ≤ x ∧ x < 9223372036854775808) (hy : 0 < y ∧ y < 9223372036854775808) : Int64.ofInt x / Int64.ofInt y = Int64.ofInt (x / y) := by
  rw [← Int64.toInt_inj, Int64.toInt_div, i64_toInt (by omega), i64_toInt (by omega), Int.tdiv_eq_ediv_of_nonneg hx.1]
  have h1 : 0 ≤ x / y := Int.ediv_nonneg hx.1 (by omega)
  have h2 : x / y ≤ x := Int.ediv_le_self _ hx.1
  rw [i64_toInt (by omega), Int.bmod_eq_of_le (by omega) (by omega)]
theorem r_idiv {x y : Int} (d : decode M.2.1 pc = .ok (.idiv, 1)) (hx : 0 ≤ x ∧ x < 2147483648) (hy : 0 < y ∧ y < 2147483648) (k : St E M (pc + 1) l (vI (x / y) :: st) κ N lay r h) : St E M pc l (vI y :: vI x :: st) κ N lay r h := by
  obtain ⟨p, la, e, s, m, args, below, meth, c, D, cA, B, Z⟩ := E
  intro O ls H locs hl hn hw
  refine lv_idiv O.1 O.2.1 d (fun h0 => ?_) ?_
  · have := (i32_eq (x := y) (y := 0) (by omega) (by omega)).mp h0
    omega
  · rw [i32_div hx hy]
    exact k O ls H locs hl hn hw
theorem r_irem {x y : Int} (d : decode M.2.1 pc = .ok (.irem, 1)) (hx : 0 ≤ x ∧ x < 2147483648) (hy : 0 < y ∧ y < 2147483648) (k : St E M (pc + 1) l (vI (x % y) :: st) κ N lay r h) : St E M pc l (vI y :: vI x :: st) κ N lay r h := by
  obtain ⟨p, la, e, s, m, args, below, meth, c, D, cA, B, Z⟩ := E
  intro O ls H locs hl hn hw
  refine lv_irem O.1 O.2.1 d (fun h0 => ?_) ?_
  · have := (i32_eq (x := y) (y := 0) (by omega) (by omega)).mp h0
    omega
  · rw [i32_div hx hy, ← Int32.ofInt_mul, ← Int32.ofInt_sub, show x - x / y * y = x % y by rw [Int.emod_def, Int.mul_comm]]
    exact k O ls H locs hl hn hw
theorem r_ladd {x y : Int} (d : decode M.2.1 pc = .ok (.ladd, 1)) (k : St E M (pc + 1) l (vL (x + y) :: st) κ N lay r h) : St E M pc l (vL y :: vL x :: st) κ N lay r h := by
  obtain ⟨p, la, e, s, m, args, below, meth, c, D, cA, B, Z⟩ := E
  intro O ls H locs hl hn hw
  refine lv_ladd O.1 O.2.1 d ?_
  rw [← Int64.ofInt_add]
  exact k O ls H locs hl hn hw
theorem r_lmul {x y : Int} (d : decode M.2.1 pc = .ok (.lmul, 1)) (k : St E M (pc + 1) l (vL (x * y) :: st) κ N lay r h) : St E M pc l (vL y :: vL x :: st) κ N lay r h := by
  obtain ⟨p, la, e, s, m, args, below, meth, c, D, cA, B, Z⟩ := E
  intro O ls H locs hl hn hw
  refine lv_lmul O.1 O.2.1 d ?_
  rw [← Int64.ofInt_mul]
  exact k O ls H locs hl hn hw
theorem r_ldiv {x y : Int} (d : decode M.2.1 pc = .ok (.ldiv, 1)) (hx : 0 ≤ x ∧ x < 9223372036854775808) (hy : 0 < y ∧ y < 9223372036854775808) (k : St E M (pc + 1) l (vL (x / y) :: st) κ N lay r h) : St E M pc l (vL y :: vL x :: st) κ N lay r h := by
  obtain ⟨p, la, e, s, m, args, below, meth, c, D, cA, B, Z⟩ := E
  intro O ls H locs hl hn hw
  refine lv_ldiv O.1 O.2.1 d (fun h0 => ?_) ?_
  · have := congrArg Int64.toInt h0
    rw [i64_toInt (by omega)] at this
    simp at this
    omega
  · rw [i64_div hx hy]
    exact k O ls H locs hl hn hw
theorem r_lrem {x y : Int} (d : decode M.2.1 pc = .ok (.lrem, 1)) (hx : 0 ≤ x ∧ x < 9223372036854775808) (hy : 0 < y ∧ y < 9223372036854775808) (k : St E M (pc + 1) l (vL (x % y) :: st) κ N lay r h) : St E M pc l (vL y :: vL x :: st) κ N lay r h := by
  obtain ⟨p, la, e, s, m, args, below, meth, c, D, cA, B, Z⟩ := E
  intro O ls H locs hl hn hw
  refine lv_lrem O.1 O.2.1 d (fun h0 => ?_) ?_
  · have := congrArg Int64.toInt h0
    rw [i64_toInt (by omega)] at this
    simp at this
    omega
  · rw [i64_div hx hy, ← Int64.ofInt_mul, ← Int64.ofInt_sub, show x - x / y * y = x % y by rw [Int.emod_def, Int.mul_comm]]
    exact k O ls H locs hl hn hw
theorem r_i2l {x : Int} (d : decode M.2.1 pc = .ok (.i2l, 1)) (hx : -2147483648 ≤ x ∧ x < 2147483648) (k : St E M (pc + 1) l (vL x :: st) κ N lay r h) : St E M pc l (vI x :: st) κ N lay r h := by
  obtain ⟨p, la, e, s, m, args, below, meth, c, D, cA, B, Z⟩ := E
  intro O ls H locs hl hn hw
  refine lv_i2l O.1 O.2.1 d (v := Int64.ofInt x) ?_ (k O ls H locs hl hn hw)
  rw [← Int64.toInt_inj, Int32.toInt_toInt64, i32_toInt hx, i64_toInt (by omega)]
theorem r_l2i {x : Int} (d : decode M.2.1 pc = .ok (.l2i, 1)) (k : St E M (pc + 1) l (vI x :: st) κ N lay r h) : St E M pc l (vL x :: st) κ N lay r h := by
  obtain ⟨p, la, e, s, m, args, below, meth, c, D, cA, B, Z⟩ := E
  intro O ls H locs hl hn hw
  refine lv_l2i O.1 O.2.1 d (v := Int32.ofInt x) ?_ (k O ls H locs hl hn hw)
  exact Int64.toInt32_ofInt
theorem r_dupI {x : Int} (d : decode M.2.1 pc = .ok (.dup, 1)) (k : St E M (pc + 1) l (vI x :: vI x :: st) κ N lay r h) : St E M pc l (vI x :: st) κ N lay r h := by
  obtain ⟨p, la, e, s, m, args, below, meth, c, D, cA, B, Z⟩ := E
  intro O ls H locs hl hn hw
  exact lv_dup O.1 O.2.1 d rfl (k O ls H locs hl hn hw)
theorem r_dupA {a : Nat} (d : decode M.2.1 pc = .ok (.dup, 1)) (k : St E M (pc + 1) l (.ref a :: .ref a :: st) κ N lay r h) : St E M pc l (.ref a :: st) κ N lay r h := by
  obtain ⟨p, la, e, s, m, args, below, meth, c, D, cA, B, Z⟩ := E
  intro O ls H locs hl hn hw
  exact lv_dup O.1 O.2.1 d rfl (k O ls H locs hl hn hw)
theorem r_popI {x : Int} (d : decode M.2.1 pc = .ok (.pop, 1)) (k : St E M (pc + 1) l st κ N lay r h) : St E M pc l (vI x :: st) κ N lay r h := by
  obtain ⟨p, la, e, s, m, args, below, meth, c, D, cA, B, Z⟩ := E
  intro O ls H locs hl hn hw
  exact lv_pop O.1 O.2.1 d rfl (k O ls H locs hl hn hw)
theorem r_dup2 {x : Int} {a : Nat} (d : decode M.2.1 pc = .ok (.dup2, 1)) (k : St E M (pc + 1) l (vI x :: .ref a :: vI x :: .ref a :: st) κ N lay r h) : St E M pc l (vI x :: .ref a :: st) κ N lay r h := by
  obtain ⟨p, la, e, s, m, args, below, meth, c, D, cA, B, Z⟩ := E
  intro O ls H locs hl hn hw
  exact lv_dup2_11 O.1 O.2.1 d rfl rfl (k O ls H locs hl hn hw)
theorem r_goto {off : Int} {tgt : Nat} (d : decode M.2.1 pc = .ok (.goto off, 3)) (ht : (pc : Int) + off = (tgt : Int)) (k : St E M tgt l st κ N lay r h) : St E M pc l st κ N lay r h := by
  obtain ⟨p, la, e, s, m, args, below, meth, c, D, cA, B, Z⟩ := E
  intro O ls H locs hl hn hw
  exact lv_goto O.1 O.2.1 d ht (k O ls H locs hl hn hw)
end ROWS
