/-! array rows by the row's name; frames -/
abbrev Fr (h h' : HpT) (S : Nat → Prop) : Prop := ∀ x, ¬ S x → h' x = h x
theorem hr_hr {h : HpT} {a : Nat} {f g : Int → Int} : hr (hr h a f) a g = hr h a g := by
  funext x
  unfold hr
  split <;> rfl
theorem hr_id {h : HpT} {a : Nat} : hr h a (h a) = h := by
  funext x
  unfold hr
  split
  · rename_i e
    rw [e]
  · rfl
section ROWS
variable {E : EnT} {M : MtT} {pc : Nat} {l : LcT} {st : List Value} {κ : Nat × Nat} {N : Nat} {lay : LyT} {r : RfT} {h : HpT}
theorem r_ialdE {a n : Nat} {z : Int} {f : Int → Int} (hla : lay a = (10, n)) (hf : h a = f) (d : decode M.2.1 pc = .ok (.iaload, 1)) (hi : 0 ≤ z ∧ z < n) (h31 : z < 2147483648) (kk : -2147483648 ≤ f z ∧ f z < 2147483648 → St E M (pc + 1) l (vI (f z) :: st) κ N lay r h) : St E M pc l (vI z :: .ref a :: st) κ N lay r h := by
  subst hf
  exact r_iald hla d hi h31 kk
theorem r_caldE {a n : Nat} {z : Int} {f : Int → Int} (hla : lay a = (11, n)) (hf : h a = f) (d : decode M.2.1 pc = .ok (.caload, 1)) (hi : 0 ≤ z ∧ z < n) (h31 : z < 2147483648) (kk : -2147483648 ≤ f z ∧ f z < 2147483648 → St E M (pc + 1) l (vI (f z) :: st) κ N lay r h) : St E M pc l (vI z :: .ref a :: st) κ N lay r h := by
  subst hf
  exact r_cald hla d hi h31 kk
theorem r_zaldE {a n : Nat} {z : Int} {f : Int → Int} (hla : lay a = (12, n)) (hf : h a = f) (d : decode M.2.1 pc = .ok (.baload, 1)) (hi : 0 ≤ z ∧ z < n) (h31 : z < 2147483648) (kk : -2147483648 ≤ f z ∧ f z < 2147483648 → St E M (pc + 1) l (vI (f z) :: st) κ N lay r h) : St E M pc l (vI z :: .ref a :: st) κ N lay r h := by
  subst hf
  exact r_zald hla d hi h31 kk
theorem r_iastE {a n : Nat} {z x : Int} {f : Int → Int} (hla : lay a = (10, n)) (hf : h a = f) (d : decode M.2.1 pc = .ok (.iastore, 1)) (hi : 0 ≤ z ∧ z < n) (h31 : z < 2147483648) (hv : -2147483648 ≤ x ∧ x < 2147483648) (kk : St E M (pc + 1) l st κ N lay r (hr h a (up f z x))) : St E M pc l (vI x :: vI z :: .ref a :: st) κ N lay r h := by
  subst hf
  exact r_iast hla d hi h31 hv kk
end ROWS
section ROWS
variable {E : EnT} {M : MtT} {pc : Nat} {l : LcT} {st : List Value} {κ : Nat × Nat} {N : Nat} {lay : LyT} {r : RfT} {h : HpT}
theorem r_ifeq_T {x off : Int} {tgt : Nat} (d : decode M.2.1 pc = .ok (.ifCond .eq off, 3)) (ht : (pc : Int) + off = (tgt : Int)) (hx : x = 0) (k : St E M tgt l st κ N lay r h) : St E M pc l (vI x :: st) κ N lay r h := r_if_eq d ht (by omega) (fun _ => k) (fun q => absurd hx q)
theorem r_ifne_F {x off : Int} {tgt : Nat} (d : decode M.2.1 pc = .ok (.ifCond .ne off, 3)) (ht : (pc : Int) + off = (tgt : Int)) (hx : x = 0) (k : St E M (pc + 3) l st κ N lay r h) : St E M pc l (vI x :: st) κ N lay r h := r_if_ne d ht (by omega) (fun q => absurd hx q) (fun _ => k)
theorem r_ifeq_F {x off : Int} {tgt : Nat} (d : decode M.2.1 pc = .ok (.ifCond .eq off, 3)) (ht : (pc : Int) + off = (tgt : Int)) (hx : (-2147483648 ≤ x ∧ x < 2147483648) ∧ x ≠ 0) (k : St E M (pc + 3) l st κ N lay r h) : St E M pc l (vI x :: st) κ N lay r h := r_if_eq d ht hx.1 (fun q => absurd q hx.2) (fun _ => k)
theorem r_ifne_T {x off : Int} {tgt : Nat} (d : decode M.2.1 pc = .ok (.ifCond .ne off, 3)) (ht : (pc : Int) + off = (tgt : Int)) (hx : (-2147483648 ≤ x ∧ x < 2147483648) ∧ x ≠ 0) (k : St E M tgt l st κ N lay r h) : St E M pc l (vI x :: st) κ N lay r h := r_if_ne d ht hx.1 (fun _ => k) (fun q => absurd q hx.2)
end ROWS
