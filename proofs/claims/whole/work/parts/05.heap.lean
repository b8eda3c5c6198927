/-! ROWS OF THE HEAP: fields, arrays -/
theorem i32_clamp {z : Int} (h : 0 ≤ z ∧ z < 2147483648) : (Int32.ofInt z).toNatClampNeg = z.toNat := by
  show (Int32.ofInt z).toInt.toNat = z.toNat
  rw [i32_toInt (by omega)]
theorem vp_in_z {z : Int} {n : Nat} (h : 0 ≤ z ∧ z < n) (hn : z < 2147483648) : vp_in (Int32.ofInt z) n := by
  rw [vp_in_iff, i32_toInt (by omega)]
  exact h
theorem RgT_up {h : HpT} {a : Nat} {k z : Int} (hR : RgT h) (hz : -2147483648 ≤ z ∧ z < 2147483648) : RgT (hr h a (up (h a) k z)) := by
  intro b j
  unfold hr
  split
  · unfold up
    split
    · exact hz
    · exact hR a j
  · exact hR b j
section ROWS
variable {E : EnT} {M : MtT} {pc : Nat} {l : LcT} {st : List Value} {κ : Nat × Nat} {N : Nat} {lay : LyT} {r : RfT} {h : HpT}
theorem rg_getI {k j idx n a Nf : Nat} {C : String} {T : u_T} (hc : cls9[k]? = some (C, T, Nf)) (hin : ∀ w ∈ u_ws C T Nf, w ∈ lwT) (hj : j < Nf) (hf : (fdL k)[j]? = some false) (h9 : k < 9) (hT : (T j).1 = C) (hlink : Cond.fieldLink M.1.cls idx C (T j).2.1 (T j).2.2.1 ∈ lwT)
    (hla : lay a = (k + 1, n)) (d : decode M.2.1 pc = .ok (.getfield idx, 3)) (kk : -2147483648 ≤ h a (j : Nat) ∧ h a (j : Nat) < 2147483648 → St E M (pc + 3) l (vI (h a (j : Nat)) :: st) κ N lay r h) : St E M pc l (.ref a :: st) κ N lay r h := by
  obtain ⟨p, la, e, s, m, args, below, meth, c, D, cA, B, Z⟩ := E
  intro O ls H locs hl hn hw
  obtain ⟨hx, hb, hml, hown, hts, hK, hnw, hB, hnm⟩ := id O
  obtain ⟨hP, hz, hly, hR, hNs, hS⟩ := id hw
  obtain ⟨b1, b2⟩ := hly a (by rw [hla]; exact Nat.succ_ne_zero k)
  refine va_get (D := D) (C := C) (T := T) (N := Nf) (ci := k) (ref := C) hx hb hts hin hown hK hP (a - B) (by rw [wl_get b1 b2, cellE_o hla h9]) hc j hj (hts _ hlink) (fun x q => by rw [hT] at q; exact q) (mkF_get _ _ _ _ _ _ hf) d ?_
  simp only [Nat.zero_add]
  exact kk (hR a j) O ls H locs hl hn hw
theorem rg_getR {k j idx n a b Nf : Nat} {C : String} {T : u_T} (hc : cls9[k]? = some (C, T, Nf)) (hin : ∀ w ∈ u_ws C T Nf, w ∈ lwT) (hj : j < Nf) (hf : (fdL k)[j]? = some true) (h9 : k < 9) (hT : (T j).1 = C) (hlink : Cond.fieldLink M.1.cls idx C (T j).2.1 (T j).2.2.1 ∈ lwT)
    (hla : lay a = (k + 1, n)) (d : decode M.2.1 pc = .ok (.getfield idx, 3)) (hb9 : r a (j : Nat) = some b) (kk : St E M (pc + 3) l (.ref b :: st) κ N lay r h) : St E M pc l (.ref a :: st) κ N lay r h := by
  obtain ⟨p, la, e, s, m, args, below, meth, c, D, cA, B, Z⟩ := E
  intro O ls H locs hl hn hw
  obtain ⟨hx, hb, hml, hown, hts, hK, hnw, hB, hnm⟩ := id O
  obtain ⟨hP, hz, hly, hR, hNs, hS⟩ := id hw
  obtain ⟨b1, b2⟩ := hly a (by rw [hla]; exact Nat.succ_ne_zero k)
  refine va_get (D := D) (C := C) (T := T) (N := Nf) (ci := k) (ref := C) hx hb hts hin hown hK hP (a - B) (by rw [wl_get b1 b2, cellE_o hla h9]) hc j hj (hts _ hlink) (fun x q => by rw [hT] at q; exact q) (mkF_get _ _ _ _ _ _ hf) d ?_
  simp only [Nat.zero_add, if_true, hb9]
  exact kk O ls H locs hl hn hw
theorem upN_up (f : Int → Int) (j : Nat) (z : Int) : (fun q : Nat => if q = 0 + j then z else f (q : Nat)) = fun q : Nat => up f (j : Nat) z (q : Nat) := by
  funext q
  unfold up
  by_cases e : q = j
  · subst e
    simp
  · rw [if_neg (by omega), if_neg (by omega)]
theorem rupN_up (f : Int → Option Nat) (j : Nat) (z : Option Nat) : (fun q : Nat => if q = 0 + j then z else f (q : Nat)) = fun q : Nat => rup f (j : Nat) z (q : Nat) := by
  funext q
  unfold rup
  by_cases e : q = j
  · subst e
    simp
  · rw [if_neg (by omega), if_neg (by omega)]
theorem rg_putI {k j idx n a Nf : Nat} {z : Int} {C : String} {T : u_T} {ty0 : Nat → FieldType} (hc : cls9[k]? = some (C, T, Nf)) (hin : ∀ w ∈ u_ws C T Nf, w ∈ lwT) (hty : ∀ k, k < Nf → parseFieldDescriptor (T k).2.2.1 = some (ty0 k)) (hnm9 : ∀ a, a < Nf → ∀ b, b < Nf → a ≠ b → (T a).2.1 ≠ (T b).2.1) (hj : j < Nf) (hf : (fdL k)[j]? = some false) (h9 : k < 9) (hT : (T j).1 = C)
    (hlink : Cond.fieldLink M.1.cls idx C (T j).2.1 (T j).2.2.1 ∈ lwT) (hfin : (T j).2.2.2 = false) (hd : parseFieldDescriptor (T j).2.2.1 = some .int)
    (hla : lay a = (k + 1, n)) (d : decode M.2.1 pc = .ok (.putfield idx, 3)) (hz9 : -2147483648 ≤ z ∧ z < 2147483648) (kk : St E M (pc + 3) l st κ N lay r (hr h a (up (h a) (j : Nat) z))) : St E M pc l (vI z :: .ref a :: st) κ N lay r h := by
  obtain ⟨p, la, e, s, m, args, below, meth, c, D, cA, B, Z⟩ := E
  intro O ls H locs hl hn hw
  obtain ⟨hx, hb, hml, hown, hts, hK, hnw, hB, hnm⟩ := id O
  obtain ⟨hP, hz, hly, hR, hNs, hS⟩ := id hw
  obtain ⟨b1, b2⟩ := hly a (by rw [hla]; exact Nat.succ_ne_zero k)
  refine va_put (D := D) (C := C) (T := T) (N := Nf) (ci := k) (ref := C) (ty := .int) hx hb hts hin ty0 hty hnm9 hown hK hP wl_D (vaS_0 hS) (a - B) (by rw [wl_get b1 b2, cellE_o hla h9]) hc j hj (hts _ hlink) (fun x q => by rw [hT] at q; exact q) hfin hd rfl rfl (by rw [mkF_len]; exact (List.getElem?_eq_some_iff.mp hf).1) d (fun H1 locs1 hP1 hD1 hS1 => W_size (fun hu => ?_))
  have e9 : (mkF 0 (fdL k) (fun j => r a (j : Nat)) (fun j => h a (j : Nat))).set j (vI z) = mkF 0 (fdL k) (fun j => r a (j : Nat)) (fun q => up (h a) (j : Nat) z (q : Nat)) := by
    rw [← upN_up]
    exact mkF_setI _ _ _ _ _ _ hf
  rw [e9, wl_set (r' := r) (h' := hr h a (up (h a) (j : Nat) z)) b1 b2 (by rw [cellE_o hla h9, hr_s]) (fun b hb => ⟨rfl, hr_n hb⟩)] at hP1
  have h8 := hS1.1
  exact kk O ls H1 locs1 hl hn ⟨hP1, by omega, hly, RgT_up hR hz9, hNs, vaS_tr hS hS1⟩
theorem rg_putR {k j idx n a b Nf : Nat} {cn : String} {C : String} {T : u_T} {ty0 : Nat → FieldType} (hc : cls9[k]? = some (C, T, Nf)) (hin : ∀ w ∈ u_ws C T Nf, w ∈ lwT) (hty : ∀ k, k < Nf → parseFieldDescriptor (T k).2.2.1 = some (ty0 k)) (hnm9 : ∀ a, a < Nf → ∀ b, b < Nf → a ≠ b → (T a).2.1 ≠ (T b).2.1) (hj : j < Nf) (hf : (fdL k)[j]? = some true) (h9 : k < 9) (hT : (T j).1 = C)
    (hlink : Cond.fieldLink M.1.cls idx C (T j).2.1 (T j).2.2.1 ∈ lwT) (hfin : (T j).2.2.2 = false) (hd : parseFieldDescriptor (T j).2.2.1 = some (.object cn))
    (hla : lay a = (k + 1, n)) (d : decode M.2.1 pc = .ok (.putfield idx, 3)) (kk : St E M (pc + 3) l st κ N lay (rr r a (rup (r a) (j : Nat) (some b))) h) : St E M pc l (.ref b :: .ref a :: st) κ N lay r h := by
  obtain ⟨p, la, e, s, m, args, below, meth, c, D, cA, B, Z⟩ := E
  intro O ls H locs hl hn hw
  obtain ⟨hx, hb, hml, hown, hts, hK, hnw, hB, hnm⟩ := id O
  obtain ⟨hP, hz, hly, hR, hNs, hS⟩ := id hw
  obtain ⟨b1, b2⟩ := hly a (by rw [hla]; exact Nat.succ_ne_zero k)
  refine va_put (D := D) (C := C) (T := T) (N := Nf) (ci := k) (ref := C) (ty := .object cn) hx hb hts hin ty0 hty hnm9 hown hK hP wl_D (vaS_0 hS) (a - B) (by rw [wl_get b1 b2, cellE_o hla h9]) hc j hj (hts _ hlink) (fun x q => by rw [hT] at q; exact q) hfin hd rfl rfl (by rw [mkF_len]; exact (List.getElem?_eq_some_iff.mp hf).1) d (fun H1 locs1 hP1 hD1 hS1 => W_size (fun hu => ?_))
  have e9 : (mkF 0 (fdL k) (fun j => r a (j : Nat)) (fun j => h a (j : Nat))).set j (.ref b) = mkF 0 (fdL k) (fun q => rup (r a) (j : Nat) (some b) (q : Nat)) (fun j => h a (j : Nat)) := by
    rw [← rupN_up]
    exact mkF_setR _ _ _ (some b) _ _ hf
  rw [e9, wl_set (r' := rr r a (rup (r a) (j : Nat) (some b))) (h' := h) b1 b2 (by rw [cellE_o hla h9, rr_s]) (fun b hb => ⟨rr_n hb, rfl⟩)] at hP1
  have h8 := hS1.1
  exact kk O ls H1 locs1 hl hn ⟨hP1, by omega, hly, hR, hNs, vaS_tr hS hS1⟩
theorem rg_putF {k j idx n a b Nf : Nat} {ft : FieldType} {C : String} {T : u_T} {ty0 : Nat → FieldType} (hc : cls9[k]? = some (C, T, Nf)) (hin : ∀ w ∈ u_ws C T Nf, w ∈ lwT) (hty : ∀ k, k < Nf → parseFieldDescriptor (T k).2.2.1 = some (ty0 k)) (hnm9 : ∀ a, a < Nf → ∀ b, b < Nf → a ≠ b → (T a).2.1 ≠ (T b).2.1) (hj : j < Nf) (hf : (fdL k)[j]? = some true) (h9 : k < 9) (hT : (T j).1 = C)
    (hlink : Cond.fieldLink M.1.cls idx C (T j).2.1 (T j).2.2.1 ∈ lwT) (hfin : (T j).2.2.2 = true) (hd : parseFieldDescriptor (T j).2.2.1 = some ft) (hnr : narrow ft (.ref b) = .ref b) (hft : fits ft (.ref b) = true) (hmn : M.1.name = "<init>") (hoc : M.1.cls = C)
    (hla : lay a = (k + 1, n)) (d : decode M.2.1 pc = .ok (.putfield idx, 3)) (kk : St E M (pc + 3) l st κ N lay (rr r a (rup (r a) (j : Nat) (some b))) h) : St E M pc l (.ref b :: .ref a :: st) κ N lay r h := by
  obtain ⟨p, la, e, s, m, args, below, meth, c, D, cA, B, Z⟩ := E
  intro O ls H locs hl hn hw
  obtain ⟨hx, hb, hml, hown, hts, hK, hnw, hB, hnm⟩ := id O
  obtain ⟨hP, hz, hly, hR, hNs, hS⟩ := id hw
  obtain ⟨b1, b2⟩ := hly a (by rw [hla]; exact Nat.succ_ne_zero k)
  refine va_putF (D := D) (C := C) (T := T) (N := Nf) (ci := k) (ref := C) (ty := ft) hx hb hts hin ty0 hty hnm9 hown hK hP wl_D (vaS_0 hS) (a - B) (by rw [wl_get b1 b2, cellE_o hla h9]) hc j hj (hts _ hlink) (fun x q => by rw [hT] at q; exact q) hfin (hnm.trans hmn) (hT.trans hoc.symm) hd hnr hft (by rw [mkF_len]; exact (List.getElem?_eq_some_iff.mp hf).1) d (fun H1 locs1 hP1 hD1 hS1 => W_size (fun hu => ?_))
  have e9 : (mkF 0 (fdL k) (fun j => r a (j : Nat)) (fun j => h a (j : Nat))).set j (.ref b) = mkF 0 (fdL k) (fun q => rup (r a) (j : Nat) (some b) (q : Nat)) (fun j => h a (j : Nat)) := by
    rw [← rupN_up]
    exact mkF_setR _ _ _ (some b) _ _ hf
  rw [e9, wl_set (r' := rr r a (rup (r a) (j : Nat) (some b))) (h' := h) b1 b2 (by rw [cellE_o hla h9, rr_s]) (fun b hb => ⟨rr_n hb, rfl⟩)] at hP1
  have h8 := hS1.1
  exact kk O ls H1 locs1 hl hn ⟨hP1, by omega, hly, hR, hNs, vaS_tr hS hS1⟩
theorem r_iald {a n : Nat} {z : Int} (hla : lay a = (10, n)) (d : decode M.2.1 pc = .ok (.iaload, 1)) (hi : 0 ≤ z ∧ z < n) (h31 : z < 2147483648) (kk : -2147483648 ≤ h a z ∧ h a z < 2147483648 → St E M (pc + 1) l (vI (h a z) :: st) κ N lay r h) : St E M pc l (vI z :: .ref a :: st) κ N lay r h := by
  obtain ⟨p, la, e, s, m, args, below, meth, c, D, cA, B, Z⟩ := E
  intro O ls H locs hl hn hw
  obtain ⟨hx, hb, hml, hown, hts, hK, hnw, hB, hnm⟩ := id O
  obtain ⟨hP, hz, hly, hR, hNs, hS⟩ := id hw
  obtain ⟨b1, b2⟩ := hly a (by rw [hla]; exact Nat.succ_ne_zero 9)
  refine va_iald hx hb hK hP (a - B) 0 (n := n) (f := fun j => Int32.ofInt (h a (j : Nat))) (by rw [wl_get b1 b2, cellE_i (k := 0) hla (by omega)]) rfl (vp_in_z hi h31) d ?_
  rw [i32_clamp (by omega), show ((z.toNat : Nat) : Int) = z by omega]
  exact kk (hR a z) O ls H locs hl hn hw
theorem r_cald {a n : Nat} {z : Int} (hla : lay a = (11, n)) (d : decode M.2.1 pc = .ok (.caload, 1)) (hi : 0 ≤ z ∧ z < n) (h31 : z < 2147483648) (kk : -2147483648 ≤ h a z ∧ h a z < 2147483648 → St E M (pc + 1) l (vI (h a z) :: st) κ N lay r h) : St E M pc l (vI z :: .ref a :: st) κ N lay r h := by
  obtain ⟨p, la, e, s, m, args, below, meth, c, D, cA, B, Z⟩ := E
  intro O ls H locs hl hn hw
  obtain ⟨hx, hb, hml, hown, hts, hK, hnw, hB, hnm⟩ := id O
  obtain ⟨hP, hz, hly, hR, hNs, hS⟩ := id hw
  obtain ⟨b1, b2⟩ := hly a (by rw [hla]; exact Nat.succ_ne_zero 10)
  refine va_cald hx hb hK hP (a - B) 1 (n := n) (f := fun j => Int32.ofInt (h a (j : Nat))) (by rw [wl_get b1 b2, cellE_i (k := 1) hla (by omega)]) rfl (vp_in_z hi h31) d ?_
  rw [i32_clamp (by omega), show ((z.toNat : Nat) : Int) = z by omega]
  exact kk (hR a z) O ls H locs hl hn hw
theorem r_zald {a n : Nat} {z : Int} (hla : lay a = (12, n)) (d : decode M.2.1 pc = .ok (.baload, 1)) (hi : 0 ≤ z ∧ z < n) (h31 : z < 2147483648) (kk : -2147483648 ≤ h a z ∧ h a z < 2147483648 → St E M (pc + 1) l (vI (h a z) :: st) κ N lay r h) : St E M pc l (vI z :: .ref a :: st) κ N lay r h := by
  obtain ⟨p, la, e, s, m, args, below, meth, c, D, cA, B, Z⟩ := E
  intro O ls H locs hl hn hw
  obtain ⟨hx, hb, hml, hown, hts, hK, hnw, hB, hnm⟩ := id O
  obtain ⟨hP, hz, hly, hR, hNs, hS⟩ := id hw
  obtain ⟨b1, b2⟩ := hly a (by rw [hla]; exact Nat.succ_ne_zero 11)
  refine va_zald hx hb hK hP (a - B) 2 (n := n) (f := fun j => Int32.ofInt (h a (j : Nat))) (by rw [wl_get b1 b2, cellE_i (k := 2) hla (by omega)]) rfl (vp_in_z hi h31) d ?_
  rw [i32_clamp (by omega), show ((z.toNat : Nat) : Int) = z by omega]
  exact kk (hR a z) O ls H locs hl hn hw
theorem upd_up {f : Int → Int} {z x : Int} (hz : 0 ≤ z ∧ z < 2147483648) : upd (fun j : Nat => Int32.ofInt (f (j : Nat))) (Int32.ofInt z).toNatClampNeg (Int32.ofInt x) = fun j : Nat => Int32.ofInt (up f z x (j : Nat)) := by
  funext q
  rw [i32_clamp hz]
  unfold upd up
  by_cases e : q = z.toNat
  · rw [if_pos e, if_pos (by omega)]
  · rw [if_neg e, if_neg (by omega)]
theorem r_iast {a n : Nat} {z x : Int} (hla : lay a = (10, n)) (d : decode M.2.1 pc = .ok (.iastore, 1)) (hi : 0 ≤ z ∧ z < n) (h31 : z < 2147483648) (hv : -2147483648 ≤ x ∧ x < 2147483648) (kk : St E M (pc + 1) l st κ N lay r (hr h a (up (h a) z x))) : St E M pc l (vI x :: vI z :: .ref a :: st) κ N lay r h := by
  obtain ⟨p, la, e, s, m, args, below, meth, c, D, cA, B, Z⟩ := E
  intro O ls H locs hl hn hw
  obtain ⟨hx, hb, hml, hown, hts, hK, hnw, hB, hnm⟩ := id O
  obtain ⟨hP, hz, hly, hR, hNs, hS⟩ := id hw
  obtain ⟨b1, b2⟩ := hly a (by rw [hla]; exact Nat.succ_ne_zero 9)
  refine va_iast hx hb hK hP wl_D (vaS_0 hS) (a - B) 0 (n := n) (f := fun j => Int32.ofInt (h a (j : Nat))) (by rw [wl_get b1 b2, cellE_i (k := 0) hla (by omega)]) rfl (vp_in_z hi h31) d (fun H1 locs1 hP1 hD1 hS1 => W_size (fun hu => ?_))
  rw [upd_up (by omega), wl_set (r' := r) (h' := hr h a (up (h a) z x)) b1 b2 (by rw [cellE_i (k := 0) hla (by omega), hr_s]) (fun b hb => ⟨rfl, hr_n hb⟩)] at hP1
  have h8 := hS1.1
  exact kk O ls H1 locs1 hl hn ⟨hP1, by omega, hly, RgT_up hR hv, hNs, vaS_tr hS hS1⟩
theorem r_cast {a n : Nat} {z x : Int} (hla : lay a = (11, n)) (d : decode M.2.1 pc = .ok (.castore, 1)) (hi : 0 ≤ z ∧ z < n) (h31 : z < 2147483648) (hv : 0 ≤ x ∧ x < 65536) (kk : St E M (pc + 1) l st κ N lay r (hr h a (up (h a) z x))) : St E M pc l (vI x :: vI z :: .ref a :: st) κ N lay r h := by
  obtain ⟨p, la, e, s, m, args, below, meth, c, D, cA, B, Z⟩ := E
  intro O ls H locs hl hn hw
  obtain ⟨hx, hb, hml, hown, hts, hK, hnw, hB, hnm⟩ := id O
  obtain ⟨hP, hz, hly, hR, hNs, hS⟩ := id hw
  obtain ⟨b1, b2⟩ := hly a (by rw [hla]; exact Nat.succ_ne_zero 10)
  have hnar : vp_nar .char (Int32.ofInt x) = Int32.ofInt x := by
    obtain ⟨q, rfl⟩ : ∃ q : Nat, x = q := ⟨x.toNat, by omega⟩
    have h7 := (pk_charN (q := q) (by omega)).1
    have h6 : Int32.ofInt (q : Int) = nI q := by rw [← Int32.toInt_inj, i32_toInt (by omega), nI_toInt (by omega)]
    rw [h6]
    unfold vp_nar
    rw [h7]
  refine va_cast hx hb hK hP wl_D (vaS_0 hS) (a - B) 1 (n := n) (f := fun j => Int32.ofInt (h a (j : Nat))) (by rw [wl_get b1 b2, cellE_i (k := 1) hla (by omega)]) rfl (vp_in_z hi h31) d (fun H1 locs1 hP1 hD1 hS1 => W_size (fun hu => ?_))
  rw [hnar, upd_up (by omega), wl_set (r' := r) (h' := hr h a (up (h a) z x)) b1 b2 (by rw [cellE_i (k := 1) hla (by omega), hr_s]) (fun b hb => ⟨rfl, hr_n hb⟩)] at hP1
  have h8 := hS1.1
  exact kk O ls H1 locs1 hl hn ⟨hP1, by omega, hly, RgT_up hR (by omega), hNs, vaS_tr hS hS1⟩
theorem r_zast {a n : Nat} {z x : Int} (hla : lay a = (12, n)) (d : decode M.2.1 pc = .ok (.bastore, 1)) (hi : 0 ≤ z ∧ z < n) (h31 : z < 2147483648) (hv : x = 0 ∨ x = 1) (kk : St E M (pc + 1) l st κ N lay r (hr h a (up (h a) z x))) : St E M pc l (vI x :: vI z :: .ref a :: st) κ N lay r h := by
  obtain ⟨p, la, e, s, m, args, below, meth, c, D, cA, B, Z⟩ := E
  intro O ls H locs hl hn hw
  obtain ⟨hx, hb, hml, hown, hts, hK, hnw, hB, hnm⟩ := id O
  obtain ⟨hP, hz, hly, hR, hNs, hS⟩ := id hw
  obtain ⟨b1, b2⟩ := hly a (by rw [hla]; exact Nat.succ_ne_zero 11)
  have hnar : vp_nar .boolean (Int32.ofInt x) = Int32.ofInt x := by
    rcases hv with rfl | rfl <;> rfl
  refine va_zast hx hb hK hP wl_D (vaS_0 hS) (a - B) 2 (n := n) (f := fun j => Int32.ofInt (h a (j : Nat))) (by rw [wl_get b1 b2, cellE_i (k := 2) hla (by omega)]) rfl (vp_in_z hi h31) d (fun H1 locs1 hP1 hD1 hS1 => W_size (fun hu => ?_))
  rw [hnar, upd_up (by omega), wl_set (r' := r) (h' := hr h a (up (h a) z x)) b1 b2 (by rw [cellE_i (k := 2) hla (by omega), hr_s]) (fun b hb => ⟨rfl, hr_n hb⟩)] at hP1
  have h8 := hS1.1
  exact kk O ls H1 locs1 hl hn ⟨hP1, by omega, hly, RgT_up hR (by omega), hNs, vaS_tr hS hS1⟩
end ROWS
