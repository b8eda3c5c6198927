/-! ROWS OF NEW ARRAYS -/
theorem P_new {D : va_G} {cA : Nat → ClassId} {B N : Nat} {lay lay' : LyT} {r r' : RfT} {h h' : HpT} {H H1 : Heap} (hP : va_P D cls9 (wl B N cA lay r h) H) (hBN : B ≤ N) (o1 : ∀ q, q < N → H1[q]? = H[q]?) (hat : va_at D cls9 (N, cellE cA lay' r' h' N) H1) (hs : ∀ a, a ≠ N → lay' a = lay a ∧ r' a = r a ∧ h' a = h a) : va_P D cls9 (wl B (N + 1) cA lay' r' h') H1 := by
  intro k q hk
  obtain ⟨hl, rfl⟩ := wl_of hk
  by_cases e : B + k = N
  · rw [e]; exact hat
  · have hg := wl_get (cA := cA) (lay := lay) (r := r) (h := h) (B := B) (N := N) (a := B + k) (by omega) (by omega)
    rw [show B + k - B = k by omega] at hg
    obtain ⟨s1, s2, s3⟩ := hs (B + k) e
    rw [cellE_same s1 s2 s3]
    exact (hP k _ hg).kept (o1 _ (show B + k < N by omega))
theorem LyOk_new {B N : Nat} {lay : LyT} {q : Nat × Nat} (h : LyOk B N lay) (hBN : B ≤ N) : LyOk B (N + 1) (lyp lay N q) := by
  intro a ha
  by_cases e : a = N
  · omega
  · rw [lyp_n e] at ha
    have := h a ha
    omega
theorem RgT_new {h : HpT} {N : Nat} (hR : RgT h) : RgT (hr h N (fun _ => 0)) := by
  intro b j
  unfold hr
  split
  · exact ⟨show (-2147483648 : Int) ≤ 0 by decide, show (0 : Int) < 2147483648 by decide⟩
  · exact hR b j
section ROWS
variable {E : EnT} {M : MtT} {pc : Nat} {l : LcT} {st : List Value} {κ : Nat × Nat} {N : Nat} {lay : LyT} {r : RfT} {h : HpT}
theorem rg_new {z k : Nat} {atype : ArrayType} {ty : FieldType} (hk3 : k < 3) (hty : newarray.typeOf atype = ty) (hdf : defaultValue ty = .int 0) (hka : ∀ cA : Nat → ClassId, (tyA cA)[k]? = some (cA k, ty)) (hra : ∀ (U : State) (c : ClassId), va_RA U c ty → U.vm.findClass ("[" ++ ty.toString) = some c) (harr : Cond.arrayClass ty ∈ lwT) (d : decode M.2.1 pc = .ok (.newarray atype, 2)) (hz : z < 100000) (hby : z * componentBytes ty ≤ 536870912) (hc : κ.1 + 1 ≤ M.2.2.2.2.cells) (hsl : κ.2 + z ≤ M.2.2.2.2.slots)
    (kk : St E M (pc + 2) l (.ref N :: st) (κ.1 + 1, κ.2 + z) (N + 1) (lyp lay N (k + 10, z)) r (hr h N (fun _ => 0))) : St E M pc l (vI z :: st) κ N lay r h := by
  obtain ⟨p, la, e, s, m, args, below, meth, c, D, cA, B, Z⟩ := E
  intro O ls H locs hl hn hw
  obtain ⟨hx, hb, hml, hown, hts, hK, hnw, hB, hnm⟩ := id O
  obtain ⟨hP, hzN, hly, hR, hNs, hS⟩ := id hw
  have hBN : B ≤ N := by omega
  subst hty
  refine va_newaK hx hb (hts _ harr) rfl d rfl (n := Int32.ofInt z) (N := z) (by rw [Int32.lt_iff_toInt_lt, i32_toInt (by omega)]; show ¬ (z : Int) < 0; omega) (by rw [i32_clamp (by omega)]; omega) hby hc hsl hzN fun H1 cX e1 z1 o1 hAr hNm => ?_
  have hcX : cX = cA k := by
    have h1 := hra _ _ (hK.2 k _ (hka cA)).2
    rw [h1] at hNm
    exact (Option.some.inj hNm).symm
  subst hcX
  refine kk O ls H1 locs hl hn ⟨P_new hP hBN o1 ?_ (fun a ha => ⟨lyp_n ha, rfl, hr_n ha⟩), z1, LyOk_new hly hBN, RgT_new hR, by show N + 1 = s.heap.size + (κ.1 + 1); omega, ?_⟩
  · rw [cellE_i lyp_s hk3, hr_s]
    show H1[N]? = some (vp_cell _ _)
    rw [vp_cell_i]
    rw [hdf] at e1
    exact e1
  · exact ⟨Nat.le_trans hS.1 (by omega), fun x h1 h2 => (o1 x (by have := hS.1; omega)).trans (hS.2.1 x h1 h2), hS.2.2⟩
end ROWS
section ROWS
variable {E : EnT} {M : MtT} {pc : Nat} {l : LcT} {st : List Value} {κ : Nat × Nat} {N : Nat} {lay : LyT} {r : RfT} {h : HpT}
theorem r_newI {z : Int} {n : Nat} (hzn : z = n) (harr : Cond.arrayClass .int ∈ lwT) (d : decode M.2.1 pc = .ok (.newarray .int, 2)) (hz : n < 100000) (hc : κ.1 + 1 ≤ M.2.2.2.2.cells) (hsl : κ.2 + n ≤ M.2.2.2.2.slots) (kk : St E M (pc + 2) l (.ref N :: st) (κ.1 + 1, κ.2 + n) (N + 1) (lyp lay N (10, n)) r (hr h N (fun _ => 0))) : St E M pc l (vI z :: st) κ N lay r h := by
  subst hzn
  exact rg_new (k := 0) (atype := .int) (by omega) rfl rfl (fun _ => rfl) (fun _ _ q => q) harr d hz (by show n * 4 ≤ 536870912; omega) hc hsl kk
theorem r_newC {z : Int} {n : Nat} (hzn : z = n) (harr : Cond.arrayClass .char ∈ lwT) (d : decode M.2.1 pc = .ok (.newarray .char, 2)) (hz : n < 100000) (hc : κ.1 + 1 ≤ M.2.2.2.2.cells) (hsl : κ.2 + n ≤ M.2.2.2.2.slots) (kk : St E M (pc + 2) l (.ref N :: st) (κ.1 + 1, κ.2 + n) (N + 1) (lyp lay N (11, n)) r (hr h N (fun _ => 0))) : St E M pc l (vI z :: st) κ N lay r h := by
  subst hzn
  exact rg_new (k := 1) (atype := .char) (by omega) rfl rfl (fun _ => rfl) (fun _ _ q => q) harr d hz (by show n * 2 ≤ 536870912; omega) hc hsl kk
theorem r_newZ {z : Int} {n : Nat} (hzn : z = n) (harr : Cond.arrayClass .boolean ∈ lwT) (d : decode M.2.1 pc = .ok (.newarray .boolean, 2)) (hz : n < 100000) (hc : κ.1 + 1 ≤ M.2.2.2.2.cells) (hsl : κ.2 + n ≤ M.2.2.2.2.slots) (kk : St E M (pc + 2) l (.ref N :: st) (κ.1 + 1, κ.2 + n) (N + 1) (lyp lay N (12, n)) r (hr h N (fun _ => 0))) : St E M pc l (vI z :: st) κ N lay r h := by
  subst hzn
  exact rg_new (k := 2) (atype := .boolean) (by omega) rfl rfl (fun _ => rfl) (fun _ _ q => q) harr d hz (by show n * 1 ≤ 536870912; omega) hc hsl kk
end ROWS
