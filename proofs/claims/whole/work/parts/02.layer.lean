/-! THE LAYER: whole numbers for the machine's ints; a heap of rows of whole numbers and of references; one judgement St -/
def vI (z : Int) : Value := .int (Int32.ofInt z)
def vL (z : Int) : Value := .long (Int64.ofInt z)
abbrev LcT : Type := List (Option Value)
def lcs : Nat → LcT → List (Nat × Value)
  | _, [] => []
  | i, none :: l => lcs (i + 1) l
  | i, some v :: l => (i, v) :: lcs (i + 1) l
theorem lcs_mem : ∀ (l : LcT) (b i : Nat) (v : Value), l[i]? = some (some v) → (b + i, v) ∈ lcs b l
  | [], b, i, v, h => by simp at h
  | o :: l, b, 0, v, h => by
    simp at h
    subst h
    simp [lcs]
  | o :: l, b, i + 1, v, h => by
    have h2 := lcs_mem l (b + 1) i v (by simpa using h)
    rw [show b + 1 + i = b + (i + 1) by omega] at h2
    cases o with
    | none => exact h2
    | some w => exact List.mem_cons_of_mem _ h2
theorem lcs_of : ∀ (l : LcT) (b j : Nat) (v : Value), (j, v) ∈ lcs b l → ∃ i, j = b + i ∧ l[i]? = some (some v)
  | [], b, j, v, h => by simp [lcs] at h
  | none :: l, b, j, v, h => by
    obtain ⟨i, h1, h2⟩ := lcs_of l (b + 1) j v h
    exact ⟨i + 1, by omega, by simpa using h2⟩
  | some w :: l, b, j, v, h => by
    rcases List.mem_cons.mp h with h | h
    · cases h
      exact ⟨0, rfl, rfl⟩
    · obtain ⟨i, h1, h2⟩ := lcs_of l (b + 1) j v h
      exact ⟨i + 1, by omega, by simpa using h2⟩
theorem lc_at {ls : Array Slot} {nL : Nat} {l : LcT} (h : lv_has ls nL (lcs 0 l)) {i : Nat} {v : Value} (hi : l[i]? = some (some v)) : ls[i]? = some (.val v) :=
  h.2.2 (i, v) (by simpa using lcs_mem l 0 i v hi)
def okp (l : LcT) (i : Nat) : Bool := match i with
  | 0 => true
  | j + 1 => match l[j]? with
    | some (some w) => w.category == 1
    | _ => true
theorem okp_of {l : LcT} {i j : Nat} {w : Value} (h : okp l i = true) (hj : j + 1 = i) (hl : l[j]? = some (some w)) : w.category = 1 := by
  subst hj
  simpa [okp, hl] using h
theorem lc_put {ls : Array Slot} {nL i : Nat} {l : LcT} {v : Value} (ho : okp l i = true) (h : lv_has ls nL ((i, v) :: (lcs 0 l).filter (fun q => !(q.1 == i) && !(q.1 + 1 == i && q.2.category == 2)))) : lv_has ls nL (lcs 0 (l.set i (some v))) := by
  refine ⟨h.1, h.2.1, fun q hq => ?_⟩
  obtain ⟨j, w⟩ := q
  obtain ⟨k, e1, e2⟩ := lcs_of _ _ _ _ hq
  have hk : j = k := by omega
  subst hk
  by_cases hji : j = i
  · subst hji
    have hl : j < (l.set j (some v)).length := (List.getElem?_eq_some_iff.mp e2).1
    rw [List.getElem?_set_self (by simpa using hl)] at e2
    cases e2
    exact h.2.2 _ List.mem_cons_self
  · rw [List.getElem?_set_ne (Ne.symm hji)] at e2
    refine h.2.2 (j, w) (List.mem_cons_of_mem _ (List.mem_filter.mpr ⟨by simpa using lcs_mem l 0 j w e2, ?_⟩))
    by_cases hp : j + 1 = i
    · simp [hji, okp_of ho hp e2]
    · simp [hji, hp]
theorem lc_put2 {ls : Array Slot} {nL i : Nat} {l : LcT} {v : Value} (ho : okp l i = true) (h : lv_has ls nL ((i, v) :: (lcs 0 l).filter (fun q => !(q.1 == i) && (!(q.1 == i + 1) && !(q.1 + 1 == i && q.2.category == 2))))) : lv_has ls nL (lcs 0 ((l.set i (some v)).set (i + 1) none)) := by
  refine ⟨h.1, h.2.1, fun q hq => ?_⟩
  obtain ⟨j, w⟩ := q
  obtain ⟨k, e1, e2⟩ := lcs_of _ _ _ _ hq
  have hk : j = k := by omega
  subst hk
  by_cases hji : j = i
  · subst hji
    rw [List.getElem?_set_ne (by omega)] at e2
    have hl : j < (l.set j (some v)).length := (List.getElem?_eq_some_iff.mp e2).1
    rw [List.getElem?_set_self (by simpa using hl)] at e2
    cases e2
    exact h.2.2 _ List.mem_cons_self
  · by_cases hj1 : j = i + 1
    · subst hj1
      have hl : i + 1 < ((l.set i (some v)).set (i + 1) none).length := (List.getElem?_eq_some_iff.mp e2).1
      rw [List.getElem?_set_self (by simpa using hl)] at e2
      cases e2
    · rw [List.getElem?_set_ne (Ne.symm hj1), List.getElem?_set_ne (Ne.symm hji)] at e2
      refine h.2.2 (j, w) (List.mem_cons_of_mem _ (List.mem_filter.mpr ⟨by simpa using lcs_mem l 0 j w e2, ?_⟩))
      by_cases hp : j + 1 = i
      · simp [hji, hj1, okp_of ho hp e2]
      · simp [hji, hj1, hp]
/-! the heap: an address has a row of numbers and a row of references, by places that are whole numbers -/
abbrev LyT : Type := Nat → Nat × Nat
abbrev RfT : Type := Nat → Int → Option Nat
abbrev HpT : Type := Nat → Int → Int
def up (f : Int → Int) (k z : Int) : Int → Int := fun j => if j = k then z else f j
def hr (h : HpT) (a : Nat) (f : Int → Int) : HpT := fun b => if b = a then f else h b
def rup (f : Int → Option Nat) (k : Int) (z : Option Nat) : Int → Option Nat := fun j => if j = k then z else f j
def rr (r : RfT) (a : Nat) (f : Int → Option Nat) : RfT := fun b => if b = a then f else r b
def lyp (lay : LyT) (a : Nat) (q : Nat × Nat) : LyT := fun b => if b = a then q else lay b
theorem up_s {f : Int → Int} {k z : Int} : up f k z k = z := if_pos rfl
theorem up_n {f : Int → Int} {k j z : Int} (h : j ≠ k) : up f k z j = f j := if_neg h
theorem rup_s {f : Int → Option Nat} {k : Int} {z : Option Nat} : rup f k z k = z := if_pos rfl
theorem rup_n {f : Int → Option Nat} {k j : Int} {z : Option Nat} (h : j ≠ k) : rup f k z j = f j := if_neg h
theorem hr_s {h : HpT} {a : Nat} {f : Int → Int} : hr h a f a = f := if_pos rfl
theorem hr_n {h : HpT} {a b : Nat} {f : Int → Int} (e : b ≠ a) : hr h a f b = h b := if_neg e
theorem rr_s {h : RfT} {a : Nat} {f : Int → Option Nat} : rr h a f a = f := if_pos rfl
theorem rr_n {h : RfT} {a b : Nat} {f : Int → Option Nat} (e : b ≠ a) : rr h a f b = h b := if_neg e
theorem lyp_s {h : LyT} {a : Nat} {f : Nat × Nat} : lyp h a f a = f := if_pos rfl
theorem lyp_n {h : LyT} {a b : Nat} {f : Nat × Nat} (e : b ≠ a) : lyp h a f b = h b := if_neg e
def fdL (k : Nat) : List Bool := match k with
  | 0 => [false, true, true]
  | 1 => [false, true, true, true, true]
  | 2 => [false, true, true, true]
  | 3 => [true, true, true, true, false, false, false, false, false, true, true, true]
  | 4 => [true]
  | 5 => [false, true, false, true]
  | 6 => [false, false, false, true, true]
  | 7 => [true, true, true, true, true, true, true, true, false]
  | _ => [false, true, true, true, true, false, true, true, true, true, true, true, true, true, true, true, true, false, true, false, true, true, true, true, false]
def mkF : Nat → List Bool → (Nat → Option Nat) → (Nat → Int) → List Value
  | _, [], _, _ => []
  | i, b :: bs, ra, ha => (if b then va_rf (ra i) else vI (ha i)) :: mkF (i + 1) bs ra ha
theorem mkF_len : ∀ (bs : List Bool) (i : Nat) (ra : Nat → Option Nat) (ha : Nat → Int), (mkF i bs ra ha).length = bs.length
  | [], _, _, _ => rfl
  | b :: bs, i, ra, ha => by simp [mkF, mkF_len bs]
theorem mkF_get : ∀ (bs : List Bool) (i j : Nat) (b : Bool) (ra : Nat → Option Nat) (ha : Nat → Int), bs[j]? = some b → (mkF i bs ra ha)[j]? = some (if b then va_rf (ra (i + j)) else vI (ha (i + j)))
  | [], i, j, b, ra, ha, h => by simp at h
  | c :: bs, i, 0, b, ra, ha, h => by
    simp at h
    subst h
    rfl
  | c :: bs, i, j + 1, b, ra, ha, h => by
    have h2 := mkF_get bs (i + 1) j b ra ha (by simpa using h)
    rw [show i + 1 + j = i + (j + 1) by omega] at h2
    simpa [mkF] using h2
theorem mkF_cong : ∀ (bs : List Bool) (i : Nat) (ra ra' : Nat → Option Nat) (ha ha' : Nat → Int), (∀ j, i ≤ j → ra' j = ra j ∧ ha' j = ha j) → mkF i bs ra' ha' = mkF i bs ra ha
  | [], i, ra, ra', ha, ha', h => rfl
  | c :: bs, i, ra, ra', ha, ha', h => by
    simp only [mkF]
    rw [(h i (Nat.le_refl _)).1, (h i (Nat.le_refl _)).2, mkF_cong bs (i + 1) ra ra' ha ha' (fun j hj => h j (by omega))]
theorem mkF_setI : ∀ (bs : List Bool) (i j : Nat) (z : Int) (ra : Nat → Option Nat) (ha : Nat → Int), bs[j]? = some false → (mkF i bs ra ha).set j (vI z) = mkF i bs ra (fun q => if q = i + j then z else ha q)
  | [], i, j, z, ra, ha, h => by simp at h
  | c :: bs, i, 0, z, ra, ha, h => by
    simp at h
    subst h
    simp only [mkF, List.set_cons_zero, Nat.add_zero]
    rw [mkF_cong bs (i + 1) ra ra ha (fun q => if q = i then z else ha q) (fun j hj => ⟨rfl, if_neg (by omega)⟩)]
    simp
  | c :: bs, i, j + 1, z, ra, ha, h => by
    have h2 := mkF_setI bs (i + 1) j z ra ha (by simpa using h)
    rw [show i + 1 + j = i + (j + 1) by omega] at h2
    simp only [mkF, List.set_cons_succ, h2]
    rw [if_neg (show ¬ i = i + (j + 1) by omega)]
theorem mkF_setR : ∀ (bs : List Bool) (i j : Nat) (z : Option Nat) (ra : Nat → Option Nat) (ha : Nat → Int), bs[j]? = some true → (mkF i bs ra ha).set j (va_rf z) = mkF i bs (fun q => if q = i + j then z else ra q) ha
  | [], i, j, z, ra, ha, h => by simp at h
  | c :: bs, i, 0, z, ra, ha, h => by
    simp at h
    subst h
    simp only [mkF, List.set_cons_zero, Nat.add_zero]
    rw [mkF_cong bs (i + 1) ra (fun q => if q = i then z else ra q) ha ha (fun j hj => ⟨if_neg (by omega), rfl⟩)]
    simp
  | c :: bs, i, j + 1, z, ra, ha, h => by
    have h2 := mkF_setR bs (i + 1) j z ra ha (by simpa using h)
    rw [show i + 1 + j = i + (j + 1) by omega] at h2
    simp only [mkF, List.set_cons_succ, h2]
    rw [if_neg (show ¬ i = i + (j + 1) by omega)]
def cellE (cA : Nat → ClassId) (lay : LyT) (r : RfT) (h : HpT) (a : Nat) : va_E :=
  if (lay a).1 ≤ 9 then .inr ((lay a).1 - 1, mkF 0 (fdL ((lay a).1 - 1)) (fun j => r a (j : Nat)) (fun j => h a (j : Nat)))
  else if (lay a).1 = 13 then .inl (cA 3, (lay a).2, .inr (.inr (.inr (.inr (fun j => r a (j : Nat))))))
  else .inl (cA ((lay a).1 - 10), (lay a).2, .inl (fun j => Int32.ofInt (h a (j : Nat))))
theorem cellE_o {cA : Nat → ClassId} {lay : LyT} {r : RfT} {h : HpT} {a k n : Nat} (hk : lay a = (k + 1, n)) (h9 : k < 9) : cellE cA lay r h a = .inr (k, mkF 0 (fdL k) (fun j => r a (j : Nat)) (fun j => h a (j : Nat))) := by
  unfold cellE
  rw [hk, if_pos (by omega)]
  rfl
theorem cellE_i {cA : Nat → ClassId} {lay : LyT} {r : RfT} {h : HpT} {a k n : Nat} (hk : lay a = (k + 10, n)) (h3 : k < 3) : cellE cA lay r h a = .inl (cA k, n, .inl (fun j => Int32.ofInt (h a (j : Nat)))) := by
  unfold cellE
  rw [hk, if_neg (by omega), if_neg (by omega), show k + 10 - 10 = k by omega]
theorem cellE_q {cA : Nat → ClassId} {lay : LyT} {r : RfT} {h : HpT} {a n : Nat} (hk : lay a = (13, n)) : cellE cA lay r h a = .inl (cA 3, n, .inr (.inr (.inr (.inr (fun j => r a (j : Nat)))))) := by
  unfold cellE
  rw [hk, if_neg (by omega), if_pos rfl]
theorem cellE_same {cA : Nat → ClassId} {lay lay' : LyT} {r r' : RfT} {h h' : HpT} {a : Nat} (h0 : lay' a = lay a) (h1 : r' a = r a) (h2 : h' a = h a) : cellE cA lay' r' h' a = cellE cA lay r h a := by
  unfold cellE
  rw [h0, h1, h2]
def wl (B N : Nat) (cA : Nat → ClassId) (lay : LyT) (r : RfT) (h : HpT) : va_W := (List.range (N - B)).map (fun i => (B + i, cellE cA lay r h (B + i)))
theorem wl_get {B N : Nat} {cA : Nat → ClassId} {lay : LyT} {r : RfT} {h : HpT} {a : Nat} (h1 : B ≤ a) (h2 : a < N) : (wl B N cA lay r h)[a - B]? = some (a, cellE cA lay r h a) := by
  unfold wl
  rw [List.getElem?_map, List.getElem?_range (by omega)]
  simp only [Option.map_some]
  rw [show B + (a - B) = a by omega]
theorem wl_of {B N : Nat} {cA : Nat → ClassId} {lay : LyT} {r : RfT} {h : HpT} {k : Nat} {q : Nat × va_E} (hk : (wl B N cA lay r h)[k]? = some q) : k < N - B ∧ q = (B + k, cellE cA lay r h (B + k)) := by
  unfold wl at hk
  rw [List.getElem?_map] at hk
  by_cases hl : k < N - B
  · rw [List.getElem?_range hl] at hk
    cases hk
    exact ⟨hl, rfl⟩
  · rw [List.getElem?_eq_none (by simpa using hl)] at hk
    cases hk
theorem wl_D {B N : Nat} {cA : Nat → ClassId} {lay : LyT} {r : RfT} {h : HpT} : va_D (fun q => B ≤ q) (wl B N cA lay r h) := by
  refine ⟨fun i j p q hp hq he => ?_, fun k q hq => ?_⟩
  · obtain ⟨-, rfl⟩ := wl_of hp
    obtain ⟨-, rfl⟩ := wl_of hq
    simp only at he
    omega
  · obtain ⟨-, rfl⟩ := wl_of hq
    exact Nat.le_add_right _ _
theorem wl_set {B N : Nat} {cA : Nat → ClassId} {lay : LyT} {r r' : RfT} {h h' : HpT} {a : Nat} {e : va_E} (h1 : B ≤ a) (h2 : a < N) (he : cellE cA lay r' h' a = e) (ho : ∀ b, b ≠ a → r' b = r b ∧ h' b = h b) : (wl B N cA lay r h).set (a - B) (a, e) = wl B N cA lay r' h' := by
  apply List.ext_getElem?
  intro k
  by_cases hk : k < N - B
  · have hr : (wl B N cA lay r' h')[k]? = some (B + k, cellE cA lay r' h' (B + k)) := by
      have := wl_get (cA := cA) (lay := lay) (r := r') (h := h') (B := B) (N := N) (a := B + k) (by omega) (by omega)
      rwa [show B + k - B = k by omega] at this
    rw [hr]
    by_cases hka : k = a - B
    · subst hka
      rw [List.getElem?_set_self (by simpa [wl] using hk), show B + (a - B) = a by omega, he]
    · rw [List.getElem?_set_ne (Ne.symm hka)]
      have hr2 : (wl B N cA lay r h)[k]? = some (B + k, cellE cA lay r h (B + k)) := by
        have := wl_get (cA := cA) (lay := lay) (r := r) (h := h) (B := B) (N := N) (a := B + k) (by omega) (by omega)
        rwa [show B + k - B = k by omega] at this
      rw [hr2, cellE_same rfl (ho (B + k) (by omega)).1 (ho (B + k) (by omega)).2]
  · rw [List.getElem?_eq_none (by simpa [wl] using hk), List.getElem?_eq_none (by simpa [wl] using hk)]
