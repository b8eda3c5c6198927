/-! THE TEXT CONSTANT: what is known of it, its length and its letters -/
def txB : List Int32 := [104, 59, 114, 59, 100, 52, 44, 57, 59, 100, 50, 44, 57, 59, 114, 59, 100, 51, 44, 57, 59, 100, 51, 44, 57, 59, 104, 59, 114, 59, 100, 53, 44, 57, 59, 100, 49, 44, 57, 59, 114, 59, 100, 54, 44, 57, 59, 104, 59, 114, 59, 100, 50, 44, 57, 59, 100, 56, 44, 57, 59, 99, 51, 44, 50, 44, 48, 59, 116, 50, 48, 59]
def txc : Int → Int := fun j => (txB.getD j.toNat 0).toInt
theorem txc_ok : ∀ j, j < 72 → (iA (txc (j : Nat)) 255 = txc (j : Nat) ∧ 0 ≤ txc (j : Nat) ∧ txc (j : Nat) < 128) := by
  have : (List.range 72).all (fun j => decide (iA (txc (j : Nat)) 255 = txc (j : Nat) ∧ 0 ≤ txc (j : Nat) ∧ txc (j : Nat) < 128)) = true := by decide +kernel
  intro j hj
  exact of_decide_eq_true (List.all_eq_true.mp this j (List.mem_range.mpr hj))
def Sx (B a v : Nat) (U : State) : Prop := vk_R "StrawMap" 54 "h;r;d4,9;d2,9;r;d3,9;d3,9;h;r;d5,9;d1,9;r;d6,9;h;r;d2,9;d8,9;c3,2,0;t20;" a U ∧ va_O "java/lang/String" a (fun q => B ≤ q) U U.heap ∧ va_OF "java/lang/String" "coder" "B" (.int 0) a (fun q => B ≤ q) U U.heap ∧ va_OF "java/lang/String" "value" "[B" (.ref v) a (fun q => B ≤ q) U U.heap ∧ va_T .byte v 72 (fun j => .int (txB.getD j 0)) (fun q => B ≤ q) U U.heap ∧ va_Z "java/lang/String" "COMPACT_STRINGS" "Z" (.int 1) (fun q => B ≤ q) U U.heap ∧ va_Zq "jdk/internal/util/Preconditions" "SIOOBE_FORMATTER" "Ljava/util/function/BiFunction;" (fun q => B ≤ q) U U.heap
theorem va_Zq.mk2 {C n d : String} {A : Nat → Prop} {u U : State} (hvm : u.vm.Alike U.vm) (hq : ∀ a : Nat, a < u.heap.size → ¬ A a → U.heap[a]? = u.heap[a]?) (h : va_Zq C n d A u u.heap) : va_Zq C n d A U U.heap := by
  rcases h with h | ⟨t, h⟩
  · exact Or.inl ((h.moved hvm).kept hq)
  · exact Or.inr ⟨t, (h.moved hvm).kept hq⟩
theorem Sx.tr {B a v : Nat} {s U : State} (hW : s.WarmedH U.vm) (hk : ∀ q : Nat, q < s.heap.size → ¬ B ≤ q → U.heap[q]? = s.heap[q]?) (h : Sx B a v s) : Sx B a v U := by
  obtain ⟨h1, h2, h3, h4, h5, h6, h7⟩ := h
  exact ⟨h1.warm hW, (h2.moved hW.alike).kept hk, (h3.moved hW.alike).kept hk, (h4.moved hW.alike).kept hk, (h5.moved hW.alike).kept hk, (h6.moved hW.alike).kept hk, h7.mk2 hW.alike hk⟩
theorem Sx.sm {B a v : Nat} {s U : State} (hv : U.vm = s.vm) (hh : U.heap = s.heap) (h : Sx B a v s) : Sx B a v U := by
  obtain ⟨h1, h2, h3, h4, h5, h6, h7⟩ := h
  have al : s.vm.Alike U.vm := by rw [hv]; exact Vm.Alike.refl _
  have hk : ∀ q : Nat, q < s.heap.size → ¬ B ≤ q → U.heap[q]? = s.heap[q]? := fun q _ _ => by rw [hh]
  exact ⟨h1.same hv, (h2.moved al).kept hk, (h3.moved al).kept hk, (h4.moved al).kept hk, (h5.moved al).kept hk, (h6.moved al).kept hk, h7.mk2 al hk⟩
def SxE (E : EnT) (a v : Nat) : Prop := match E with
  | (p, l, e, s, m, args, below, meth, c, D, cA, B, Z) => Sx B a v s
def WoX (D : va_G) (cA : Nat → ClassId) (B a v N : Nat) (lay : LyT) (r : RfT) (h : HpT) (U : State) : Prop := Wo D cA B N lay r h U ∧ Sx B a v U
theorem WoX_blind {D : va_G} {cA : Nat → ClassId} {B a v N : Nat} {lay : LyT} {r : RfT} {h : HpT} {av : List Value} : FrameBlind (va_Pc av (WoX D cA B a v N lay r h)) := by
  intro x U g mk q
  obtain ⟨q0, q1, q2⟩ := q
  have w := Wo_blind (D := D) (cA := cA) (B := B) (N := N) (lay := lay) (r := r) (h := h) (av := av) x U g mk ⟨q0, q1⟩
  exact ⟨w.1, w.2, q2.sm (s := U) (U := U.calling g mk x) rfl rfl⟩
def ConXI (M : MtT) (P : Nat → Nat → List Value → Nat → LyT → RfT → HpT → PstI → Prop) : Prop := ∀ (la : Launch) (D : va_G) (cA : Nat → ClassId) (B a v : Nat) (args : List Value) (N : Nat) (lay : LyT) (r : RfT) (h : HpT) (Q : PstI), P a v args N lay r h Q →
  Met la M.1 (wsM M) M.2.2.2.2 (va_Pc args (WoX D cA B a v N lay r h)) (QcI D cA B N M.2.2.2.2.cells Q) M.2.2.2.2.cells M.2.2.2.2.slots (fun q => B ≤ q)
def ConXV (M : MtT) (P : Nat → Nat → List Value → Nat → LyT → RfT → HpT → PstV → Prop) : Prop := ∀ (la : Launch) (D : va_G) (cA : Nat → ClassId) (B a v : Nat) (args : List Value) (N : Nat) (lay : LyT) (r : RfT) (h : HpT) (Q : PstV), P a v args N lay r h Q →
  Met la M.1 (wsM M) M.2.2.2.2 (va_Pc args (WoX D cA B a v N lay r h)) (QcV D cA B N M.2.2.2.2.cells Q) M.2.2.2.2.cells M.2.2.2.2.slots (fun q => B ≤ q)
theorem ConXI.of {M : MtT} {P : Nat → Nat → List Value → Nat → LyT → RfT → HpT → PstI → Prop} (hy : plainName M.1.cls = true) (hcat : ∀ a v vs N lay r h Q, P a v vs N lay r h Q → (vs.all fun v => v.category == 1) = true ∧ vs.length ≤ M.2.2.1)
    (body : ∀ (E : EnT) (a v : Nat) (vs : List Value) (N : Nat) (lay : LyT) (r : RfT) (h : HpT) (Q : PstI), P a v vs N lay r h Q → SxE E a v → RetI E M N Q → St E M 0 (lc0 vs M.2.2.1) [] (0, 0) N lay r h) : ConXI M P := by
  intro la D cA B a v vs N lay r h Q hP
  refine Met.ofW (cc := M.2.1) (maxL := M.2.2.1) (ret := M.2.2.2.1) hy rfl ?_
  intro p e s m args below meth c s₁ X hml hv
  obtain ⟨rfl, hv, hx⟩ := hv
  obtain ⟨h1, h2⟩ := hcat a v vs N lay r h Q hP
  exact ent X hml hv h1 h2 (body _ a v vs N lay r h Q hP hx ⟨rfl, X.returns, X.notSynchronized⟩)
theorem ConXV.of {M : MtT} {P : Nat → Nat → List Value → Nat → LyT → RfT → HpT → PstV → Prop} (hy : plainName M.1.cls = true) (hcat : ∀ a v vs N lay r h Q, P a v vs N lay r h Q → (vs.all fun v => v.category == 1) = true ∧ vs.length ≤ M.2.2.1)
    (body : ∀ (E : EnT) (a v : Nat) (vs : List Value) (N : Nat) (lay : LyT) (r : RfT) (h : HpT) (Q : PstV), P a v vs N lay r h Q → SxE E a v → RetV E M N Q → St E M 0 (lc0 vs M.2.2.1) [] (0, 0) N lay r h) : ConXV M P := by
  intro la D cA B a v vs N lay r h Q hP
  refine Met.ofW (cc := M.2.1) (maxL := M.2.2.1) (ret := M.2.2.2.1) hy rfl ?_
  intro p e s m args below meth c s₁ X hml hv
  obtain ⟨rfl, hv, hx⟩ := hv
  obtain ⟨h1, h2⟩ := hcat a v vs N lay r h Q hP
  exact ent X hml hv h1 h2 (body _ a v vs N lay r h Q hP hx ⟨rfl, X.returns, X.notSynchronized⟩)
section ROWS
variable {E : EnT} {M : MtT} {pc : Nat} {l : LcT} {st : List Value} {κ : Nat × Nat} {N : Nat} {lay : LyT} {r : RfT} {h : HpT}
theorem xc_VI {M2 : MtT} {P : Nat → Nat → List Value → Nat → LyT → RfT → HpT → PstI → Prop} (hM : ConXI M2 P) {a v : Nat} (hSx : SxE E a v) {idx n : Nat} {As rest : List Value} (lk : LkV M.1.cls idx n M2) (hcl : M2.1.cls = "java/lang/String") (hrm : Rm M M2) (hcap : Cap κ M M2) (d : decode M.2.1 pc = .ok (.invokevirtual idx, 3)) (hst : st = As.reverse ++ .ref a :: rest) (hn9 : As.length = n) (hW9 : (rest.map fun v => v.category).sum ≤ 8)
    (hP9 : P a v (.ref a :: As) N lay r h (fun z N2 lay2 r2 h2 => St E M (pc + 3) l (vI z :: rest) (κ.1 + M2.2.2.2.2.cells, κ.2 + M2.2.2.2.2.slots) N2 lay2 r2 h2)) : St E M pc l st κ N lay r h := by
  obtain ⟨p, la, e, s, m, args, below, meth, c, D, cA, B, Z⟩ := E
  intro O ls H locs hl hn hw
  obtain ⟨hx, hb, hml, hown, hts, hK, hnw, hB, hnm⟩ := id O
  obtain ⟨hP, hz, hly, hR, hNs, hS⟩ := id hw
  have hMt := hM la D cA B a v (.ref a :: As) N lay r h _ hP9
  have hSx : Sx B a v s := hSx
  obtain ⟨k1, k2, k3, k4, k5, k6⟩ := lk
  have hrc : ∃ cell : Cell, H[a]? = some cell ∧ cell.vm.isStatics = false ∧ s.vm.findClass M2.1.cls = some cell.cls := by
    obtain ⟨cell, g1, g2, g3, -⟩ := hSx.2.1.kept hS.2.1
    exact ⟨cell, g1, g2, by rw [hcl]; exact g3⟩
  refine va_calli (va_runV (As := As) (rest := rest) ⟨hx, hb, hml, hown, hts⟩ hMt (cwV n hts (goodLT (fun w hw => by rcases List.mem_append.mp hw with h | h; (simp only [List.mem_cons, List.not_mem_nil, or_false] at h; rcases h with rfl | rfl | rfl | rfl <;> assumption); exact wsM_in k5 w h)) rfl rfl rfl ⟨rfl, k6⟩ hrm) ⟨WoX_blind, hrc, fun U hU hW => ⟨rfl, ⟨by rw [hU]; exact hP, by rw [hU]; exact hz, hly, hR, by have := hS.1; omega, va_K.moved hW.alike hK, nw_warm hW hnw⟩, hSx.tr hW (fun q q1 q2 => by rw [hU]; exact hS.2.1 q q1 q2)⟩⟩ rfl hn9 hl.1 hst (by show 2 * 0 + _ ≤ 8; omega) d hcap) hS (fun q _ h => h) (fun q h => h) (fun x u t H1 locs1 ht hvm hw1 hB1 hz1 hk1 hS1 => ?_)
  obtain ⟨e1, hq, e2⟩ := hw1
  subst e1
  obtain ⟨w1, w2, w3, w4, w5, w6, w7⟩ := hB1
  rw [ht] at w1 w2
  exact hq O ls H1 locs1 hl hn ⟨w1, w2, w3, w4, by show _ = s.heap.size + (κ.1 + M2.2.2.2.2.cells); omega, hS1⟩
theorem xc_SI {M2 : MtT} {P : Nat → Nat → List Value → Nat → LyT → RfT → HpT → PstI → Prop} (hM : ConXI M2 P) {a v : Nat} (hSx : SxE E a v) {idx n : Nat} {As rest : List Value} (lk : LkS M.1.cls idx n M2) (hrm : Rm M M2) (hcap : Cap κ M M2) (d : decode M.2.1 pc = .ok (.invokestatic idx, 3)) (hst : st = As.reverse ++ rest) (hn9 : As.length = n) (hW9 : (rest.map fun v => v.category).sum ≤ 8)
    (hP9 : P a v As N lay r h (fun z N2 lay2 r2 h2 => St E M (pc + 3) l (vI z :: rest) (κ.1 + M2.2.2.2.2.cells, κ.2 + M2.2.2.2.2.slots) N2 lay2 r2 h2)) : St E M pc l st κ N lay r h := by
  obtain ⟨p, la, e, s, m, args, below, meth, c, D, cA, B, Z⟩ := E
  intro O ls H locs hl hn hw
  obtain ⟨hx, hb, hml, hown, hts, hK, hnw, hB, hnm⟩ := id O
  obtain ⟨hP, hz, hly, hR, hNs, hS⟩ := id hw
  have hMt := hM la D cA B a v As N lay r h _ hP9
  have hSx : Sx B a v s := hSx
  obtain ⟨k1, k2, k4, k5, k6⟩ := lk
  refine va_calli (va_runS (As := As) (rest := rest) ⟨hx, hb, hml, hown, hts⟩ hMt (va_cwS n hts (goodLT (fun w hw => by rcases List.mem_append.mp hw with h | h; (simp only [List.mem_cons, List.not_mem_nil, or_false] at h; rcases h with rfl | rfl | rfl <;> assumption); exact wsM_in k5 w h)) rfl rfl rfl k6 hrm) ⟨WoX_blind, fun U hU hW => ⟨rfl, ⟨by rw [hU]; exact hP, by rw [hU]; exact hz, hly, hR, by have := hS.1; omega, va_K.moved hW.alike hK, nw_warm hW hnw⟩, hSx.tr hW (fun q q1 q2 => by rw [hU]; exact hS.2.1 q q1 q2)⟩⟩ rfl hn9 hl.1 hst (by show 2 * 0 + _ ≤ 8; omega) d hcap) hS (fun q _ h => h) (fun q h => h) (fun x u t H1 locs1 ht hvm hw1 hB1 hz1 hk1 hS1 => ?_)
  obtain ⟨e1, hq, e2⟩ := hw1
  subst e1
  obtain ⟨w1, w2, w3, w4, w5, w6, w7⟩ := hB1
  rw [ht] at w1 w2
  exact hq O ls H1 locs1 hl hn ⟨w1, w2, w3, w4, by show _ = s.heap.size + (κ.1 + M2.2.2.2.2.cells); omega, hS1⟩
theorem xc_SV {M2 : MtT} {P : Nat → Nat → List Value → Nat → LyT → RfT → HpT → PstV → Prop} (hM : ConXV M2 P) {a v : Nat} (hSx : SxE E a v) {idx n : Nat} {As rest : List Value} (lk : LkS M.1.cls idx n M2) (hrm : Rm M M2) (hcap : Cap κ M M2) (d : decode M.2.1 pc = .ok (.invokestatic idx, 3)) (hst : st = As.reverse ++ rest) (hn9 : As.length = n) (hW9 : (rest.map fun v => v.category).sum ≤ 8)
    (hP9 : P a v As N lay r h (fun N2 lay2 r2 h2 => St E M (pc + 3) l (rest) (κ.1 + M2.2.2.2.2.cells, κ.2 + M2.2.2.2.2.slots) N2 lay2 r2 h2)) : St E M pc l st κ N lay r h := by
  obtain ⟨p, la, e, s, m, args, below, meth, c, D, cA, B, Z⟩ := E
  intro O ls H locs hl hn hw
  obtain ⟨hx, hb, hml, hown, hts, hK, hnw, hB, hnm⟩ := id O
  obtain ⟨hP, hz, hly, hR, hNs, hS⟩ := id hw
  have hMt := hM la D cA B a v As N lay r h _ hP9
  have hSx : Sx B a v s := hSx
  obtain ⟨k1, k2, k4, k5, k6⟩ := lk
  refine va_callv (va_runS (As := As) (rest := rest) ⟨hx, hb, hml, hown, hts⟩ hMt (va_cwS n hts (goodLT (fun w hw => by rcases List.mem_append.mp hw with h | h; (simp only [List.mem_cons, List.not_mem_nil, or_false] at h; rcases h with rfl | rfl | rfl <;> assumption); exact wsM_in k5 w h)) rfl rfl rfl k6 hrm) ⟨WoX_blind, fun U hU hW => ⟨rfl, ⟨by rw [hU]; exact hP, by rw [hU]; exact hz, hly, hR, by have := hS.1; omega, va_K.moved hW.alike hK, nw_warm hW hnw⟩, hSx.tr hW (fun q q1 q2 => by rw [hU]; exact hS.2.1 q q1 q2)⟩⟩ rfl hn9 hl.1 hst (by show 2 * 0 + _ ≤ 8; omega) d hcap) hS (fun q _ h => h) (fun q h => h) (fun u t H1 locs1 ht hvm hw1 hB1 hz1 hk1 hS1 => ?_)
  obtain ⟨hq, e2⟩ := hw1
  obtain ⟨w1, w2, w3, w4, w5, w6, w7⟩ := hB1
  rw [ht] at w1 w2
  exact hq O ls H1 locs1 hl hn ⟨w1, w2, w3, w4, by show _ = s.heap.size + (κ.1 + M2.2.2.2.2.cells); omega, hS1⟩
theorem xc_IV {M2 : MtT} {P : Nat → Nat → List Value → Nat → LyT → RfT → HpT → PstV → Prop} (hM : ConXV M2 P) {a v : Nat} (hSx : SxE E a v) {idx n b : Nat} {As rest : List Value} (lk : LkI M.1.cls idx n M2) (hrm : Rm M M2) (hcap : Cap κ M M2) (d : decode M.2.1 pc = .ok (.invokespecial idx, 3)) (hst : st = As.reverse ++ .ref b :: rest) (hn9 : As.length = n) (hW9 : (rest.map fun v => v.category).sum ≤ 8)
    (hP9 : P a v (.ref b :: As) N lay r h (fun N2 lay2 r2 h2 => St E M (pc + 3) l (rest) (κ.1 + M2.2.2.2.2.cells, κ.2 + M2.2.2.2.2.slots) N2 lay2 r2 h2)) : St E M pc l st κ N lay r h := by
  obtain ⟨p, la, e, s, m, args, below, meth, c, D, cA, B, Z⟩ := E
  intro O ls H locs hl hn hw
  obtain ⟨hx, hb, hml, hown, hts, hK, hnw, hB, hnm⟩ := id O
  obtain ⟨hP, hz, hly, hR, hNs, hS⟩ := id hw
  have hMt := hM la D cA B a v (.ref b :: As) N lay r h _ hP9
  have hSx : Sx B a v s := hSx
  obtain ⟨k1, k2, k4, k5, k6, k7, k8⟩ := lk
  refine va_callv (va_runI (As := As) (rest := rest) ⟨hx, hb, hml, hown, hts⟩ hMt (cwI n hts (goodLT (wsM_in k5)) (by rw [← k8]; rfl) rfl rfl (hts _ k4) (hts _ k1) (hts _ k2) k7 k6 hrm) ⟨WoX_blind, fun U hU hW => ⟨rfl, ⟨by rw [hU]; exact hP, by rw [hU]; exact hz, hly, hR, by have := hS.1; omega, va_K.moved hW.alike hK, nw_warm hW hnw⟩, hSx.tr hW (fun q q1 q2 => by rw [hU]; exact hS.2.1 q q1 q2)⟩⟩ rfl hn9 hl.1 hst (by show 2 * 0 + _ ≤ 8; omega) d hcap) hS (fun q _ h => h) (fun q h => h) (fun u t H1 locs1 ht hvm hw1 hB1 hz1 hk1 hS1 => ?_)
  obtain ⟨hq, e2⟩ := hw1
  obtain ⟨w1, w2, w3, w4, w5, w6, w7⟩ := hB1
  rw [ht] at w1 w2
  exact hq O ls H1 locs1 hl hn ⟨w1, w2, w3, w4, by show _ = s.heap.size + (κ.1 + M2.2.2.2.2.cells); omega, hS1⟩
theorem r_ldcS {a v : Nat} (hSx : SxE E a v) (hM : M.1.cls = "StrawMap") (d : decode M.2.1 pc = .ok (.ldc 54, 2)) (k : St E M (pc + 2) l (.ref a :: st) κ N lay r h) : St E M pc l st κ N lay r h := by
  obtain ⟨p, la, e, s, m, args, below, meth, c, D, cA, B, Z⟩ := E
  intro O ls H locs hl hn hw
  obtain ⟨hx, hb, hml, hown, hts, hK, hnw, hB, hnm⟩ := id O
  have hSx : Sx B a v s := hSx
  rw [hM] at hown
  exact va_ldcS hx hb hown hSx.1 d (k O ls H locs hl hn hw)
theorem r_gsC {a v : Nat} (hSx : SxE E a v) (hM : M.1.cls = "java/lang/String") (d : decode M.2.1 pc = .ok (.getstatic 38, 3)) (k : St E M (pc + 3) l (vI 1 :: st) κ N lay r h) : St E M pc l st κ N lay r h := by
  obtain ⟨p, la, e, s, m, args, below, meth, c, D, cA, B, Z⟩ := E
  intro O ls H locs hl hn hw
  obtain ⟨hx, hb, hml, hown, hts, hK, hnw, hB, hnm⟩ := id O
  have hSx : Sx B a v s := hSx
  rw [hM] at hown
  exact va_gets hx hb hSx.2.2.2.2.2.1 hw.2.2.2.2.2 hown (hts _ (inT 297 (by decide +kernel) rfl)) (fun _ z => z) d (k O ls H locs hl hn hw)
theorem r_gsF {a v : Nat} (hSx : SxE E a v) (hM : M.1.cls = "java/lang/String") (d : decode M.2.1 pc = .ok (.getstatic 1053, 3)) (k : ∀ o : Option Nat, St E M (pc + 3) l (va_rf o :: st) κ N lay r h) : St E M pc l st κ N lay r h := by
  obtain ⟨p, la, e, s, m, args, below, meth, c, D, cA, B, Z⟩ := E
  intro O ls H locs hl hn hw
  obtain ⟨hx, hb, hml, hown, hts, hK, hnw, hB, hnm⟩ := id O
  have hSx : Sx B a v s := hSx
  rw [hM] at hown
  rcases hSx.2.2.2.2.2.2 with z | ⟨t, z⟩
  · exact va_gets hx hb z hw.2.2.2.2.2 hown (hts _ (inT 313 (by decide +kernel) rfl)) (fun _ y => y) d (k none O ls H locs hl hn hw)
  · exact va_gets hx hb z hw.2.2.2.2.2 hown (hts _ (inT 313 (by decide +kernel) rfl)) (fun _ y => y) d (k (some t) O ls H locs hl hn hw)
theorem r_xcod {a v : Nat} (hSx : SxE E a v) (hM : M.1.cls = "java/lang/String") (d : decode M.2.1 pc = .ok (.getfield 15, 3)) (k : St E M (pc + 3) l (vI 0 :: st) κ N lay r h) : St E M pc l (.ref a :: st) κ N lay r h := by
  obtain ⟨p, la, e, s, m, args, below, meth, c, D, cA, B, Z⟩ := E
  intro O ls H locs hl hn hw
  obtain ⟨hx, hb, hml, hown, hts, hK, hnw, hB, hnm⟩ := id O
  have hSx : Sx B a v s := hSx
  rw [hM] at hown
  exact vk_getf hx hb hSx.2.2.1 hw.2.2.2.2.2 hown (hts _ (inT 1373 (by decide +kernel) rfl)) (fun _ z => z) d (k O ls H locs hl hn hw)
theorem r_xval {a v : Nat} (hSx : SxE E a v) (hM : M.1.cls = "java/lang/String") (d : decode M.2.1 pc = .ok (.getfield 9, 3)) (k : St E M (pc + 3) l (.ref v :: st) κ N lay r h) : St E M pc l (.ref a :: st) κ N lay r h := by
  obtain ⟨p, la, e, s, m, args, below, meth, c, D, cA, B, Z⟩ := E
  intro O ls H locs hl hn hw
  obtain ⟨hx, hb, hml, hown, hts, hK, hnw, hB, hnm⟩ := id O
  have hSx : Sx B a v s := hSx
  rw [hM] at hown
  exact vk_getf hx hb hSx.2.2.2.1 hw.2.2.2.2.2 hown (hts _ (inT 1372 (by decide +kernel) rfl)) (fun _ z => z) d (k O ls H locs hl hn hw)
theorem r_xlen {a v : Nat} (hSx : SxE E a v) (d : decode M.2.1 pc = .ok (.arraylength, 1)) (k : St E M (pc + 1) l (vI 72 :: st) κ N lay r h) : St E M pc l (.ref v :: st) κ N lay r h := by
  obtain ⟨p, la, e, s, m, args, below, meth, c, D, cA, B, Z⟩ := E
  intro O ls H locs hl hn hw
  have hSx : Sx B a v s := hSx
  exact va_tlen O.1 O.2.1 hSx.2.2.2.2.1 hw.2.2.2.2.2 (v := Int32.ofInt 72) rfl d (k O ls H locs hl hn hw)
theorem r_xbld {a v : Nat} {z : Int} (hSx : SxE E a v) (d : decode M.2.1 pc = .ok (.baload, 1)) (hi : 0 ≤ z ∧ z < 72) (k : St E M (pc + 1) l (vI (txc z) :: st) κ N lay r h) : St E M pc l (vI z :: .ref v :: st) κ N lay r h := by
  obtain ⟨p, la, e, s, m, args, below, meth, c, D, cA, B, Z⟩ := E
  intro O ls H locs hl hn hw
  have hSx : Sx B a v s := hSx
  refine va_tb O.1 O.2.1 hSx.2.2.2.2.1 hw.2.2.2.2.2 (vp_in_z (n := 72) hi (by omega)) (v := vI (txc z)) ?_ d (k O ls H locs hl hn hw)
  rw [i32_clamp (by omega)]
  show Value.int _ = vI _
  unfold vI txc
  rw [Int32.ofInt_toInt]
end ROWS
def RJ0 : String := "java/lang/String"
def RJ1 : String := "java/lang/StringLatin1"
def RJ3 : String := "jdk/internal/util/Preconditions"
abbrev cJ0_length_8abf5 : ByteArray := prog_13_method_54_code
def yJ0_length_8abf5 : MethodName := ⟨RJ0, "length", "()I"⟩
abbrev cJ0_charAt_5068e : ByteArray := prog_13_method_56_code
def yJ0_charAt_5068e : MethodName := ⟨RJ0, "charAt", "(I)C"⟩
abbrev cJ0_coder_7d493 : ByteArray := prog_13_method_152_code
def yJ0_coder_7d493 : MethodName := ⟨RJ0, "coder", "()B"⟩
abbrev cJ0_isLatin1_aae02 : ByteArray := prog_13_method_154_code
def yJ0_isLatin1_aae02 : MethodName := ⟨RJ0, "isLatin1", "()Z"⟩
abbrev cJ0_checkIndex_df160 : ByteArray := prog_13_method_155_code
def yJ0_checkIndex_df160 : MethodName := ⟨RJ0, "checkIndex", "(II)V"⟩
abbrev cJ1_charAt_3b067 : ByteArray := prog_14_method_2_code
def yJ1_charAt_3b067 : MethodName := ⟨RJ1, "charAt", "([BI)C"⟩
abbrev cJ3_checkIndex_8e157 : ByteArray := prog_17_method_11_code
def yJ3_checkIndex_8e157 : MethodName := ⟨RJ3, "checkIndex", "(IILjava/util/function/BiFunction;)I"⟩
def mJ3_checkIndex_8e157 : MtT := (yJ3_checkIndex_8e157, cJ3_checkIndex_8e157, 3, (some .int), { frames := 0, cells := 0, slots := 0, locals := 0 })
def mJ0_checkIndex_df160 : MtT := (yJ0_checkIndex_df160, cJ0_checkIndex_df160, 2, none, { frames := 1, cells := 0, slots := 0, locals := 22 })
def mJ1_charAt_3b067 : MtT := (yJ1_charAt_3b067, cJ1_charAt_3b067, 2, (some .char), { frames := 2, cells := 0, slots := 0, locals := 43 })
def mJ0_charAt_5068e : MtT := (yJ0_charAt_5068e, cJ0_charAt_5068e, 2, (some .char), { frames := 3, cells := 0, slots := 0, locals := 64 })
def mJ0_coder_7d493 : MtT := (yJ0_coder_7d493, cJ0_coder_7d493, 1, (some .byte), { frames := 0, cells := 0, slots := 0, locals := 0 })
def mJ0_length_8abf5 : MtT := (yJ0_length_8abf5, cJ0_length_8abf5, 1, (some .int), { frames := 1, cells := 0, slots := 0, locals := 20 })
def mJ0_isLatin1_aae02 : MtT := (yJ0_isLatin1_aae02, cJ0_isLatin1_aae02, 1, (some .boolean), { frames := 0, cells := 0, slots := 0, locals := 0 })
theorem lx_len : LkV "StrawMap" 56 0 mJ0_length_8abf5 := ⟨(inT 289 (by decide +kernel) rfl), (inT 290 (by decide +kernel) rfl), (inT 291 (by decide +kernel) rfl), (inT 76 (by decide +kernel) rfl), (inT 292 (by decide +kernel) rfl), ⟨by decide, by decide, by decide +kernel⟩⟩
theorem lx_chr : LkV "StrawMap" 62 1 mJ0_charAt_5068e := ⟨(inT 299 (by decide +kernel) rfl), (inT 300 (by decide +kernel) rfl), (inT 301 (by decide +kernel) rfl), (inT 76 (by decide +kernel) rfl), (inT 302 (by decide +kernel) rfl), ⟨by decide, by decide, by decide +kernel⟩⟩
theorem lx_cod : LkV "java/lang/String" 335 0 mJ0_coder_7d493 := ⟨(inT 293 (by decide +kernel) rfl), (inT 294 (by decide +kernel) rfl), (inT 295 (by decide +kernel) rfl), (inT 76 (by decide +kernel) rfl), (inT 296 (by decide +kernel) rfl), ⟨by decide, by decide, by decide +kernel⟩⟩
theorem lx_lat : LkV "java/lang/String" 492 0 mJ0_isLatin1_aae02 := ⟨(inT 303 (by decide +kernel) rfl), (inT 304 (by decide +kernel) rfl), (inT 305 (by decide +kernel) rfl), (inT 76 (by decide +kernel) rfl), (inT 306 (by decide +kernel) rfl), ⟨by decide, by decide, by decide +kernel⟩⟩
theorem lx_chL : LkS "java/lang/String" 495 2 mJ1_charAt_3b067 := ⟨(inT 307 (by decide +kernel) rfl), (inT 308 (by decide +kernel) rfl), (inT 77 (by decide +kernel) rfl), (inT 309 (by decide +kernel) rfl), ⟨by decide, by decide, by decide +kernel⟩⟩
theorem lx_chk : LkS "java/lang/StringLatin1" 9 2 mJ0_checkIndex_df160 := ⟨(inT 310 (by decide +kernel) rfl), (inT 311 (by decide +kernel) rfl), (inT 76 (by decide +kernel) rfl), (inT 312 (by decide +kernel) rfl), ⟨by decide, by decide, by decide +kernel⟩⟩
theorem lx_pre : LkS "java/lang/String" 1059 3 mJ3_checkIndex_8e157 := ⟨(inT 315 (by decide +kernel) rfl), (inT 316 (by decide +kernel) rfl), (inT 78 (by decide +kernel) rfl), (inT 317 (by decide +kernel) rfl), ⟨by decide, by decide, by decide +kernel⟩⟩
theorem dJ3_checkIndex_8e157_0 : decode cJ3_checkIndex_8e157 0 = .ok (.iload_n 0, 1) := by decide +kernel
theorem dJ3_checkIndex_8e157_1 : decode cJ3_checkIndex_8e157 1 = .ok (.ifCond .lt 8, 3) := by decide +kernel
theorem dJ3_checkIndex_8e157_4 : decode cJ3_checkIndex_8e157 4 = .ok (.iload_n 0, 1) := by decide +kernel
theorem dJ3_checkIndex_8e157_5 : decode cJ3_checkIndex_8e157 5 = .ok (.iload_n 1, 1) := by decide +kernel
theorem dJ3_checkIndex_8e157_6 : decode cJ3_checkIndex_8e157 6 = .ok (.if_icmp .lt 10, 3) := by decide +kernel
theorem dJ3_checkIndex_8e157_9 : decode cJ3_checkIndex_8e157 9 = .ok (.aload_n 2, 1) := by decide +kernel
theorem dJ3_checkIndex_8e157_10 : decode cJ3_checkIndex_8e157 10 = .ok (.iload_n 0, 1) := by decide +kernel
theorem dJ3_checkIndex_8e157_11 : decode cJ3_checkIndex_8e157 11 = .ok (.iload_n 1, 1) := by decide +kernel
theorem dJ3_checkIndex_8e157_12 : decode cJ3_checkIndex_8e157 12 = .ok (.invokestatic 95, 3) := by decide +kernel
theorem dJ3_checkIndex_8e157_15 : decode cJ3_checkIndex_8e157 15 = .ok (.athrow, 1) := by decide +kernel
theorem dJ3_checkIndex_8e157_16 : decode cJ3_checkIndex_8e157 16 = .ok (.iload_n 0, 1) := by decide +kernel
theorem dJ3_checkIndex_8e157_17 : decode cJ3_checkIndex_8e157 17 = .ok (.ireturn, 1) := by decide +kernel
theorem x_J3_checkIndex_8e157 : ConI mJ3_checkIndex_8e157 (fun args N lay r h Q => ∃ (i n : Int) (o : Option Nat), args = [vI i, vI n, va_rf o] ∧ (0 ≤ i ∧ i < n) ∧ n < 2147483648 ∧ Q i N lay r h) := by
  refine ConI.of (by decide) (by rintro _ N lay r h Q ⟨i, n, o, rfl, hi, hn, hQ⟩; cases o <;> exact ⟨rfl, Nat.le_of_ble_eq_true rfl⟩) ?_
  rintro E _ N lay r h Q ⟨i, n, o, rfl, hi, hn, hQ⟩ hret
  show St E mJ3_checkIndex_8e157 0 [some (vI i), some (vI n), some (va_rf o)] [] (0, 0) N lay r h
  refine r_iload_0 (pc := 0) dJ3_checkIndex_8e157_0 ?_
  refine r_if_lt (pc := 1) (tgt := 9) dJ3_checkIndex_8e157_1 (by decide) (by omega) (fun z => by omega) (fun z => ?_)
  refine r_iload_0 (pc := 4) dJ3_checkIndex_8e157_4 ?_
  refine r_iload_1 (pc := 5) dJ3_checkIndex_8e157_5 ?_
  refine r_icmp_lt (pc := 6) (tgt := 16) dJ3_checkIndex_8e157_6 (by decide) (by omega) (by omega) (fun z => ?_) (fun z => by omega)
  refine r_iload_0 (pc := 16) dJ3_checkIndex_8e157_16 ?_
  refine r_iret (pc := 17) hret dJ3_checkIndex_8e157_17 rfl rfl rfl ?_
  exact hQ
theorem dJ0_checkIndex_df160_0 : decode cJ0_checkIndex_df160 0 = .ok (.iload_n 0, 1) := by decide +kernel
theorem dJ0_checkIndex_df160_1 : decode cJ0_checkIndex_df160 1 = .ok (.iload_n 1, 1) := by decide +kernel
theorem dJ0_checkIndex_df160_2 : decode cJ0_checkIndex_df160 2 = .ok (.getstatic 1053, 3) := by decide +kernel
theorem dJ0_checkIndex_df160_5 : decode cJ0_checkIndex_df160 5 = .ok (.invokestatic 1059, 3) := by decide +kernel
theorem dJ0_checkIndex_df160_8 : decode cJ0_checkIndex_df160 8 = .ok (.pop, 1) := by decide +kernel
theorem dJ0_checkIndex_df160_9 : decode cJ0_checkIndex_df160 9 = .ok (.return_, 1) := by decide +kernel
theorem x_J0_checkIndex_df160 : ConXV mJ0_checkIndex_df160 (fun a v args N lay r h Q => ∃ (i n : Int), args = [vI i, vI n] ∧ (0 ≤ i ∧ i < n) ∧ n < 2147483648 ∧ Q N lay r h) := by
  refine ConXV.of (by decide) (by rintro a v _ N lay r h Q ⟨i, n, rfl, hi, hn, hQ⟩; exact ⟨rfl, Nat.le_of_ble_eq_true rfl⟩) ?_
  rintro E a v _ N lay r h Q ⟨i, n, rfl, hi, hn, hQ⟩ hSx hret
  show St E mJ0_checkIndex_df160 0 [some (vI i), some (vI n)] [] (0, 0) N lay r h
  refine r_iload_0 (pc := 0) dJ0_checkIndex_df160_0 ?_
  refine r_iload_1 (pc := 1) dJ0_checkIndex_df160_1 ?_
  refine r_gsF (pc := 2) hSx rfl dJ0_checkIndex_df160_2 (fun o => ?_)
  refine rc_SI (pc := 5) x_J3_checkIndex_8e157 (As := [vI i, vI n, va_rf o]) (rest := []) lx_pre ⟨(Nat.le_of_ble_eq_true rfl), (Nat.le_of_ble_eq_true rfl)⟩ ⟨(Nat.le_of_ble_eq_true rfl), (Nat.le_of_ble_eq_true rfl)⟩ dJ0_checkIndex_df160_5 rfl rfl (Nat.le_of_ble_eq_true rfl) ?_
  refine ⟨_, _, _, rfl, by omega, by omega, ?_⟩
  refine r_popI (pc := 8) dJ0_checkIndex_df160_8 ?_
  refine r_ret (pc := 9) hret dJ0_checkIndex_df160_9 rfl rfl rfl ?_
  exact hQ
theorem nar_c {x : Int} (h : 0 ≤ x ∧ x < 65536) : narrow .char (vI x) = vI x := by
  show Value.int _ = Value.int _
  congr 1
  rw [← Int32.toInt_inj, i32_toInt (by omega)]
  refine (t32 (n := x.toNat) ?_ (by omega)).trans (by omega)
  show ((Int32.ofInt x).toUInt32.toUInt16.toUInt32).toNat = x.toNat
  rw [UInt16.toNat_toUInt32, UInt32.toNat_toUInt16]
  have e1 : (Int32.ofInt x).toUInt32.toNat = x.toNat := b32 (x := x) (by omega)
  rw [e1]
  exact Nat.mod_eq_of_lt (show x.toNat < 65536 by omega)
theorem dJ1_charAt_3b067_0 : decode cJ1_charAt_3b067 0 = .ok (.iload_n 1, 1) := by decide +kernel
theorem dJ1_charAt_3b067_1 : decode cJ1_charAt_3b067 1 = .ok (.aload_n 0, 1) := by decide +kernel
theorem dJ1_charAt_3b067_2 : decode cJ1_charAt_3b067 2 = .ok (.arraylength, 1) := by decide +kernel
theorem dJ1_charAt_3b067_3 : decode cJ1_charAt_3b067 3 = .ok (.invokestatic 9, 3) := by decide +kernel
theorem dJ1_charAt_3b067_6 : decode cJ1_charAt_3b067 6 = .ok (.aload_n 0, 1) := by decide +kernel
theorem dJ1_charAt_3b067_7 : decode cJ1_charAt_3b067 7 = .ok (.iload_n 1, 1) := by decide +kernel
theorem dJ1_charAt_3b067_8 : decode cJ1_charAt_3b067 8 = .ok (.baload, 1) := by decide +kernel
theorem dJ1_charAt_3b067_9 : decode cJ1_charAt_3b067 9 = .ok (.sipush 255, 3) := by decide +kernel
theorem dJ1_charAt_3b067_12 : decode cJ1_charAt_3b067 12 = .ok (.iand, 1) := by decide +kernel
theorem dJ1_charAt_3b067_13 : decode cJ1_charAt_3b067 13 = .ok (.i2c, 1) := by decide +kernel
theorem dJ1_charAt_3b067_14 : decode cJ1_charAt_3b067 14 = .ok (.ireturn, 1) := by decide +kernel
theorem x_J1_charAt_3b067 : ConXI mJ1_charAt_3b067 (fun a v args N lay r h Q => ∃ (i : Int), args = [.ref v, vI i] ∧ (0 ≤ i ∧ i < 72) ∧ Q (txc i) N lay r h) := by
  refine ConXI.of (by decide) (by rintro a v _ N lay r h Q ⟨i, rfl, hi, hQ⟩; exact ⟨rfl, Nat.le_of_ble_eq_true rfl⟩) ?_
  rintro E a v _ N lay r h Q ⟨i, rfl, hi, hQ⟩ hSx hret
  show St E mJ1_charAt_3b067 0 [some (.ref v), some (vI i)] [] (0, 0) N lay r h
  have hk := txc_ok i.toNat (by omega)
  rw [show ((i.toNat : Nat) : Int) = i by omega] at hk
  refine r_iload_1 (pc := 0) dJ1_charAt_3b067_0 ?_
  refine r_aload_0 (pc := 1) dJ1_charAt_3b067_1 ?_
  refine r_xlen (pc := 2) hSx dJ1_charAt_3b067_2 ?_
  refine xc_SV (pc := 3) x_J0_checkIndex_df160 hSx (As := [vI i, vI 72]) (rest := []) lx_chk ⟨(Nat.le_of_ble_eq_true rfl), (Nat.le_of_ble_eq_true rfl)⟩ ⟨(Nat.le_of_ble_eq_true rfl), (Nat.le_of_ble_eq_true rfl)⟩ dJ1_charAt_3b067_3 rfl rfl (Nat.le_of_ble_eq_true rfl) ?_
  refine ⟨_, _, rfl, by omega, by omega, ?_⟩
  refine r_aload_0 (pc := 6) dJ1_charAt_3b067_6 ?_
  refine r_iload_1 (pc := 7) dJ1_charAt_3b067_7 ?_
  refine r_xbld (pc := 8) hSx dJ1_charAt_3b067_8 hi ?_
  refine r_sipush (pc := 9) dJ1_charAt_3b067_9 (by decide) ?_
  refine r_iand (pc := 12) dJ1_charAt_3b067_12 (fun i_12 => ?_)
  rw [hk.1]
  refine r_i2c (pc := 13) dJ1_charAt_3b067_13 (by omega) ?_
  refine rg_ret (pc := 14) hret (ty := .char) rfl (nar_c (by omega)) dJ1_charAt_3b067_14 rfl rfl ?_
  exact hQ
theorem dJ0_isLatin1_aae02_0 : decode cJ0_isLatin1_aae02 0 = .ok (.getstatic 38, 3) := by decide +kernel
theorem dJ0_isLatin1_aae02_3 : decode cJ0_isLatin1_aae02 3 = .ok (.ifCond .eq 14, 3) := by decide +kernel
theorem dJ0_isLatin1_aae02_6 : decode cJ0_isLatin1_aae02 6 = .ok (.aload_n 0, 1) := by decide +kernel
theorem dJ0_isLatin1_aae02_7 : decode cJ0_isLatin1_aae02 7 = .ok (.getfield 15, 3) := by decide +kernel
theorem dJ0_isLatin1_aae02_10 : decode cJ0_isLatin1_aae02 10 = .ok (.ifCond .ne 7, 3) := by decide +kernel
theorem dJ0_isLatin1_aae02_13 : decode cJ0_isLatin1_aae02 13 = .ok (.iconst 1, 1) := by decide +kernel
theorem dJ0_isLatin1_aae02_14 : decode cJ0_isLatin1_aae02 14 = .ok (.goto 4, 3) := by decide +kernel
theorem dJ0_isLatin1_aae02_17 : decode cJ0_isLatin1_aae02 17 = .ok (.iconst 0, 1) := by decide +kernel
theorem dJ0_isLatin1_aae02_18 : decode cJ0_isLatin1_aae02 18 = .ok (.ireturn, 1) := by decide +kernel
theorem x_J0_isLatin1_aae02 : ConXI mJ0_isLatin1_aae02 (fun a v args N lay r h Q => args = [.ref a] ∧ Q 1 N lay r h) := by
  refine ConXI.of (by decide) (by rintro a v _ N lay r h Q ⟨rfl, hQ⟩; exact ⟨rfl, Nat.le_of_ble_eq_true rfl⟩) ?_
  rintro E a v _ N lay r h Q ⟨rfl, hQ⟩ hSx hret
  show St E mJ0_isLatin1_aae02 0 [some (.ref a)] [] (0, 0) N lay r h
  refine r_gsC (pc := 0) hSx rfl dJ0_isLatin1_aae02_0 ?_
  refine r_ifeq_F (pc := 3) (tgt := 17) dJ0_isLatin1_aae02_3 (by decide) (by decide) ?_
  refine r_aload_0 (pc := 6) dJ0_isLatin1_aae02_6 ?_
  refine r_xcod (pc := 7) hSx rfl dJ0_isLatin1_aae02_7 ?_
  refine r_ifne_F (pc := 10) (tgt := 17) dJ0_isLatin1_aae02_10 (by decide) rfl ?_
  refine r_iconst (pc := 13) dJ0_isLatin1_aae02_13 ?_
  refine r_goto (pc := 14) (tgt := 18) dJ0_isLatin1_aae02_14 (by decide) ?_
  refine r_zret (pc := 18) hret dJ0_isLatin1_aae02_18 rfl rfl rfl (Or.inr rfl) ?_
  exact hQ
theorem dJ0_coder_7d493_0 : decode cJ0_coder_7d493 0 = .ok (.getstatic 38, 3) := by decide +kernel
theorem dJ0_coder_7d493_3 : decode cJ0_coder_7d493 3 = .ok (.ifCond .eq 10, 3) := by decide +kernel
theorem dJ0_coder_7d493_6 : decode cJ0_coder_7d493 6 = .ok (.aload_n 0, 1) := by decide +kernel
theorem dJ0_coder_7d493_7 : decode cJ0_coder_7d493 7 = .ok (.getfield 15, 3) := by decide +kernel
theorem dJ0_coder_7d493_10 : decode cJ0_coder_7d493 10 = .ok (.goto 4, 3) := by decide +kernel
theorem dJ0_coder_7d493_13 : decode cJ0_coder_7d493 13 = .ok (.iconst 1, 1) := by decide +kernel
theorem dJ0_coder_7d493_14 : decode cJ0_coder_7d493 14 = .ok (.ireturn, 1) := by decide +kernel
theorem x_J0_coder_7d493 : ConXI mJ0_coder_7d493 (fun a v args N lay r h Q => args = [.ref a] ∧ Q 0 N lay r h) := by
  refine ConXI.of (by decide) (by rintro a v _ N lay r h Q ⟨rfl, hQ⟩; exact ⟨rfl, Nat.le_of_ble_eq_true rfl⟩) ?_
  rintro E a v _ N lay r h Q ⟨rfl, hQ⟩ hSx hret
  show St E mJ0_coder_7d493 0 [some (.ref a)] [] (0, 0) N lay r h
  refine r_gsC (pc := 0) hSx rfl dJ0_coder_7d493_0 ?_
  refine r_ifeq_F (pc := 3) (tgt := 13) dJ0_coder_7d493_3 (by decide) (by decide) ?_
  refine r_aload_0 (pc := 6) dJ0_coder_7d493_6 ?_
  refine r_xcod (pc := 7) hSx rfl dJ0_coder_7d493_7 ?_
  refine r_goto (pc := 10) (tgt := 14) dJ0_coder_7d493_10 (by decide) ?_
  refine rg_ret (pc := 14) hret (ty := .byte) rfl rfl dJ0_coder_7d493_14 rfl rfl ?_
  exact hQ
theorem dJ0_length_8abf5_0 : decode cJ0_length_8abf5 0 = .ok (.aload_n 0, 1) := by decide +kernel
theorem dJ0_length_8abf5_1 : decode cJ0_length_8abf5 1 = .ok (.getfield 9, 3) := by decide +kernel
theorem dJ0_length_8abf5_4 : decode cJ0_length_8abf5 4 = .ok (.arraylength, 1) := by decide +kernel
theorem dJ0_length_8abf5_5 : decode cJ0_length_8abf5 5 = .ok (.aload_n 0, 1) := by decide +kernel
theorem dJ0_length_8abf5_6 : decode cJ0_length_8abf5 6 = .ok (.invokevirtual 335, 3) := by decide +kernel
theorem dJ0_length_8abf5_9 : decode cJ0_length_8abf5 9 = .ok (.ishr, 1) := by decide +kernel
theorem dJ0_length_8abf5_10 : decode cJ0_length_8abf5 10 = .ok (.ireturn, 1) := by decide +kernel
theorem x_J0_length_8abf5 : ConXI mJ0_length_8abf5 (fun a v args N lay r h Q => args = [.ref a] ∧ Q 72 N lay r h) := by
  refine ConXI.of (by decide) (by rintro a v _ N lay r h Q ⟨rfl, hQ⟩; exact ⟨rfl, Nat.le_of_ble_eq_true rfl⟩) ?_
  rintro E a v _ N lay r h Q ⟨rfl, hQ⟩ hSx hret
  show St E mJ0_length_8abf5 0 [some (.ref a)] [] (0, 0) N lay r h
  refine r_aload_0 (pc := 0) dJ0_length_8abf5_0 ?_
  refine r_xval (pc := 1) hSx rfl dJ0_length_8abf5_1 ?_
  refine r_xlen (pc := 4) hSx dJ0_length_8abf5_4 ?_
  refine r_aload_0 (pc := 5) dJ0_length_8abf5_5 ?_
  refine xc_VI (pc := 6) x_J0_coder_7d493 hSx (As := []) (rest := [vI 72]) lx_cod rfl ⟨(Nat.le_of_ble_eq_true rfl), (Nat.le_of_ble_eq_true rfl)⟩ ⟨(Nat.le_of_ble_eq_true rfl), (Nat.le_of_ble_eq_true rfl)⟩ dJ0_length_8abf5_6 rfl rfl (Nat.le_of_ble_eq_true rfl) ?_
  refine ⟨rfl, ?_⟩
  refine r_ishr (pc := 9) dJ0_length_8abf5_9 (fun i_9 => ?_)
  rw [show iSr 72 0 = 72 by decide +kernel]
  refine r_iret (pc := 10) hret dJ0_length_8abf5_10 rfl rfl rfl ?_
  exact hQ
theorem dJ0_charAt_5068e_0 : decode cJ0_charAt_5068e 0 = .ok (.aload_n 0, 1) := by decide +kernel
theorem dJ0_charAt_5068e_1 : decode cJ0_charAt_5068e 1 = .ok (.invokevirtual 492, 3) := by decide +kernel
theorem dJ0_charAt_5068e_4 : decode cJ0_charAt_5068e 4 = .ok (.ifCond .eq 12, 3) := by decide +kernel
theorem dJ0_charAt_5068e_7 : decode cJ0_charAt_5068e 7 = .ok (.aload_n 0, 1) := by decide +kernel
theorem dJ0_charAt_5068e_8 : decode cJ0_charAt_5068e 8 = .ok (.getfield 9, 3) := by decide +kernel
theorem dJ0_charAt_5068e_11 : decode cJ0_charAt_5068e 11 = .ok (.iload_n 1, 1) := by decide +kernel
theorem dJ0_charAt_5068e_12 : decode cJ0_charAt_5068e 12 = .ok (.invokestatic 495, 3) := by decide +kernel
theorem dJ0_charAt_5068e_15 : decode cJ0_charAt_5068e 15 = .ok (.ireturn, 1) := by decide +kernel
theorem dJ0_charAt_5068e_16 : decode cJ0_charAt_5068e 16 = .ok (.aload_n 0, 1) := by decide +kernel
theorem dJ0_charAt_5068e_17 : decode cJ0_charAt_5068e 17 = .ok (.getfield 9, 3) := by decide +kernel
theorem dJ0_charAt_5068e_20 : decode cJ0_charAt_5068e 20 = .ok (.iload_n 1, 1) := by decide +kernel
theorem dJ0_charAt_5068e_21 : decode cJ0_charAt_5068e 21 = .ok (.invokestatic 498, 3) := by decide +kernel
theorem dJ0_charAt_5068e_24 : decode cJ0_charAt_5068e 24 = .ok (.ireturn, 1) := by decide +kernel
theorem x_J0_charAt_5068e : ConXI mJ0_charAt_5068e (fun a v args N lay r h Q => ∃ (i : Int), args = [.ref a, vI i] ∧ (0 ≤ i ∧ i < 72) ∧ Q (txc i) N lay r h) := by
  refine ConXI.of (by decide) (by rintro a v _ N lay r h Q ⟨i, rfl, hi, hQ⟩; exact ⟨rfl, Nat.le_of_ble_eq_true rfl⟩) ?_
  rintro E a v _ N lay r h Q ⟨i, rfl, hi, hQ⟩ hSx hret
  show St E mJ0_charAt_5068e 0 [some (.ref a), some (vI i)] [] (0, 0) N lay r h
  have hk := txc_ok i.toNat (by omega)
  rw [show ((i.toNat : Nat) : Int) = i by omega] at hk
  refine r_aload_0 (pc := 0) dJ0_charAt_5068e_0 ?_
  refine xc_VI (pc := 1) x_J0_isLatin1_aae02 hSx (As := []) (rest := []) lx_lat rfl ⟨(Nat.le_of_ble_eq_true rfl), (Nat.le_of_ble_eq_true rfl)⟩ ⟨(Nat.le_of_ble_eq_true rfl), (Nat.le_of_ble_eq_true rfl)⟩ dJ0_charAt_5068e_1 rfl rfl (Nat.le_of_ble_eq_true rfl) ?_
  refine ⟨rfl, ?_⟩
  refine r_ifeq_F (pc := 4) (tgt := 16) dJ0_charAt_5068e_4 (by decide) (by decide) ?_
  refine r_aload_0 (pc := 7) dJ0_charAt_5068e_7 ?_
  refine r_xval (pc := 8) hSx rfl dJ0_charAt_5068e_8 ?_
  refine r_iload_1 (pc := 11) dJ0_charAt_5068e_11 ?_
  refine xc_SI (pc := 12) x_J1_charAt_3b067 hSx (As := [.ref v, vI i]) (rest := []) lx_chL ⟨(Nat.le_of_ble_eq_true rfl), (Nat.le_of_ble_eq_true rfl)⟩ ⟨(Nat.le_of_ble_eq_true rfl), (Nat.le_of_ble_eq_true rfl)⟩ dJ0_charAt_5068e_12 rfl rfl (Nat.le_of_ble_eq_true rfl) ?_
  refine ⟨_, rfl, hi, ?_⟩
  refine rg_ret (pc := 15) hret (ty := .char) rfl (nar_c (by omega)) dJ0_charAt_5068e_15 rfl rfl ?_
  exact hQ
