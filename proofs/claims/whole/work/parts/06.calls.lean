/-! CONTRACTS AND CALLS -/
abbrev WdT : Type := Nat × LyT × RfT × HpT
abbrev PstI : Type := Int → Nat → LyT → RfT → HpT → Prop
abbrev PstV : Type := Nat → LyT → RfT → HpT → Prop
abbrev PstQ : Type := Option Nat → Nat → LyT → RfT → HpT → Prop
def wsM (M : MtT) : List Cond := .code M.1 M.2.1 M.2.2.1 M.2.2.2.1 :: lwT
def QcI (D : va_G) (cA : Nat → ClassId) (B N0 mc : Nat) (Q : PstI) : Array Value → State → Outcome → State → Prop :=
  va_Qi (S := Int × WdT) (fun x u => x = Int32.ofInt u.1 ∧ Q u.1 u.2.1 u.2.2.1 u.2.2.2.1 u.2.2.2.2 ∧ u.2.1 = N0 + mc) (fun u t => Wo D cA B u.2.1 u.2.2.1 u.2.2.2.1 u.2.2.2.2 t) (fun q => B ≤ q)
def QcV (D : va_G) (cA : Nat → ClassId) (B N0 mc : Nat) (Q : PstV) : Array Value → State → Outcome → State → Prop :=
  va_Qv (S := WdT) (fun u => Q u.1 u.2.1 u.2.2.1 u.2.2.2 ∧ u.1 = N0 + mc) (fun u t => Wo D cA B u.1 u.2.1 u.2.2.1 u.2.2.2 t) (fun q => B ≤ q)
def QcQ (D : va_G) (cA : Nat → ClassId) (B N0 mc : Nat) (Q : PstQ) : Array Value → State → Outcome → State → Prop :=
  va_Qq (S := WdT) (fun x u => Q x u.1 u.2.1 u.2.2.1 u.2.2.2 ∧ u.1 = N0 + mc) (fun u t => Wo D cA B u.1 u.2.1 u.2.2.1 u.2.2.2 t) (fun q => B ≤ q)
def ConI (M : MtT) (P : List Value → Nat → LyT → RfT → HpT → PstI → Prop) : Prop := ∀ (la : Launch) (D : va_G) (cA : Nat → ClassId) (B : Nat) (args : List Value) (N : Nat) (lay : LyT) (r : RfT) (h : HpT) (Q : PstI), P args N lay r h Q →
  Met la M.1 (wsM M) M.2.2.2.2 (va_Pc args (Wo D cA B N lay r h)) (QcI D cA B N M.2.2.2.2.cells Q) M.2.2.2.2.cells M.2.2.2.2.slots (fun q => B ≤ q)
def ConV (M : MtT) (P : List Value → Nat → LyT → RfT → HpT → PstV → Prop) : Prop := ∀ (la : Launch) (D : va_G) (cA : Nat → ClassId) (B : Nat) (args : List Value) (N : Nat) (lay : LyT) (r : RfT) (h : HpT) (Q : PstV), P args N lay r h Q →
  Met la M.1 (wsM M) M.2.2.2.2 (va_Pc args (Wo D cA B N lay r h)) (QcV D cA B N M.2.2.2.2.cells Q) M.2.2.2.2.cells M.2.2.2.2.slots (fun q => B ≤ q)
def ConQ (M : MtT) (P : List Value → Nat → LyT → RfT → HpT → PstQ → Prop) : Prop := ∀ (la : Launch) (D : va_G) (cA : Nat → ClassId) (B : Nat) (args : List Value) (N : Nat) (lay : LyT) (r : RfT) (h : HpT) (Q : PstQ), P args N lay r h Q →
  Met la M.1 (wsM M) M.2.2.2.2 (va_Pc args (Wo D cA B N lay r h)) (QcQ D cA B N M.2.2.2.2.cells Q) M.2.2.2.2.cells M.2.2.2.2.slots (fun q => B ≤ q)
def RetI (E : EnT) (M : MtT) (N0 : Nat) (Q : PstI) : Prop := match E with
  | (p, l, e, s, m, args, below, meth, c, D, cA, B, Z) => Z = MQ below (QcI D cA B N0 M.2.2.2.2.cells Q) args s M.2.2.2.2.cells M.2.2.2.2.slots (fun q => B ≤ q) ∧ meth.sig.returnType = M.2.2.2.1 ∧ meth.locks = false
def RetV (E : EnT) (M : MtT) (N0 : Nat) (Q : PstV) : Prop := match E with
  | (p, l, e, s, m, args, below, meth, c, D, cA, B, Z) => Z = MQ below (QcV D cA B N0 M.2.2.2.2.cells Q) args s M.2.2.2.2.cells M.2.2.2.2.slots (fun q => B ≤ q) ∧ meth.sig.returnType = M.2.2.2.1 ∧ meth.locks = false
def RetQ (E : EnT) (M : MtT) (N0 : Nat) (Q : PstQ) : Prop := match E with
  | (p, l, e, s, m, args, below, meth, c, D, cA, B, Z) => Z = MQ below (QcQ D cA B N0 M.2.2.2.2.cells Q) args s M.2.2.2.2.cells M.2.2.2.2.slots (fun q => B ≤ q) ∧ meth.sig.returnType = M.2.2.2.1 ∧ meth.locks = false
def lc0 (args : List Value) (n : Nat) : LcT := args.map some ++ List.replicate (n - args.length) none
theorem lc0_args : ∀ (vs : List Value) (k i : Nat), (vs.all fun v => v.category == 1) = true → lv_args i vs = lcs i (vs.map some ++ List.replicate k none)
  | [], k, i, _ => by
    have : ∀ (k i : Nat), lcs i (List.replicate k none) = [] := by
      intro k
      induction k with
      | zero => intro i; rfl
      | succ k ih => intro i; exact ih (i + 1)
    exact (this k i).symm
  | v :: vs, k, i, h => by
    simp only [List.all_cons, Bool.and_eq_true, beq_iff_eq] at h
    simp only [lv_args, List.map_cons, List.cons_append, lcs]
    rw [if_neg (by omega), lc0_args vs k (i + 1) h.2]
theorem lg_len : ∀ (vs : List Value), (vs.all fun v => v.category == 1) = true → (lg_sl vs).length = vs.length
  | [], _ => rfl
  | v :: vs, h => by
    simp only [List.all_cons, Bool.and_eq_true, beq_iff_eq] at h
    have := lg_len vs h.2
    simp only [lg_sl, List.flatMap_cons, List.length_append, List.length_cons] at this ⊢
    rw [if_neg (by omega)]
    simp only [List.length_singleton]
    omega
theorem nst_eq {w : Cond} (h : isNst w = true) : (∃ a i x z, w = .methodLinkNest a i x z) ∨ ∃ C, w = .arrayOver (.object C) := by
  unfold isNst at h
  split at h
  · exact .inl ⟨_, _, _, _, rfl⟩
  · exact .inr ⟨_, rfl⟩
  · cases h
theorem nw_warm {s U : State} (hW : s.WarmedH U.vm) (h : ∀ w ∈ nwL, va_Nw w s) : ∀ w ∈ nwL, va_Nw w U := by
  intro w hw
  rcases nst_eq (List.mem_filter.mp hw).2 with ⟨a, i, x, z, rfl⟩ | ⟨C, rfl⟩
  · exact va_Nw.warmM hW (h _ hw)
  · exact va_AO.moved (u := s) hW.alike (h _ hw)
theorem nw_same {s U : State} (hv : s.vm = U.vm) (h : ∀ w ∈ nwL, va_Nw w s) : ∀ w ∈ nwL, va_Nw w U := by
  intro w hw
  rcases nst_eq (List.mem_filter.mp hw).2 with ⟨a, i, x, z, rfl⟩ | ⟨C, rfl⟩
  · exact va_Nw.same rfl hv (h _ hw)
  · exact va_AO.moved (u := s) (by rw [hv]; exact Vm.Alike.refl _) (h _ hw)
theorem Wo_blind {D : va_G} {cA : Nat → ClassId} {B N : Nat} {lay : LyT} {r : RfT} {h : HpT} {av : List Value} : FrameBlind (va_Pc av (Wo D cA B N lay r h)) := by
  intro a U g mk q
  obtain ⟨q0, q1, q2, q3, q4, q5, q6, q7⟩ := q
  exact ⟨q0, q1, q2, q3, q4, q5, va_K.moved (u := U) (U := U.calling g mk a) (Vm.Alike.refl U.vm) q6, nw_same (s := U) (U := U.calling g mk a) rfl q7⟩
theorem goodLT {ws : List Cond} (h : ∀ w ∈ ws, w ∈ lwT) : GoodIn lwT ws := fun w hw => ⟨h w hw, good_of_word (List.mem_filter.mp (h w hw)).2⟩
/-- entry of a method: its world, its locals -/
theorem ent {M : MtT} {la : Launch} {D : va_G} {cA : Nat → ClassId} {B N : Nat} {lay : LyT} {r : RfT} {h : HpT} {vs : List Value} {p : Program} {e : Env} {s : State} {m : MethodId} {below : List Frame} {meth : Method} {c : Code} {s₁ : State} {Z : State → Prop}
    (X : BodyLoose p la M.1 (headSpec (wsM M) M.2.2.2.2) M.2.1 M.2.2.1 M.2.2.2.1 e s m vs.toArray below meth c s₁) (hml : c.maxLocals = M.2.2.1) (hv : Wo D cA B N lay r h s) (hcat : (vs.all fun v => v.category == 1) = true) (hlen : vs.length ≤ M.2.2.1)
    (k : St (p, la, e, s, m, vs.toArray, below, meth, c, D, cA, B, Z) M 0 (lc0 vs M.2.2.1) [] (0, 0) N lay r h) : W p la e (headSpec (wsM M) M.2.2.2.2).room s m vs.toArray below meth c s.heap [] 0 0 Z (entryFrame m vs.toArray M.2.2.1) := by
  obtain ⟨hP, hz, hly, hR, hBN, hK, hnw⟩ := hv
  have hts := atoms_spec (ws := wsM M) X.pre
  rw [lg_entry_eq]
  have hl := lv_entry vs (n := M.2.2.1) (by rw [lg_len vs hcat]; exact hlen)
  rw [lc0_args vs (M.2.2.1 - vs.length) 0 hcat] at hl
  refine k ⟨X.exec, X.bytes, hml, findClass_of_methodNamed X.named, fun w hw => hts w (List.mem_cons_of_mem _ hw), hK, hnw, by rw [hz]; exact hBN, (name_of_methodNamed X.named X.method).1⟩ _ s.heap [] hl (by simp [lc0]; omega) ⟨hP, hz, hly, hR, by rw [hz]; rfl, va_S.rf⟩
theorem ConI.of {M : MtT} {P : List Value → Nat → LyT → RfT → HpT → PstI → Prop} (hy : plainName M.1.cls = true) (hcat : ∀ vs N lay r h Q, P vs N lay r h Q → (vs.all fun v => v.category == 1) = true ∧ vs.length ≤ M.2.2.1)
    (body : ∀ (E : EnT) (vs : List Value) (N : Nat) (lay : LyT) (r : RfT) (h : HpT) (Q : PstI), P vs N lay r h Q → RetI E M N Q → St E M 0 (lc0 vs M.2.2.1) [] (0, 0) N lay r h) : ConI M P := by
  intro la D cA B vs N lay r h Q hP
  refine Met.ofW (cc := M.2.1) (maxL := M.2.2.1) (ret := M.2.2.2.1) hy rfl ?_
  intro p e s m args below meth c s₁ X hml hv
  obtain ⟨rfl, hv⟩ := hv
  obtain ⟨h1, h2⟩ := hcat vs N lay r h Q hP
  exact ent X hml hv h1 h2 (body _ vs N lay r h Q hP ⟨rfl, X.returns, X.notSynchronized⟩)
theorem ConV.of {M : MtT} {P : List Value → Nat → LyT → RfT → HpT → PstV → Prop} (hy : plainName M.1.cls = true) (hcat : ∀ vs N lay r h Q, P vs N lay r h Q → (vs.all fun v => v.category == 1) = true ∧ vs.length ≤ M.2.2.1)
    (body : ∀ (E : EnT) (vs : List Value) (N : Nat) (lay : LyT) (r : RfT) (h : HpT) (Q : PstV), P vs N lay r h Q → RetV E M N Q → St E M 0 (lc0 vs M.2.2.1) [] (0, 0) N lay r h) : ConV M P := by
  intro la D cA B vs N lay r h Q hP
  refine Met.ofW (cc := M.2.1) (maxL := M.2.2.1) (ret := M.2.2.2.1) hy rfl ?_
  intro p e s m args below meth c s₁ X hml hv
  obtain ⟨rfl, hv⟩ := hv
  obtain ⟨h1, h2⟩ := hcat vs N lay r h Q hP
  exact ent X hml hv h1 h2 (body _ vs N lay r h Q hP ⟨rfl, X.returns, X.notSynchronized⟩)
theorem ConQ.of {M : MtT} {P : List Value → Nat → LyT → RfT → HpT → PstQ → Prop} (hy : plainName M.1.cls = true) (hcat : ∀ vs N lay r h Q, P vs N lay r h Q → (vs.all fun v => v.category == 1) = true ∧ vs.length ≤ M.2.2.1)
    (body : ∀ (E : EnT) (vs : List Value) (N : Nat) (lay : LyT) (r : RfT) (h : HpT) (Q : PstQ), P vs N lay r h Q → RetQ E M N Q → St E M 0 (lc0 vs M.2.2.1) [] (0, 0) N lay r h) : ConQ M P := by
  intro la D cA B vs N lay r h Q hP
  refine Met.ofW (cc := M.2.1) (maxL := M.2.2.1) (ret := M.2.2.2.1) hy rfl ?_
  intro p e s m args below meth c s₁ X hml hv
  obtain ⟨rfl, hv⟩ := hv
  obtain ⟨h1, h2⟩ := hcat vs N lay r h Q hP
  exact ent X hml hv h1 h2 (body _ vs N lay r h Q hP ⟨rfl, X.returns, X.notSynchronized⟩)
section ROWS
variable {E : EnT} {M : MtT} {pc : Nat} {l : LcT} {st : List Value} {κ : Nat × Nat} {N N0 : Nat} {lay : LyT} {r : RfT} {h : HpT}
theorem rg_ret {ty : FieldType} {x : Int} {Q : PstI} (hret : RetI E M N0 Q) (hty : M.2.2.2.1 = some ty) (hnr : narrow ty (vI x) = vI x) (d : decode M.2.1 pc = .ok (.ireturn, 1)) (hκ : κ = (M.2.2.2.2.cells, M.2.2.2.2.slots)) (hN : N = N0 + M.2.2.2.2.cells) (hq : Q x N lay r h) : St E M pc l [vI x] κ N lay r h := by
  obtain ⟨p, la, e, s, m, args, below, meth, c, D, cA, B, Z⟩ := E
  intro O ls H locs hl hn hw
  obtain ⟨hx, hb, hml, hown, hts, hK, hnw, hB, hnm⟩ := id O
  obtain ⟨hP, hz, hly, hR, hNs, hS⟩ := id hw
  obtain ⟨rfl, hrt, hlk⟩ := hret
  subst hκ
  refine W.zret (v := Int32.ofInt x) hx hb (hrt.trans hty) hnr (fun t ht hW => ⟨⟨Int32.ofInt x, (x, N, lay, r, h), rfl, ⟨rfl, hq, hN⟩, by rw [ht]; exact hP, by rw [ht]; exact hz, hly, hR, ?_, va_K.moved hW.alike hK, nw_warm hW hnw⟩, hS.F ht⟩) hS.2.2 d hlk
  have h8 := hS.1
  show B ≤ N
  omega
theorem r_iret {x : Int} {Q : PstI} (hret : RetI E M N0 Q) (d : decode M.2.1 pc = .ok (.ireturn, 1)) (hty : M.2.2.2.1 = some .int) (hκ : κ = (M.2.2.2.2.cells, M.2.2.2.2.slots)) (hN : N = N0 + M.2.2.2.2.cells) (hq : Q x N lay r h) : St E M pc l [vI x] κ N lay r h :=
  rg_ret hret hty rfl d hκ hN hq
theorem r_zret {x : Int} {Q : PstI} (hret : RetI E M N0 Q) (d : decode M.2.1 pc = .ok (.ireturn, 1)) (hty : M.2.2.2.1 = some .boolean) (hκ : κ = (M.2.2.2.2.cells, M.2.2.2.2.slots)) (hN : N = N0 + M.2.2.2.2.cells) (hx : x = 0 ∨ x = 1) (hq : Q x N lay r h) : St E M pc l [vI x] κ N lay r h :=
  rg_ret hret hty (by rcases hx with rfl | rfl <;> rfl) d hκ hN hq
theorem r_ret {Q : PstV} (hret : RetV E M N0 Q) (d : decode M.2.1 pc = .ok (.return_, 1)) (hty : M.2.2.2.1 = none) (hκ : κ = (M.2.2.2.2.cells, M.2.2.2.2.slots)) (hN : N = N0 + M.2.2.2.2.cells) (hq : Q N lay r h) : St E M pc l [] κ N lay r h := by
  obtain ⟨p, la, e, s, m, args, below, meth, c, D, cA, B, Z⟩ := E
  intro O ls H locs hl hn hw
  obtain ⟨hx, hb, hml, hown, hts, hK, hnw, hB, hnm⟩ := id O
  obtain ⟨hP, hz, hly, hR, hNs, hS⟩ := id hw
  obtain ⟨rfl, hrt, hlk⟩ := hret
  subst hκ
  refine W.vret hx hb (hrt.trans hty) (fun t ht hW => ⟨⟨(N, lay, r, h), rfl, ⟨hq, hN⟩, by rw [ht]; exact hP, by rw [ht]; exact hz, hly, hR, ?_, va_K.moved hW.alike hK, nw_warm hW hnw⟩, hS.F ht⟩) hS.2.2 d hlk
  have h8 := hS.1
  omega
theorem r_aret {v : Option Nat} {cn : String} {Q : PstQ} (hret : RetQ E M N0 Q) (d : decode M.2.1 pc = .ok (.areturn, 1)) (hty : M.2.2.2.1 = some (.object cn)) (hκ : κ = (M.2.2.2.2.cells, M.2.2.2.2.slots)) (hN : N = N0 + M.2.2.2.2.cells) (hq : Q v N lay r h) : St E M pc l [va_rf v] κ N lay r h := by
  obtain ⟨p, la, e, s, m, args, below, meth, c, D, cA, B, Z⟩ := E
  intro O ls H locs hl hn hw
  obtain ⟨hx, hb, hml, hown, hts, hK, hnw, hB, hnm⟩ := id O
  obtain ⟨hP, hz, hly, hR, hNs, hS⟩ := id hw
  obtain ⟨rfl, hrt, hlk⟩ := hret
  subst hκ
  refine W.aret hx hb (hrt.trans hty) (Or.inl ⟨_, rfl⟩) (by cases v with | none => exact Or.inl rfl | some a => exact Or.inr ⟨a, rfl⟩) (fun t ht hW => ⟨⟨v, (N, lay, r, h), rfl, ⟨hq, hN⟩, by rw [ht]; exact hP, by rw [ht]; exact hz, hly, hR, ?_, va_K.moved hW.alike hK, nw_warm hW hnw⟩, hS.F ht⟩) hS.2.2 d hlk
  have h8 := hS.1
  omega
/-! what the tables say of a call -/
def LkV (own : String) (idx n : Nat) (M2 : MtT) : Prop := Cond.methodLink own idx M2.1 ∈ lwT ∧ Cond.instanceMethod M2.1 ∈ lwT ∧ Cond.selects M2.1.cls M2.1 M2.1 ∈ lwT ∧ Cond.initialized M2.1.cls ∈ lwT ∧ Cond.code M2.1 M2.2.1 M2.2.2.1 M2.2.2.2.1 ∈ lwT ∧ (M2.1.cls ≠ "java/lang/invoke/MethodHandle" ∧ M2.1.cls ≠ "java/lang/invoke/VarHandle" ∧ (parseMethodDescriptor M2.1.desc).map (fun d => d.parameters.length) = some n)
def LkS (own : String) (idx n : Nat) (M2 : MtT) : Prop := Cond.methodLink own idx M2.1 ∈ lwT ∧ Cond.static M2.1 ∈ lwT ∧ Cond.initialized M2.1.cls ∈ lwT ∧ Cond.code M2.1 M2.2.1 M2.2.2.1 M2.2.2.2.1 ∈ lwT ∧ (M2.1.cls ≠ "java/lang/invoke/MethodHandle" ∧ M2.1.cls ≠ "java/lang/invoke/VarHandle" ∧ (parseMethodDescriptor M2.1.desc).map (fun d => d.parameters.length) = some n)
def LkSN (own : String) (idx n : Nat) (M2 : MtT) : Prop := (∃ host, Cond.methodLinkNest own idx M2.1 host ∈ nwL) ∧ Cond.static M2.1 ∈ lwT ∧ Cond.initialized M2.1.cls ∈ lwT ∧ Cond.code M2.1 M2.2.1 M2.2.2.1 M2.2.2.2.1 ∈ lwT ∧ (M2.1.cls ≠ "java/lang/invoke/MethodHandle" ∧ M2.1.cls ≠ "java/lang/invoke/VarHandle" ∧ (parseMethodDescriptor M2.1.desc).map (fun d => d.parameters.length) = some n)
def LkI (own : String) (idx n : Nat) (M2 : MtT) : Prop := Cond.methodLink own idx M2.1 ∈ lwT ∧ Cond.instanceMethod M2.1 ∈ lwT ∧ Cond.initialized M2.1.cls ∈ lwT ∧ Cond.code M2.1 M2.2.1 M2.2.2.1 M2.2.2.2.1 ∈ lwT ∧ (M2.1.cls ≠ "java/lang/invoke/MethodHandle" ∧ M2.1.cls ≠ "java/lang/invoke/VarHandle" ∧ (parseMethodDescriptor M2.1.desc).map (fun d => d.parameters.length) = some n) ∧ M2.1.name = "<init>" ∧ M2.2.2.2.1 = none
def LkIN (own : String) (idx n : Nat) (M2 : MtT) : Prop := (∃ host, Cond.methodLinkNest own idx M2.1 host ∈ nwL) ∧ Cond.instanceMethod M2.1 ∈ lwT ∧ Cond.initialized M2.1.cls ∈ lwT ∧ Cond.code M2.1 M2.2.1 M2.2.2.1 M2.2.2.2.1 ∈ lwT ∧ (M2.1.cls ≠ "java/lang/invoke/MethodHandle" ∧ M2.1.cls ≠ "java/lang/invoke/VarHandle" ∧ (parseMethodDescriptor M2.1.desc).map (fun d => d.parameters.length) = some n) ∧ M2.1.name = "<init>" ∧ M2.2.2.2.1 = none
abbrev Rm (M M2 : MtT) : Prop := M2.2.2.2.2.frames + 1 ≤ M.2.2.2.2.frames ∧ 8 + (M2.2.2.1 + 11) + M2.2.2.2.2.locals ≤ M.2.2.2.2.locals
abbrev Cap (κ : Nat × Nat) (M M2 : MtT) : Prop := κ.1 + M2.2.2.2.2.cells ≤ M.2.2.2.2.cells ∧ κ.2 + M2.2.2.2.2.slots ≤ M.2.2.2.2.slots
theorem wsM_in {M2 : MtT} (h : Cond.code M2.1 M2.2.1 M2.2.2.1 M2.2.2.2.1 ∈ lwT) : ∀ w ∈ wsM M2, w ∈ lwT := by
  intro w hw
  rcases List.mem_cons.mp hw with rfl | hw
  · exact h
  · exact hw
theorem rc_VI {M2 : MtT} {P : List Value → Nat → LyT → RfT → HpT → PstI → Prop} (hM : ConI M2 P) {idx n b : Nat} {As rest : List Value} (lk : LkV M.1.cls idx n M2) (hrm : Rm M M2) (hcap : Cap κ M M2) {k nn : Nat} {T : u_T} {Nf : Nat} (hc : cls9[k]? = some (M2.1.cls, T, Nf)) (h9 : k < 9) (hla : lay b = (k + 1, nn)) (d : decode M.2.1 pc = .ok (.invokevirtual idx, 3)) (hst : st = As.reverse ++ .ref b :: rest) (hn9 : As.length = n) (hW9 : (rest.map fun v => v.category).sum ≤ 8)
    (hP9 : P (.ref b :: As) N lay r h (fun z N2 lay2 r2 h2 => St E M (pc + 3) l (vI z :: rest) (κ.1 + M2.2.2.2.2.cells, κ.2 + M2.2.2.2.2.slots) N2 lay2 r2 h2)) : St E M pc l st κ N lay r h := by
  obtain ⟨p, la, e, s, m, args, below, meth, c, D, cA, B, Z⟩ := E
  intro O ls H locs hl hn hw
  obtain ⟨hx, hb, hml, hown, hts, hK, hnw, hB, hnm⟩ := id O
  obtain ⟨hP, hz, hly, hR, hNs, hS⟩ := id hw
  have hMt := hM la D cA B (.ref b :: As) N lay r h _ hP9
  obtain ⟨k1, k2, k3, k4, k5, k6⟩ := lk
  obtain ⟨b1, b2⟩ := hly b (by rw [hla]; exact Nat.succ_ne_zero k)
  refine va_calli (va_runV (As := As) (rest := rest) ⟨hx, hb, hml, hown, hts⟩ hMt (cwV n hts (goodLT (fun w hw => by rcases List.mem_append.mp hw with h | h; (simp only [List.mem_cons, List.not_mem_nil, or_false] at h; rcases h with rfl | rfl | rfl | rfl <;> assumption); exact wsM_in k5 w h)) rfl rfl rfl ⟨rfl, k6⟩ hrm) ⟨Wo_blind, va_recv hK hP (ci := k) (q0 := b - B) hc (by rw [wl_get b1 b2, cellE_o hla h9]), fun U hU hW => ⟨rfl, by rw [hU]; exact hP, by rw [hU]; exact hz, hly, hR, by have := hS.1; omega, va_K.moved hW.alike hK, nw_warm hW hnw⟩⟩ rfl hn9 hl.1 hst (by show 2 * 0 + _ ≤ 8; omega) d hcap) hS (fun q _ h => h) (fun q h => h) (fun x u t H1 locs1 ht hvm hw1 hB1 hz1 hk1 hS1 => ?_)
  obtain ⟨e1, hq, e2⟩ := hw1
  subst e1
  obtain ⟨w1, w2, w3, w4, w5, w6, w7⟩ := hB1
  rw [ht] at w1 w2
  exact hq O ls H1 locs1 hl hn ⟨w1, w2, w3, w4, by show _ = s.heap.size + (κ.1 + M2.2.2.2.2.cells); omega, hS1⟩
theorem rc_VV {M2 : MtT} {P : List Value → Nat → LyT → RfT → HpT → PstV → Prop} (hM : ConV M2 P) {idx n b : Nat} {As rest : List Value} (lk : LkV M.1.cls idx n M2) (hrm : Rm M M2) (hcap : Cap κ M M2) {k nn : Nat} {T : u_T} {Nf : Nat} (hc : cls9[k]? = some (M2.1.cls, T, Nf)) (h9 : k < 9) (hla : lay b = (k + 1, nn)) (d : decode M.2.1 pc = .ok (.invokevirtual idx, 3)) (hst : st = As.reverse ++ .ref b :: rest) (hn9 : As.length = n) (hW9 : (rest.map fun v => v.category).sum ≤ 8)
    (hP9 : P (.ref b :: As) N lay r h (fun N2 lay2 r2 h2 => St E M (pc + 3) l (rest) (κ.1 + M2.2.2.2.2.cells, κ.2 + M2.2.2.2.2.slots) N2 lay2 r2 h2)) : St E M pc l st κ N lay r h := by
  obtain ⟨p, la, e, s, m, args, below, meth, c, D, cA, B, Z⟩ := E
  intro O ls H locs hl hn hw
  obtain ⟨hx, hb, hml, hown, hts, hK, hnw, hB, hnm⟩ := id O
  obtain ⟨hP, hz, hly, hR, hNs, hS⟩ := id hw
  have hMt := hM la D cA B (.ref b :: As) N lay r h _ hP9
  obtain ⟨k1, k2, k3, k4, k5, k6⟩ := lk
  obtain ⟨b1, b2⟩ := hly b (by rw [hla]; exact Nat.succ_ne_zero k)
  refine va_callv (va_runV (As := As) (rest := rest) ⟨hx, hb, hml, hown, hts⟩ hMt (cwV n hts (goodLT (fun w hw => by rcases List.mem_append.mp hw with h | h; (simp only [List.mem_cons, List.not_mem_nil, or_false] at h; rcases h with rfl | rfl | rfl | rfl <;> assumption); exact wsM_in k5 w h)) rfl rfl rfl ⟨rfl, k6⟩ hrm) ⟨Wo_blind, va_recv hK hP (ci := k) (q0 := b - B) hc (by rw [wl_get b1 b2, cellE_o hla h9]), fun U hU hW => ⟨rfl, by rw [hU]; exact hP, by rw [hU]; exact hz, hly, hR, by have := hS.1; omega, va_K.moved hW.alike hK, nw_warm hW hnw⟩⟩ rfl hn9 hl.1 hst (by show 2 * 0 + _ ≤ 8; omega) d hcap) hS (fun q _ h => h) (fun q h => h) (fun u t H1 locs1 ht hvm hw1 hB1 hz1 hk1 hS1 => ?_)
  obtain ⟨hq, e2⟩ := hw1
  obtain ⟨w1, w2, w3, w4, w5, w6, w7⟩ := hB1
  rw [ht] at w1 w2
  exact hq O ls H1 locs1 hl hn ⟨w1, w2, w3, w4, by show _ = s.heap.size + (κ.1 + M2.2.2.2.2.cells); omega, hS1⟩
theorem rc_VQ {M2 : MtT} {P : List Value → Nat → LyT → RfT → HpT → PstQ → Prop} (hM : ConQ M2 P) {idx n b : Nat} {As rest : List Value} (lk : LkV M.1.cls idx n M2) (hrm : Rm M M2) (hcap : Cap κ M M2) {k nn : Nat} {T : u_T} {Nf : Nat} (hc : cls9[k]? = some (M2.1.cls, T, Nf)) (h9 : k < 9) (hla : lay b = (k + 1, nn)) (d : decode M.2.1 pc = .ok (.invokevirtual idx, 3)) (hst : st = As.reverse ++ .ref b :: rest) (hn9 : As.length = n) (hW9 : (rest.map fun v => v.category).sum ≤ 8)
    (hP9 : P (.ref b :: As) N lay r h (fun z N2 lay2 r2 h2 => St E M (pc + 3) l (va_rf z :: rest) (κ.1 + M2.2.2.2.2.cells, κ.2 + M2.2.2.2.2.slots) N2 lay2 r2 h2)) : St E M pc l st κ N lay r h := by
  obtain ⟨p, la, e, s, m, args, below, meth, c, D, cA, B, Z⟩ := E
  intro O ls H locs hl hn hw
  obtain ⟨hx, hb, hml, hown, hts, hK, hnw, hB, hnm⟩ := id O
  obtain ⟨hP, hz, hly, hR, hNs, hS⟩ := id hw
  have hMt := hM la D cA B (.ref b :: As) N lay r h _ hP9
  obtain ⟨k1, k2, k3, k4, k5, k6⟩ := lk
  obtain ⟨b1, b2⟩ := hly b (by rw [hla]; exact Nat.succ_ne_zero k)
  refine va_callq (va_runV (As := As) (rest := rest) ⟨hx, hb, hml, hown, hts⟩ hMt (cwV n hts (goodLT (fun w hw => by rcases List.mem_append.mp hw with h | h; (simp only [List.mem_cons, List.not_mem_nil, or_false] at h; rcases h with rfl | rfl | rfl | rfl <;> assumption); exact wsM_in k5 w h)) rfl rfl rfl ⟨rfl, k6⟩ hrm) ⟨Wo_blind, va_recv hK hP (ci := k) (q0 := b - B) hc (by rw [wl_get b1 b2, cellE_o hla h9]), fun U hU hW => ⟨rfl, by rw [hU]; exact hP, by rw [hU]; exact hz, hly, hR, by have := hS.1; omega, va_K.moved hW.alike hK, nw_warm hW hnw⟩⟩ rfl hn9 hl.1 hst (by show 2 * 0 + _ ≤ 8; omega) d hcap) hS (fun q _ h => h) (fun q h => h) (fun x u t H1 locs1 ht hvm hw1 hB1 hz1 hk1 hS1 => ?_)
  obtain ⟨hq, e2⟩ := hw1
  obtain ⟨w1, w2, w3, w4, w5, w6, w7⟩ := hB1
  rw [ht] at w1 w2
  exact hq O ls H1 locs1 hl hn ⟨w1, w2, w3, w4, by show _ = s.heap.size + (κ.1 + M2.2.2.2.2.cells); omega, hS1⟩
theorem rc_SI {M2 : MtT} {P : List Value → Nat → LyT → RfT → HpT → PstI → Prop} (hM : ConI M2 P) {idx n : Nat} {As rest : List Value} (lk : LkS M.1.cls idx n M2) (hrm : Rm M M2) (hcap : Cap κ M M2) (d : decode M.2.1 pc = .ok (.invokestatic idx, 3)) (hst : st = As.reverse ++ rest) (hn9 : As.length = n) (hW9 : (rest.map fun v => v.category).sum ≤ 8)
    (hP9 : P As N lay r h (fun z N2 lay2 r2 h2 => St E M (pc + 3) l (vI z :: rest) (κ.1 + M2.2.2.2.2.cells, κ.2 + M2.2.2.2.2.slots) N2 lay2 r2 h2)) : St E M pc l st κ N lay r h := by
  obtain ⟨p, la, e, s, m, args, below, meth, c, D, cA, B, Z⟩ := E
  intro O ls H locs hl hn hw
  obtain ⟨hx, hb, hml, hown, hts, hK, hnw, hB, hnm⟩ := id O
  obtain ⟨hP, hz, hly, hR, hNs, hS⟩ := id hw
  have hMt := hM la D cA B As N lay r h _ hP9
  obtain ⟨k1, k2, k4, k5, k6⟩ := lk
  refine va_calli (va_runS (As := As) (rest := rest) ⟨hx, hb, hml, hown, hts⟩ hMt (va_cwS n hts (goodLT (fun w hw => by rcases List.mem_append.mp hw with h | h; (simp only [List.mem_cons, List.not_mem_nil, or_false] at h; rcases h with rfl | rfl | rfl <;> assumption); exact wsM_in k5 w h)) rfl rfl rfl k6 hrm) ⟨Wo_blind, fun U hU hW => ⟨rfl, by rw [hU]; exact hP, by rw [hU]; exact hz, hly, hR, by have := hS.1; omega, va_K.moved hW.alike hK, nw_warm hW hnw⟩⟩ rfl hn9 hl.1 hst (by show 2 * 0 + _ ≤ 8; omega) d hcap) hS (fun q _ h => h) (fun q h => h) (fun x u t H1 locs1 ht hvm hw1 hB1 hz1 hk1 hS1 => ?_)
  obtain ⟨e1, hq, e2⟩ := hw1
  subst e1
  obtain ⟨w1, w2, w3, w4, w5, w6, w7⟩ := hB1
  rw [ht] at w1 w2
  exact hq O ls H1 locs1 hl hn ⟨w1, w2, w3, w4, by show _ = s.heap.size + (κ.1 + M2.2.2.2.2.cells); omega, hS1⟩
theorem rc_SNI {M2 : MtT} {P : List Value → Nat → LyT → RfT → HpT → PstI → Prop} (hM : ConI M2 P) {idx n : Nat} {As rest : List Value} (lk : LkSN M.1.cls idx n M2) (hrm : Rm M M2) (hcap : Cap κ M M2) (d : decode M.2.1 pc = .ok (.invokestatic idx, 3)) (hst : st = As.reverse ++ rest) (hn9 : As.length = n) (hW9 : (rest.map fun v => v.category).sum ≤ 8)
    (hP9 : P As N lay r h (fun z N2 lay2 r2 h2 => St E M (pc + 3) l (vI z :: rest) (κ.1 + M2.2.2.2.2.cells, κ.2 + M2.2.2.2.2.slots) N2 lay2 r2 h2)) : St E M pc l st κ N lay r h := by
  obtain ⟨p, la, e, s, m, args, below, meth, c, D, cA, B, Z⟩ := E
  intro O ls H locs hl hn hw
  obtain ⟨hx, hb, hml, hown, hts, hK, hnw, hB, hnm⟩ := id O
  obtain ⟨hP, hz, hly, hR, hNs, hS⟩ := id hw
  have hMt := hM la D cA B As N lay r h _ hP9
  obtain ⟨⟨host, k1⟩, k2, k4, k5, k6⟩ := lk
  refine va_calli (va_runSN (As := As) (rest := rest) ⟨hx, hb, hml, hown, hts⟩ hMt ⟨va_cnB n hts (goodLT (wsM_in k5)) rfl rfl rfl (hnw _ k1) (hts _ k4) k6 hrm, hts _ k2, trivial⟩ ⟨Wo_blind, fun U hU hW => ⟨rfl, by rw [hU]; exact hP, by rw [hU]; exact hz, hly, hR, by have := hS.1; omega, va_K.moved hW.alike hK, nw_warm hW hnw⟩⟩ rfl hn9 hl.1 hst (by show 2 * 0 + _ ≤ 8; omega) d hcap) hS (fun q _ h => h) (fun q h => h) (fun x u t H1 locs1 ht hvm hw1 hB1 hz1 hk1 hS1 => ?_)
  obtain ⟨e1, hq, e2⟩ := hw1
  subst e1
  obtain ⟨w1, w2, w3, w4, w5, w6, w7⟩ := hB1
  rw [ht] at w1 w2
  exact hq O ls H1 locs1 hl hn ⟨w1, w2, w3, w4, by show _ = s.heap.size + (κ.1 + M2.2.2.2.2.cells); omega, hS1⟩
theorem rc_IV {M2 : MtT} {P : List Value → Nat → LyT → RfT → HpT → PstV → Prop} (hM : ConV M2 P) {idx n b : Nat} {As rest : List Value} (lk : LkI M.1.cls idx n M2) (hrm : Rm M M2) (hcap : Cap κ M M2) (d : decode M.2.1 pc = .ok (.invokespecial idx, 3)) (hst : st = As.reverse ++ .ref b :: rest) (hn9 : As.length = n) (hW9 : (rest.map fun v => v.category).sum ≤ 8)
    (hP9 : P (.ref b :: As) N lay r h (fun N2 lay2 r2 h2 => St E M (pc + 3) l (rest) (κ.1 + M2.2.2.2.2.cells, κ.2 + M2.2.2.2.2.slots) N2 lay2 r2 h2)) : St E M pc l st κ N lay r h := by
  obtain ⟨p, la, e, s, m, args, below, meth, c, D, cA, B, Z⟩ := E
  intro O ls H locs hl hn hw
  obtain ⟨hx, hb, hml, hown, hts, hK, hnw, hB, hnm⟩ := id O
  obtain ⟨hP, hz, hly, hR, hNs, hS⟩ := id hw
  have hMt := hM la D cA B (.ref b :: As) N lay r h _ hP9
  obtain ⟨k1, k2, k4, k5, k6, k7, k8⟩ := lk
  refine va_callv (va_runI (As := As) (rest := rest) ⟨hx, hb, hml, hown, hts⟩ hMt (cwI n hts (goodLT (wsM_in k5)) (by rw [← k8]; rfl) rfl rfl (hts _ k4) (hts _ k1) (hts _ k2) k7 k6 hrm) ⟨Wo_blind, fun U hU hW => ⟨rfl, by rw [hU]; exact hP, by rw [hU]; exact hz, hly, hR, by have := hS.1; omega, va_K.moved hW.alike hK, nw_warm hW hnw⟩⟩ rfl hn9 hl.1 hst (by show 2 * 0 + _ ≤ 8; omega) d hcap) hS (fun q _ h => h) (fun q h => h) (fun u t H1 locs1 ht hvm hw1 hB1 hz1 hk1 hS1 => ?_)
  obtain ⟨hq, e2⟩ := hw1
  obtain ⟨w1, w2, w3, w4, w5, w6, w7⟩ := hB1
  rw [ht] at w1 w2
  exact hq O ls H1 locs1 hl hn ⟨w1, w2, w3, w4, by show _ = s.heap.size + (κ.1 + M2.2.2.2.2.cells); omega, hS1⟩
theorem rc_INV {M2 : MtT} {P : List Value → Nat → LyT → RfT → HpT → PstV → Prop} (hM : ConV M2 P) {idx n b : Nat} {As rest : List Value} (lk : LkIN M.1.cls idx n M2) (hrm : Rm M M2) (hcap : Cap κ M M2) (d : decode M.2.1 pc = .ok (.invokespecial idx, 3)) (hst : st = As.reverse ++ .ref b :: rest) (hn9 : As.length = n) (hW9 : (rest.map fun v => v.category).sum ≤ 8)
    (hP9 : P (.ref b :: As) N lay r h (fun N2 lay2 r2 h2 => St E M (pc + 3) l (rest) (κ.1 + M2.2.2.2.2.cells, κ.2 + M2.2.2.2.2.slots) N2 lay2 r2 h2)) : St E M pc l st κ N lay r h := by
  obtain ⟨p, la, e, s, m, args, below, meth, c, D, cA, B, Z⟩ := E
  intro O ls H locs hl hn hw
  obtain ⟨hx, hb, hml, hown, hts, hK, hnw, hB, hnm⟩ := id O
  obtain ⟨hP, hz, hly, hR, hNs, hS⟩ := id hw
  have hMt := hM la D cA B (.ref b :: As) N lay r h _ hP9
  obtain ⟨⟨host, k1⟩, k2, k4, k5, k6, k7, k8⟩ := lk
  refine va_callv (va_runIN (As := As) (rest := rest) ⟨hx, hb, hml, hown, hts⟩ hMt ⟨va_cnB n hts (goodLT (wsM_in k5)) (by rw [← k8]; rfl) rfl rfl (hnw _ k1) (hts _ k4) k6 hrm, k7, hts _ k2⟩ ⟨Wo_blind, fun U hU hW => ⟨rfl, by rw [hU]; exact hP, by rw [hU]; exact hz, hly, hR, by have := hS.1; omega, va_K.moved hW.alike hK, nw_warm hW hnw⟩⟩ rfl hn9 hl.1 hst (by show 2 * 0 + _ ≤ 8; omega) d hcap) hS (fun q _ h => h) (fun q h => h) (fun u t H1 locs1 ht hvm hw1 hB1 hz1 hk1 hS1 => ?_)
  obtain ⟨hq, e2⟩ := hw1
  obtain ⟨w1, w2, w3, w4, w5, w6, w7⟩ := hB1
  rw [ht] at w1 w2
  exact hq O ls H1 locs1 hl hn ⟨w1, w2, w3, w4, by show _ = s.heap.size + (κ.1 + M2.2.2.2.2.cells); omega, hS1⟩
end ROWS
