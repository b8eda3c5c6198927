/-! ROW OF NEW OBJECTS -/
section ROWS
variable {E : EnT} {M : MtT} {pc : Nat} {l : LcT} {st : List Value} {κ : Nat × Nat} {N : Nat} {lay : LyT} {r : RfT} {h : HpT}
theorem rg_newo {k idx Nf : Nat} {C : String} {T : u_T} {ty0 : Nat → FieldType} (hc : cls9[k]? = some (C, T, Nf)) (hin : ∀ w ∈ u_ws C T Nf, w ∈ lwT) (hty : ∀ k, k < Nf → parseFieldDescriptor (T k).2.2.1 = some (ty0 k)) (h9 : k < 9) (hcl : Cond.classLink M.1.cls idx C ∈ lwT) (hins : Cond.instantiable C Nf ∈ lwT) (hini : Cond.initialized C ∈ lwT) (hfs : ∀ j, j < Nf → defaultValue (ty0 j) = vp_V (mkF 0 (fdL k) (fun _ => none) (fun _ => 0)) j) (d : decode M.2.1 pc = .ok (.new idx, 3)) (hc1 : κ.1 + 1 ≤ M.2.2.2.2.cells) (hs1 : κ.2 + Nf ≤ M.2.2.2.2.slots)
    (kk : St E M (pc + 3) l (.ref N :: st) (κ.1 + 1, κ.2 + Nf) (N + 1) (lyp lay N (k + 1, 0)) (rr r N (fun _ => none)) (hr h N (fun _ => 0))) : St E M pc l st κ N lay r h := by
  obtain ⟨p, la, e, s, m, args, below, meth, c, D, cA, B, Z⟩ := E
  intro O ls H locs hl hn hw
  obtain ⟨hx, hb, hml, hown, hts, hK, hnw, hB, hnm⟩ := id O
  obtain ⟨hP, hzN, hly, hR, hNs, hS⟩ := id hw
  have hBN : B ≤ N := by omega
  have hKn := hK.1 k _ hc
  refine W.newcK hx hb hown (hts _ hcl) (hts _ hins) (hts _ hini) rfl d hc1 hs1 hKn.2.1 hzN fun H1 kC hkC e1 z1 o1 => ?_
  refine kk O ls H1 locs hl hn ⟨P_new hP hBN o1 ?_ (fun a ha => ⟨lyp_n ha, rr_n ha, hr_n ha⟩), z1, LyOk_new hly hBN, RgT_new hR, by show N + 1 = s.heap.size + (κ.1 + 1); omega, ?_⟩
  · rw [cellE_o lyp_s h9, rr_s, hr_s]
    exact ⟨_, hc, (u_born ty0 hts hin hKn hkC e1 hty).to hfs⟩
  · exact ⟨Nat.le_trans hS.1 (by omega), fun x h1 h2 => (o1 x (by have := hS.1; omega)).trans (hS.2.1 x h1 h2), hS.2.2⟩
end ROWS
