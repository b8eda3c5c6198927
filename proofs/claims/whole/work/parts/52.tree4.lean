/-! THE PLAN: where it lies, what it says of a map; the tree: copies, sums, choices -/
section ROWS
variable {E : EnT} {M : MtT} {pc : Nat} {l : LcT} {st : List Value} {κ : Nat × Nat} {N : Nat} {lay : LyT} {r : RfT} {h : HpT}
theorem r_acp {idx a0 a n n0 n1 : Nat} {z : Int} (hz : z = n) (hlk : Cond.methodLink M.1.cls idx arraycopyName ∈ lwT) (d : decode M.2.1 pc = .ok (.invokestatic idx, 3)) (hl0 : lay a0 = (10, n0)) (hl1 : lay a = (10, n1)) (hn0 : n ≤ n0) (hn1 : n ≤ n1) (hn31 : n < 2147483648) (hf : 1 ≤ M.2.2.2.2.frames) (hlo : (st.map fun v => v.category).sum + 18 ≤ M.2.2.2.2.locals)
    (kk : St E M (pc + 3) l st κ N lay r (hr h a (cpR (h a0) (h a) z))) : St E M pc l (vI z :: vI 0 :: .ref a :: vI 0 :: .ref a0 :: st) κ N lay r h := by
  subst hz
  exact r_acopy hlk d hl0 hl1 hn0 hn1 hn31 hf hlo kk
end ROWS
theorem cpR_id {f : Int → Int} {n : Int} : cpR f f n = f := by
  funext j
  unfold cpR
  split <;> rfl
theorem cpR_t {f g : Int → Int} {n j : Int} (h : 0 ≤ j ∧ j < n) : cpR f g n j = f j := if_pos h
/-- a plan at p -/
def PlAt (lay : LyT) (r : RfT) (p : Nat) : Prop := lay p = (4, 0) ∧ lay (p + 1) = (7, 0) ∧ lay (p + 2) = (10, 22) ∧ lay (p + 3) = (10, 22) ∧ lay (p + 4) = (2, 0) ∧ lay (p + 5) = (10, 6) ∧ lay (p + 6) = (10, 6) ∧ lay (p + 7) = (10, 6) ∧ lay (p + 8) = (10, 6) ∧ lay (p + 9) = (10, 22) ∧ lay (p + 10) = (10, 22) ∧ lay (p + 11) = (10, 64) ∧ lay (p + 12) = (10, 64) ∧ lay (p + 13) = (10, 16)
  ∧ r p 0 = some (p + 1) ∧ r p 1 = some (p + 4) ∧ r p 2 = some (p + 9) ∧ r p 3 = some (p + 10) ∧ r p 9 = some (p + 11) ∧ r p 10 = some (p + 12) ∧ r p 11 = some (p + 13) ∧ r (p + 1) 3 = some (p + 2) ∧ r (p + 1) 4 = some (p + 3) ∧ r (p + 4) 1 = some (p + 5) ∧ r (p + 4) 2 = some (p + 6) ∧ r (p + 4) 3 = some (p + 7) ∧ r (p + 4) 4 = some (p + 8)
def StAt (lay : LyT) (r : RfT) (s : Nat) : Prop := lay s = (5, 0) ∧ lay (s + 1) = (10, 8448) ∧ r s 0 = some (s + 1)
/-- the kept straws are straws -/
def StK (f : Int → Int) : Prop := ∀ g n t : Int, 0 ≤ g → g < 16 → 0 ≤ n → n < 22 → 0 ≤ t → t < 24 → f ((g * 24 + t) * 22 + n) = 0 ∨ f ((g * 24 + t) * 22 + n) = wn (dr g n t)
/-- the tree of a plan is the map's -/
def PTr (h : HpT) (p : Nat) (mp : Int → Int) : Prop := (h (p + 1) 0 = mp 128 ∧ h (p + 1) 1 = mp 129 ∧ h (p + 1) 2 = mp 130) ∧ (∀ n, 4 ≤ n → n < 4 + mp 129 → h (p + 2) n = mp n) ∧ (∀ d, 10 ≤ d → d < 10 + mp 130 → h (p + 2) d = mp d) ∧ (∀ d, 10 ≤ d → d < 10 + mp 130 → h (p + 3) d = mp (22 + d)) ∧ h (p + 2) 0 = -4 ∧ ∀ n, 1 ≤ n → n < 1 + mp 128 → h (p + 2) n = 0
def PWt (h : HpT) (p : Nat) (mp : Int → Int) : Prop := ∀ n, 0 ≤ n → n < 10 → h (p + 3) n = wg mp n
theorem PlAt.tr {lay : LyT} {r : RfT} {p : Nat} (h : PlAt lay r p) : TreeAt lay r (p + 1) := by
  obtain ⟨pl0, pl1, pl2, pl3, pl4, pl5, pl6, pl7, pl8, pl9, pl10, pl11, pl12, pl13, pr0, pr1, pr2, pr3, pr9, pr10, pr11, qr3, qr4, vr1, vr2, vr3, vr4⟩ := h
  exact ⟨pl1, pl2, pl3, qr3, qr4⟩
theorem PTr.no {h : HpT} {p : Nat} {mp : Int → Int} (q : PTr h p mp) : TreeNo h (p + 1) mp := q.1
theorem PTr.up {h : HpT} {p : Nat} {mp : Int → Int} (q : PTr h p mp) : TreeUp h (p + 1) mp := ⟨q.2.1, q.2.2.1⟩
theorem sW_s (mp : Int → Int) (n : Int) (k : Nat) : sW mp n (k + 1) = sW mp n k + if bel mp (10 + (k : Int)) n then mp (22 + (10 + (k : Int))) else 0 := rfl
theorem wg_lo {mp : Int → Int} (hT : TrM mp) {n : Int} (h0 : 0 ≤ n) (h1 : n < 10) : wg mp n = wt mp n := by
  unfold wg
  split
  · rfl
  · rename_i q
    have : ∀ k : Nat, (k : Int) ≤ mp 130 → sW mp n k = 0 := by
      intro k
      induction k with
      | zero => intro _; rfl
      | succ k ih =>
        intro hk
        rw [sW_s, ih (by omega), if_neg]
        · rfl
        · obtain ⟨t1, t2, t3, t4, t5, t6, t7⟩ := hT
          have q6 := t6 (10 + (k : Int)) (by omega) (by omega)
          have q5 := t5 (mp (10 + (k : Int))) (by omega) (by omega)
          intro z
          rcases z with z | z | z | z
          · exact q (Or.inl z)
          · omega
          · exact q (Or.inr (Or.inr (Or.inl (by omega))))
          · exact q (Or.inr (Or.inl (by omega)))
    have t3 := hT.2.2.1
    exact (this (mp 130).toNat (by omega)).symm
theorem wg_dk {mp : Int → Int} (hT : TrM mp) {n : Int} (h0 : 10 ≤ n) (h1 : n < 10 + mp 130) : wg mp n = mp (22 + n) := by
  unfold wg
  rw [if_pos (Or.inr (Or.inr (Or.inr (by omega))))]
  unfold wt
  have : ∀ k : Nat, (k : Int) ≤ mp 130 → sW mp n k = if n < 10 + k then mp (22 + n) else 0 := by
    intro k
    induction k with
    | zero => intro _; rw [if_neg (by omega)]; rfl
    | succ k ih =>
      intro hk
      obtain ⟨t1, t2, t3, t4, t5, t6, t7⟩ := hT
      have q6 := t6 (10 + (k : Int)) (by omega) (by omega)
      have q5 := t5 (mp (10 + (k : Int))) (by omega) (by omega)
      rw [sW_s, ih (by omega)]
      by_cases e : n = 10 + k
      · rw [if_neg (by omega), if_pos (Or.inr (Or.inl e)), if_pos (by omega), e]
        omega
      · rw [if_neg (show ¬ bel mp (10 + (k : Int)) n from fun z => by rcases z with z | z | z | z <;> omega)]
        by_cases e2 : n < 10 + k
        · rw [if_pos e2, if_pos (by omega)]; omega
        · rw [if_neg e2, if_neg (by omega)]; omega
  have t3 := hT.2.2.1
  rw [this (mp 130).toNat (by omega), if_pos (by omega)]
theorem dX6_copyFrom_0 : decode cX6_copyFrom 0 = .ok (.aload_n 0, 1) := by decide +kernel
theorem dX6_copyFrom_1 : decode cX6_copyFrom 1 = .ok (.aload_n 1, 1) := by decide +kernel
theorem dX6_copyFrom_2 : decode cX6_copyFrom 2 = .ok (.getfield 18, 3) := by decide +kernel
theorem dX6_copyFrom_5 : decode cX6_copyFrom 5 = .ok (.putfield 18, 3) := by decide +kernel
theorem dX6_copyFrom_8 : decode cX6_copyFrom 8 = .ok (.aload_n 0, 1) := by decide +kernel
theorem dX6_copyFrom_9 : decode cX6_copyFrom 9 = .ok (.aload_n 1, 1) := by decide +kernel
theorem dX6_copyFrom_10 : decode cX6_copyFrom 10 = .ok (.getfield 22, 3) := by decide +kernel
theorem dX6_copyFrom_13 : decode cX6_copyFrom 13 = .ok (.putfield 22, 3) := by decide +kernel
theorem dX6_copyFrom_16 : decode cX6_copyFrom 16 = .ok (.aload_n 0, 1) := by decide +kernel
theorem dX6_copyFrom_17 : decode cX6_copyFrom 17 = .ok (.aload_n 1, 1) := by decide +kernel
theorem dX6_copyFrom_18 : decode cX6_copyFrom 18 = .ok (.getfield 25, 3) := by decide +kernel
theorem dX6_copyFrom_21 : decode cX6_copyFrom 21 = .ok (.putfield 25, 3) := by decide +kernel
theorem dX6_copyFrom_24 : decode cX6_copyFrom 24 = .ok (.aload_n 1, 1) := by decide +kernel
theorem dX6_copyFrom_25 : decode cX6_copyFrom 25 = .ok (.getfield 9, 3) := by decide +kernel
theorem dX6_copyFrom_28 : decode cX6_copyFrom 28 = .ok (.iconst 0, 1) := by decide +kernel
theorem dX6_copyFrom_29 : decode cX6_copyFrom 29 = .ok (.aload_n 0, 1) := by decide +kernel
theorem dX6_copyFrom_30 : decode cX6_copyFrom 30 = .ok (.getfield 9, 3) := by decide +kernel
theorem dX6_copyFrom_33 : decode cX6_copyFrom 33 = .ok (.iconst 0, 1) := by decide +kernel
theorem dX6_copyFrom_34 : decode cX6_copyFrom 34 = .ok (.bipush 22, 2) := by decide +kernel
theorem dX6_copyFrom_36 : decode cX6_copyFrom 36 = .ok (.invokestatic 28, 3) := by decide +kernel
theorem dX6_copyFrom_39 : decode cX6_copyFrom 39 = .ok (.aload_n 1, 1) := by decide +kernel
theorem dX6_copyFrom_40 : decode cX6_copyFrom 40 = .ok (.getfield 15, 3) := by decide +kernel
theorem dX6_copyFrom_43 : decode cX6_copyFrom 43 = .ok (.iconst 0, 1) := by decide +kernel
theorem dX6_copyFrom_44 : decode cX6_copyFrom 44 = .ok (.aload_n 0, 1) := by decide +kernel
theorem dX6_copyFrom_45 : decode cX6_copyFrom 45 = .ok (.getfield 15, 3) := by decide +kernel
theorem dX6_copyFrom_48 : decode cX6_copyFrom 48 = .ok (.iconst 0, 1) := by decide +kernel
theorem dX6_copyFrom_49 : decode cX6_copyFrom 49 = .ok (.bipush 22, 2) := by decide +kernel
theorem dX6_copyFrom_51 : decode cX6_copyFrom 51 = .ok (.invokestatic 28, 3) := by decide +kernel
theorem dX6_copyFrom_54 : decode cX6_copyFrom 54 = .ok (.return_, 1) := by decide +kernel
set_option maxHeartbeats 4000000 in
set_option maxRecDepth 20000 in
theorem c_X6_copyFrom : ConV mX6_copyFrom (fun args N lay r h Q => ∃ (p q : Nat), args = [.ref (p + 1), .ref (q + 1)] ∧ PlAt lay r p ∧ PlAt lay r q ∧ (p = q ∨ (p + 14 ≤ q ∨ q + 14 ≤ p)) ∧ ∀ h2, Fr h h2 (fun x => x = p + 1 ∨ x = p + 2 ∨ x = p + 3) → (∀ j, 0 ≤ j → j < 3 → h2 (p + 1) j = h (q + 1) j) → (∀ j, 0 ≤ j → j < 22 → h2 (p + 2) j = h (q + 2) j) → (∀ j, 0 ≤ j → j < 22 → h2 (p + 3) j = h (q + 3) j) → Q N lay r h2) := by
  refine ConV.of (by decide) (by rintro _ N lay r h Q ⟨p, q, rfl, hA, hA2, hD, hQ⟩; exact ⟨rfl, Nat.le_of_ble_eq_true rfl⟩) ?_
  rintro E _ N lay r h Q ⟨p, q, rfl, hA, hA2, hD, hQ⟩ hret
  obtain ⟨pl0, pl1, pl2, pl3, pl4, pl5, pl6, pl7, pl8, pl9, pl10, pl11, pl12, pl13, pr0, pr1, pr2, pr3, pr9, pr10, pr11, qr3, qr4, vr1, vr2, vr3, vr4⟩ := id hA
  obtain ⟨xl0, xl1, xl2, xl3, xl4, xl5, xl6, xl7, xl8, xl9, xl10, xl11, xl12, xl13, xr0, xr1, xr2, xr3, xr9, xr10, xr11, yr3, yr4, wr1, wr2, wr3, wr4⟩ := id hA2
  show St E mX6_copyFrom 0 [some (.ref (p + 1)), some (.ref (q + 1))] [] (0, 0) N lay r h
  by_cases e : p = q
  · subst e
    refine r_aload_0 (pc := 0) dX6_copyFrom_0 ?_
    refine r_aload_1 (pc := 1) dX6_copyFrom_1 ?_
    refine gf_X6_18 (pc := 2) rfl (by assumption) dX6_copyFrom_2 (fun i_2 => ?_)
    refine pf_X6_18 (pc := 5) rfl (by assumption) dX6_copyFrom_5 (by omega) ?_
    rw [up_id, hr_id]
    refine r_aload_0 (pc := 8) dX6_copyFrom_8 ?_
    refine r_aload_1 (pc := 9) dX6_copyFrom_9 ?_
    refine gf_X6_22 (pc := 10) rfl (by assumption) dX6_copyFrom_10 (fun i_10 => ?_)
    refine pf_X6_22 (pc := 13) rfl (by assumption) dX6_copyFrom_13 (by omega) ?_
    rw [up_id, hr_id]
    refine r_aload_0 (pc := 16) dX6_copyFrom_16 ?_
    refine r_aload_1 (pc := 17) dX6_copyFrom_17 ?_
    refine gf_X6_25 (pc := 18) rfl (by assumption) dX6_copyFrom_18 (fun i_18 => ?_)
    refine pf_X6_25 (pc := 21) rfl (by assumption) dX6_copyFrom_21 (by omega) ?_
    rw [up_id, hr_id]
    refine r_aload_1 (pc := 24) dX6_copyFrom_24 ?_
    refine gf_X6_9 (pc := 25) rfl (by assumption) dX6_copyFrom_25 (by assumption) ?_
    refine r_iconst (pc := 28) dX6_copyFrom_28 ?_
    refine r_aload_0 (pc := 29) dX6_copyFrom_29 ?_
    refine gf_X6_9 (pc := 30) rfl (by assumption) dX6_copyFrom_30 (by assumption) ?_
    refine r_iconst (pc := 33) dX6_copyFrom_33 ?_
    refine r_bipush (pc := 34) dX6_copyFrom_34 (by decide) ?_
    refine r_acp (pc := 36) (n := 22) rfl (inT 504 (by decide +kernel) rfl) dX6_copyFrom_36 (by assumption) (by assumption) (Nat.le_of_ble_eq_true rfl) (Nat.le_of_ble_eq_true rfl) (by decide) (Nat.le_of_ble_eq_true rfl) (Nat.le_of_ble_eq_true rfl) ?_
    rw [cpR_id, hr_id]
    refine r_aload_1 (pc := 39) dX6_copyFrom_39 ?_
    refine gf_X6_15 (pc := 40) rfl (by assumption) dX6_copyFrom_40 (by assumption) ?_
    refine r_iconst (pc := 43) dX6_copyFrom_43 ?_
    refine r_aload_0 (pc := 44) dX6_copyFrom_44 ?_
    refine gf_X6_15 (pc := 45) rfl (by assumption) dX6_copyFrom_45 (by assumption) ?_
    refine r_iconst (pc := 48) dX6_copyFrom_48 ?_
    refine r_bipush (pc := 49) dX6_copyFrom_49 (by decide) ?_
    refine r_acp (pc := 51) (n := 22) rfl (inT 504 (by decide +kernel) rfl) dX6_copyFrom_51 (by assumption) (by assumption) (Nat.le_of_ble_eq_true rfl) (Nat.le_of_ble_eq_true rfl) (by decide) (Nat.le_of_ble_eq_true rfl) (Nat.le_of_ble_eq_true rfl) ?_
    rw [cpR_id, hr_id]
    refine r_ret (pc := 54) hret dX6_copyFrom_54 rfl rfl rfl ?_
    exact hQ h (fun _ _ => rfl) (fun _ _ _ => rfl) (fun _ _ _ => rfl) (fun _ _ _ => rfl)
  · have hD := hD.resolve_left e
    refine r_aload_0 (pc := 0) dX6_copyFrom_0 ?_
    refine r_aload_1 (pc := 1) dX6_copyFrom_1 ?_
    refine gf_X6_18 (pc := 2) rfl (by assumption) dX6_copyFrom_2 (fun i_2 => ?_)
    refine pf_X6_18 (pc := 5) rfl (by assumption) dX6_copyFrom_5 (by omega) ?_
    refine r_aload_0 (pc := 8) dX6_copyFrom_8 ?_
    refine r_aload_1 (pc := 9) dX6_copyFrom_9 ?_
    refine gf_X6_22 (pc := 10) rfl (by assumption) dX6_copyFrom_10 (fun i_10 => ?_)
    rw [hr_n (show q + 1 ≠ p + 1 by omega)] at i_10 ⊢
    refine pf_X6_22 (pc := 13) rfl (by assumption) dX6_copyFrom_13 (by omega) ?_
    rw [hr_hr, hr_s]
    refine r_aload_0 (pc := 16) dX6_copyFrom_16 ?_
    refine r_aload_1 (pc := 17) dX6_copyFrom_17 ?_
    refine gf_X6_25 (pc := 18) rfl (by assumption) dX6_copyFrom_18 (fun i_18 => ?_)
    rw [hr_n (show q + 1 ≠ p + 1 by omega)] at i_18 ⊢
    refine pf_X6_25 (pc := 21) rfl (by assumption) dX6_copyFrom_21 (by omega) ?_
    rw [hr_hr, hr_s]
    refine r_aload_1 (pc := 24) dX6_copyFrom_24 ?_
    refine gf_X6_9 (pc := 25) rfl (by assumption) dX6_copyFrom_25 (by assumption) ?_
    refine r_iconst (pc := 28) dX6_copyFrom_28 ?_
    refine r_aload_0 (pc := 29) dX6_copyFrom_29 ?_
    refine gf_X6_9 (pc := 30) rfl (by assumption) dX6_copyFrom_30 (by assumption) ?_
    refine r_iconst (pc := 33) dX6_copyFrom_33 ?_
    refine r_bipush (pc := 34) dX6_copyFrom_34 (by decide) ?_
    refine r_acp (pc := 36) (n := 22) rfl (inT 504 (by decide +kernel) rfl) dX6_copyFrom_36 (by assumption) (by assumption) (Nat.le_of_ble_eq_true rfl) (Nat.le_of_ble_eq_true rfl) (by decide) (Nat.le_of_ble_eq_true rfl) (Nat.le_of_ble_eq_true rfl) ?_
    refine r_aload_1 (pc := 39) dX6_copyFrom_39 ?_
    refine gf_X6_15 (pc := 40) rfl (by assumption) dX6_copyFrom_40 (by assumption) ?_
    refine r_iconst (pc := 43) dX6_copyFrom_43 ?_
    refine r_aload_0 (pc := 44) dX6_copyFrom_44 ?_
    refine gf_X6_15 (pc := 45) rfl (by assumption) dX6_copyFrom_45 (by assumption) ?_
    refine r_iconst (pc := 48) dX6_copyFrom_48 ?_
    refine r_bipush (pc := 49) dX6_copyFrom_49 (by decide) ?_
    refine r_acp (pc := 51) (n := 22) rfl (inT 504 (by decide +kernel) rfl) dX6_copyFrom_51 (by assumption) (by assumption) (Nat.le_of_ble_eq_true rfl) (Nat.le_of_ble_eq_true rfl) (by decide) (Nat.le_of_ble_eq_true rfl) (Nat.le_of_ble_eq_true rfl) ?_
    refine r_ret (pc := 54) hret dX6_copyFrom_54 rfl rfl rfl ?_
    refine hQ _ (fun x hx => ?_) (fun j j0 j2 => ?_) (fun j j0 j1 => ?_) (fun j j0 j1 => ?_)
    · rw [hr_n (by omega), hr_n (by omega), hr_n (by omega)]
    · rw [hr_n (by omega), hr_n (by omega), hr_s]
      rcases (show j = 0 ∨ j = 1 ∨ j = 2 by omega) with rfl | rfl | rfl
      · rfl
      · rfl
      · rfl
    · rw [hr_n (by omega), hr_s, cpR_t (by omega), hr_n (by omega)]
    · rw [hr_s, cpR_t (by omega), hr_n (by omega), hr_n (by omega)]

theorem dX6_sumWeights_0 : decode cX6_sumWeights 0 = .ok (.iconst 0, 1) := by decide +kernel
theorem dX6_sumWeights_1 : decode cX6_sumWeights 1 = .ok (.istore_n 1, 1) := by decide +kernel
theorem dX6_sumWeights_2 : decode cX6_sumWeights 2 = .ok (.iload_n 1, 1) := by decide +kernel
theorem dX6_sumWeights_3 : decode cX6_sumWeights 3 = .ok (.bipush 10, 2) := by decide +kernel
theorem dX6_sumWeights_5 : decode cX6_sumWeights 5 = .ok (.if_icmp .ge 16, 3) := by decide +kernel
theorem dX6_sumWeights_8 : decode cX6_sumWeights 8 = .ok (.aload_n 0, 1) := by decide +kernel
theorem dX6_sumWeights_9 : decode cX6_sumWeights 9 = .ok (.getfield 15, 3) := by decide +kernel
theorem dX6_sumWeights_12 : decode cX6_sumWeights 12 = .ok (.iload_n 1, 1) := by decide +kernel
theorem dX6_sumWeights_13 : decode cX6_sumWeights 13 = .ok (.iconst 0, 1) := by decide +kernel
theorem dX6_sumWeights_14 : decode cX6_sumWeights 14 = .ok (.iastore, 1) := by decide +kernel
theorem dX6_sumWeights_15 : decode cX6_sumWeights 15 = .ok (.iinc 1 1, 3) := by decide +kernel
theorem dX6_sumWeights_18 : decode cX6_sumWeights 18 = .ok (.goto (-16), 3) := by decide +kernel
theorem dX6_sumWeights_21 : decode cX6_sumWeights 21 = .ok (.bipush 10, 2) := by decide +kernel
theorem dX6_sumWeights_23 : decode cX6_sumWeights 23 = .ok (.istore_n 1, 1) := by decide +kernel
theorem dX6_sumWeights_24 : decode cX6_sumWeights 24 = .ok (.iload_n 1, 1) := by decide +kernel
theorem dX6_sumWeights_25 : decode cX6_sumWeights 25 = .ok (.aload_n 0, 1) := by decide +kernel
theorem dX6_sumWeights_26 : decode cX6_sumWeights 26 = .ok (.invokevirtual 44, 3) := by decide +kernel
theorem dX6_sumWeights_29 : decode cX6_sumWeights 29 = .ok (.if_icmp .ge 66, 3) := by decide +kernel
theorem dX6_sumWeights_32 : decode cX6_sumWeights 32 = .ok (.aload_n 0, 1) := by decide +kernel
theorem dX6_sumWeights_33 : decode cX6_sumWeights 33 = .ok (.getfield 9, 3) := by decide +kernel
theorem dX6_sumWeights_36 : decode cX6_sumWeights 36 = .ok (.iload_n 1, 1) := by decide +kernel
theorem dX6_sumWeights_37 : decode cX6_sumWeights 37 = .ok (.iaload, 1) := by decide +kernel
theorem dX6_sumWeights_38 : decode cX6_sumWeights 38 = .ok (.istore_n 2, 1) := by decide +kernel
theorem dX6_sumWeights_39 : decode cX6_sumWeights 39 = .ok (.aload_n 0, 1) := by decide +kernel
theorem dX6_sumWeights_40 : decode cX6_sumWeights 40 = .ok (.getfield 15, 3) := by decide +kernel
theorem dX6_sumWeights_43 : decode cX6_sumWeights 43 = .ok (.iload_n 2, 1) := by decide +kernel
theorem dX6_sumWeights_44 : decode cX6_sumWeights 44 = .ok (.dup2, 1) := by decide +kernel
theorem dX6_sumWeights_45 : decode cX6_sumWeights 45 = .ok (.iaload, 1) := by decide +kernel
theorem dX6_sumWeights_46 : decode cX6_sumWeights 46 = .ok (.aload_n 0, 1) := by decide +kernel
theorem dX6_sumWeights_47 : decode cX6_sumWeights 47 = .ok (.getfield 15, 3) := by decide +kernel
theorem dX6_sumWeights_50 : decode cX6_sumWeights 50 = .ok (.iload_n 1, 1) := by decide +kernel
theorem dX6_sumWeights_51 : decode cX6_sumWeights 51 = .ok (.iaload, 1) := by decide +kernel
theorem dX6_sumWeights_52 : decode cX6_sumWeights 52 = .ok (.iadd, 1) := by decide +kernel
theorem dX6_sumWeights_53 : decode cX6_sumWeights 53 = .ok (.iastore, 1) := by decide +kernel
theorem dX6_sumWeights_54 : decode cX6_sumWeights 54 = .ok (.aload_n 0, 1) := by decide +kernel
theorem dX6_sumWeights_55 : decode cX6_sumWeights 55 = .ok (.getfield 15, 3) := by decide +kernel
theorem dX6_sumWeights_58 : decode cX6_sumWeights 58 = .ok (.aload_n 0, 1) := by decide +kernel
theorem dX6_sumWeights_59 : decode cX6_sumWeights 59 = .ok (.getfield 9, 3) := by decide +kernel
theorem dX6_sumWeights_62 : decode cX6_sumWeights 62 = .ok (.iload_n 2, 1) := by decide +kernel
theorem dX6_sumWeights_63 : decode cX6_sumWeights 63 = .ok (.iaload, 1) := by decide +kernel
theorem dX6_sumWeights_64 : decode cX6_sumWeights 64 = .ok (.dup2, 1) := by decide +kernel
theorem dX6_sumWeights_65 : decode cX6_sumWeights 65 = .ok (.iaload, 1) := by decide +kernel
theorem dX6_sumWeights_66 : decode cX6_sumWeights 66 = .ok (.aload_n 0, 1) := by decide +kernel
theorem dX6_sumWeights_67 : decode cX6_sumWeights 67 = .ok (.getfield 15, 3) := by decide +kernel
theorem dX6_sumWeights_70 : decode cX6_sumWeights 70 = .ok (.iload_n 1, 1) := by decide +kernel
theorem dX6_sumWeights_71 : decode cX6_sumWeights 71 = .ok (.iaload, 1) := by decide +kernel
theorem dX6_sumWeights_72 : decode cX6_sumWeights 72 = .ok (.iadd, 1) := by decide +kernel
theorem dX6_sumWeights_73 : decode cX6_sumWeights 73 = .ok (.iastore, 1) := by decide +kernel
theorem dX6_sumWeights_74 : decode cX6_sumWeights 74 = .ok (.aload_n 0, 1) := by decide +kernel
theorem dX6_sumWeights_75 : decode cX6_sumWeights 75 = .ok (.getfield 15, 3) := by decide +kernel
theorem dX6_sumWeights_78 : decode cX6_sumWeights 78 = .ok (.iconst 0, 1) := by decide +kernel
theorem dX6_sumWeights_79 : decode cX6_sumWeights 79 = .ok (.dup2, 1) := by decide +kernel
theorem dX6_sumWeights_80 : decode cX6_sumWeights 80 = .ok (.iaload, 1) := by decide +kernel
theorem dX6_sumWeights_81 : decode cX6_sumWeights 81 = .ok (.aload_n 0, 1) := by decide +kernel
theorem dX6_sumWeights_82 : decode cX6_sumWeights 82 = .ok (.getfield 15, 3) := by decide +kernel
theorem dX6_sumWeights_85 : decode cX6_sumWeights 85 = .ok (.iload_n 1, 1) := by decide +kernel
theorem dX6_sumWeights_86 : decode cX6_sumWeights 86 = .ok (.iaload, 1) := by decide +kernel
theorem dX6_sumWeights_87 : decode cX6_sumWeights 87 = .ok (.iadd, 1) := by decide +kernel
theorem dX6_sumWeights_88 : decode cX6_sumWeights 88 = .ok (.iastore, 1) := by decide +kernel
theorem dX6_sumWeights_89 : decode cX6_sumWeights 89 = .ok (.iinc 1 1, 3) := by decide +kernel
theorem dX6_sumWeights_92 : decode cX6_sumWeights 92 = .ok (.goto (-68), 3) := by decide +kernel
theorem dX6_sumWeights_95 : decode cX6_sumWeights 95 = .ok (.return_, 1) := by decide +kernel
set_option maxHeartbeats 4000000 in
set_option maxRecDepth 20000 in
theorem c_X6_sumWeights : ConV mX6_sumWeights (fun args N lay r h Q => ∃ (p : Nat) (mp : Int → Int), args = [.ref (p + 1)] ∧ PlAt lay r p ∧ TrM mp ∧ PTr h p mp ∧ ∀ f, (∀ n, 0 ≤ n → n < 10 → f n = wg mp n) → (∀ d, 10 ≤ d → f d = h (p + 3) d) → Q N lay r (hr h (p + 3) f)) := by
  refine ConV.of (by decide) (by rintro _ N lay r h Q ⟨p, mp, rfl, hA, hT, hN, hQ⟩; exact ⟨rfl, Nat.le_of_ble_eq_true rfl⟩) ?_
  rintro E _ N lay r h Q ⟨p, mp, rfl, hA, hT, hN, hQ⟩ hret
  obtain ⟨pl0, pl1, pl2, pl3, pl4, pl5, pl6, pl7, pl8, pl9, pl10, pl11, pl12, pl13, pr0, pr1, pr2, pr3, pr9, pr10, pr11, qr3, qr4, vr1, vr2, vr3, vr4⟩ := id hA
  obtain ⟨⟨n0, n1, n2⟩, up1, up2, uw, u0, uh⟩ := id hN
  obtain ⟨t1, t2, t3, t4, t5, t6, t7⟩ := id hT
  show St E mX6_sumWeights 0 [some (.ref (p + 1)), none, none] [] (0, 0) N lay r h
  have l2 : ∀ (n_ : Nat) (d : Int) (f : Int → Int) (x2 : Option Value), (22 - d).toNat = n_ → (10 ≤ d ∧ d ≤ 10 + mp 130) → (∀ m, 10 ≤ m → f m = h (p + 3) m) → (∀ m, 0 ≤ m → m < 10 → f m = sW mp m (d - 10).toNat) → St E mX6_sumWeights 24 [some (.ref (p + 1)), some (vI d), x2] [] (0, 0) N lay r (hr h (p + 3) f) := by
    intro  n_
    induction n_ using Nat.strongRecOn with
    | ind n_ ih =>
      intro d f x2 hn_ hd hhi hlo
      obtain ⟨k, rfl⟩ : ∃ k : Nat, d = 10 + k := ⟨(d - 10).toNat, by omega⟩
      rw [show (10 + (k : Int) - 10).toNat = k by omega] at hlo
      have en : hr h (p + 3) f (p + 1) 2 = mp 130 := by rw [hr_n (by omega)]; exact n2
      refine r_iload_1 (pc := 24) dX6_sumWeights_24 ?_
      refine r_aload_0 (pc := 25) dX6_sumWeights_25 ?_
      refine k_VI0 (pc := 26) c_X6_endOfDisks lk_X6_44 ⟨Nat.le_of_ble_eq_true rfl, Nat.le_of_ble_eq_true rfl⟩ ⟨rfl, rfl⟩ ⟨Nat.le_of_ble_eq_true rfl, Nat.le_of_ble_eq_true rfl⟩ (k := 6) rfl (by decide) (by assumption) dX6_sumWeights_26 (Nat.le_of_ble_eq_true rfl) ?_
      refine ⟨_, _, rfl, by assumption, fun i_26 => ?_⟩
      refine r_icmp_ge (pc := 29) (tgt := 95) dX6_sumWeights_29 (by decide) (by omega) (by omega) (fun c_29 => ?_) (fun c_29 => ?_)
      · refine r_ret (pc := 95) hret dX6_sumWeights_95 rfl rfl rfl ?_
        refine hQ f (fun m m0 m1 => ?_) hhi
        rw [wg_lo hT m0 m1, hlo m m0 m1]
        unfold wt
        rw [show (mp 130).toNat = k by omega]
      · have ea : h (p + 2) (10 + (k : Int)) = mp (10 + (k : Int)) := up2 _ (by omega) (by omega)
        have q6 := t6 (10 + (k : Int)) (by omega) (by omega)
        have q5 := t5 (mp (10 + (k : Int))) (by omega) (by omega)
        have q7 := t7 (10 + (k : Int)) (by omega) (by omega)
        have eh : h (p + 2) (mp (10 + (k : Int))) = mp (mp (10 + (k : Int))) := up1 _ (by omega) (by omega)
        have fd : f (10 + (k : Int)) = mp (22 + (10 + (k : Int))) := by rw [hhi _ (by omega)]; exact uw _ (by omega) (by omega)
        have w0 := sW_r hT 0 k (by omega)
        have w1 := sW_r hT (mp (10 + (k : Int))) k (by omega)
        have w2 := sW_r hT (mp (mp (10 + (k : Int)))) k (by omega)
        have f0 := hlo 0 (by omega) (by omega)
        have f1 := hlo (mp (10 + (k : Int))) (by omega) (by omega)
        have f2 := hlo (mp (mp (10 + (k : Int)))) (by omega) (by omega)
        refine r_aload_0 (pc := 32) dX6_sumWeights_32 ?_
        refine gf_X6_9 (pc := 33) rfl (by assumption) dX6_sumWeights_33 (by assumption) ?_
        refine r_iload_1 (pc := 36) dX6_sumWeights_36 ?_
        refine r_ialdE (pc := 37) (by assumption) (by first | exact hr_s | exact hr_n (by omega) | assumption | exact rfl) dX6_sumWeights_37 (by omega) (by omega) (fun i_37 => ?_)
        rw [ea]
        refine r_istore_2 (pc := 38) dX6_sumWeights_38 rfl ?_
        refine r_aload_0 (pc := 39) dX6_sumWeights_39 ?_
        refine gf_X6_15 (pc := 40) rfl (by assumption) dX6_sumWeights_40 (by assumption) ?_
        refine r_iload_2 (pc := 43) dX6_sumWeights_43 ?_
        refine r_dup2 (pc := 44) dX6_sumWeights_44 ?_
        refine r_ialdE (pc := 45) (by assumption) (by first | exact hr_s | exact hr_n (by omega) | assumption | exact rfl) dX6_sumWeights_45 (by omega) (by omega) (fun i_45 => ?_)
        refine r_aload_0 (pc := 46) dX6_sumWeights_46 ?_
        refine gf_X6_15 (pc := 47) rfl (by assumption) dX6_sumWeights_47 (by assumption) ?_
        refine r_iload_1 (pc := 50) dX6_sumWeights_50 ?_
        refine r_ialdE (pc := 51) (by assumption) (by first | exact hr_s | exact hr_n (by omega) | assumption | exact rfl) dX6_sumWeights_51 (by omega) (by omega) (fun i_51 => ?_)
        rw [fd]
        refine r_iadd (pc := 52) dX6_sumWeights_52 ?_
        refine r_iastE (pc := 53) (by assumption) (by first | exact hr_s | exact hr_n (by omega) | assumption | exact rfl) dX6_sumWeights_53 (by omega) (by omega) (by omega) ?_
        rw [hr_hr]
        refine r_aload_0 (pc := 54) dX6_sumWeights_54 ?_
        refine gf_X6_15 (pc := 55) rfl (by assumption) dX6_sumWeights_55 (by assumption) ?_
        refine r_aload_0 (pc := 58) dX6_sumWeights_58 ?_
        refine gf_X6_9 (pc := 59) rfl (by assumption) dX6_sumWeights_59 (by assumption) ?_
        refine r_iload_2 (pc := 62) dX6_sumWeights_62 ?_
        refine r_ialdE (pc := 63) (by assumption) (by first | exact hr_s | exact hr_n (by omega) | assumption | exact rfl) dX6_sumWeights_63 (by omega) (by omega) (fun i_63 => ?_)
        rw [eh]
        refine r_dup2 (pc := 64) dX6_sumWeights_64 ?_
        refine r_ialdE (pc := 65) (by assumption) (by first | exact hr_s | exact hr_n (by omega) | assumption | exact rfl) dX6_sumWeights_65 (by omega) (by omega) (fun i_65 => ?_)
        rw [up_n (by omega)]
        refine r_aload_0 (pc := 66) dX6_sumWeights_66 ?_
        refine gf_X6_15 (pc := 67) rfl (by assumption) dX6_sumWeights_67 (by assumption) ?_
        refine r_iload_1 (pc := 70) dX6_sumWeights_70 ?_
        refine r_ialdE (pc := 71) (by assumption) (by first | exact hr_s | exact hr_n (by omega) | assumption | exact rfl) dX6_sumWeights_71 (by omega) (by omega) (fun i_71 => ?_)
        rw [up_n (by omega), fd]
        refine r_iadd (pc := 72) dX6_sumWeights_72 ?_
        refine r_iastE (pc := 73) (by assumption) (by first | exact hr_s | exact hr_n (by omega) | assumption | exact rfl) dX6_sumWeights_73 (by omega) (by omega) (by omega) ?_
        rw [hr_hr]
        refine r_aload_0 (pc := 74) dX6_sumWeights_74 ?_
        refine gf_X6_15 (pc := 75) rfl (by assumption) dX6_sumWeights_75 (by assumption) ?_
        refine r_iconst (pc := 78) dX6_sumWeights_78 ?_
        refine r_dup2 (pc := 79) dX6_sumWeights_79 ?_
        refine r_ialdE (pc := 80) (by assumption) (by first | exact hr_s | exact hr_n (by omega) | assumption | exact rfl) dX6_sumWeights_80 (by omega) (by omega) (fun i_80 => ?_)
        rw [up_n (by omega), up_n (by omega)]
        refine r_aload_0 (pc := 81) dX6_sumWeights_81 ?_
        refine gf_X6_15 (pc := 82) rfl (by assumption) dX6_sumWeights_82 (by assumption) ?_
        refine r_iload_1 (pc := 85) dX6_sumWeights_85 ?_
        refine r_ialdE (pc := 86) (by assumption) (by first | exact hr_s | exact hr_n (by omega) | assumption | exact rfl) dX6_sumWeights_86 (by omega) (by omega) (fun i_86 => ?_)
        rw [up_n (by omega), up_n (by omega), fd]
        refine r_iadd (pc := 87) dX6_sumWeights_87 ?_
        refine r_iastE (pc := 88) (by assumption) (by first | exact hr_s | exact hr_n (by omega) | assumption | exact rfl) dX6_sumWeights_88 (by omega) (by omega) (by omega) ?_
        rw [hr_hr]
        refine r_iinc_1 (pc := 89) dX6_sumWeights_89 rfl ?_
        refine r_goto (pc := 92) (tgt := 24) dX6_sumWeights_92 (by decide) ?_
        refine ih _ (by omega) (10 + (k : Int) + 1) _ _ rfl (by omega) (fun m hm => ?_) (fun m m0 m1 => ?_)
        · rw [up_n (by omega), up_n (by omega), up_n (by omega)]; exact hhi m hm
        · rw [show (10 + (k : Int) + 1 - 10).toNat = k + 1 by omega, sW_s]
          have e9 := hlo m m0 m1
          by_cases e0 : m = 0
          · subst e0
            rw [up_s, if_pos (Or.inl rfl), e9]
          · rw [up_n e0]
            by_cases e2 : m = mp (mp (10 + (k : Int)))
            · subst e2
              rw [up_s, if_pos (Or.inr (Or.inr (Or.inr rfl))), e9]
            · rw [up_n e2]
              by_cases e3 : m = mp (10 + (k : Int))
              · subst e3
                rw [up_s, if_pos (Or.inr (Or.inr (Or.inl rfl))), e9]
              · rw [up_n e3, if_neg (show ¬ bel mp (10 + (k : Int)) m from fun z => by rcases z with z | z | z | z <;> omega), e9]
                omega
  have l1 : ∀ (n_ : Nat) (n : Int) (f : Int → Int), (10 - n).toNat = n_ → (0 ≤ n ∧ n ≤ 10) → (∀ m, 10 ≤ m → f m = h (p + 3) m) → (∀ m, 0 ≤ m → m < n → f m = 0) → St E mX6_sumWeights 2 [some (.ref (p + 1)), some (vI n), none] [] (0, 0) N lay r (hr h (p + 3) f) := by
    intro  n_
    induction n_ using Nat.strongRecOn with
    | ind n_ ih =>
      intro n f hn_ hn hhi hlo
      refine r_iload_1 (pc := 2) dX6_sumWeights_2 ?_
      refine r_bipush (pc := 3) dX6_sumWeights_3 (by decide) ?_
      refine r_icmp_ge (pc := 5) (tgt := 21) dX6_sumWeights_5 (by decide) (by omega) (by omega) (fun c_5 => ?_) (fun c_5 => ?_)
      · refine r_bipush (pc := 21) dX6_sumWeights_21 (by decide) ?_
        refine r_istore_1 (pc := 23) dX6_sumWeights_23 rfl ?_
        exact l2 _ 10 f _ rfl (by omega) hhi (fun m m0 m1 => by rw [hlo m m0 (by omega)]; rfl)
      · refine r_aload_0 (pc := 8) dX6_sumWeights_8 ?_
        refine gf_X6_15 (pc := 9) rfl (by assumption) dX6_sumWeights_9 (by assumption) ?_
        refine r_iload_1 (pc := 12) dX6_sumWeights_12 ?_
        refine r_iconst (pc := 13) dX6_sumWeights_13 ?_
        refine r_iastE (pc := 14) (by assumption) (by first | exact hr_s | exact hr_n (by omega) | assumption | exact rfl) dX6_sumWeights_14 (by omega) (by omega) (by omega) ?_
        rw [hr_hr]
        refine r_iinc_1 (pc := 15) dX6_sumWeights_15 rfl ?_
        refine r_goto (pc := 18) (tgt := 2) dX6_sumWeights_18 (by decide) ?_
        refine ih _ (by omega) (n + 1) _ rfl (by omega) (fun m hm => ?_) (fun m m0 m1 => ?_)
        · rw [up_n (by omega)]; exact hhi m hm
        · by_cases e : m = n
          · rw [e, up_s]
          · rw [up_n e]; exact hlo m m0 (by omega)
  have e0 : St E mX6_sumWeights 0 [some (.ref (p + 1)), none, none] [] (0, 0) N lay r (hr h (p + 3) (h (p + 3))) := by
    refine r_iconst (pc := 0) dX6_sumWeights_0 ?_
    refine r_istore_1 (pc := 1) dX6_sumWeights_1 rfl ?_
    exact l1 _ 0 _ rfl (by omega) (fun _ _ => rfl) (fun m m0 m1 => by omega)
  rw [hr_id] at e0
  exact e0

def fbl (n : Int) : Int := if n = 0 then 1 else if n < 4 then 4 else 10
def ebl (mp : Int → Int) (n : Int) : Int := if n = 0 then 1 + mp 128 else if n < 4 then 4 + mp 129 else if n < 10 then 10 + mp 130 else 10
theorem dX6_firstBelow_0 : decode cX6_firstBelow 0 = .ok (.iload_n 1, 1) := by decide +kernel
theorem dX6_firstBelow_1 : decode cX6_firstBelow 1 = .ok (.ifCond .ne 7, 3) := by decide +kernel
theorem dX6_firstBelow_4 : decode cX6_firstBelow 4 = .ok (.iconst 1, 1) := by decide +kernel
theorem dX6_firstBelow_5 : decode cX6_firstBelow 5 = .ok (.goto 14, 3) := by decide +kernel
theorem dX6_firstBelow_8 : decode cX6_firstBelow 8 = .ok (.iload_n 1, 1) := by decide +kernel
theorem dX6_firstBelow_9 : decode cX6_firstBelow 9 = .ok (.iconst 4, 1) := by decide +kernel
theorem dX6_firstBelow_10 : decode cX6_firstBelow 10 = .ok (.if_icmp .ge 7, 3) := by decide +kernel
theorem dX6_firstBelow_13 : decode cX6_firstBelow 13 = .ok (.iconst 4, 1) := by decide +kernel
theorem dX6_firstBelow_14 : decode cX6_firstBelow 14 = .ok (.goto 5, 3) := by decide +kernel
theorem dX6_firstBelow_17 : decode cX6_firstBelow 17 = .ok (.bipush 10, 2) := by decide +kernel
theorem dX6_firstBelow_19 : decode cX6_firstBelow 19 = .ok (.ireturn, 1) := by decide +kernel
set_option maxHeartbeats 4000000 in
set_option maxRecDepth 20000 in
theorem c_X6_firstBelow : ConI mX6_firstBelow (fun args N lay r h Q => ∃ (t : Nat) (n : Int), args = [.ref t, vI n] ∧ (0 ≤ n ∧ n < 22) ∧ Q (fbl n) N lay r h) := by
  refine ConI.of (by decide) (by rintro _ N lay r h Q ⟨t, n, rfl, hn, hQ⟩; exact ⟨rfl, Nat.le_of_ble_eq_true rfl⟩) ?_
  rintro E _ N lay r h Q ⟨t, n, rfl, hn, hQ⟩ hret
  show St E mX6_firstBelow 0 [some (.ref t), some (vI n)] [] (0, 0) N lay r h
  refine r_iload_1 (pc := 0) dX6_firstBelow_0 ?_
  refine r_if_ne (pc := 1) (tgt := 8) dX6_firstBelow_1 (by decide) (by omega) (fun c_1 => ?_) (fun c_1 => ?_)
  · refine r_iload_1 (pc := 8) dX6_firstBelow_8 ?_
    refine r_iconst (pc := 9) dX6_firstBelow_9 ?_
    refine r_icmp_ge (pc := 10) (tgt := 17) dX6_firstBelow_10 (by decide) (by omega) (by omega) (fun c_10 => ?_) (fun c_10 => ?_)
    · refine r_bipush (pc := 17) dX6_firstBelow_17 (by decide) ?_
      refine r_iret (pc := 19) hret dX6_firstBelow_19 rfl rfl rfl ?_
      unfold fbl at hQ
      first
      | (rw [if_pos (by omega)] at hQ; exact hQ)
      | (rw [if_neg (by omega), if_pos (by omega)] at hQ; exact hQ)
      | (rw [if_neg (by omega), if_neg (by omega)] at hQ; exact hQ)
    · refine r_iconst (pc := 13) dX6_firstBelow_13 ?_
      refine r_goto (pc := 14) (tgt := 19) dX6_firstBelow_14 (by decide) ?_
      refine r_iret (pc := 19) hret dX6_firstBelow_19 rfl rfl rfl ?_
      unfold fbl at hQ
      first
      | (rw [if_pos (by omega)] at hQ; exact hQ)
      | (rw [if_neg (by omega), if_pos (by omega)] at hQ; exact hQ)
      | (rw [if_neg (by omega), if_neg (by omega)] at hQ; exact hQ)
  · refine r_iconst (pc := 4) dX6_firstBelow_4 ?_
    refine r_goto (pc := 5) (tgt := 19) dX6_firstBelow_5 (by decide) ?_
    refine r_iret (pc := 19) hret dX6_firstBelow_19 rfl rfl rfl ?_
    unfold fbl at hQ
    first
    | (rw [if_pos (by omega)] at hQ; exact hQ)
    | (rw [if_neg (by omega), if_pos (by omega)] at hQ; exact hQ)
    | (rw [if_neg (by omega), if_neg (by omega)] at hQ; exact hQ)

theorem dX6_endBelow_0 : decode cX6_endBelow 0 = .ok (.iload_n 1, 1) := by decide +kernel
theorem dX6_endBelow_1 : decode cX6_endBelow 1 = .ok (.ifCond .ne 10, 3) := by decide +kernel
theorem dX6_endBelow_4 : decode cX6_endBelow 4 = .ok (.iconst 1, 1) := by decide +kernel
theorem dX6_endBelow_5 : decode cX6_endBelow 5 = .ok (.aload_n 0, 1) := by decide +kernel
theorem dX6_endBelow_6 : decode cX6_endBelow 6 = .ok (.getfield 18, 3) := by decide +kernel
theorem dX6_endBelow_9 : decode cX6_endBelow 9 = .ok (.iadd, 1) := by decide +kernel
theorem dX6_endBelow_10 : decode cX6_endBelow 10 = .ok (.ireturn, 1) := by decide +kernel
theorem dX6_endBelow_11 : decode cX6_endBelow 11 = .ok (.iload_n 1, 1) := by decide +kernel
theorem dX6_endBelow_12 : decode cX6_endBelow 12 = .ok (.iconst 4, 1) := by decide +kernel
theorem dX6_endBelow_13 : decode cX6_endBelow 13 = .ok (.if_icmp .ge 10, 3) := by decide +kernel
theorem dX6_endBelow_16 : decode cX6_endBelow 16 = .ok (.iconst 4, 1) := by decide +kernel
theorem dX6_endBelow_17 : decode cX6_endBelow 17 = .ok (.aload_n 0, 1) := by decide +kernel
theorem dX6_endBelow_18 : decode cX6_endBelow 18 = .ok (.getfield 22, 3) := by decide +kernel
theorem dX6_endBelow_21 : decode cX6_endBelow 21 = .ok (.iadd, 1) := by decide +kernel
theorem dX6_endBelow_22 : decode cX6_endBelow 22 = .ok (.ireturn, 1) := by decide +kernel
theorem dX6_endBelow_23 : decode cX6_endBelow 23 = .ok (.iload_n 1, 1) := by decide +kernel
theorem dX6_endBelow_24 : decode cX6_endBelow 24 = .ok (.bipush 10, 2) := by decide +kernel
theorem dX6_endBelow_26 : decode cX6_endBelow 26 = .ok (.if_icmp .ge 10, 3) := by decide +kernel
theorem dX6_endBelow_29 : decode cX6_endBelow 29 = .ok (.aload_n 0, 1) := by decide +kernel
theorem dX6_endBelow_30 : decode cX6_endBelow 30 = .ok (.invokevirtual 44, 3) := by decide +kernel
theorem dX6_endBelow_33 : decode cX6_endBelow 33 = .ok (.goto 5, 3) := by decide +kernel
theorem dX6_endBelow_36 : decode cX6_endBelow 36 = .ok (.bipush 10, 2) := by decide +kernel
theorem dX6_endBelow_38 : decode cX6_endBelow 38 = .ok (.ireturn, 1) := by decide +kernel
set_option maxHeartbeats 4000000 in
set_option maxRecDepth 20000 in
theorem c_X6_endBelow : ConI mX6_endBelow (fun args N lay r h Q => ∃ (p : Nat) (mp : Int → Int) (n : Int), args = [.ref (p + 1), vI n] ∧ PlAt lay r p ∧ TrM mp ∧ PTr h p mp ∧ (0 ≤ n ∧ n < 22) ∧ Q (ebl mp n) N lay r h) := by
  refine ConI.of (by decide) (by rintro _ N lay r h Q ⟨p, mp, n, rfl, hA, hT, hN, hn, hQ⟩; exact ⟨rfl, Nat.le_of_ble_eq_true rfl⟩) ?_
  rintro E _ N lay r h Q ⟨p, mp, n, rfl, hA, hT, hN, hn, hQ⟩ hret
  obtain ⟨pl0, pl1, pl2, pl3, pl4, pl5, pl6, pl7, pl8, pl9, pl10, pl11, pl12, pl13, pr0, pr1, pr2, pr3, pr9, pr10, pr11, qr3, qr4, vr1, vr2, vr3, vr4⟩ := id hA
  obtain ⟨⟨n0, n1, n2⟩, up1, up2, uw, u0, uh⟩ := id hN
  obtain ⟨t1, t2, t3, t4, t5, t6, t7⟩ := id hT
  show St E mX6_endBelow 0 [some (.ref (p + 1)), some (vI n)] [] (0, 0) N lay r h
  refine r_iload_1 (pc := 0) dX6_endBelow_0 ?_
  refine r_if_ne (pc := 1) (tgt := 11) dX6_endBelow_1 (by decide) (by omega) (fun c_1 => ?_) (fun c_1 => ?_)
  · refine r_iload_1 (pc := 11) dX6_endBelow_11 ?_
    refine r_iconst (pc := 12) dX6_endBelow_12 ?_
    refine r_icmp_ge (pc := 13) (tgt := 23) dX6_endBelow_13 (by decide) (by omega) (by omega) (fun c_13 => ?_) (fun c_13 => ?_)
    · refine r_iload_1 (pc := 23) dX6_endBelow_23 ?_
      refine r_bipush (pc := 24) dX6_endBelow_24 (by decide) ?_
      refine r_icmp_ge (pc := 26) (tgt := 36) dX6_endBelow_26 (by decide) (by omega) (by omega) (fun c_26 => ?_) (fun c_26 => ?_)
      · refine r_bipush (pc := 36) dX6_endBelow_36 (by decide) ?_
        refine r_iret (pc := 38) hret dX6_endBelow_38 rfl rfl rfl ?_
        unfold ebl at hQ
        first
        | (rw [if_pos (by omega), ← n0] at hQ; exact hQ)
        | (rw [if_neg (by omega), if_pos (by omega), ← n1] at hQ; exact hQ)
        | (rw [if_neg (by omega), if_neg (by omega), if_pos (by omega), ← n2] at hQ; exact hQ)
        | (rw [if_neg (by omega), if_neg (by omega), if_neg (by omega)] at hQ; exact hQ)
      · refine r_aload_0 (pc := 29) dX6_endBelow_29 ?_
        refine k_VI0 (pc := 30) c_X6_endOfDisks lk_X6_44 ⟨Nat.le_of_ble_eq_true rfl, Nat.le_of_ble_eq_true rfl⟩ ⟨rfl, rfl⟩ ⟨Nat.le_of_ble_eq_true rfl, Nat.le_of_ble_eq_true rfl⟩ (k := 6) rfl (by decide) (by assumption) dX6_endBelow_30 (Nat.le_of_ble_eq_true rfl) ?_
        refine ⟨_, _, rfl, by assumption, fun i_30 => ?_⟩
        refine r_goto (pc := 33) (tgt := 38) dX6_endBelow_33 (by decide) ?_
        refine r_iret (pc := 38) hret dX6_endBelow_38 rfl rfl rfl ?_
        unfold ebl at hQ
        first
        | (rw [if_pos (by omega), ← n0] at hQ; exact hQ)
        | (rw [if_neg (by omega), if_pos (by omega), ← n1] at hQ; exact hQ)
        | (rw [if_neg (by omega), if_neg (by omega), if_pos (by omega), ← n2] at hQ; exact hQ)
        | (rw [if_neg (by omega), if_neg (by omega), if_neg (by omega)] at hQ; exact hQ)
    · refine r_iconst (pc := 16) dX6_endBelow_16 ?_
      refine r_aload_0 (pc := 17) dX6_endBelow_17 ?_
      refine gf_X6_22 (pc := 18) rfl (by assumption) dX6_endBelow_18 (fun i_18 => ?_)
      refine r_iadd (pc := 21) dX6_endBelow_21 ?_
      refine r_iret (pc := 22) hret dX6_endBelow_22 rfl rfl rfl ?_
      unfold ebl at hQ
      first
      | (rw [if_pos (by omega), ← n0] at hQ; exact hQ)
      | (rw [if_neg (by omega), if_pos (by omega), ← n1] at hQ; exact hQ)
      | (rw [if_neg (by omega), if_neg (by omega), if_pos (by omega), ← n2] at hQ; exact hQ)
      | (rw [if_neg (by omega), if_neg (by omega), if_neg (by omega)] at hQ; exact hQ)
  · refine r_iconst (pc := 4) dX6_endBelow_4 ?_
    refine r_aload_0 (pc := 5) dX6_endBelow_5 ?_
    refine gf_X6_18 (pc := 6) rfl (by assumption) dX6_endBelow_6 (fun i_6 => ?_)
    refine r_iadd (pc := 9) dX6_endBelow_9 ?_
    refine r_iret (pc := 10) hret dX6_endBelow_10 rfl rfl rfl ?_
    unfold ebl at hQ
    first
    | (rw [if_pos (by omega), ← n0] at hQ; exact hQ)
    | (rw [if_neg (by omega), if_pos (by omega), ← n1] at hQ; exact hQ)
    | (rw [if_neg (by omega), if_neg (by omega), if_pos (by omega), ← n2] at hQ; exact hQ)
    | (rw [if_neg (by omega), if_neg (by omega), if_neg (by omega)] at hQ; exact hQ)

theorem dX4_lengthOf_0 : decode cX4_lengthOf 0 = .ok (.iload_n 3, 1) := by decide +kernel
theorem dX4_lengthOf_1 : decode cX4_lengthOf 1 = .ok (.bipush 24, 2) := by decide +kernel
theorem dX4_lengthOf_3 : decode cX4_lengthOf 3 = .ok (.if_icmp .lt 13, 3) := by decide +kernel
theorem dX4_lengthOf_6 : decode cX4_lengthOf 6 = .ok (.iload_n 1, 1) := by decide +kernel
theorem dX4_lengthOf_7 : decode cX4_lengthOf 7 = .ok (.iload_n 2, 1) := by decide +kernel
theorem dX4_lengthOf_8 : decode cX4_lengthOf 8 = .ok (.iload_n 3, 1) := by decide +kernel
theorem dX4_lengthOf_9 : decode cX4_lengthOf 9 = .ok (.invokestatic 26, 3) := by decide +kernel
theorem dX4_lengthOf_12 : decode cX4_lengthOf 12 = .ok (.invokestatic 30, 3) := by decide +kernel
theorem dX4_lengthOf_15 : decode cX4_lengthOf 15 = .ok (.ireturn, 1) := by decide +kernel
theorem dX4_lengthOf_16 : decode cX4_lengthOf 16 = .ok (.iload_n 1, 1) := by decide +kernel
theorem dX4_lengthOf_17 : decode cX4_lengthOf 17 = .ok (.bipush 24, 2) := by decide +kernel
theorem dX4_lengthOf_19 : decode cX4_lengthOf 19 = .ok (.imul, 1) := by decide +kernel
theorem dX4_lengthOf_20 : decode cX4_lengthOf 20 = .ok (.iload_n 3, 1) := by decide +kernel
theorem dX4_lengthOf_21 : decode cX4_lengthOf 21 = .ok (.iadd, 1) := by decide +kernel
theorem dX4_lengthOf_22 : decode cX4_lengthOf 22 = .ok (.bipush 22, 2) := by decide +kernel
theorem dX4_lengthOf_24 : decode cX4_lengthOf 24 = .ok (.imul, 1) := by decide +kernel
theorem dX4_lengthOf_25 : decode cX4_lengthOf 25 = .ok (.iload_n 2, 1) := by decide +kernel
theorem dX4_lengthOf_26 : decode cX4_lengthOf 26 = .ok (.iadd, 1) := by decide +kernel
theorem dX4_lengthOf_27 : decode cX4_lengthOf 27 = .ok (.istore 4, 2) := by decide +kernel
theorem dX4_lengthOf_29 : decode cX4_lengthOf 29 = .ok (.aload_n 0, 1) := by decide +kernel
theorem dX4_lengthOf_30 : decode cX4_lengthOf 30 = .ok (.getfield 9, 3) := by decide +kernel
theorem dX4_lengthOf_33 : decode cX4_lengthOf 33 = .ok (.iload 4, 2) := by decide +kernel
theorem dX4_lengthOf_35 : decode cX4_lengthOf 35 = .ok (.iaload, 1) := by decide +kernel
theorem dX4_lengthOf_36 : decode cX4_lengthOf 36 = .ok (.ifCond .ne 19, 3) := by decide +kernel
theorem dX4_lengthOf_39 : decode cX4_lengthOf 39 = .ok (.aload_n 0, 1) := by decide +kernel
theorem dX4_lengthOf_40 : decode cX4_lengthOf 40 = .ok (.getfield 9, 3) := by decide +kernel
theorem dX4_lengthOf_43 : decode cX4_lengthOf 43 = .ok (.iload 4, 2) := by decide +kernel
theorem dX4_lengthOf_45 : decode cX4_lengthOf 45 = .ok (.iload_n 1, 1) := by decide +kernel
theorem dX4_lengthOf_46 : decode cX4_lengthOf 46 = .ok (.iload_n 2, 1) := by decide +kernel
theorem dX4_lengthOf_47 : decode cX4_lengthOf 47 = .ok (.iload_n 3, 1) := by decide +kernel
theorem dX4_lengthOf_48 : decode cX4_lengthOf 48 = .ok (.invokestatic 26, 3) := by decide +kernel
theorem dX4_lengthOf_51 : decode cX4_lengthOf 51 = .ok (.invokestatic 30, 3) := by decide +kernel
theorem dX4_lengthOf_54 : decode cX4_lengthOf 54 = .ok (.iastore, 1) := by decide +kernel
theorem dX4_lengthOf_55 : decode cX4_lengthOf 55 = .ok (.aload_n 0, 1) := by decide +kernel
theorem dX4_lengthOf_56 : decode cX4_lengthOf 56 = .ok (.getfield 9, 3) := by decide +kernel
theorem dX4_lengthOf_59 : decode cX4_lengthOf 59 = .ok (.iload 4, 2) := by decide +kernel
theorem dX4_lengthOf_61 : decode cX4_lengthOf 61 = .ok (.iaload, 1) := by decide +kernel
theorem dX4_lengthOf_62 : decode cX4_lengthOf 62 = .ok (.ireturn, 1) := by decide +kernel
set_option maxHeartbeats 4000000 in
set_option maxRecDepth 20000 in
theorem c_X4_lengthOf : ConI mX4_lengthOf (fun args N lay r h Q => ∃ (s : Nat) (g n t : Int), args = [.ref s, vI g, vI n, vI t] ∧ StAt lay r s ∧ StK (h (s + 1)) ∧ (0 ≤ g ∧ g < 16) ∧ (0 ≤ n ∧ n < 22) ∧ (0 ≤ t ∧ t < 100) ∧ ∀ f, StK f → Q (wn (dr g n t)) N lay r (hr h (s + 1) f)) := by
  refine ConI.of (by decide) (by rintro _ N lay r h Q ⟨s, g, n, t, rfl, hS, hK, hg, hn, ht, hQ⟩; exact ⟨rfl, Nat.le_of_ble_eq_true rfl⟩) ?_
  rintro E _ N lay r h Q ⟨s, g, n, t, rfl, hS, hK, hg, hn, ht, hQ⟩ hret
  obtain ⟨sl0, sl1, sr0⟩ := id hS
  have hz := fun t4 => hK g n t hg.1 hg.2 hn.1 hn.2 ht.1 t4
  have dr1 := dr_r g n t
  show St E mX4_lengthOf 0 [some (.ref s), some (vI g), some (vI n), some (vI t), none] [] (0, 0) N lay r h
  refine r_iload_3 (pc := 0) dX4_lengthOf_0 ?_
  refine r_bipush (pc := 1) dX4_lengthOf_1 (by decide) ?_
  refine r_icmp_lt (pc := 3) (tgt := 16) dX4_lengthOf_3 (by decide) (by omega) (by omega) (fun c_3 => ?_) (fun c_3 => ?_)
  · refine r_iload_1 (pc := 16) dX4_lengthOf_16 ?_
    refine r_bipush (pc := 17) dX4_lengthOf_17 (by decide) ?_
    refine r_imul (pc := 19) dX4_lengthOf_19 ?_
    refine r_iload_3 (pc := 20) dX4_lengthOf_20 ?_
    refine r_iadd (pc := 21) dX4_lengthOf_21 ?_
    refine r_bipush (pc := 22) dX4_lengthOf_22 (by decide) ?_
    refine r_imul (pc := 24) dX4_lengthOf_24 ?_
    refine r_iload_2 (pc := 25) dX4_lengthOf_25 ?_
    refine r_iadd (pc := 26) dX4_lengthOf_26 ?_
    refine r_istore_4 (pc := 27) dX4_lengthOf_27 rfl ?_
    have hz4 := hz (by omega)
    have i4 : 0 ≤ (g * 24 + t) * 22 + n ∧ (g * 24 + t) * 22 + n < 8448 := by omega
    refine r_aload_0 (pc := 29) dX4_lengthOf_29 ?_
    refine gf_X4_9 (pc := 30) rfl (by assumption) dX4_lengthOf_30 (by assumption) ?_
    refine r_iload_4 (pc := 33) dX4_lengthOf_33 ?_
    refine r_ialdE (pc := 35) (by assumption) (by first | assumption | exact rfl) dX4_lengthOf_35 (by omega) (by omega) (fun i_35 => ?_)
    refine r_if_ne (pc := 36) (tgt := 55) dX4_lengthOf_36 (by decide) (by omega) (fun c_36 => ?_) (fun c_36 => ?_)
    · refine r_aload_0 (pc := 55) dX4_lengthOf_55 ?_
      refine gf_X4_9 (pc := 56) rfl (by assumption) dX4_lengthOf_56 (by assumption) ?_
      refine r_iload_4 (pc := 59) dX4_lengthOf_59 ?_
      first
      | refine r_ialdE (pc := 61) (by assumption) hr_s dX4_lengthOf_61 (by omega) (by omega) (fun i_61 => ?_)
      | refine r_ialdE (pc := 61) (by assumption) rfl dX4_lengthOf_61 (by omega) (by omega) (fun i_61 => ?_)
      refine r_iret (pc := 62) hret dX4_lengthOf_62 rfl rfl rfl ?_
      first
      | (have k9 : ¬ t < 24 := by omega
         have q9 := hQ _ hK
         rw [hr_id] at q9
         exact q9)
      | (have k9 : ¬ h (s + 1) ((g * 24 + t) * 22 + n) = 0 := c_36
         have q9 := hQ _ hK
         rw [hr_id, ← hz4.resolve_left k9] at q9
         exact q9)
      | (have k9 : h (s + 1) ((g * 24 + t) * 22 + n) = 0 := c_36
         rw [up_s]
         refine hQ _ (fun g' n' t' a1 a2 a3 a4 a5 a6 => ?_)
         by_cases e : (g' * 24 + t') * 22 + n' = (g * 24 + t) * 22 + n
         · rw [e, up_s]
           have e1 : n' = n := by omega
           have e2 : t' = t := by omega
           have e3 : g' = g := by omega
           rw [e1, e2, e3]; exact Or.inr rfl
         · rw [up_n e]; exact hK g' n' t' a1 a2 a3 a4 a5 a6)
    · refine r_aload_0 (pc := 39) dX4_lengthOf_39 ?_
      refine gf_X4_9 (pc := 40) rfl (by assumption) dX4_lengthOf_40 (by assumption) ?_
      refine r_iload_4 (pc := 43) dX4_lengthOf_43 ?_
      refine r_iload_1 (pc := 45) dX4_lengthOf_45 ?_
      refine r_iload_2 (pc := 46) dX4_lengthOf_46 ?_
      refine r_iload_3 (pc := 47) dX4_lengthOf_47 ?_
      refine k_SI3 (pc := 48) c_X4_drawOf lk_X4_26 ⟨Nat.le_of_ble_eq_true rfl, Nat.le_of_ble_eq_true rfl⟩ ⟨rfl, rfl⟩ ⟨Nat.le_of_ble_eq_true rfl, Nat.le_of_ble_eq_true rfl⟩ dX4_lengthOf_48 (Nat.le_of_ble_eq_true rfl) ?_
      refine ⟨_, _, _, rfl, by omega, by omega, by omega, ?_⟩
      have wr1 := wn_r (dr_r g n t)
      refine k_SI1 (pc := 51) c_X4_wantOf lk_X4_30 ⟨Nat.le_of_ble_eq_true rfl, Nat.le_of_ble_eq_true rfl⟩ ⟨rfl, rfl⟩ ⟨Nat.le_of_ble_eq_true rfl, Nat.le_of_ble_eq_true rfl⟩ dX4_lengthOf_51 (Nat.le_of_ble_eq_true rfl) ?_
      refine ⟨_, rfl, by omega, ?_⟩
      refine r_iastE (pc := 54) (by assumption) (by first | assumption | exact rfl) dX4_lengthOf_54 (by omega) (by omega) (by omega) ?_
      refine r_aload_0 (pc := 55) dX4_lengthOf_55 ?_
      refine gf_X4_9 (pc := 56) rfl (by assumption) dX4_lengthOf_56 (by assumption) ?_
      refine r_iload_4 (pc := 59) dX4_lengthOf_59 ?_
      first
      | refine r_ialdE (pc := 61) (by assumption) hr_s dX4_lengthOf_61 (by omega) (by omega) (fun i_61 => ?_)
      | refine r_ialdE (pc := 61) (by assumption) rfl dX4_lengthOf_61 (by omega) (by omega) (fun i_61 => ?_)
      refine r_iret (pc := 62) hret dX4_lengthOf_62 rfl rfl rfl ?_
      first
      | (have k9 : ¬ t < 24 := by omega
         have q9 := hQ _ hK
         rw [hr_id] at q9
         exact q9)
      | (have k9 : ¬ h (s + 1) ((g * 24 + t) * 22 + n) = 0 := c_36
         have q9 := hQ _ hK
         rw [hr_id, ← hz4.resolve_left k9] at q9
         exact q9)
      | (have k9 : h (s + 1) ((g * 24 + t) * 22 + n) = 0 := c_36
         rw [up_s]
         refine hQ _ (fun g' n' t' a1 a2 a3 a4 a5 a6 => ?_)
         by_cases e : (g' * 24 + t') * 22 + n' = (g * 24 + t) * 22 + n
         · rw [e, up_s]
           have e1 : n' = n := by omega
           have e2 : t' = t := by omega
           have e3 : g' = g := by omega
           rw [e1, e2, e3]; exact Or.inr rfl
         · rw [up_n e]; exact hK g' n' t' a1 a2 a3 a4 a5 a6)
  · refine r_iload_1 (pc := 6) dX4_lengthOf_6 ?_
    refine r_iload_2 (pc := 7) dX4_lengthOf_7 ?_
    refine r_iload_3 (pc := 8) dX4_lengthOf_8 ?_
    refine k_SI3 (pc := 9) c_X4_drawOf lk_X4_26 ⟨Nat.le_of_ble_eq_true rfl, Nat.le_of_ble_eq_true rfl⟩ ⟨rfl, rfl⟩ ⟨Nat.le_of_ble_eq_true rfl, Nat.le_of_ble_eq_true rfl⟩ dX4_lengthOf_9 (Nat.le_of_ble_eq_true rfl) ?_
    refine ⟨_, _, _, rfl, by omega, by omega, by omega, ?_⟩
    have wr1 := wn_r (dr_r g n t)
    refine k_SI1 (pc := 12) c_X4_wantOf lk_X4_30 ⟨Nat.le_of_ble_eq_true rfl, Nat.le_of_ble_eq_true rfl⟩ ⟨rfl, rfl⟩ ⟨Nat.le_of_ble_eq_true rfl, Nat.le_of_ble_eq_true rfl⟩ dX4_lengthOf_12 (Nat.le_of_ble_eq_true rfl) ?_
    refine ⟨_, rfl, by omega, ?_⟩
    refine r_iret (pc := 15) hret dX4_lengthOf_15 rfl rfl rfl ?_
    first
    | (have k9 : ¬ t < 24 := by omega
       have q9 := hQ _ hK
       rw [hr_id] at q9
       exact q9)
    | (have k9 : ¬ h (s + 1) ((g * 24 + t) * 22 + n) = 0 := c_36
       have q9 := hQ _ hK
       rw [hr_id, ← hz4.resolve_left k9] at q9
       exact q9)
    | (have k9 : h (s + 1) ((g * 24 + t) * 22 + n) = 0 := c_36
       rw [up_s]
       refine hQ _ (fun g' n' t' a1 a2 a3 a4 a5 a6 => ?_)
       by_cases e : (g' * 24 + t') * 22 + n' = (g * 24 + t) * 22 + n
       · rw [e, up_s]
         have e1 : n' = n := by omega
         have e2 : t' = t := by omega
         have e3 : g' = g := by omega
         rw [e1, e2, e3]; exact Or.inr rfl
       · rw [up_n e]; exact hK g' n' t' a1 a2 a3 a4 a5 a6)

