/-! THE LAW: its script, what both sides say of one state -/
/-- the law, as a method (its name is not among what is known at its entry) -/
def mL_law (nm : String) : MtT := (⟨RL, nm, "([I)Z"⟩, code, 4, ret, room_1)
/-- the script: L ints at b0, which lie below all that is made -/
def ScE (E : EnT) (b0 : Nat) (L : Nat) (sx : Int → Int) : Prop := match E with
  | (p, l, e, s, m, args, below, meth, c, D, cA, B, Z) => ∃ xs : Nat → Int32, va_X b0 L xs s s.heap ∧ b0 < s.heap.size ∧ b0 < B ∧ ∀ j : Int, sx j = (xs j.toNat).toInt
section ROWS
variable {E : EnT} {M : MtT} {pc : Nat} {l : LcT} {st : List Value} {κ : Nat × Nat} {N : Nat} {lay : LyT} {r : RfT} {h : HpT}
theorem r_slen {b0 L : Nat} {sx : Int → Int} (hX : ScE E b0 L sx) (hL : L < 2147483648) (d : decode M.2.1 pc = .ok (.arraylength, 1)) (k : St E M (pc + 1) l (vI (L : Int) :: st) κ N lay r h) : St E M pc l (.ref b0 :: st) κ N lay r h := by
  obtain ⟨p, la, e, s, m, args, below, meth, c, D, cA, B, Z⟩ := E
  intro O ls H locs hl hn hw
  obtain ⟨xs, hx1, hx2, hx3, hx4⟩ := hX
  refine va_slen O.1 O.2.1 hx1 hx2 (fun z => absurd z (by show ¬ B ≤ b0; omega)) hw.2.2.2.2.2 d ?_
  exact k O ls H locs hl hn hw
theorem r_sld {b0 L : Nat} {sx : Int → Int} {z : Int} (hX : ScE E b0 L sx) (d : decode M.2.1 pc = .ok (.iaload, 1)) (hi : 0 ≤ z ∧ z < L) (h31 : z < 2147483648) (k : -2147483648 ≤ sx z ∧ sx z < 2147483648 → St E M (pc + 1) l (vI (sx z) :: st) κ N lay r h) : St E M pc l (vI z :: .ref b0 :: st) κ N lay r h := by
  obtain ⟨p, la, e, s, m, args, below, meth, c, D, cA, B, Z⟩ := E
  intro O ls H locs hl hn hw
  obtain ⟨xs, hx1, hx2, hx3, hx4⟩ := hX
  refine va_sld O.1 O.2.1 hx1 hx2 (fun q => absurd q (by show ¬ B ≤ b0; omega)) hw.2.2.2.2.2 (vp_in_z hi h31) d ?_
  have e2 : (Int32.ofInt z).toNatClampNeg = z.toNat := i32_clamp ⟨by omega, h31⟩
  rw [e2]
  have e3 : Value.int (xs z.toNat) = vI (sx z) := by
    unfold vI
    rw [hx4, Int32.ofInt_toInt]
  rw [e3]
  exact k (by rw [hx4]; exact i32_rng _) O ls H locs hl hn hw
end ROWS
def eps (ep q : Int) : Int := if 1 ≤ ep - (ep - q) % 5 then ep - (ep - q) % 5 else 0
def Z136 (f : Int → Int) : Prop := ∀ j, ¬ (0 ≤ j ∧ j < 136) → f j = 0
/-- the reference at b says the same state -/
def MI (lay : LyT) (r : RfT) (h : HpT) (b : Nat) (n : Int) (tx : Int → Int) (ep : Int) (km : Int → Int → Int) (mp F : Int → Int) (ux : Int) (sz ho : Int → Int) (sn : Int) (row : Int → Int) : Prop :=
  MdAt lay r b ∧ (h b 0 = n ∧ h b 5 = ep ∧ h b 17 = ux ∧ h b 19 = sn) ∧ (h (b + 1) = tx ∧ h (b + 2) = mp ∧ h (b + 12) = F ∧ h (b + 14) = ho ∧ h (b + 15) = sz ∧ h (b + 17) = row) ∧ WaT (h (b + 7)) ∧ Z136 mp ∧ (∀ i, 0 ≤ i → i < 5 → i < ep → km i = cpR (fun k => h (b + 3) (136 * ((ep - i) % 5) + k)) (fun _ => 0) 136) ∧ ∀ q, 0 ≤ q → q < 5 → h (b + 4) q = eps ep q
theorem MdAt.r {lay : LyT} {r r2 : RfT} {b : Nat} (h : MdAt lay r b) (e : r2 b = r b) : MdAt lay r2 b := by unfold MdAt; rw [e]; exact h
theorem MI.of {lay : LyT} {r r2 : RfT} {h h2 : HpT} {b : Nat} {n : Int} {tx : Int → Int} {ep : Int} {km : Int → Int → Int} {mp F : Int → Int} {ux : Int} {sz ho : Int → Int} {sn : Int} {row : Int → Int} (q : MI lay r h b n tx ep km mp F ux sz ho sn row) (er : r2 b = r b) (e : ∀ x, b ≤ x → x < b + 21 → h2 x = h x) : MI lay r2 h2 b n tx ep km mp F ux sz ho sn row := by
  obtain ⟨a1, a2, a3, a4, a5, a6, a7⟩ := q
  unfold MI
  rw [e b (by omega) (by omega), e (b + 1) (by omega) (by omega), e (b + 2) (by omega) (by omega), e (b + 12) (by omega) (by omega), e (b + 14) (by omega) (by omega), e (b + 15) (by omega) (by omega), e (b + 17) (by omega) (by omega), e (b + 7) (by omega) (by omega), e (b + 3) (by omega) (by omega), e (b + 4) (by omega) (by omega)]
  exact ⟨a1.r er, a2, a3, a4, a5, a6, a7⟩
/-- rows that hold no state -/
theorem MI.s {lay : LyT} {r : RfT} {h h2 : HpT} {b : Nat} {n : Int} {tx : Int → Int} {ep : Int} {km : Int → Int → Int} {mp F : Int → Int} {ux : Int} {sz ho : Int → Int} {sn : Int} {row : Int → Int} (q : MI lay r h b n tx ep km mp F ux sz ho sn row) (e0 : ∀ j, j ≠ 24 → h2 b j = h b j) (e : ∀ x, b < x → x < b + 21 → ¬ (x = b + 5 ∨ x = b + 6 ∨ x = b + 8 ∨ x = b + 9 ∨ x = b + 10 ∨ x = b + 11 ∨ x = b + 13 ∨ x = b + 16) → h2 x = h x) : MI lay r h2 b n tx ep km mp F ux sz ho sn row := by
  obtain ⟨a1, a2, a3, a4, a5, a6, a7⟩ := q
  unfold MI
  rw [e0 0 (by omega), e0 5 (by omega), e0 17 (by omega), e0 19 (by omega), e (b + 1) (by omega) (by omega) (by omega), e (b + 2) (by omega) (by omega) (by omega), e (b + 12) (by omega) (by omega) (by omega), e (b + 14) (by omega) (by omega) (by omega), e (b + 15) (by omega) (by omega) (by omega), e (b + 17) (by omega) (by omega) (by omega), e (b + 7) (by omega) (by omega) (by omega), e (b + 3) (by omega) (by omega) (by omega), e (b + 4) (by omega) (by omega) (by omega)]
  exact ⟨a1, a2, a3, a4, a5, a6, a7⟩
theorem CI.fr {lay : LyT} {r : RfT} {h h2 : HpT} {c : Nat} {q : Int → Nat} {n : Int} {tx : Int → Int} {ep : Int} {km : Int → Int → Int} {mp F : Int → Int} {ux : Int} {sz ho : Int → Int} {sn : Int} {row : Int → Int} (hI : CI lay r h c q n tx ep km mp F ux sz ho sn row) (e : ∀ x, c ≤ x → x < c + 101 → h2 x = h x) : CI lay r h2 c q n tx ep km mp F ux sz ho sn row :=
  hI.t (fun x x0 x1 _ => e x x0 x1) (by rw [e _ (by omega) (by omega)]) (by rw [e _ (by omega) (by omega)]; exact hI.2.2.2.1)
theorem CI.cv {lay : LyT} {r : RfT} {h : HpT} {c : Nat} {q : Int → Nat} {n : Int} {tx : Int → Int} {ep : Int} {km : Int → Int → Int} {mp F F' : Int → Int} {ux : Int} {sz ho sz' ho' : Int → Int} {sn : Int} {row : Int → Int} (hI : CI lay r h c q n tx ep km mp F ux sz ho sn row) (eF : ∀ j, 0 ≤ j → j < 64 → F' j = F j) (es : ∀ j, 0 ≤ j → j < 16 → sz' j = sz j) (eh : ∀ j, 0 ≤ j → j < 16 → ho' j = ho j) : CI lay r h c q n tx ep km mp F' ux sz' ho' sn row := by
  obtain ⟨hC, hLt, h1, hSK, h2, hkm, hk0, hF0, ⟨⟨d0, d1, d2⟩, ⟨m1, m2⟩, hsz⟩, hO⟩ := hI
  exact ⟨hC, hLt, h1, hSK, h2, hkm, hk0, fun j j0 j1 => (hF0 j j0 j1).trans (eF j j0 j1).symm, ⟨⟨d0, fun g g0 g1 => (d1 g g0 g1).trans (es g g0 g1).symm, fun g g0 g1 => (d2 g g0 g1).trans (eh g g0 g1).symm⟩, ⟨m1, fun g g0 g1 => by rw [eh g g0 g1]; exact m2 g g0 g1⟩, fun g g0 g1 => by rw [es g g0 g1]; exact hsz g g0 g1⟩, hO⟩
/-- what the law keeps: both sides say one state; i ints have been read -/
def LI (lay : LyT) (c b : Nat) (i : Int) (r : RfT) (h : HpT) : Prop := ∃ (q : Int → Nat) (n : Int) (tx : Int → Int) (ep : Int) (km : Int → Int → Int) (mp F : Int → Int) (ux : Int) (sz ho : Int → Int) (sn : Int) (row : Int → Int), CI lay r h c q n tx ep km mp F ux sz ho sn row ∧ MI lay r h b n tx ep km mp F ux sz ho sn row ∧ ep ≤ i + 1
theorem eps_k {ep e : Int} (he : 1 ≤ ep) : (1 ≤ e ∧ eps ep (e % 5) = e) ↔ (1 ≤ e ∧ e ≤ ep ∧ ep - e < 5) := by
  unfold eps
  constructor
  · rintro ⟨h1, h2⟩
    split at h2 <;> omega
  · rintro ⟨h1, h2, h3⟩
    refine ⟨h1, ?_⟩
    rw [if_pos (by omega)]
    omega
theorem eps_s {ep q : Int} (he : 1 ≤ ep) (hq : 0 ≤ q ∧ q < 5) : up (fun q => eps ep q) ((ep + 1) % 5) (ep + 1) q = eps (ep + 1) q := by
  unfold up eps
  split
  · rename_i e
    rw [if_pos (by omega)]
    omega
  · rename_i e
    dsimp only
    by_cases z : 1 ≤ ep - (ep - q) % 5
    · rw [if_pos z, if_pos (by omega)]; omega
    · rw [if_neg z, if_neg (by omega)]
theorem cpR_z {f mp : Int → Int} (h : Z136 mp) : cpR f mp 136 = cpR f (fun _ => 0) 136 := by
  funext j
  unfold cpR
  split
  · rfl
  · rename_i z; exact h j z
theorem cpR_m {mp : Int → Int} (h : Z136 mp) (f : Int → Int) (e : ∀ j, 0 ≤ j → j < 136 → f j = mp j) : cpR f (fun _ => 0) 136 = mp := by
  funext j
  unfold cpR
  split
  · rename_i z; exact e j z.1 z.2
  · rename_i z; exact (h j z).symm
/-- a change of the map, on both sides -/
theorem MI.ch {lay : LyT} {r : RfT} {h h2 : HpT} {hb : Int → Int} {b : Nat} {n : Int} {tx : Int → Int} {ep : Int} {km : Int → Int → Int} {mp F M : Int → Int} {ux ux' : Int} {sz ho : Int → Int} {sn : Int} {row : Int → Int} (q : MI lay r h b n tx ep km mp F ux sz ho sn row) (hep : 1 ≤ ep) (hc : Ch b h hb h2 M) (hz : Z136 M) (h0 : hb 0 = n ∧ hb 5 = ep ∧ hb 17 = ux' ∧ hb 19 = sn) : MI lay r h2 b n tx (ep + 1) (kN km M) M (h2 (b + 12)) ux' sz ho sn row := by
  obtain ⟨a1, a2, a3, a4, a5, a6, a7⟩ := q
  obtain ⟨f1, f2, f3, f4, f5, f6⟩ := hc
  obtain ⟨b0, b5, b17, b19⟩ := h0
  have k3 : ∀ x k, (0 ≤ k ∧ k < 136) → 0 ≤ x → x < 5 → h2 (b + 3) (136 * x + k) = if x = (ep + 1) % 5 then M k else h (b + 3) (136 * x + k) := fun x k hk x0 x1 => by
    rw [f5, b5]
    unfold kpR
    by_cases e : x = (ep + 1) % 5
    · rw [if_pos (by omega), if_pos e]; congr 1; omega
    · rw [if_neg (by omega), if_neg e]
  refine ⟨a1, ⟨by rw [f3, up_n (by omega)]; exact b0, by rw [f3, up_s, b5], by rw [f3, up_n (by omega)]; exact b17, by rw [f3, up_n (by omega)]; exact b19⟩, ⟨by rw [f1 _ (by omega)]; exact a3.1, f2, rfl, by rw [f1 _ (by omega)]; exact a3.2.2.2.1, by rw [f1 _ (by omega)]; exact a3.2.2.2.2.1, by rw [f1 _ (by omega)]; exact a3.2.2.2.2.2⟩, by rw [f1 _ (by omega)]; exact a4, hz, fun i i0 i1 i2 => ?_, fun x x0 x1 => ?_⟩
  · unfold kN
    by_cases e : i = 0
    · rw [if_pos e]
      refine (cpR_m hz _ (fun j j0 j1 => ?_)).symm
      rw [k3 _ _ ⟨j0, j1⟩ (by omega) (by omega), if_pos (by omega)]
    · rw [if_neg e, a6 (i - 1) (by omega) (by omega) (by omega)]
      funext j
      unfold cpR
      by_cases z : 0 ≤ j ∧ j < 136
      · rw [if_pos z, if_pos z]
        show h (b + 3) (136 * ((ep - (i - 1)) % 5) + j) = h2 (b + 3) (136 * ((ep + 1 - i) % 5) + j)
        rw [k3 _ _ z (by omega) (by omega), if_neg (by omega), show ep + 1 - i = ep - (i - 1) by omega]
      · rw [if_neg z, if_neg z]
  · rw [f4, b5, ← eps_s hep ⟨x0, x1⟩]
    unfold up
    split
    · rfl
    · exact a7 x x0 x1
