/-! THE CLASS: its state; public methods that change no map -/
def CI (lay : LyT) (r : RfT) (h : HpT) (c : Nat) (q : Int → Nat) (n : Int) (tx : Int → Int) (ep : Int) (km : Int → Int → Int) (mp F : Int → Int) (ux : Int) (sz ho : Int → Int) (sn : Int) (row : Int → Int) : Prop :=
  CAt lay r c ∧ LtAt lay r c q ∧ (CT h (c + 1) n tx ∧ ∀ j, 0 ≤ j → j < n → 0 ≤ tx j ∧ tx j < 65536) ∧ StK (h (c + 4 + 1)) ∧ (h c 8 = ep ∧ 1 ≤ ep ∧ ep < 2147483647) ∧ (∀ i, 0 ≤ i → i < 5 → i < ep → PMap h (q i) (km i)) ∧ (km 0 = mp ∧ 1 ≤ mp 130) ∧ (∀ j, 0 ≤ j → j < 64 → plr mp j = F j) ∧ (DaS h (c + 21) ux sz ho ∧ MkI ux ho ∧ ∀ g, 0 ≤ g → g < 16 → 0 ≤ sz g ∧ sz g ≤ 9999) ∧ (ObS h (c + 27) sn row ∧ SeI sn row)
theorem CI.g {lay : LyT} {r : RfT} {h h2 : HpT} {c : Nat} {q : Int → Nat} {n n' : Int} {tx tx' : Int → Int} {ep : Int} {km : Int → Int → Int} {mp F : Int → Int} {ux ux' : Int} {sz ho sz' ho' : Int → Int} {sn sn' : Int} {row row' : Int → Int} (hI : CI lay r h c q n tx ep km mp F ux sz ho sn row) (e : ∀ x, (x = c ∨ (c + 31 ≤ x ∧ x < c + 101)) → h2 x = h x) (h1 : CT h2 (c + 1) n' tx' ∧ ∀ j, 0 ≤ j → j < n' → 0 ≤ tx' j ∧ tx' j < 65536) (hs : StK (h2 (c + 4 + 1))) (h3 : DaS h2 (c + 21) ux' sz' ho' ∧ MkI ux' ho' ∧ ∀ g, 0 ≤ g → g < 16 → 0 ≤ sz' g ∧ sz' g ≤ 9999) (h4 : ObS h2 (c + 27) sn' row' ∧ SeI sn' row') : CI lay r h2 c q n' tx' ep km mp F ux' sz' ho' sn' row' := by
  obtain ⟨hC, hLt, _, _, ⟨he8, hep⟩, hkm, hk0, hF0, _, _⟩ := hI
  refine ⟨hC, hLt, h1, hs, ⟨by rw [e c (Or.inl rfl)]; exact he8, hep⟩, fun i i0 i1 i2 => (hkm i i0 i1 i2).of (fun x x0 x1 => e x (Or.inr ?_)), hk0, hF0, h3, h4⟩
  have := hLt.2.2.2.1 i i0 i1
  omega
theorem CI.t {lay : LyT} {r : RfT} {h h2 : HpT} {c : Nat} {q : Int → Nat} {n : Int} {tx : Int → Int} {ep : Int} {km : Int → Int → Int} {mp F : Int → Int} {ux : Int} {sz ho : Int → Int} {sn : Int} {row : Int → Int} (hI : CI lay r h c q n tx ep km mp F ux sz ho sn row) (e : ∀ x, c ≤ x → x < c + 101 → ¬ (x = c + 1 ∨ x = c + 3 ∨ x = c + 5 ∨ (c + 7 ≤ x ∧ x < c + 21) ∨ (c + 24 ≤ x ∧ x < c + 27)) → h2 x = h x) (e1 : h2 (c + 1) 0 = h (c + 1) 0) (hs : StK (h2 (c + 4 + 1))) : CI lay r h2 c q n tx ep km mp F ux sz ho sn row := by
  obtain ⟨_, _, ⟨hCT, htx⟩, _, _, _, _, _, ⟨hDa, hMk, hsz⟩, ⟨hOb, hSe⟩⟩ := id hI
  exact hI.g (fun x hx => e x (by omega) (by omega) (by omega)) ⟨hCT.of e1 (e _ (by omega) (by omega) (by omega)), htx⟩ hs ⟨hDa.of (e _ (by omega) (by omega) (by omega)) (e _ (by omega) (by omega) (by omega)) (e _ (by omega) (by omega) (by omega)), hMk, hsz⟩ ⟨hOb.of (e _ (by omega) (by omega) (by omega)) (e _ (by omega) (by omega) (by omega)) (e _ (by omega) (by omega) (by omega)) (e _ (by omega) (by omega) (by omega)), hSe⟩
theorem CI.da {lay : LyT} {r : RfT} {h h2 : HpT} {c : Nat} {q : Int → Nat} {n : Int} {tx : Int → Int} {ep : Int} {km : Int → Int → Int} {mp F : Int → Int} {ux ux' : Int} {sz ho sz' ho' : Int → Int} {sn : Int} {row : Int → Int} (hI : CI lay r h c q n tx ep km mp F ux sz ho sn row) (e : ∀ x, c ≤ x → x < c + 101 → ¬ (x = c + 21 ∨ x = c + 22 ∨ x = c + 23) → h2 x = h x) (h3 : DaS h2 (c + 21) ux' sz' ho' ∧ MkI ux' ho' ∧ ∀ g, 0 ≤ g → g < 16 → 0 ≤ sz' g ∧ sz' g ≤ 9999) : CI lay r h2 c q n tx ep km mp F ux' sz' ho' sn row := by
  obtain ⟨_, _, ⟨hCT, htx⟩, hSK, _, _, _, _, _, ⟨hOb, hSe⟩⟩ := id hI
  exact hI.g (fun x hx => e x (by omega) (by omega) (by omega)) ⟨hCT.of (by rw [e _ (by omega) (by omega) (by omega)]) (e _ (by omega) (by omega) (by omega)), htx⟩ (by rw [e _ (by omega) (by omega) (by omega)]; exact hSK) h3 ⟨hOb.of (e _ (by omega) (by omega) (by omega)) (e _ (by omega) (by omega) (by omega)) (e _ (by omega) (by omega) (by omega)) (e _ (by omega) (by omega) (by omega)), hSe⟩
theorem pb_c {f f' : Int → Int} {g : Int} (hg : 0 ≤ g ∧ g < 16) (h : ∀ j, 0 ≤ j → j < 64 → f j = f' j) : pb f g = pb f' g := by
  have : ∀ c : Nat, c ≤ 4 → pbk f g c = pbk f' g c := by
    intro c
    induction c with
    | zero => intro _; rfl
    | succ c ih =>
      intro hc
      simp only [pbk]
      rw [ih (by omega), h (4 * g + c) (by omega) (by omega)]
  exact this 4 (by omega)
theorem smb_r {P : Int → Prop} [DecidablePred P] : ∀ k : Nat, k ≤ 16 → 0 ≤ sm (fun g => if P g then iSl 1 g else 0) k ∧ sm (fun g => if P g then iSl 1 g else 0) k < (2 ^ k : Nat)
  | 0, _ => ⟨Int.le_refl 0, (show (0 : Int) < ((2 ^ 0 : Nat) : Int) by decide)⟩
  | k + 1, hk => by
    have ih := smb_r (P := P) k (by omega)
    show 0 ≤ sm (fun g => if P g then iSl 1 g else 0) k + (if P (k : Int) then iSl 1 (k : Int) else 0) ∧ sm (fun g => if P g then iSl 1 g else 0) k + (if P (k : Int) then iSl 1 (k : Int) else 0) < _
    have e1 := iS1_n (j := k) (by omega)
    have e3 : 2 ^ (k + 1) = 2 ^ k * 2 := Nat.pow_succ 2 k
    have p := Nat.two_pow_pos k
    split
    · rw [e1, e3]; omega
    · rw [e3]; omega
theorem smb_t {P : Int → Prop} [DecidablePred P] {g : Int} (hg : 0 ≤ g ∧ g < 16) (h : P g) : iO (sm (fun g => if P g then iSl 1 g else 0) g.toNat) (iSl 1 g) = sm (fun g => if P g then iSl 1 g else 0) (g + 1).toNat := by
  obtain ⟨k, rfl⟩ : ∃ k : Nat, g = k := ⟨g.toNat, by omega⟩
  rw [sm_z hg.1, if_pos h, show ((k : Int)).toNat = k by omega, or_add (by omega) (smb_r k (by omega))]
theorem smb_f {P : Int → Prop} [DecidablePred P] {g : Int} (hg : 0 ≤ g ∧ g < 16) (h : ¬ P g) : sm (fun g => if P g then iSl 1 g else 0) g.toNat = sm (fun g => if P g then iSl 1 g else 0) (g + 1).toNat := by
  rw [sm_z hg.1, if_neg h]
  omega
theorem dwm_b {mp : Int → Int} {n : Int} : ∀ K : Nat, K ≤ 12 → Ms (dwm mp n K) ∧ ∀ k : Nat, tb (dwm mp n K) k = true ↔ k < K ∧ bel mp (10 + (k : Int)) n
  | 0, _ => by
    refine ⟨⟨Int.le_refl 0, (show (0 : Int) < 4096 by decide)⟩, fun k => ?_⟩
    show tb 0 k = true ↔ _
    rw [tb_0]
    constructor
    · intro z; cases z
    · intro z; omega
  | K + 1, hK => by
    obtain ⟨i1, i2⟩ := dwm_b (mp := mp) (n := n) K (by omega)
    have s := Ms_S (d := 10 + (K : Int)) (by omega)
    rw [dwm_s]
    split
    · rename_i hb
      refine ⟨Ms_O i1 s, fun k => ?_⟩
      rw [tb_O i1.b s.b, tb_S (by omega) (by omega), Bool.or_eq_true, i2 k, decide_eq_true_iff]
      constructor
      · rintro (z | z)
        · exact ⟨by omega, z.2⟩
        · have : k = K := by omega
          subst this; exact ⟨by omega, hb⟩
      · intro z
        by_cases e : k = K
        · exact Or.inr (by omega)
        · exact Or.inl ⟨by omega, z.2⟩
    · rename_i hb
      refine ⟨i1, fun k => ?_⟩
      rw [i2 k]
      constructor
      · intro z; exact ⟨by omega, z.2⟩
      · intro z
        by_cases e : k = K
        · subst e; exact absurd z.2 hb
        · exact ⟨by omega, z.2⟩
theorem dX7_wipe_0 : decode cX7_wipe 0 = .ok (.aload_n 0, 1) := by decide +kernel
theorem dX7_wipe_1 : decode cX7_wipe 1 = .ok (.getfield 10, 3) := by decide +kernel
theorem dX7_wipe_4 : decode cX7_wipe 4 = .ok (.getfield 81, 3) := by decide +kernel
theorem dX7_wipe_7 : decode cX7_wipe 7 = .ok (.istore_n 1, 1) := by decide +kernel
theorem dX7_wipe_8 : decode cX7_wipe 8 = .ok (.aload_n 0, 1) := by decide +kernel
theorem dX7_wipe_9 : decode cX7_wipe 9 = .ok (.getfield 10, 3) := by decide +kernel
theorem dX7_wipe_12 : decode cX7_wipe 12 = .ok (.iconst 0, 1) := by decide +kernel
theorem dX7_wipe_13 : decode cX7_wipe 13 = .ok (.putfield 81, 3) := by decide +kernel
theorem dX7_wipe_16 : decode cX7_wipe 16 = .ok (.iload_n 1, 1) := by decide +kernel
theorem dX7_wipe_17 : decode cX7_wipe 17 = .ok (.ireturn, 1) := by decide +kernel
set_option maxHeartbeats 4000000 in
set_option maxRecDepth 20000 in
theorem c_X7_wipe : ConI mX7_wipe (fun args N lay r h Q => ∃ (c : Nat) (q : Int → Nat) (n : Int) (tx : Int → Int) (ep : Int) (km : Int → Int → Int) (mp F : Int → Int) (ux : Int) (sz ho : Int → Int) (sn : Int) (row : Int → Int) , args = [.ref c] ∧ CI lay r h c q n tx ep km mp F ux sz ho sn row ∧ (∀ h2, Fr h h2 (fun x => c ≤ x ∧ x < c + 101) → CI lay r h2 c q 0 tx ep km mp F ux sz ho sn row → Q (n) N lay r h2)) := by
  refine ConI.of (by decide) (by rintro _ N lay r h Q ⟨c, q, n, tx, ep, km, mp, F, ux, sz, ho, sn, row, rfl, hI, hQ⟩; exact ⟨rfl, Nat.le_of_ble_eq_true rfl⟩) ?_
  rintro E _ N lay r h Q ⟨c, q, n, tx, ep, km, mp, F, ux, sz, ho, sn, row, rfl, hI, hQ⟩ hret
  obtain ⟨hC, hLt, ⟨hCT, htx⟩, hSK, ⟨he8, hep⟩, hkm, ⟨hk0, h130⟩, hF0, ⟨hDa, hMk, hsz⟩, ⟨hOb, hSe⟩⟩ := id hI
  obtain ⟨cl0, cl6, ⟨cr0, cr1, cr2, cr3, cr4, cr5, cr6⟩, cT, cS, cP, cD, cE, cO⟩ := id hC
  obtain ⟨lr7, lr6, lpl, lrg, ldj⟩ := id hLt
  have hP0 := hkm 0 (by omega) (by omega) (by omega)
  rw [hk0] at hP0
  obtain ⟨hT, hR, hN, hW, hL, hPS⟩ := id hP0
  have hA := lpl 0 (by omega) (by omega)
  have q0r := lrg 0 (by omega) (by omega)
  obtain ⟨pl0, pl1, pl2, pl3, pl4, pl5, pl6, pl7, pl8, pl9, pl10, pl11, pl12, pl13, pr0, pr1, pr2, pr3, pr9, pr10, pr11, qr3, qr4, vr1, vr2, vr3, vr4⟩ := id hA
  obtain ⟨⟨n0, n1, n2⟩, up1, up2, uw, u0, uh⟩ := id hN
  obtain ⟨t1, t2, t3, t4, t5, t6, t7⟩ := id hT
  obtain ⟨xl0, xl1, xl2, xr1, xr3⟩ := id cT
  obtain ⟨x0, x1, x2⟩ := id hCT
  show St E mX7_wipe 0 [some (.ref c), none] [] (0, 0) N lay r h
  refine r_aload_0 (pc := 0) dX7_wipe_0 ?_
  refine gf_X7_10 (pc := 1) rfl (by assumption) dX7_wipe_1 (by assumption) ?_
  refine gf_X7_81 (pc := 4) rfl (by assumption) dX7_wipe_4 (fun i_4 => ?_)
  refine r_istore_1 (pc := 7) dX7_wipe_7 rfl ?_
  refine r_aload_0 (pc := 8) dX7_wipe_8 ?_
  refine gf_X7_10 (pc := 9) rfl (by assumption) dX7_wipe_9 (by assumption) ?_
  refine r_iconst (pc := 12) dX7_wipe_12 ?_
  refine pf_X7_81 (pc := 13) rfl (by assumption) dX7_wipe_13 (by omega) ?_
  refine r_iload_1 (pc := 16) dX7_wipe_16 ?_
  refine r_iret (pc := 17) hret dX7_wipe_17 rfl rfl rfl ?_
  rw [x0]
  refine hQ _ (fun x hx => hr_n (by omega)) (hI.g (fun x hx => hr_n (by omega)) ⟨⟨by rw [hr_s, up_s], by omega, fun j j0 j1 => by omega⟩, fun j j0 j1 => by omega⟩ (by rw [hr_n (by omega)]; exact hSK) ⟨hDa.of (hr_n (by omega)) (hr_n (by omega)) (hr_n (by omega)), hMk, hsz⟩ ⟨hOb.of (hr_n (by omega)) (hr_n (by omega)) (hr_n (by omega)) (hr_n (by omega)), hSe⟩)

theorem dX7_write_0 : decode cX7_write 0 = .ok (.iload_n 1, 1) := by decide +kernel
theorem dX7_write_1 : decode cX7_write 1 = .ok (.bipush 32, 2) := by decide +kernel
theorem dX7_write_3 : decode cX7_write 3 = .ok (.if_icmp .lt 9, 3) := by decide +kernel
theorem dX7_write_6 : decode cX7_write 6 = .ok (.iload_n 1, 1) := by decide +kernel
theorem dX7_write_7 : decode cX7_write 7 = .ok (.bipush 126, 2) := by decide +kernel
theorem dX7_write_9 : decode cX7_write 9 = .ok (.if_icmp .le 5, 3) := by decide +kernel
theorem dX7_write_12 : decode cX7_write 12 = .ok (.iconst (-1), 1) := by decide +kernel
theorem dX7_write_13 : decode cX7_write 13 = .ok (.ireturn, 1) := by decide +kernel
theorem dX7_write_14 : decode cX7_write 14 = .ok (.aload_n 0, 1) := by decide +kernel
theorem dX7_write_15 : decode cX7_write 15 = .ok (.getfield 10, 3) := by decide +kernel
theorem dX7_write_18 : decode cX7_write 18 = .ok (.getfield 81, 3) := by decide +kernel
theorem dX7_write_21 : decode cX7_write 21 = .ok (.sipush 200, 3) := by decide +kernel
theorem dX7_write_24 : decode cX7_write 24 = .ok (.if_icmp .lt 6, 3) := by decide +kernel
theorem dX7_write_27 : decode cX7_write 27 = .ok (.bipush (-3), 2) := by decide +kernel
theorem dX7_write_29 : decode cX7_write 29 = .ok (.ireturn, 1) := by decide +kernel
theorem dX7_write_30 : decode cX7_write 30 = .ok (.aload_n 0, 1) := by decide +kernel
theorem dX7_write_31 : decode cX7_write 31 = .ok (.getfield 10, 3) := by decide +kernel
theorem dX7_write_34 : decode cX7_write 34 = .ok (.iload_n 1, 1) := by decide +kernel
theorem dX7_write_35 : decode cX7_write 35 = .ok (.i2c, 1) := by decide +kernel
theorem dX7_write_36 : decode cX7_write 36 = .ok (.invokevirtual 66, 3) := by decide +kernel
theorem dX7_write_39 : decode cX7_write 39 = .ok (.aload_n 0, 1) := by decide +kernel
theorem dX7_write_40 : decode cX7_write 40 = .ok (.getfield 10, 3) := by decide +kernel
theorem dX7_write_43 : decode cX7_write 43 = .ok (.getfield 81, 3) := by decide +kernel
theorem dX7_write_46 : decode cX7_write 46 = .ok (.ireturn, 1) := by decide +kernel
set_option maxHeartbeats 4000000 in
set_option maxRecDepth 20000 in
theorem c_X7_write : ConI mX7_write (fun args N lay r h Q => ∃ (c : Nat) (q : Int → Nat) (n : Int) (tx : Int → Int) (ep : Int) (km : Int → Int → Int) (mp F : Int → Int) (ux : Int) (sz ho : Int → Int) (sn : Int) (row : Int → Int) (k : Int), args = [.ref c, vI k] ∧ CI lay r h c q n tx ep km mp F ux sz ho sn row ∧ (-2147483648 ≤ k ∧ k < 2147483648) ∧ (¬ (32 ≤ k ∧ k ≤ 126) → Q (-1) N lay r h) ∧ ((32 ≤ k ∧ k ≤ 126) → (n = 200 → Q (-3) N lay r h) ∧ (n ≠ 200 → ∀ h2, Fr h h2 (fun x => c ≤ x ∧ x < c + 101) → CI lay r h2 c q (n + 1) (up tx n k) ep km mp F ux sz ho sn row → Q (n + 1) N lay r h2))) := by
  refine ConI.of (by decide) (by rintro _ N lay r h Q ⟨c, q, n, tx, ep, km, mp, F, ux, sz, ho, sn, row, k, rfl, hI, h_k, hB, hQ⟩; exact ⟨rfl, Nat.le_of_ble_eq_true rfl⟩) ?_
  rintro E _ N lay r h Q ⟨c, q, n, tx, ep, km, mp, F, ux, sz, ho, sn, row, k, rfl, hI, h_k, hB, hQ⟩ hret
  obtain ⟨hC, hLt, ⟨hCT, htx⟩, hSK, ⟨he8, hep⟩, hkm, ⟨hk0, h130⟩, hF0, ⟨hDa, hMk, hsz⟩, ⟨hOb, hSe⟩⟩ := id hI
  obtain ⟨cl0, cl6, ⟨cr0, cr1, cr2, cr3, cr4, cr5, cr6⟩, cT, cS, cP, cD, cE, cO⟩ := id hC
  obtain ⟨lr7, lr6, lpl, lrg, ldj⟩ := id hLt
  have hP0 := hkm 0 (by omega) (by omega) (by omega)
  rw [hk0] at hP0
  obtain ⟨hT, hR, hN, hW, hL, hPS⟩ := id hP0
  have hA := lpl 0 (by omega) (by omega)
  have q0r := lrg 0 (by omega) (by omega)
  obtain ⟨pl0, pl1, pl2, pl3, pl4, pl5, pl6, pl7, pl8, pl9, pl10, pl11, pl12, pl13, pr0, pr1, pr2, pr3, pr9, pr10, pr11, qr3, qr4, vr1, vr2, vr3, vr4⟩ := id hA
  obtain ⟨⟨n0, n1, n2⟩, up1, up2, uw, u0, uh⟩ := id hN
  obtain ⟨t1, t2, t3, t4, t5, t6, t7⟩ := id hT
  obtain ⟨xl0, xl1, xl2, xr1, xr3⟩ := id cT
  obtain ⟨x0, x1, x2⟩ := id hCT
  show St E mX7_write 0 [some (.ref c), some (vI k)] [] (0, 0) N lay r h
  refine r_iload_1 (pc := 0) dX7_write_0 ?_
  refine r_bipush (pc := 1) dX7_write_1 (by decide) ?_
  refine r_icmp_lt (pc := 3) (tgt := 12) dX7_write_3 (by decide) (by omega) (by omega) (fun c_3 => ?_) (fun c_3 => ?_)
  · refine r_iconst (pc := 12) dX7_write_12 ?_
    refine r_iret (pc := 13) hret dX7_write_13 rfl rfl rfl ?_
    first
    | exact hB (by omega)
    | exact (hQ (by omega)).1 (by omega)
    | (refine (hQ (by omega)).2 (by omega) _ (fun x hx => by rw [hr_n (by omega), hr_n (by omega)]) (hI.g (fun x hx => by rw [hr_n (by omega), hr_n (by omega)]) ⟨⟨by rw [hr_s, up_s], by omega, fun j j0 j1 => ?_⟩, fun j j0 j1 => ?_⟩ (by rw [hr_n (by omega), hr_n (by omega)]; exact hSK) ⟨hDa.of ((hr_n (by omega)).trans (hr_n (by omega))) ((hr_n (by omega)).trans (hr_n (by omega))) ((hr_n (by omega)).trans (hr_n (by omega))), hMk, hsz⟩ ⟨hOb.of ((hr_n (by omega)).trans (hr_n (by omega))) ((hr_n (by omega)).trans (hr_n (by omega))) ((hr_n (by omega)).trans (hr_n (by omega))) ((hr_n (by omega)).trans (hr_n (by omega))), hSe⟩)
       · rw [hr_n (by omega), hr_s]
         by_cases e : j = n
         · rw [e, up_s, up_s]
         · rw [up_n e, up_n e]; exact x2 j j0 (by omega)
       · by_cases e : j = n
         · rw [e, up_s]; omega
         · rw [up_n e]; exact htx j j0 (by omega))
  · refine r_iload_1 (pc := 6) dX7_write_6 ?_
    refine r_bipush (pc := 7) dX7_write_7 (by decide) ?_
    refine r_icmp_le (pc := 9) (tgt := 14) dX7_write_9 (by decide) (by omega) (by omega) (fun c_9 => ?_) (fun c_9 => ?_)
    · refine r_aload_0 (pc := 14) dX7_write_14 ?_
      refine gf_X7_10 (pc := 15) rfl (by assumption) dX7_write_15 (by assumption) ?_
      refine gf_X7_81 (pc := 18) rfl (by assumption) dX7_write_18 (fun i_18 => ?_)
      refine r_sipush (pc := 21) dX7_write_21 (by decide) ?_
      refine r_icmp_lt (pc := 24) (tgt := 30) dX7_write_24 (by decide) (by omega) (by omega) (fun c_24 => ?_) (fun c_24 => ?_)
      · refine r_aload_0 (pc := 30) dX7_write_30 ?_
        refine gf_X7_10 (pc := 31) rfl (by assumption) dX7_write_31 (by assumption) ?_
        refine r_iload_1 (pc := 34) dX7_write_34 ?_
        refine r_i2c (pc := 35) dX7_write_35 (by omega) ?_
        refine k_VV1 (pc := 36) c_X5_append lk_X7_66 ⟨Nat.le_of_ble_eq_true rfl, Nat.le_of_ble_eq_true rfl⟩ ⟨rfl, rfl⟩ ⟨Nat.le_of_ble_eq_true rfl, Nat.le_of_ble_eq_true rfl⟩ (k := 5) rfl (by decide) (by assumption) dX7_write_36 (Nat.le_of_ble_eq_true rfl) ?_
        refine ⟨_, _, rfl, cT, by omega, by omega, ?_⟩
        refine r_aload_0 (pc := 39) dX7_write_39 ?_
        refine gf_X7_10 (pc := 40) rfl (by assumption) dX7_write_40 (by assumption) ?_
        refine gf_X7_81 (pc := 43) rfl (by assumption) dX7_write_43 (fun i_43 => ?_)
        rw [hr_s, up_s, x0]
        refine r_iret (pc := 46) hret dX7_write_46 rfl rfl rfl ?_
        first
        | exact hB (by omega)
        | exact (hQ (by omega)).1 (by omega)
        | (refine (hQ (by omega)).2 (by omega) _ (fun x hx => by rw [hr_n (by omega), hr_n (by omega)]) (hI.g (fun x hx => by rw [hr_n (by omega), hr_n (by omega)]) ⟨⟨by rw [hr_s, up_s], by omega, fun j j0 j1 => ?_⟩, fun j j0 j1 => ?_⟩ (by rw [hr_n (by omega), hr_n (by omega)]; exact hSK) ⟨hDa.of ((hr_n (by omega)).trans (hr_n (by omega))) ((hr_n (by omega)).trans (hr_n (by omega))) ((hr_n (by omega)).trans (hr_n (by omega))), hMk, hsz⟩ ⟨hOb.of ((hr_n (by omega)).trans (hr_n (by omega))) ((hr_n (by omega)).trans (hr_n (by omega))) ((hr_n (by omega)).trans (hr_n (by omega))) ((hr_n (by omega)).trans (hr_n (by omega))), hSe⟩)
           · rw [hr_n (by omega), hr_s]
             by_cases e : j = n
             · rw [e, up_s, up_s]
             · rw [up_n e, up_n e]; exact x2 j j0 (by omega)
           · by_cases e : j = n
             · rw [e, up_s]; omega
             · rw [up_n e]; exact htx j j0 (by omega))
      · refine r_bipush (pc := 27) dX7_write_27 (by decide) ?_
        refine r_iret (pc := 29) hret dX7_write_29 rfl rfl rfl ?_
        first
        | exact hB (by omega)
        | exact (hQ (by omega)).1 (by omega)
        | (refine (hQ (by omega)).2 (by omega) _ (fun x hx => by rw [hr_n (by omega), hr_n (by omega)]) (hI.g (fun x hx => by rw [hr_n (by omega), hr_n (by omega)]) ⟨⟨by rw [hr_s, up_s], by omega, fun j j0 j1 => ?_⟩, fun j j0 j1 => ?_⟩ (by rw [hr_n (by omega), hr_n (by omega)]; exact hSK) ⟨hDa.of ((hr_n (by omega)).trans (hr_n (by omega))) ((hr_n (by omega)).trans (hr_n (by omega))) ((hr_n (by omega)).trans (hr_n (by omega))), hMk, hsz⟩ ⟨hOb.of ((hr_n (by omega)).trans (hr_n (by omega))) ((hr_n (by omega)).trans (hr_n (by omega))) ((hr_n (by omega)).trans (hr_n (by omega))) ((hr_n (by omega)).trans (hr_n (by omega))), hSe⟩)
           · rw [hr_n (by omega), hr_s]
             by_cases e : j = n
             · rw [e, up_s, up_s]
             · rw [up_n e, up_n e]; exact x2 j j0 (by omega)
           · by_cases e : j = n
             · rw [e, up_s]; omega
             · rw [up_n e]; exact htx j j0 (by omega))
    · refine r_iconst (pc := 12) dX7_write_12 ?_
      refine r_iret (pc := 13) hret dX7_write_13 rfl rfl rfl ?_
      first
      | exact hB (by omega)
      | exact (hQ (by omega)).1 (by omega)
      | (refine (hQ (by omega)).2 (by omega) _ (fun x hx => by rw [hr_n (by omega), hr_n (by omega)]) (hI.g (fun x hx => by rw [hr_n (by omega), hr_n (by omega)]) ⟨⟨by rw [hr_s, up_s], by omega, fun j j0 j1 => ?_⟩, fun j j0 j1 => ?_⟩ (by rw [hr_n (by omega), hr_n (by omega)]; exact hSK) ⟨hDa.of ((hr_n (by omega)).trans (hr_n (by omega))) ((hr_n (by omega)).trans (hr_n (by omega))) ((hr_n (by omega)).trans (hr_n (by omega))), hMk, hsz⟩ ⟨hOb.of ((hr_n (by omega)).trans (hr_n (by omega))) ((hr_n (by omega)).trans (hr_n (by omega))) ((hr_n (by omega)).trans (hr_n (by omega))) ((hr_n (by omega)).trans (hr_n (by omega))), hSe⟩)
         · rw [hr_n (by omega), hr_s]
           by_cases e : j = n
           · rw [e, up_s, up_s]
           · rw [up_n e, up_n e]; exact x2 j j0 (by omega)
         · by_cases e : j = n
           · rw [e, up_s]; omega
           · rw [up_n e]; exact htx j j0 (by omega))

theorem dX7_group_0 : decode cX7_group 0 = .ok (.iload_n 1, 1) := by decide +kernel
theorem dX7_group_1 : decode cX7_group 1 = .ok (.invokestatic 228, 3) := by decide +kernel
theorem dX7_group_4 : decode cX7_group 4 = .ok (.ifCond .eq 10, 3) := by decide +kernel
theorem dX7_group_7 : decode cX7_group 7 = .ok (.iload_n 1, 1) := by decide +kernel
theorem dX7_group_8 : decode cX7_group 8 = .ok (.invokestatic 231, 3) := by decide +kernel
theorem dX7_group_11 : decode cX7_group 11 = .ok (.goto 4, 3) := by decide +kernel
theorem dX7_group_14 : decode cX7_group 14 = .ok (.iconst (-1), 1) := by decide +kernel
theorem dX7_group_15 : decode cX7_group 15 = .ok (.ireturn, 1) := by decide +kernel
set_option maxHeartbeats 4000000 in
set_option maxRecDepth 20000 in
theorem c_X7_group : ConI mX7_group (fun args N lay r h Q => ∃ (c : Nat) (q : Int → Nat) (n : Int) (tx : Int → Int) (ep : Int) (km : Int → Int → Int) (mp F : Int → Int) (ux : Int) (sz ho : Int → Int) (sn : Int) (row : Int → Int) (k : Int), args = [.ref c, vI k] ∧ CI lay r h c q n tx ep km mp F ux sz ho sn row ∧ (-2147483648 ≤ k ∧ k < 2147483648) ∧ (¬ (0 ≤ k ∧ k ≤ 9999) → Q (-1) N lay r h) ∧ ((0 ≤ k ∧ k ≤ 9999) → Q (7919 * k % 65521 % 16) N lay r h)) := by
  refine ConI.of (by decide) (by rintro _ N lay r h Q ⟨c, q, n, tx, ep, km, mp, F, ux, sz, ho, sn, row, k, rfl, hI, h_k, hB, hQ⟩; exact ⟨rfl, Nat.le_of_ble_eq_true rfl⟩) ?_
  rintro E _ N lay r h Q ⟨c, q, n, tx, ep, km, mp, F, ux, sz, ho, sn, row, k, rfl, hI, h_k, hB, hQ⟩ hret
  obtain ⟨hC, hLt, ⟨hCT, htx⟩, hSK, ⟨he8, hep⟩, hkm, ⟨hk0, h130⟩, hF0, ⟨hDa, hMk, hsz⟩, ⟨hOb, hSe⟩⟩ := id hI
  obtain ⟨cl0, cl6, ⟨cr0, cr1, cr2, cr3, cr4, cr5, cr6⟩, cT, cS, cP, cD, cE, cO⟩ := id hC
  obtain ⟨lr7, lr6, lpl, lrg, ldj⟩ := id hLt
  have hP0 := hkm 0 (by omega) (by omega) (by omega)
  rw [hk0] at hP0
  obtain ⟨hT, hR, hN, hW, hL, hPS⟩ := id hP0
  have hA := lpl 0 (by omega) (by omega)
  have q0r := lrg 0 (by omega) (by omega)
  obtain ⟨pl0, pl1, pl2, pl3, pl4, pl5, pl6, pl7, pl8, pl9, pl10, pl11, pl12, pl13, pr0, pr1, pr2, pr3, pr9, pr10, pr11, qr3, qr4, vr1, vr2, vr3, vr4⟩ := id hA
  obtain ⟨⟨n0, n1, n2⟩, up1, up2, uw, u0, uh⟩ := id hN
  obtain ⟨t1, t2, t3, t4, t5, t6, t7⟩ := id hT
  show St E mX7_group 0 [some (.ref c), some (vI k)] [] (0, 0) N lay r h
  refine r_iload_1 (pc := 0) dX7_group_0 ?_
  refine k_SI1 (pc := 1) c_X7_isKey lk_X7_228 ⟨Nat.le_of_ble_eq_true rfl, Nat.le_of_ble_eq_true rfl⟩ ⟨rfl, rfl⟩ ⟨Nat.le_of_ble_eq_true rfl, Nat.le_of_ble_eq_true rfl⟩ dX7_group_1 (Nat.le_of_ble_eq_true rfl) ?_
  refine ⟨_, rfl, by omega, ?_⟩
  refine r_ifeq_b (pc := 4) (tgt := 14) dX7_group_4 (by decide) (fun c_4 => ?_) (fun c_4 => ?_)
  · refine r_iconst (pc := 14) dX7_group_14 ?_
    refine r_iret (pc := 15) hret dX7_group_15 rfl rfl rfl ?_
    first | exact hB (by omega) | exact hQ (by omega)
  · refine r_iload_1 (pc := 7) dX7_group_7 ?_
    refine k_SI1 (pc := 8) c_X7_groupOf lk_X7_231 ⟨Nat.le_of_ble_eq_true rfl, Nat.le_of_ble_eq_true rfl⟩ ⟨rfl, rfl⟩ ⟨Nat.le_of_ble_eq_true rfl, Nat.le_of_ble_eq_true rfl⟩ dX7_group_8 (Nat.le_of_ble_eq_true rfl) ?_
    refine ⟨_, rfl, by omega, ?_⟩
    refine r_goto (pc := 11) (tgt := 15) dX7_group_11 (by decide) ?_
    refine r_iret (pc := 15) hret dX7_group_15 rfl rfl rfl ?_
    first | exact hB (by omega) | exact hQ (by omega)

theorem dX7_draw_0 : decode cX7_draw 0 = .ok (.iload_n 1, 1) := by decide +kernel
theorem dX7_draw_1 : decode cX7_draw 1 = .ok (.invokestatic 172, 3) := by decide +kernel
theorem dX7_draw_4 : decode cX7_draw 4 = .ok (.ifCond .eq 27, 3) := by decide +kernel
theorem dX7_draw_7 : decode cX7_draw 7 = .ok (.aload_n 0, 1) := by decide +kernel
theorem dX7_draw_8 : decode cX7_draw 8 = .ok (.getfield 51, 3) := by decide +kernel
theorem dX7_draw_11 : decode cX7_draw 11 = .ok (.getfield 84, 3) := by decide +kernel
theorem dX7_draw_14 : decode cX7_draw 14 = .ok (.iload_n 2, 1) := by decide +kernel
theorem dX7_draw_15 : decode cX7_draw 15 = .ok (.invokevirtual 93, 3) := by decide +kernel
theorem dX7_draw_18 : decode cX7_draw 18 = .ok (.ifCond .eq 13, 3) := by decide +kernel
theorem dX7_draw_21 : decode cX7_draw 21 = .ok (.iload_n 3, 1) := by decide +kernel
theorem dX7_draw_22 : decode cX7_draw 22 = .ok (.ifCond .lt 9, 3) := by decide +kernel
theorem dX7_draw_25 : decode cX7_draw 25 = .ok (.iload_n 3, 1) := by decide +kernel
theorem dX7_draw_26 : decode cX7_draw 26 = .ok (.bipush 99, 2) := by decide +kernel
theorem dX7_draw_28 : decode cX7_draw 28 = .ok (.if_icmp .le 5, 3) := by decide +kernel
theorem dX7_draw_31 : decode cX7_draw 31 = .ok (.iconst (-1), 1) := by decide +kernel
theorem dX7_draw_32 : decode cX7_draw 32 = .ok (.ireturn, 1) := by decide +kernel
theorem dX7_draw_33 : decode cX7_draw 33 = .ok (.iload_n 1, 1) := by decide +kernel
theorem dX7_draw_34 : decode cX7_draw 34 = .ok (.iload_n 2, 1) := by decide +kernel
theorem dX7_draw_35 : decode cX7_draw 35 = .ok (.iload_n 3, 1) := by decide +kernel
theorem dX7_draw_36 : decode cX7_draw 36 = .ok (.invokestatic 234, 3) := by decide +kernel
theorem dX7_draw_39 : decode cX7_draw 39 = .ok (.ireturn, 1) := by decide +kernel
set_option maxHeartbeats 4000000 in
set_option maxRecDepth 20000 in
theorem c_X7_draw : ConI mX7_draw (fun args N lay r h Q => ∃ (c : Nat) (q : Int → Nat) (n : Int) (tx : Int → Int) (ep : Int) (km : Int → Int → Int) (mp F : Int → Int) (ux : Int) (sz ho : Int → Int) (sn : Int) (row : Int → Int) (g m t : Int), args = [.ref c, vI g, vI m, vI t] ∧ CI lay r h c q n tx ep km mp F ux sz ho sn row ∧ (-2147483648 ≤ g ∧ g < 2147483648) ∧ (-2147483648 ≤ m ∧ m < 2147483648) ∧ (-2147483648 ≤ t ∧ t < 2147483648) ∧ (¬ ((0 ≤ g ∧ g < 16) ∧ isNd mp m ∧ (0 ≤ t ∧ t ≤ 99)) → Q (-1) N lay r h) ∧ (((0 ≤ g ∧ g < 16) ∧ isNd mp m ∧ (0 ≤ t ∧ t ≤ 99)) → Q (dr g m t) N lay r h)) := by
  refine ConI.of (by decide) (by rintro _ N lay r h Q ⟨c, q, n, tx, ep, km, mp, F, ux, sz, ho, sn, row, g, m, t, rfl, hI, h_g, h_m, h_t, hB, hQ⟩; exact ⟨rfl, Nat.le_of_ble_eq_true rfl⟩) ?_
  rintro E _ N lay r h Q ⟨c, q, n, tx, ep, km, mp, F, ux, sz, ho, sn, row, g, m, t, rfl, hI, h_g, h_m, h_t, hB, hQ⟩ hret
  obtain ⟨hC, hLt, ⟨hCT, htx⟩, hSK, ⟨he8, hep⟩, hkm, ⟨hk0, h130⟩, hF0, ⟨hDa, hMk, hsz⟩, ⟨hOb, hSe⟩⟩ := id hI
  obtain ⟨cl0, cl6, ⟨cr0, cr1, cr2, cr3, cr4, cr5, cr6⟩, cT, cS, cP, cD, cE, cO⟩ := id hC
  obtain ⟨lr7, lr6, lpl, lrg, ldj⟩ := id hLt
  have hP0 := hkm 0 (by omega) (by omega) (by omega)
  rw [hk0] at hP0
  obtain ⟨hT, hR, hN, hW, hL, hPS⟩ := id hP0
  have hA := lpl 0 (by omega) (by omega)
  have q0r := lrg 0 (by omega) (by omega)
  obtain ⟨pl0, pl1, pl2, pl3, pl4, pl5, pl6, pl7, pl8, pl9, pl10, pl11, pl12, pl13, pr0, pr1, pr2, pr3, pr9, pr10, pr11, qr3, qr4, vr1, vr2, vr3, vr4⟩ := id hA
  obtain ⟨⟨n0, n1, n2⟩, up1, up2, uw, u0, uh⟩ := id hN
  obtain ⟨t1, t2, t3, t4, t5, t6, t7⟩ := id hT
  show St E mX7_draw 0 [some (.ref c), some (vI g), some (vI m), some (vI t)] [] (0, 0) N lay r h
  refine r_iload_1 (pc := 0) dX7_draw_0 ?_
  refine k_SI1 (pc := 1) c_X7_isGroup lk_X7_172 ⟨Nat.le_of_ble_eq_true rfl, Nat.le_of_ble_eq_true rfl⟩ ⟨rfl, rfl⟩ ⟨Nat.le_of_ble_eq_true rfl, Nat.le_of_ble_eq_true rfl⟩ dX7_draw_1 (Nat.le_of_ble_eq_true rfl) ?_
  refine ⟨_, rfl, by omega, ?_⟩
  refine r_ifeq_b (pc := 4) (tgt := 31) dX7_draw_4 (by decide) (fun c_4 => ?_) (fun c_4 => ?_)
  · refine r_iconst (pc := 31) dX7_draw_31 ?_
    refine r_iret (pc := 32) hret dX7_draw_32 rfl rfl rfl ?_
    first | exact hB (fun z => c_4 z.1) | exact hB (fun z => c_18 z.2.1) | exact hB (fun z => by have := z.2.2; omega) | exact hQ ⟨c_4, c_18, by omega⟩
  · refine r_aload_0 (pc := 7) dX7_draw_7 ?_
    refine gf_X7_51 (pc := 8) rfl (by assumption) dX7_draw_8 (by assumption) ?_
    refine gf_X7_84 (pc := 11) rfl (by assumption) dX7_draw_11 (by assumption) ?_
    refine r_iload_2 (pc := 14) dX7_draw_14 ?_
    refine k_VI1 (pc := 15) c_X6_isNode lk_X7_93 ⟨Nat.le_of_ble_eq_true rfl, Nat.le_of_ble_eq_true rfl⟩ ⟨rfl, rfl⟩ ⟨Nat.le_of_ble_eq_true rfl, Nat.le_of_ble_eq_true rfl⟩ (k := 6) rfl (by decide) (by assumption) dX7_draw_15 (Nat.le_of_ble_eq_true rfl) ?_
    refine ⟨_, mp, _, rfl, hA.tr, hN.no, hT, by omega, ?_⟩
    refine r_ifeq_b (pc := 18) (tgt := 31) dX7_draw_18 (by decide) (fun c_18 => ?_) (fun c_18 => ?_)
    · refine r_iconst (pc := 31) dX7_draw_31 ?_
      refine r_iret (pc := 32) hret dX7_draw_32 rfl rfl rfl ?_
      first | exact hB (fun z => c_4 z.1) | exact hB (fun z => c_18 z.2.1) | exact hB (fun z => by have := z.2.2; omega) | exact hQ ⟨c_4, c_18, by omega⟩
    · refine r_iload_3 (pc := 21) dX7_draw_21 ?_
      refine r_if_lt (pc := 22) (tgt := 31) dX7_draw_22 (by decide) (by omega) (fun c_22 => ?_) (fun c_22 => ?_)
      · refine r_iconst (pc := 31) dX7_draw_31 ?_
        refine r_iret (pc := 32) hret dX7_draw_32 rfl rfl rfl ?_
        first | exact hB (fun z => c_4 z.1) | exact hB (fun z => c_18 z.2.1) | exact hB (fun z => by have := z.2.2; omega) | exact hQ ⟨c_4, c_18, by omega⟩
      · refine r_iload_3 (pc := 25) dX7_draw_25 ?_
        refine r_bipush (pc := 26) dX7_draw_26 (by decide) ?_
        refine r_icmp_le (pc := 28) (tgt := 33) dX7_draw_28 (by decide) (by omega) (by omega) (fun c_28 => ?_) (fun c_28 => ?_)
        · have nr : 0 ≤ m ∧ m < 22 := by rcases c_18 with z | z | z | z <;> omega
          refine r_iload_1 (pc := 33) dX7_draw_33 ?_
          refine r_iload_2 (pc := 34) dX7_draw_34 ?_
          refine r_iload_3 (pc := 35) dX7_draw_35 ?_
          refine k_SI3 (pc := 36) c_X4_drawOf lk_X7_234 ⟨Nat.le_of_ble_eq_true rfl, Nat.le_of_ble_eq_true rfl⟩ ⟨rfl, rfl⟩ ⟨Nat.le_of_ble_eq_true rfl, Nat.le_of_ble_eq_true rfl⟩ dX7_draw_36 (Nat.le_of_ble_eq_true rfl) ?_
          refine ⟨_, _, _, rfl, by omega, by omega, by omega, ?_⟩
          refine r_iret (pc := 39) hret dX7_draw_39 rfl rfl rfl ?_
          first | exact hB (fun z => c_4 z.1) | exact hB (fun z => c_18 z.2.1) | exact hB (fun z => by have := z.2.2; omega) | exact hQ ⟨c_4, c_18, by omega⟩
        · refine r_iconst (pc := 31) dX7_draw_31 ?_
          refine r_iret (pc := 32) hret dX7_draw_32 rfl rfl rfl ?_
          first | exact hB (fun z => c_4 z.1) | exact hB (fun z => c_18 z.2.1) | exact hB (fun z => by have := z.2.2; omega) | exact hQ ⟨c_4, c_18, by omega⟩

theorem dX7_want_0 : decode cX7_want 0 = .ok (.iload_n 1, 1) := by decide +kernel
theorem dX7_want_1 : decode cX7_want 1 = .ok (.iconst 1, 1) := by decide +kernel
theorem dX7_want_2 : decode cX7_want 2 = .ok (.if_icmp .lt 9, 3) := by decide +kernel
theorem dX7_want_5 : decode cX7_want 5 = .ok (.iload_n 1, 1) := by decide +kernel
theorem dX7_want_6 : decode cX7_want 6 = .ok (.ldc 238, 2) := by decide +kernel
theorem dX7_want_8 : decode cX7_want 8 = .ok (.if_icmp .le 7, 3) := by decide +kernel
theorem dX7_want_11 : decode cX7_want 11 = .ok (.iconst (-1), 1) := by decide +kernel
theorem dX7_want_12 : decode cX7_want 12 = .ok (.goto 7, 3) := by decide +kernel
theorem dX7_want_15 : decode cX7_want 15 = .ok (.iload_n 1, 1) := by decide +kernel
theorem dX7_want_16 : decode cX7_want 16 = .ok (.invokestatic 239, 3) := by decide +kernel
theorem dX7_want_19 : decode cX7_want 19 = .ok (.ireturn, 1) := by decide +kernel
set_option maxHeartbeats 4000000 in
set_option maxRecDepth 20000 in
theorem c_X7_want : ConI mX7_want (fun args N lay r h Q => ∃ (c : Nat) (q : Int → Nat) (n : Int) (tx : Int → Int) (ep : Int) (km : Int → Int → Int) (mp F : Int → Int) (ux : Int) (sz ho : Int → Int) (sn : Int) (row : Int → Int) (u : Int), args = [.ref c, vI u] ∧ CI lay r h c q n tx ep km mp F ux sz ho sn row ∧ (-2147483648 ≤ u ∧ u < 2147483648) ∧ (¬ (1 ≤ u ∧ u ≤ 65521) → Q (-1) N lay r h) ∧ ((1 ≤ u ∧ u ≤ 65521) → Q (wn u) N lay r h)) := by
  refine ConI.of (by decide) (by rintro _ N lay r h Q ⟨c, q, n, tx, ep, km, mp, F, ux, sz, ho, sn, row, u, rfl, hI, h_u, hB, hQ⟩; exact ⟨rfl, Nat.le_of_ble_eq_true rfl⟩) ?_
  rintro E _ N lay r h Q ⟨c, q, n, tx, ep, km, mp, F, ux, sz, ho, sn, row, u, rfl, hI, h_u, hB, hQ⟩ hret
  obtain ⟨hC, hLt, ⟨hCT, htx⟩, hSK, ⟨he8, hep⟩, hkm, ⟨hk0, h130⟩, hF0, ⟨hDa, hMk, hsz⟩, ⟨hOb, hSe⟩⟩ := id hI
  obtain ⟨cl0, cl6, ⟨cr0, cr1, cr2, cr3, cr4, cr5, cr6⟩, cT, cS, cP, cD, cE, cO⟩ := id hC
  obtain ⟨lr7, lr6, lpl, lrg, ldj⟩ := id hLt
  have hP0 := hkm 0 (by omega) (by omega) (by omega)
  rw [hk0] at hP0
  obtain ⟨hT, hR, hN, hW, hL, hPS⟩ := id hP0
  have hA := lpl 0 (by omega) (by omega)
  have q0r := lrg 0 (by omega) (by omega)
  obtain ⟨pl0, pl1, pl2, pl3, pl4, pl5, pl6, pl7, pl8, pl9, pl10, pl11, pl12, pl13, pr0, pr1, pr2, pr3, pr9, pr10, pr11, qr3, qr4, vr1, vr2, vr3, vr4⟩ := id hA
  obtain ⟨⟨n0, n1, n2⟩, up1, up2, uw, u0, uh⟩ := id hN
  obtain ⟨t1, t2, t3, t4, t5, t6, t7⟩ := id hT
  show St E mX7_want 0 [some (.ref c), some (vI u)] [] (0, 0) N lay r h
  refine r_iload_1 (pc := 0) dX7_want_0 ?_
  refine r_iconst (pc := 1) dX7_want_1 ?_
  refine r_icmp_lt (pc := 2) (tgt := 11) dX7_want_2 (by decide) (by omega) (by omega) (fun c_2 => ?_) (fun c_2 => ?_)
  · refine r_iconst (pc := 11) dX7_want_11 ?_
    refine r_goto (pc := 12) (tgt := 19) dX7_want_12 (by decide) ?_
    refine r_iret (pc := 19) hret dX7_want_19 rfl rfl rfl ?_
    first | exact hB (by omega) | exact hQ (by omega)
  · refine r_iload_1 (pc := 5) dX7_want_5 ?_
    refine r_ldc (pc := 6) (v := 65521) (z := 65521) dX7_want_6 (w_cI 694 (by decide +kernel)) (by decide) ?_
    refine r_icmp_le (pc := 8) (tgt := 15) dX7_want_8 (by decide) (by omega) (by omega) (fun c_8 => ?_) (fun c_8 => ?_)
    · refine r_iload_1 (pc := 15) dX7_want_15 ?_
      refine k_SI1 (pc := 16) c_X4_wantOf lk_X7_239 ⟨Nat.le_of_ble_eq_true rfl, Nat.le_of_ble_eq_true rfl⟩ ⟨rfl, rfl⟩ ⟨Nat.le_of_ble_eq_true rfl, Nat.le_of_ble_eq_true rfl⟩ dX7_want_16 (Nat.le_of_ble_eq_true rfl) ?_
      refine ⟨_, rfl, by omega, ?_⟩
      refine r_iret (pc := 19) hret dX7_want_19 rfl rfl rfl ?_
      first | exact hB (by omega) | exact hQ (by omega)
    · refine r_iconst (pc := 11) dX7_want_11 ?_
      refine r_goto (pc := 12) (tgt := 19) dX7_want_12 (by decide) ?_
      refine r_iret (pc := 19) hret dX7_want_19 rfl rfl rfl ?_
      first | exact hB (by omega) | exact hQ (by omega)

theorem dX7_place_0 : decode cX7_place 0 = .ok (.iload_n 1, 1) := by decide +kernel
theorem dX7_place_1 : decode cX7_place 1 = .ok (.invokestatic 172, 3) := by decide +kernel
theorem dX7_place_4 : decode cX7_place 4 = .ok (.ifCond .eq 22, 3) := by decide +kernel
theorem dX7_place_7 : decode cX7_place 7 = .ok (.iload_n 2, 1) := by decide +kernel
theorem dX7_place_8 : decode cX7_place 8 = .ok (.invokestatic 246, 3) := by decide +kernel
theorem dX7_place_11 : decode cX7_place 11 = .ok (.ifCond .eq 15, 3) := by decide +kernel
theorem dX7_place_14 : decode cX7_place 14 = .ok (.aload_n 0, 1) := by decide +kernel
theorem dX7_place_15 : decode cX7_place 15 = .ok (.getfield 51, 3) := by decide +kernel
theorem dX7_place_18 : decode cX7_place 18 = .ok (.iload_n 1, 1) := by decide +kernel
theorem dX7_place_19 : decode cX7_place 19 = .ok (.iload_n 2, 1) := by decide +kernel
theorem dX7_place_20 : decode cX7_place 20 = .ok (.invokevirtual 249, 3) := by decide +kernel
theorem dX7_place_23 : decode cX7_place 23 = .ok (.goto 4, 3) := by decide +kernel
theorem dX7_place_26 : decode cX7_place 26 = .ok (.iconst (-1), 1) := by decide +kernel
theorem dX7_place_27 : decode cX7_place 27 = .ok (.ireturn, 1) := by decide +kernel
set_option maxHeartbeats 4000000 in
set_option maxRecDepth 20000 in
theorem c_X7_place : ConI mX7_place (fun args N lay r h Q => ∃ (c : Nat) (q : Int → Nat) (n : Int) (tx : Int → Int) (ep : Int) (km : Int → Int → Int) (mp F : Int → Int) (ux : Int) (sz ho : Int → Int) (sn : Int) (row : Int → Int) (g k : Int), args = [.ref c, vI g, vI k] ∧ CI lay r h c q n tx ep km mp F ux sz ho sn row ∧ (-2147483648 ≤ g ∧ g < 2147483648) ∧ (-2147483648 ≤ k ∧ k < 2147483648) ∧ (¬ ((0 ≤ g ∧ g < 16) ∧ (0 ≤ k ∧ k ≤ 3)) → Q (-1) N lay r h) ∧ (((0 ≤ g ∧ g < 16) ∧ (0 ≤ k ∧ k ≤ 3)) → Q (F (4 * g + k)) N lay r h)) := by
  refine ConI.of (by decide) (by rintro _ N lay r h Q ⟨c, q, n, tx, ep, km, mp, F, ux, sz, ho, sn, row, g, k, rfl, hI, h_g, h_k, hB, hQ⟩; exact ⟨rfl, Nat.le_of_ble_eq_true rfl⟩) ?_
  rintro E _ N lay r h Q ⟨c, q, n, tx, ep, km, mp, F, ux, sz, ho, sn, row, g, k, rfl, hI, h_g, h_k, hB, hQ⟩ hret
  obtain ⟨hC, hLt, ⟨hCT, htx⟩, hSK, ⟨he8, hep⟩, hkm, ⟨hk0, h130⟩, hF0, ⟨hDa, hMk, hsz⟩, ⟨hOb, hSe⟩⟩ := id hI
  obtain ⟨cl0, cl6, ⟨cr0, cr1, cr2, cr3, cr4, cr5, cr6⟩, cT, cS, cP, cD, cE, cO⟩ := id hC
  obtain ⟨lr7, lr6, lpl, lrg, ldj⟩ := id hLt
  have hP0 := hkm 0 (by omega) (by omega) (by omega)
  rw [hk0] at hP0
  obtain ⟨hT, hR, hN, hW, hL, hPS⟩ := id hP0
  have hA := lpl 0 (by omega) (by omega)
  have q0r := lrg 0 (by omega) (by omega)
  obtain ⟨pl0, pl1, pl2, pl3, pl4, pl5, pl6, pl7, pl8, pl9, pl10, pl11, pl12, pl13, pr0, pr1, pr2, pr3, pr9, pr10, pr11, qr3, qr4, vr1, vr2, vr3, vr4⟩ := id hA
  obtain ⟨⟨n0, n1, n2⟩, up1, up2, uw, u0, uh⟩ := id hN
  obtain ⟨t1, t2, t3, t4, t5, t6, t7⟩ := id hT
  have hFI : FdI F := fun j j0 j1 => by rw [← hF0 j j0 j1]; exact FdI_plr hT hR j j0 j1
  have hp1 : ∀ j, 0 ≤ j → j < 64 → h (q 0 + 11) j = F j := fun j j0 j1 => (hPS.1 j j0 j1).trans (hF0 j j0 j1)
  have hp2 : ∀ g, 0 ≤ g → g < 16 → h (q 0 + 13) g = pb F g := fun g g0 g1 => (hPS.2.2.1 g g0 g1).trans (pb_c ⟨g0, g1⟩ hF0)
  show St E mX7_place 0 [some (.ref c), some (vI g), some (vI k)] [] (0, 0) N lay r h
  refine r_iload_1 (pc := 0) dX7_place_0 ?_
  refine k_SI1 (pc := 1) c_X7_isGroup lk_X7_172 ⟨Nat.le_of_ble_eq_true rfl, Nat.le_of_ble_eq_true rfl⟩ ⟨rfl, rfl⟩ ⟨Nat.le_of_ble_eq_true rfl, Nat.le_of_ble_eq_true rfl⟩ dX7_place_1 (Nat.le_of_ble_eq_true rfl) ?_
  refine ⟨_, rfl, by omega, ?_⟩
  refine r_ifeq_b (pc := 4) (tgt := 26) dX7_place_4 (by decide) (fun c_4 => ?_) (fun c_4 => ?_)
  · refine r_iconst (pc := 26) dX7_place_26 ?_
    refine r_iret (pc := 27) hret dX7_place_27 rfl rfl rfl ?_
    first | exact hB (by omega) | exact hQ (by omega)
  · refine r_iload_2 (pc := 7) dX7_place_7 ?_
    refine k_SI1 (pc := 8) c_X7_isCopy lk_X7_246 ⟨Nat.le_of_ble_eq_true rfl, Nat.le_of_ble_eq_true rfl⟩ ⟨rfl, rfl⟩ ⟨Nat.le_of_ble_eq_true rfl, Nat.le_of_ble_eq_true rfl⟩ dX7_place_8 (Nat.le_of_ble_eq_true rfl) ?_
    refine ⟨_, rfl, by omega, ?_⟩
    refine r_ifeq_b (pc := 11) (tgt := 26) dX7_place_11 (by decide) (fun c_11 => ?_) (fun c_11 => ?_)
    · refine r_iconst (pc := 26) dX7_place_26 ?_
      refine r_iret (pc := 27) hret dX7_place_27 rfl rfl rfl ?_
      first | exact hB (by omega) | exact hQ (by omega)
    · refine r_aload_0 (pc := 14) dX7_place_14 ?_
      refine gf_X7_51 (pc := 15) rfl (by assumption) dX7_place_15 (by assumption) ?_
      refine r_iload_1 (pc := 18) dX7_place_18 ?_
      refine r_iload_2 (pc := 19) dX7_place_19 ?_
      refine k_VI2 (pc := 20) c_X3_copyOf lk_X7_249 ⟨Nat.le_of_ble_eq_true rfl, Nat.le_of_ble_eq_true rfl⟩ ⟨rfl, rfl⟩ ⟨Nat.le_of_ble_eq_true rfl, Nat.le_of_ble_eq_true rfl⟩ (k := 3) rfl (by decide) (by assumption) dX7_place_20 (Nat.le_of_ble_eq_true rfl) ?_
      refine ⟨_, _, _, _, rfl, by assumption, by assumption, by assumption, by omega, by omega, fun i_20 => ?_⟩
      rw [hp1 _ (by omega) (by omega)] at i_20 ⊢
      refine r_goto (pc := 23) (tgt := 27) dX7_place_23 (by decide) ?_
      refine r_iret (pc := 27) hret dX7_place_27 rfl rfl rfl ?_
      first | exact hB (by omega) | exact hQ (by omega)

theorem dX7_taken_0 : decode cX7_taken 0 = .ok (.iload_n 1, 1) := by decide +kernel
theorem dX7_taken_1 : decode cX7_taken 1 = .ok (.invokestatic 172, 3) := by decide +kernel
theorem dX7_taken_4 : decode cX7_taken 4 = .ok (.ifCond .eq 26, 3) := by decide +kernel
theorem dX7_taken_7 : decode cX7_taken 7 = .ok (.iload_n 2, 1) := by decide +kernel
theorem dX7_taken_8 : decode cX7_taken 8 = .ok (.invokestatic 246, 3) := by decide +kernel
theorem dX7_taken_11 : decode cX7_taken 11 = .ok (.ifCond .eq 19, 3) := by decide +kernel
theorem dX7_taken_14 : decode cX7_taken 14 = .ok (.aload_n 0, 1) := by decide +kernel
theorem dX7_taken_15 : decode cX7_taken 15 = .ok (.getfield 51, 3) := by decide +kernel
theorem dX7_taken_18 : decode cX7_taken 18 = .ok (.getfield 253, 3) := by decide +kernel
theorem dX7_taken_21 : decode cX7_taken 21 = .ok (.iconst 4, 1) := by decide +kernel
theorem dX7_taken_22 : decode cX7_taken 22 = .ok (.iload_n 1, 1) := by decide +kernel
theorem dX7_taken_23 : decode cX7_taken 23 = .ok (.imul, 1) := by decide +kernel
theorem dX7_taken_24 : decode cX7_taken 24 = .ok (.iload_n 2, 1) := by decide +kernel
theorem dX7_taken_25 : decode cX7_taken 25 = .ok (.iadd, 1) := by decide +kernel
theorem dX7_taken_26 : decode cX7_taken 26 = .ok (.iaload, 1) := by decide +kernel
theorem dX7_taken_27 : decode cX7_taken 27 = .ok (.goto 4, 3) := by decide +kernel
theorem dX7_taken_30 : decode cX7_taken 30 = .ok (.iconst (-1), 1) := by decide +kernel
theorem dX7_taken_31 : decode cX7_taken 31 = .ok (.ireturn, 1) := by decide +kernel
set_option maxHeartbeats 4000000 in
set_option maxRecDepth 20000 in
theorem c_X7_taken : ConI mX7_taken (fun args N lay r h Q => ∃ (c : Nat) (q : Int → Nat) (n : Int) (tx : Int → Int) (ep : Int) (km : Int → Int → Int) (mp F : Int → Int) (ux : Int) (sz ho : Int → Int) (sn : Int) (row : Int → Int) (g k : Int), args = [.ref c, vI g, vI k] ∧ CI lay r h c q n tx ep km mp F ux sz ho sn row ∧ (-2147483648 ≤ g ∧ g < 2147483648) ∧ (-2147483648 ≤ k ∧ k < 2147483648) ∧ (¬ ((0 ≤ g ∧ g < 16) ∧ (0 ≤ k ∧ k ≤ 3)) → Q (-1) N lay r h) ∧ (((0 ≤ g ∧ g < 16) ∧ (0 ≤ k ∧ k ≤ 3)) → Q (trs mp g k) N lay r h)) := by
  refine ConI.of (by decide) (by rintro _ N lay r h Q ⟨c, q, n, tx, ep, km, mp, F, ux, sz, ho, sn, row, g, k, rfl, hI, h_g, h_k, hB, hQ⟩; exact ⟨rfl, Nat.le_of_ble_eq_true rfl⟩) ?_
  rintro E _ N lay r h Q ⟨c, q, n, tx, ep, km, mp, F, ux, sz, ho, sn, row, g, k, rfl, hI, h_g, h_k, hB, hQ⟩ hret
  obtain ⟨hC, hLt, ⟨hCT, htx⟩, hSK, ⟨he8, hep⟩, hkm, ⟨hk0, h130⟩, hF0, ⟨hDa, hMk, hsz⟩, ⟨hOb, hSe⟩⟩ := id hI
  obtain ⟨cl0, cl6, ⟨cr0, cr1, cr2, cr3, cr4, cr5, cr6⟩, cT, cS, cP, cD, cE, cO⟩ := id hC
  obtain ⟨lr7, lr6, lpl, lrg, ldj⟩ := id hLt
  have hP0 := hkm 0 (by omega) (by omega) (by omega)
  rw [hk0] at hP0
  obtain ⟨hT, hR, hN, hW, hL, hPS⟩ := id hP0
  have hA := lpl 0 (by omega) (by omega)
  have q0r := lrg 0 (by omega) (by omega)
  obtain ⟨pl0, pl1, pl2, pl3, pl4, pl5, pl6, pl7, pl8, pl9, pl10, pl11, pl12, pl13, pr0, pr1, pr2, pr3, pr9, pr10, pr11, qr3, qr4, vr1, vr2, vr3, vr4⟩ := id hA
  obtain ⟨⟨n0, n1, n2⟩, up1, up2, uw, u0, uh⟩ := id hN
  obtain ⟨t1, t2, t3, t4, t5, t6, t7⟩ := id hT
  have hFI : FdI F := fun j j0 j1 => by rw [← hF0 j j0 j1]; exact FdI_plr hT hR j j0 j1
  have hp1 : ∀ j, 0 ≤ j → j < 64 → h (q 0 + 11) j = F j := fun j j0 j1 => (hPS.1 j j0 j1).trans (hF0 j j0 j1)
  have hp2 : ∀ g, 0 ≤ g → g < 16 → h (q 0 + 13) g = pb F g := fun g g0 g1 => (hPS.2.2.1 g g0 g1).trans (pb_c ⟨g0, g1⟩ hF0)
  show St E mX7_taken 0 [some (.ref c), some (vI g), some (vI k)] [] (0, 0) N lay r h
  refine r_iload_1 (pc := 0) dX7_taken_0 ?_
  refine k_SI1 (pc := 1) c_X7_isGroup lk_X7_172 ⟨Nat.le_of_ble_eq_true rfl, Nat.le_of_ble_eq_true rfl⟩ ⟨rfl, rfl⟩ ⟨Nat.le_of_ble_eq_true rfl, Nat.le_of_ble_eq_true rfl⟩ dX7_taken_1 (Nat.le_of_ble_eq_true rfl) ?_
  refine ⟨_, rfl, by omega, ?_⟩
  refine r_ifeq_b (pc := 4) (tgt := 30) dX7_taken_4 (by decide) (fun c_4 => ?_) (fun c_4 => ?_)
  · refine r_iconst (pc := 30) dX7_taken_30 ?_
    refine r_iret (pc := 31) hret dX7_taken_31 rfl rfl rfl ?_
    first | exact hB (by omega) | exact hQ (by omega)
  · refine r_iload_2 (pc := 7) dX7_taken_7 ?_
    refine k_SI1 (pc := 8) c_X7_isCopy lk_X7_246 ⟨Nat.le_of_ble_eq_true rfl, Nat.le_of_ble_eq_true rfl⟩ ⟨rfl, rfl⟩ ⟨Nat.le_of_ble_eq_true rfl, Nat.le_of_ble_eq_true rfl⟩ dX7_taken_8 (Nat.le_of_ble_eq_true rfl) ?_
    refine ⟨_, rfl, by omega, ?_⟩
    refine r_ifeq_b (pc := 11) (tgt := 30) dX7_taken_11 (by decide) (fun c_11 => ?_) (fun c_11 => ?_)
    · refine r_iconst (pc := 30) dX7_taken_30 ?_
      refine r_iret (pc := 31) hret dX7_taken_31 rfl rfl rfl ?_
      first | exact hB (by omega) | exact hQ (by omega)
    · refine r_aload_0 (pc := 14) dX7_taken_14 ?_
      refine gf_X7_51 (pc := 15) rfl (by assumption) dX7_taken_15 (by assumption) ?_
      refine gf_X7_253 (pc := 18) rfl (by assumption) dX7_taken_18 (by assumption) ?_
      refine r_iconst (pc := 21) dX7_taken_21 ?_
      refine r_iload_1 (pc := 22) dX7_taken_22 ?_
      refine r_imul (pc := 23) dX7_taken_23 ?_
      refine r_iload_2 (pc := 24) dX7_taken_24 ?_
      refine r_iadd (pc := 25) dX7_taken_25 ?_
      refine r_ialdE (pc := 26) (by assumption) (by first | assumption | exact rfl) dX7_taken_26 (by omega) (by omega) (fun i_26 => ?_)
      rw [hPS.2.1 _ (by omega) (by omega), show (4 * g + k) / 4 = g by omega, show (4 * g + k) % 4 = k by omega] at i_26 ⊢
      refine r_goto (pc := 27) (tgt := 31) dX7_taken_27 (by decide) ?_
      refine r_iret (pc := 31) hret dX7_taken_31 rfl rfl rfl ?_
      first | exact hB (by omega) | exact hQ (by omega)

theorem dX7_spread_0 : decode cX7_spread 0 = .ok (.aload_n 0, 1) := by decide +kernel
theorem dX7_spread_1 : decode cX7_spread 1 = .ok (.getfield 51, 3) := by decide +kernel
theorem dX7_spread_4 : decode cX7_spread 4 = .ok (.invokevirtual 262, 3) := by decide +kernel
theorem dX7_spread_7 : decode cX7_spread 7 = .ok (.ireturn, 1) := by decide +kernel
set_option maxHeartbeats 4000000 in
set_option maxRecDepth 20000 in
theorem c_X7_spread : ConI mX7_spread (fun args N lay r h Q => ∃ (c : Nat) (q : Int → Nat) (n : Int) (tx : Int → Int) (ep : Int) (km : Int → Int → Int) (mp F : Int → Int) (ux : Int) (sz ho : Int → Int) (sn : Int) (row : Int → Int) , args = [.ref c] ∧ CI lay r h c q n tx ep km mp F ux sz ho sn row ∧ (Q (spr mp F) N lay r h)) := by
  refine ConI.of (by decide) (by rintro _ N lay r h Q ⟨c, q, n, tx, ep, km, mp, F, ux, sz, ho, sn, row, rfl, hI, hQ⟩; exact ⟨rfl, Nat.le_of_ble_eq_true rfl⟩) ?_
  rintro E _ N lay r h Q ⟨c, q, n, tx, ep, km, mp, F, ux, sz, ho, sn, row, rfl, hI, hQ⟩ hret
  obtain ⟨hC, hLt, ⟨hCT, htx⟩, hSK, ⟨he8, hep⟩, hkm, ⟨hk0, h130⟩, hF0, ⟨hDa, hMk, hsz⟩, ⟨hOb, hSe⟩⟩ := id hI
  obtain ⟨cl0, cl6, ⟨cr0, cr1, cr2, cr3, cr4, cr5, cr6⟩, cT, cS, cP, cD, cE, cO⟩ := id hC
  obtain ⟨lr7, lr6, lpl, lrg, ldj⟩ := id hLt
  have hP0 := hkm 0 (by omega) (by omega) (by omega)
  rw [hk0] at hP0
  obtain ⟨hT, hR, hN, hW, hL, hPS⟩ := id hP0
  have hA := lpl 0 (by omega) (by omega)
  have q0r := lrg 0 (by omega) (by omega)
  obtain ⟨pl0, pl1, pl2, pl3, pl4, pl5, pl6, pl7, pl8, pl9, pl10, pl11, pl12, pl13, pr0, pr1, pr2, pr3, pr9, pr10, pr11, qr3, qr4, vr1, vr2, vr3, vr4⟩ := id hA
  obtain ⟨⟨n0, n1, n2⟩, up1, up2, uw, u0, uh⟩ := id hN
  obtain ⟨t1, t2, t3, t4, t5, t6, t7⟩ := id hT
  have hFI : FdI F := fun j j0 j1 => by rw [← hF0 j j0 j1]; exact FdI_plr hT hR j j0 j1
  have hp1 : ∀ j, 0 ≤ j → j < 64 → h (q 0 + 11) j = F j := fun j j0 j1 => (hPS.1 j j0 j1).trans (hF0 j j0 j1)
  have hp2 : ∀ g, 0 ≤ g → g < 16 → h (q 0 + 13) g = pb F g := fun g g0 g1 => (hPS.2.2.1 g g0 g1).trans (pb_c ⟨g0, g1⟩ hF0)
  show St E mX7_spread 0 [some (.ref c)] [] (0, 0) N lay r h
  refine r_aload_0 (pc := 0) dX7_spread_0 ?_
  refine gf_X7_51 (pc := 1) rfl (by assumption) dX7_spread_1 (by assumption) ?_
  refine k_VI0 (pc := 4) c_X3_spreadOfPairs lk_X7_262 ⟨Nat.le_of_ble_eq_true rfl, Nat.le_of_ble_eq_true rfl⟩ ⟨rfl, rfl⟩ ⟨Nat.le_of_ble_eq_true rfl, Nat.le_of_ble_eq_true rfl⟩ (k := 3) rfl (by decide) (by assumption) dX7_spread_4 (Nat.le_of_ble_eq_true rfl) ?_
  refine ⟨_, mp, F, rfl, hA, hT, hR, hN, hL, hFI, hp2, ?_⟩
  refine r_iret (pc := 7) hret dX7_spread_7 rfl rfl rfl ?_
  exact hQ

theorem dX7_forget_0 : decode cX7_forget 0 = .ok (.aload_n 0, 1) := by decide +kernel
theorem dX7_forget_1 : decode cX7_forget 1 = .ok (.getfield 47, 3) := by decide +kernel
theorem dX7_forget_4 : decode cX7_forget 4 = .ok (.getfield 316, 3) := by decide +kernel
theorem dX7_forget_7 : decode cX7_forget 7 = .ok (.istore_n 1, 1) := by decide +kernel
theorem dX7_forget_8 : decode cX7_forget 8 = .ok (.aload_n 0, 1) := by decide +kernel
theorem dX7_forget_9 : decode cX7_forget 9 = .ok (.getfield 47, 3) := by decide +kernel
theorem dX7_forget_12 : decode cX7_forget 12 = .ok (.iconst 0, 1) := by decide +kernel
theorem dX7_forget_13 : decode cX7_forget 13 = .ok (.putfield 316, 3) := by decide +kernel
theorem dX7_forget_16 : decode cX7_forget 16 = .ok (.iload_n 1, 1) := by decide +kernel
theorem dX7_forget_17 : decode cX7_forget 17 = .ok (.ireturn, 1) := by decide +kernel
set_option maxHeartbeats 4000000 in
set_option maxRecDepth 20000 in
theorem c_X7_forget : ConI mX7_forget (fun args N lay r h Q => ∃ (c : Nat) (q : Int → Nat) (n : Int) (tx : Int → Int) (ep : Int) (km : Int → Int → Int) (mp F : Int → Int) (ux : Int) (sz ho : Int → Int) (sn : Int) (row : Int → Int) , args = [.ref c] ∧ CI lay r h c q n tx ep km mp F ux sz ho sn row ∧ (∀ h2, Fr h h2 (fun x => c ≤ x ∧ x < c + 101) → CI lay r h2 c q n tx ep km mp F ux sz ho 0 row → Q (sn) N lay r h2)) := by
  refine ConI.of (by decide) (by rintro _ N lay r h Q ⟨c, q, n, tx, ep, km, mp, F, ux, sz, ho, sn, row, rfl, hI, hQ⟩; exact ⟨rfl, Nat.le_of_ble_eq_true rfl⟩) ?_
  rintro E _ N lay r h Q ⟨c, q, n, tx, ep, km, mp, F, ux, sz, ho, sn, row, rfl, hI, hQ⟩ hret
  obtain ⟨hC, hLt, ⟨hCT, htx⟩, hSK, ⟨he8, hep⟩, hkm, ⟨hk0, h130⟩, hF0, ⟨hDa, hMk, hsz⟩, ⟨hOb, hSe⟩⟩ := id hI
  obtain ⟨cl0, cl6, ⟨cr0, cr1, cr2, cr3, cr4, cr5, cr6⟩, cT, cS, cP, cD, cE, cO⟩ := id hC
  obtain ⟨lr7, lr6, lpl, lrg, ldj⟩ := id hLt
  have hP0 := hkm 0 (by omega) (by omega) (by omega)
  rw [hk0] at hP0
  obtain ⟨hT, hR, hN, hW, hL, hPS⟩ := id hP0
  have hA := lpl 0 (by omega) (by omega)
  have q0r := lrg 0 (by omega) (by omega)
  obtain ⟨pl0, pl1, pl2, pl3, pl4, pl5, pl6, pl7, pl8, pl9, pl10, pl11, pl12, pl13, pr0, pr1, pr2, pr3, pr9, pr10, pr11, qr3, qr4, vr1, vr2, vr3, vr4⟩ := id hA
  obtain ⟨⟨n0, n1, n2⟩, up1, up2, uw, u0, uh⟩ := id hN
  obtain ⟨t1, t2, t3, t4, t5, t6, t7⟩ := id hT
  obtain ⟨ol0, ol1, ol2, ol3, or1, or2, or3⟩ := id cO
  obtain ⟨b0, b1⟩ := id hOb
  show St E mX7_forget 0 [some (.ref c), none] [] (0, 0) N lay r h
  refine r_aload_0 (pc := 0) dX7_forget_0 ?_
  refine gf_X7_47 (pc := 1) rfl (by assumption) dX7_forget_1 (by assumption) ?_
  refine gf_X7_316 (pc := 4) rfl (by assumption) dX7_forget_4 (fun i_4 => ?_)
  refine r_istore_1 (pc := 7) dX7_forget_7 rfl ?_
  refine r_aload_0 (pc := 8) dX7_forget_8 ?_
  refine gf_X7_47 (pc := 9) rfl (by assumption) dX7_forget_9 (by assumption) ?_
  refine r_iconst (pc := 12) dX7_forget_12 ?_
  refine pf_X7_316 (pc := 13) rfl (by assumption) dX7_forget_13 (by omega) ?_
  refine r_iload_1 (pc := 16) dX7_forget_16 ?_
  refine r_iret (pc := 17) hret dX7_forget_17 rfl rfl rfl ?_
  rw [b0]
  refine hQ _ (fun x hx => hr_n (by omega)) (hI.g (fun x hx => hr_n (by omega)) ⟨hCT.of (by rw [hr_n (by omega)]) (hr_n (by omega)), htx⟩ (by rw [hr_n (by omega)]; exact hSK) ⟨hDa.of (hr_n (by omega)) (hr_n (by omega)) (hr_n (by omega)), hMk, hsz⟩ ⟨⟨by rw [hr_s, up_s], fun i i0 i1 => by omega⟩, ⟨by omega, fun i i0 i1 => by omega⟩⟩)

theorem dX7_override_0 : decode cX7_override 0 = .ok (.iload_n 1, 1) := by decide +kernel
theorem dX7_override_1 : decode cX7_override 1 = .ok (.ifCond .lt 26, 3) := by decide +kernel
theorem dX7_override_4 : decode cX7_override 4 = .ok (.iload_n 1, 1) := by decide +kernel
theorem dX7_override_5 : decode cX7_override 5 = .ok (.aload_n 0, 1) := by decide +kernel
theorem dX7_override_6 : decode cX7_override 6 = .ok (.getfield 51, 3) := by decide +kernel
theorem dX7_override_9 : decode cX7_override 9 = .ok (.getfield 123, 3) := by decide +kernel
theorem dX7_override_12 : decode cX7_override 12 = .ok (.getfield 127, 3) := by decide +kernel
theorem dX7_override_15 : decode cX7_override 15 = .ok (.if_icmp .ge 12, 3) := by decide +kernel
theorem dX7_override_18 : decode cX7_override 18 = .ok (.iload_n 2, 1) := by decide +kernel
theorem dX7_override_19 : decode cX7_override 19 = .ok (.ifCond .lt 8, 3) := by decide +kernel
theorem dX7_override_22 : decode cX7_override 22 = .ok (.iload_n 2, 1) := by decide +kernel
theorem dX7_override_23 : decode cX7_override 23 = .ok (.iconst 3, 1) := by decide +kernel
theorem dX7_override_24 : decode cX7_override 24 = .ok (.if_icmp .le 5, 3) := by decide +kernel
theorem dX7_override_27 : decode cX7_override 27 = .ok (.iconst (-1), 1) := by decide +kernel
theorem dX7_override_28 : decode cX7_override 28 = .ok (.ireturn, 1) := by decide +kernel
theorem dX7_override_29 : decode cX7_override 29 = .ok (.iload_n 2, 1) := by decide +kernel
theorem dX7_override_30 : decode cX7_override 30 = .ok (.tableswitch 65 0 2 #[26, 39, 52], 26) := by decide +kernel
theorem dX7_override_56 : decode cX7_override 56 = .ok (.aload_n 0, 1) := by decide +kernel
theorem dX7_override_57 : decode cX7_override 57 = .ok (.getfield 51, 3) := by decide +kernel
theorem dX7_override_60 : decode cX7_override 60 = .ok (.getfield 123, 3) := by decide +kernel
theorem dX7_override_63 : decode cX7_override 63 = .ok (.getfield 132, 3) := by decide +kernel
theorem dX7_override_66 : decode cX7_override 66 = .ok (.iload_n 1, 1) := by decide +kernel
theorem dX7_override_67 : decode cX7_override 67 = .ok (.iaload, 1) := by decide +kernel
theorem dX7_override_68 : decode cX7_override 68 = .ok (.ireturn, 1) := by decide +kernel
theorem dX7_override_69 : decode cX7_override 69 = .ok (.aload_n 0, 1) := by decide +kernel
theorem dX7_override_70 : decode cX7_override 70 = .ok (.getfield 51, 3) := by decide +kernel
theorem dX7_override_73 : decode cX7_override 73 = .ok (.getfield 123, 3) := by decide +kernel
theorem dX7_override_76 : decode cX7_override 76 = .ok (.getfield 135, 3) := by decide +kernel
theorem dX7_override_79 : decode cX7_override 79 = .ok (.iload_n 1, 1) := by decide +kernel
theorem dX7_override_80 : decode cX7_override 80 = .ok (.iaload, 1) := by decide +kernel
theorem dX7_override_81 : decode cX7_override 81 = .ok (.ireturn, 1) := by decide +kernel
theorem dX7_override_82 : decode cX7_override 82 = .ok (.aload_n 0, 1) := by decide +kernel
theorem dX7_override_83 : decode cX7_override 83 = .ok (.getfield 51, 3) := by decide +kernel
theorem dX7_override_86 : decode cX7_override 86 = .ok (.getfield 123, 3) := by decide +kernel
theorem dX7_override_89 : decode cX7_override 89 = .ok (.getfield 138, 3) := by decide +kernel
theorem dX7_override_92 : decode cX7_override 92 = .ok (.iload_n 1, 1) := by decide +kernel
theorem dX7_override_93 : decode cX7_override 93 = .ok (.iaload, 1) := by decide +kernel
theorem dX7_override_94 : decode cX7_override 94 = .ok (.ireturn, 1) := by decide +kernel
theorem dX7_override_95 : decode cX7_override 95 = .ok (.aload_n 0, 1) := by decide +kernel
theorem dX7_override_96 : decode cX7_override 96 = .ok (.getfield 51, 3) := by decide +kernel
theorem dX7_override_99 : decode cX7_override 99 = .ok (.getfield 123, 3) := by decide +kernel
theorem dX7_override_102 : decode cX7_override 102 = .ok (.getfield 141, 3) := by decide +kernel
theorem dX7_override_105 : decode cX7_override 105 = .ok (.iload_n 1, 1) := by decide +kernel
theorem dX7_override_106 : decode cX7_override 106 = .ok (.iaload, 1) := by decide +kernel
theorem dX7_override_107 : decode cX7_override 107 = .ok (.ireturn, 1) := by decide +kernel
set_option maxHeartbeats 4000000 in
set_option maxRecDepth 20000 in
theorem c_X7_override : ConI mX7_override (fun args N lay r h Q => ∃ (c : Nat) (q : Int → Nat) (n : Int) (tx : Int → Int) (ep : Int) (km : Int → Int → Int) (mp F : Int → Int) (ux : Int) (sz ho : Int → Int) (sn : Int) (row : Int → Int) (i w : Int), args = [.ref c, vI i, vI w] ∧ CI lay r h c q n tx ep km mp F ux sz ho sn row ∧ (-2147483648 ≤ i ∧ i < 2147483648) ∧ (-2147483648 ≤ w ∧ w < 2147483648) ∧ (¬ ((0 ≤ i ∧ i ≤ mp 135 - 1) ∧ (0 ≤ w ∧ w ≤ 3)) → Q (-1) N lay r h) ∧ (((0 ≤ i ∧ i ≤ mp 135 - 1) ∧ (0 ≤ w ∧ w ≤ 3)) → (w < 3 → Q (mp (110 + 3 * i + w)) N lay r h) ∧ (w = 3 → Q (std mp (mp (110 + 3 * i)) i.toNat) N lay r h))) := by
  refine ConI.of (by decide) (by rintro _ N lay r h Q ⟨c, q, n, tx, ep, km, mp, F, ux, sz, ho, sn, row, i, w, rfl, hI, h_i, h_w, hB, hQ⟩; exact ⟨rfl, Nat.le_of_ble_eq_true rfl⟩) ?_
  rintro E _ N lay r h Q ⟨c, q, n, tx, ep, km, mp, F, ux, sz, ho, sn, row, i, w, rfl, hI, h_i, h_w, hB, hQ⟩ hret
  obtain ⟨hC, hLt, ⟨hCT, htx⟩, hSK, ⟨he8, hep⟩, hkm, ⟨hk0, h130⟩, hF0, ⟨hDa, hMk, hsz⟩, ⟨hOb, hSe⟩⟩ := id hI
  obtain ⟨cl0, cl6, ⟨cr0, cr1, cr2, cr3, cr4, cr5, cr6⟩, cT, cS, cP, cD, cE, cO⟩ := id hC
  obtain ⟨lr7, lr6, lpl, lrg, ldj⟩ := id hLt
  have hP0 := hkm 0 (by omega) (by omega) (by omega)
  rw [hk0] at hP0
  obtain ⟨hT, hR, hN, hW, hL, hPS⟩ := id hP0
  have hA := lpl 0 (by omega) (by omega)
  have q0r := lrg 0 (by omega) (by omega)
  obtain ⟨pl0, pl1, pl2, pl3, pl4, pl5, pl6, pl7, pl8, pl9, pl10, pl11, pl12, pl13, pr0, pr1, pr2, pr3, pr9, pr10, pr11, qr3, qr4, vr1, vr2, vr3, vr4⟩ := id hA
  obtain ⟨⟨n0, n1, n2⟩, up1, up2, uw, u0, uh⟩ := id hN
  obtain ⟨t1, t2, t3, t4, t5, t6, t7⟩ := id hT
  obtain ⟨⟨rl5, rl6, rl7, rl8⟩, rfu, rca, rre, rnu, rdv⟩ := id hL
  have r5 := hR.2.2.2.2.1
  have dvi := rdv i
  show St E mX7_override 0 [some (.ref c), some (vI i), some (vI w)] [] (0, 0) N lay r h
  refine r_iload_1 (pc := 0) dX7_override_0 ?_
  refine r_if_lt (pc := 1) (tgt := 27) dX7_override_1 (by decide) (by omega) (fun c_1 => ?_) (fun c_1 => ?_)
  · refine r_iconst (pc := 27) dX7_override_27 ?_
    refine r_iret (pc := 28) hret dX7_override_28 rfl rfl rfl ?_
    first
    | exact hB (by omega)
    | (have q9 := (hQ (by omega)).1 (by omega)
       rw [show 110 + 3 * i + 0 = 110 + 3 * i by omega] at q9
       exact q9)
    | (have q9 := (hQ (by omega)).1 (by omega)
       rw [show 110 + 3 * i + 1 = 111 + 3 * i by omega] at q9
       exact q9)
    | (have q9 := (hQ (by omega)).1 (by omega)
       rw [show 110 + 3 * i + 2 = 112 + 3 * i by omega] at q9
       exact q9)
    | exact (hQ (by omega)).2 rfl
  · refine r_iload_1 (pc := 4) dX7_override_4 ?_
    refine r_aload_0 (pc := 5) dX7_override_5 ?_
    refine gf_X7_51 (pc := 6) rfl (by assumption) dX7_override_6 (by assumption) ?_
    refine gf_X7_123 (pc := 9) rfl (by assumption) dX7_override_9 (by assumption) ?_
    refine gf_X7_127 (pc := 12) rfl (by assumption) dX7_override_12 (fun i_12 => ?_)
    refine r_icmp_ge (pc := 15) (tgt := 27) dX7_override_15 (by decide) (by omega) (by omega) (fun c_15 => ?_) (fun c_15 => ?_)
    · refine r_iconst (pc := 27) dX7_override_27 ?_
      refine r_iret (pc := 28) hret dX7_override_28 rfl rfl rfl ?_
      first
      | exact hB (by omega)
      | (have q9 := (hQ (by omega)).1 (by omega)
         rw [show 110 + 3 * i + 0 = 110 + 3 * i by omega] at q9
         exact q9)
      | (have q9 := (hQ (by omega)).1 (by omega)
         rw [show 110 + 3 * i + 1 = 111 + 3 * i by omega] at q9
         exact q9)
      | (have q9 := (hQ (by omega)).1 (by omega)
         rw [show 110 + 3 * i + 2 = 112 + 3 * i by omega] at q9
         exact q9)
      | exact (hQ (by omega)).2 rfl
    · refine r_iload_2 (pc := 18) dX7_override_18 ?_
      refine r_if_lt (pc := 19) (tgt := 27) dX7_override_19 (by decide) (by omega) (fun c_19 => ?_) (fun c_19 => ?_)
      · refine r_iconst (pc := 27) dX7_override_27 ?_
        refine r_iret (pc := 28) hret dX7_override_28 rfl rfl rfl ?_
        first
        | exact hB (by omega)
        | (have q9 := (hQ (by omega)).1 (by omega)
           rw [show 110 + 3 * i + 0 = 110 + 3 * i by omega] at q9
           exact q9)
        | (have q9 := (hQ (by omega)).1 (by omega)
           rw [show 110 + 3 * i + 1 = 111 + 3 * i by omega] at q9
           exact q9)
        | (have q9 := (hQ (by omega)).1 (by omega)
           rw [show 110 + 3 * i + 2 = 112 + 3 * i by omega] at q9
           exact q9)
        | exact (hQ (by omega)).2 rfl
      · refine r_iload_2 (pc := 22) dX7_override_22 ?_
        refine r_iconst (pc := 23) dX7_override_23 ?_
        refine r_icmp_le (pc := 24) (tgt := 29) dX7_override_24 (by decide) (by omega) (by omega) (fun c_24 => ?_) (fun c_24 => ?_)
        · refine r_iload_2 (pc := 29) dX7_override_29 ?_
          rcases (show w = 0 ∨ w = 1 ∨ w = 2 ∨ w = 3 by omega) with rfl | rfl | rfl | rfl
          · refine r_tableIn (pc := 30) (off := 26) (tgt := 56) dX7_override_30 (by decide) (by decide) (by decide) (by decide) (by decide) ?_
            have dvi := dvi (by omega) (by omega)
            refine r_aload_0 (pc := 56) dX7_override_56 ?_
            refine gf_X7_51 (pc := 57) rfl (by assumption) dX7_override_57 (by assumption) ?_
            refine gf_X7_123 (pc := 60) rfl (by assumption) dX7_override_60 (by assumption) ?_
            refine gf_X7_132 (pc := 63) rfl (by assumption) dX7_override_63 (by assumption) ?_
            refine r_iload_1 (pc := 66) dX7_override_66 ?_
            refine r_ialdE (pc := 67) (by assumption) (by first | assumption | exact rfl) dX7_override_67 (by omega) (by omega) (fun i_67 => ?_)
            rw [dvi.1]
            refine r_iret (pc := 68) hret dX7_override_68 rfl rfl rfl ?_
            first
            | exact hB (by omega)
            | (have q9 := (hQ (by omega)).1 (by omega)
               rw [show 110 + 3 * i + 0 = 110 + 3 * i by omega] at q9
               exact q9)
            | (have q9 := (hQ (by omega)).1 (by omega)
               rw [show 110 + 3 * i + 1 = 111 + 3 * i by omega] at q9
               exact q9)
            | (have q9 := (hQ (by omega)).1 (by omega)
               rw [show 110 + 3 * i + 2 = 112 + 3 * i by omega] at q9
               exact q9)
            | exact (hQ (by omega)).2 rfl
          · refine r_tableIn (pc := 30) (off := 39) (tgt := 69) dX7_override_30 (by decide) (by decide) (by decide) (by decide) (by decide) ?_
            have dvi := dvi (by omega) (by omega)
            refine r_aload_0 (pc := 69) dX7_override_69 ?_
            refine gf_X7_51 (pc := 70) rfl (by assumption) dX7_override_70 (by assumption) ?_
            refine gf_X7_123 (pc := 73) rfl (by assumption) dX7_override_73 (by assumption) ?_
            refine gf_X7_135 (pc := 76) rfl (by assumption) dX7_override_76 (by assumption) ?_
            refine r_iload_1 (pc := 79) dX7_override_79 ?_
            refine r_ialdE (pc := 80) (by assumption) (by first | assumption | exact rfl) dX7_override_80 (by omega) (by omega) (fun i_80 => ?_)
            rw [dvi.2.1]
            refine r_iret (pc := 81) hret dX7_override_81 rfl rfl rfl ?_
            first
            | exact hB (by omega)
            | (have q9 := (hQ (by omega)).1 (by omega)
               rw [show 110 + 3 * i + 0 = 110 + 3 * i by omega] at q9
               exact q9)
            | (have q9 := (hQ (by omega)).1 (by omega)
               rw [show 110 + 3 * i + 1 = 111 + 3 * i by omega] at q9
               exact q9)
            | (have q9 := (hQ (by omega)).1 (by omega)
               rw [show 110 + 3 * i + 2 = 112 + 3 * i by omega] at q9
               exact q9)
            | exact (hQ (by omega)).2 rfl
          · refine r_tableIn (pc := 30) (off := 52) (tgt := 82) dX7_override_30 (by decide) (by decide) (by decide) (by decide) (by decide) ?_
            have dvi := dvi (by omega) (by omega)
            refine r_aload_0 (pc := 82) dX7_override_82 ?_
            refine gf_X7_51 (pc := 83) rfl (by assumption) dX7_override_83 (by assumption) ?_
            refine gf_X7_123 (pc := 86) rfl (by assumption) dX7_override_86 (by assumption) ?_
            refine gf_X7_138 (pc := 89) rfl (by assumption) dX7_override_89 (by assumption) ?_
            refine r_iload_1 (pc := 92) dX7_override_92 ?_
            refine r_ialdE (pc := 93) (by assumption) (by first | assumption | exact rfl) dX7_override_93 (by omega) (by omega) (fun i_93 => ?_)
            rw [dvi.2.2]
            refine r_iret (pc := 94) hret dX7_override_94 rfl rfl rfl ?_
            first
            | exact hB (by omega)
            | (have q9 := (hQ (by omega)).1 (by omega)
               rw [show 110 + 3 * i + 0 = 110 + 3 * i by omega] at q9
               exact q9)
            | (have q9 := (hQ (by omega)).1 (by omega)
               rw [show 110 + 3 * i + 1 = 111 + 3 * i by omega] at q9
               exact q9)
            | (have q9 := (hQ (by omega)).1 (by omega)
               rw [show 110 + 3 * i + 2 = 112 + 3 * i by omega] at q9
               exact q9)
            | exact (hQ (by omega)).2 rfl
          · refine r_tableOut (pc := 30) (tgt := 95) dX7_override_30 (by decide) (by decide) (by decide) ?_
            refine r_aload_0 (pc := 95) dX7_override_95 ?_
            refine gf_X7_51 (pc := 96) rfl (by assumption) dX7_override_96 (by assumption) ?_
            refine gf_X7_123 (pc := 99) rfl (by assumption) dX7_override_99 (by assumption) ?_
            refine gf_X7_141 (pc := 102) rfl (by assumption) dX7_override_102 (by assumption) ?_
            refine r_iload_1 (pc := 105) dX7_override_105 ?_
            refine r_ialdE (pc := 106) (by assumption) (by first | assumption | exact rfl) dX7_override_106 (by omega) (by omega) (fun i_106 => ?_)
            rw [hPS.2.2.2 i (by omega) (by omega)]
            refine r_iret (pc := 107) hret dX7_override_107 rfl rfl rfl ?_
            first
            | exact hB (by omega)
            | (have q9 := (hQ (by omega)).1 (by omega)
               rw [show 110 + 3 * i + 0 = 110 + 3 * i by omega] at q9
               exact q9)
            | (have q9 := (hQ (by omega)).1 (by omega)
               rw [show 110 + 3 * i + 1 = 111 + 3 * i by omega] at q9
               exact q9)
            | (have q9 := (hQ (by omega)).1 (by omega)
               rw [show 110 + 3 * i + 2 = 112 + 3 * i by omega] at q9
               exact q9)
            | exact (hQ (by omega)).2 rfl
        · refine r_iconst (pc := 27) dX7_override_27 ?_
          refine r_iret (pc := 28) hret dX7_override_28 rfl rfl rfl ?_
          first
          | exact hB (by omega)
          | (have q9 := (hQ (by omega)).1 (by omega)
             rw [show 110 + 3 * i + 0 = 110 + 3 * i by omega] at q9
             exact q9)
          | (have q9 := (hQ (by omega)).1 (by omega)
             rw [show 110 + 3 * i + 1 = 111 + 3 * i by omega] at q9
             exact q9)
          | (have q9 := (hQ (by omega)).1 (by omega)
             rw [show 110 + 3 * i + 2 = 112 + 3 * i by omega] at q9
             exact q9)
          | exact (hQ (by omega)).2 rfl

