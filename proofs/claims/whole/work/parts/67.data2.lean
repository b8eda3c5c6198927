/-! DATA: copyings, servers, strikes -/
theorem fst4_c {F : Int → Int} {g : Int} {P P' : Int → Bool} (h : ∀ c, 0 ≤ c → c < 4 → 0 ≤ F (4 * g + c) → P (F (4 * g + c)) = P' (F (4 * g + c))) : ∀ n : Nat, n ≤ 4 → fst4 F g P n = fst4 F g P' n
  | 0, _ => rfl
  | n + 1, hn => by
    rw [fst4_s, fst4_s, fst4_c h n (by omega)]
    by_cases e : 0 ≤ F (4 * g + n)
    · rw [h n (by omega) (by omega) e]
    · rw [if_neg (fun z => e z.2.1), if_neg (fun z => e z.2.1)]
theorem fst4_pos {F : Int → Int} {g : Int} {P : Int → Bool} {c : Nat} (h0 : 0 ≤ F (4 * g + c)) (h1 : P (F (4 * g + c)) = true) : ∀ j, 0 ≤ fst4 F g P (c + 1 + j) := by
  have q : 0 ≤ fst4 F g P (c + 1) := by
    rw [fst4_s]
    by_cases e : fst4 F g P c < 0
    · rw [if_pos ⟨e, h0, h1⟩]; exact h0
    · rw [if_neg (fun z => e z.1)]; omega
  intro j
  rw [fst4_st F g P (c + 1) q j]
  exact q
theorem fst4_in {F : Int → Int} {g : Int} {P : Int → Bool} : ∀ n : Nat, fst4 F g P n = -4 ∨ ∃ c : Nat, c < n ∧ fst4 F g P n = F (4 * g + c) ∧ 0 ≤ F (4 * g + c) ∧ P (F (4 * g + c)) = true
  | 0 => Or.inl rfl
  | n + 1 => by
    rw [fst4_s]
    split
    · rename_i z
      exact Or.inr ⟨n, by omega, rfl, z.2.1, z.2.2⟩
    · rcases fst4_in (F := F) (g := g) (P := P) n with q | ⟨c, c1, c2⟩
      · exact Or.inl q
      · exact Or.inr ⟨c, by omega, c2⟩
theorem bP_an {ux hg d : Int} (hu : Ms ux) (hh : Ms hg) (hd : 10 ≤ d ∧ d < 22) : bP (iA ux (iX hg (-1))) d = mP ux hg d := by
  have e : bP (iA ux (iX hg (-1))) d = true ↔ mP ux hg d = true := by
    rw [bP_iff, mP_iff, tb_r1 (Ms_An hu hh).b (by omega) (by omega), tb_An hu.b hh.b, tb_r1 hu.b (by omega) (by omega), tb_r hh.b (by omega) (by omega)]
    cases z1 : tb ux (d - 10).toNat <;> cases z2 : tb hg (d - 10).toNat <;> simp
  cases h1 : bP (iA ux (iX hg (-1))) d <;> cases h2 : mP ux hg d <;> simp_all
theorem wan_fst {F ho : Int → Int} {ux g : Int} (hF : FdI F) (hM : MkI ux ho) (hg : 0 ≤ g ∧ g < 16) (h : wan F ux ho g = true) : 0 ≤ fst4 F g (mP ux (ho g)) 4 := by
  have hp := pb_12 (hF.g hg.1 hg.2)
  have m1 : Ms (iA (pb F g) ux) := Ms_A hp hM.1
  have m2 := hM.2 g hg.1 hg.2
  obtain ⟨k, k1, k2⟩ := (tb_nz12 (Ms_An m1 m2)).mp (wan_iff.mp h).2
  rw [tb_An m1.b m2.b, tb_A (Ms.b hp) hM.1.b, tb_pb (hF.g hg.1 hg.2)] at k2
  simp only [Bool.and_eq_true, Bool.not_eq_true'] at k2
  obtain ⟨c, c0, c1, c2⟩ := hasB_iff.mp k2.1.1
  obtain ⟨n, rfl⟩ : ∃ n : Nat, c = n := ⟨c.toNat, by omega⟩
  have q := fst4_pos (F := F) (g := g) (P := mP ux (ho g)) (c := n) (by omega) (by
    rw [c2, mP_iff, tb_r hM.1.b (by omega) (by omega), tb_r m2.b (by omega) (by omega), show (10 + (k : Int) - 10).toNat = k by omega, k2.1.2, k2.2]
    simp) (3 - n)
  rw [show n + 1 + (3 - n) = 4 by omega] at q
  exact q
theorem cpy_M {F ho : Int → Int} {ux g : Int} (hF : FdI F) (hM : MkI ux ho) (hg : 0 ≤ g ∧ g < 16) : MkI ux (cpy F ux ho g) := by
  refine ⟨hM.1, fun q q0 q1 => ?_⟩
  unfold cpy
  split
  · exact hM.2 q q0 q1
  · rename_i z
    by_cases e : q = g
    · rw [e, up_s]
      rcases fst4_in (F := F) (g := g) (P := mP ux (ho g)) 4 with w | ⟨c, c1, c2, c3, c4⟩
      · omega
      · have := hF (4 * g + c) (by omega) (by omega)
        exact Ms_O (hM.2 g hg.1 hg.2) (Ms_S (by omega))
    · rw [up_n e]; exact hM.2 q q0 q1
theorem tkk_M {F ho sz : Int → Int} {ux : Int} (hF : FdI F) (hM : MkI ux ho) : ∀ i, MkI ux (tkk F ux sz ho i).1
  | 0 => hM
  | i + 1 => by
    have ih := tkk_M (sz := sz) hF hM i
    show MkI ux (if prs F ux (tkk F ux sz ho i).1 sz 16 < 0 then tkk F ux sz ho i else (cpy F ux (tkk F ux sz ho i).1 (prs F ux (tkk F ux sz ho i).1 sz 16), (tkk F ux sz ho i).2 + 1)).1
    split
    · exact ih
    · rename_i z
      have := prs_or F ux (tkk F ux sz ho i).1 sz 16
      exact cpy_M hF ih (by omega)
theorem drp_M {F ho : Int → Int} {ux : Int} (hF : FdI F) (hM : MkI ux ho) : MkI ux (drp F ux ho 16) := by
  refine ⟨hM.1, fun q q0 q1 => ?_⟩
  unfold drp
  split
  · exact pb_12 (hF.g q0 q1)
  · exact hM.2 q q0 q1
theorem tix_M {F ho sz : Int → Int} {ux : Int} (hF : FdI F) (hM : MkI ux ho) (m : Nat) : MkI ux (tix F ux sz ho m).1 := drp_M hF (tkk_M hF hM m)
theorem dX0_firstCopyIn_0 : decode cX0_firstCopyIn 0 = .ok (.iconst 0, 1) := by decide +kernel
theorem dX0_firstCopyIn_1 : decode cX0_firstCopyIn 1 = .ok (.istore_n 3, 1) := by decide +kernel
theorem dX0_firstCopyIn_2 : decode cX0_firstCopyIn 2 = .ok (.iload_n 3, 1) := by decide +kernel
theorem dX0_firstCopyIn_3 : decode cX0_firstCopyIn 3 = .ok (.iconst 4, 1) := by decide +kernel
theorem dX0_firstCopyIn_4 : decode cX0_firstCopyIn 4 = .ok (.if_icmp .ge 37, 3) := by decide +kernel
theorem dX0_firstCopyIn_7 : decode cX0_firstCopyIn 7 = .ok (.aload_n 0, 1) := by decide +kernel
theorem dX0_firstCopyIn_8 : decode cX0_firstCopyIn 8 = .ok (.iload_n 1, 1) := by decide +kernel
theorem dX0_firstCopyIn_9 : decode cX0_firstCopyIn 9 = .ok (.iload_n 3, 1) := by decide +kernel
theorem dX0_firstCopyIn_10 : decode cX0_firstCopyIn 10 = .ok (.invokevirtual 62, 3) := by decide +kernel
theorem dX0_firstCopyIn_13 : decode cX0_firstCopyIn 13 = .ok (.istore 4, 2) := by decide +kernel
theorem dX0_firstCopyIn_15 : decode cX0_firstCopyIn 15 = .ok (.iload 4, 2) := by decide +kernel
theorem dX0_firstCopyIn_17 : decode cX0_firstCopyIn 17 = .ok (.bipush (-4), 2) := by decide +kernel
theorem dX0_firstCopyIn_19 : decode cX0_firstCopyIn 19 = .ok (.if_icmp .eq 16, 3) := by decide +kernel
theorem dX0_firstCopyIn_22 : decode cX0_firstCopyIn 22 = .ok (.iload_n 2, 1) := by decide +kernel
theorem dX0_firstCopyIn_23 : decode cX0_firstCopyIn 23 = .ok (.iload 4, 2) := by decide +kernel
theorem dX0_firstCopyIn_25 : decode cX0_firstCopyIn 25 = .ok (.invokestatic 43, 3) := by decide +kernel
theorem dX0_firstCopyIn_28 : decode cX0_firstCopyIn 28 = .ok (.iand, 1) := by decide +kernel
theorem dX0_firstCopyIn_29 : decode cX0_firstCopyIn 29 = .ok (.ifCond .eq 6, 3) := by decide +kernel
theorem dX0_firstCopyIn_32 : decode cX0_firstCopyIn 32 = .ok (.iload 4, 2) := by decide +kernel
theorem dX0_firstCopyIn_34 : decode cX0_firstCopyIn 34 = .ok (.ireturn, 1) := by decide +kernel
theorem dX0_firstCopyIn_35 : decode cX0_firstCopyIn 35 = .ok (.iinc 3 1, 3) := by decide +kernel
theorem dX0_firstCopyIn_38 : decode cX0_firstCopyIn 38 = .ok (.goto (-36), 3) := by decide +kernel
theorem dX0_firstCopyIn_41 : decode cX0_firstCopyIn 41 = .ok (.bipush (-4), 2) := by decide +kernel
theorem dX0_firstCopyIn_43 : decode cX0_firstCopyIn 43 = .ok (.ireturn, 1) := by decide +kernel
set_option maxHeartbeats 4000000 in
set_option maxRecDepth 20000 in
theorem c_X0_firstCopyIn : ConI mX0_firstCopyIn (fun args N lay r h Q => ∃ (p n : Nat) (F : Int → Int) (g set : Int), args = [.ref p, vI g, vI set] ∧ lay p = (4, n) ∧ lay (p + 11) = (10, 64) ∧ r p 9 = some (p + 11) ∧ FdI F ∧ (∀ j, 0 ≤ j → j < 64 → h (p + 11) j = F j) ∧ (0 ≤ g ∧ g < 16) ∧ Ms set ∧ Q (fst4 F g (bP set) 4) N lay r h) := by
  refine ConI.of (by decide) (by rintro _ N lay r h Q ⟨p, n, F, g, set, rfl, pl0, pl11, pr9, hF, hp1, hg, hst, hQ⟩; exact ⟨rfl, Nat.le_of_ble_eq_true rfl⟩) ?_
  rintro E _ N lay r h Q ⟨p, n, F, g, set, rfl, pl0, pl11, pr9, hF, hp1, hg, hst, hQ⟩ hret
  have hst2 := hst.b
  show St E mX0_firstCopyIn 0 [some (.ref p), some (vI g), some (vI set), none, none] [] (0, 0) N lay r h
  have lp : ∀ (n_ : Nat) (c : Int) (x4 : Option Value), (4 - c).toNat = n_ → (0 ≤ c ∧ c ≤ 4) → (fst4 F g (bP set) c.toNat = -4) → St E mX0_firstCopyIn 2 [some (.ref p), some (vI g), some (vI set), some (vI c), x4] [] (0, 0) N lay r h := by
    intro  n_
    induction n_ using Nat.strongRecOn with
    | ind n_ ih =>
      intro c x4 hn_ hc hs
      obtain ⟨k, rfl⟩ : ∃ k : Nat, c = k := ⟨c.toNat, by omega⟩
      rw [show ((k : Int)).toNat = k by omega] at hs
      have hv := hp1 (4 * g + (k : Int))
      have hw := hF (4 * g + (k : Int))
      refine r_iload_3 (pc := 2) dX0_firstCopyIn_2 ?_
      refine r_iconst (pc := 3) dX0_firstCopyIn_3 ?_
      refine r_icmp_ge (pc := 4) (tgt := 41) dX0_firstCopyIn_4 (by decide) (by omega) (by omega) (fun c_4 => ?_) (fun c_4 => ?_)
      · refine r_bipush (pc := 41) dX0_firstCopyIn_41 (by decide) ?_
        refine r_iret (pc := 43) hret dX0_firstCopyIn_43 rfl rfl rfl ?_
        first
        | (have k9 : k = 4 := by omega
           subst k9
           rw [hs] at hQ
           exact hQ)
        | (have k9 : ¬ iA set (iSl 1 (F (4 * g + (k : Int)) - 10)) = 0 := c_29
           have q1 : fst4 F g (bP set) (k + 1) = F (4 * g + (k : Int)) := by rw [fst4_s, if_pos ⟨by omega, by omega, (hst.t (by omega)).mp k9⟩]
           have q2 := fst4_st F g (bP set) (k + 1) (by omega) (3 - k)
           rw [show k + 1 + (3 - k) = 4 by omega, q1] at q2
           rw [q2] at hQ
           exact hQ)
      · refine r_aload_0 (pc := 7) dX0_firstCopyIn_7 ?_
        refine r_iload_1 (pc := 8) dX0_firstCopyIn_8 ?_
        refine r_iload_3 (pc := 9) dX0_firstCopyIn_9 ?_
        refine k_VI2 (pc := 10) c_X3_copyOf lk_X0_62 ⟨Nat.le_of_ble_eq_true rfl, Nat.le_of_ble_eq_true rfl⟩ ⟨rfl, rfl⟩ ⟨Nat.le_of_ble_eq_true rfl, Nat.le_of_ble_eq_true rfl⟩ (k := 3) rfl (by decide) (by assumption) dX0_firstCopyIn_10 (Nat.le_of_ble_eq_true rfl) ?_
        refine ⟨_, _, _, _, rfl, by assumption, by assumption, by assumption, by omega, by omega, fun i_10 => ?_⟩
        have hv := hv (by omega) (by omega)
        have hw := hw (by omega) (by omega)
        rw [hv] at i_10 ⊢
        refine r_istore_4 (pc := 13) dX0_firstCopyIn_13 rfl ?_
        refine r_iload_4 (pc := 15) dX0_firstCopyIn_15 ?_
        refine r_bipush (pc := 17) dX0_firstCopyIn_17 (by decide) ?_
        refine r_icmp_eq (pc := 19) (tgt := 35) dX0_firstCopyIn_19 (by decide) (by omega) (by omega) (fun c_19 => ?_) (fun c_19 => ?_)
        · refine r_iinc_3 (pc := 35) dX0_firstCopyIn_35 rfl ?_
          refine r_goto (pc := 38) (tgt := 2) dX0_firstCopyIn_38 (by decide) ?_
          first
          | (have k9 : F (4 * g + (k : Int)) = -4 := c_19
             exact ih _ (by omega) ((k : Int) + 1) _ rfl (by omega) (by rw [show ((k : Int) + 1).toNat = k + 1 by omega, fst4_s, if_neg (fun z => by have := z.2.1; omega)]; exact hs))
          | (have k9 : iA set (iSl 1 (F (4 * g + (k : Int)) - 10)) = 0 := c_29
             exact ih _ (by omega) ((k : Int) + 1) _ rfl (by omega) (by rw [show ((k : Int) + 1).toNat = k + 1 by omega, fst4_s, if_neg (fun z => ((hst.t (by omega)).mpr z.2.2) k9)]; exact hs))
        · refine r_iload_2 (pc := 22) dX0_firstCopyIn_22 ?_
          refine r_iload_4 (pc := 23) dX0_firstCopyIn_23 ?_
          refine k_SNI1 (pc := 25) c_X7_bitOf lk_X0_43 ⟨Nat.le_of_ble_eq_true rfl, Nat.le_of_ble_eq_true rfl⟩ ⟨rfl, rfl⟩ ⟨Nat.le_of_ble_eq_true rfl, Nat.le_of_ble_eq_true rfl⟩ dX0_firstCopyIn_25 (Nat.le_of_ble_eq_true rfl) ?_
          refine ⟨_, rfl, fun i_25 => ?_⟩
          refine r_iand (pc := 28) dX0_firstCopyIn_28 (fun i_28 => ?_)
          refine r_if_eq (pc := 29) (tgt := 35) dX0_firstCopyIn_29 (by decide) (by omega) (fun c_29 => ?_) (fun c_29 => ?_)
          · refine r_iinc_3 (pc := 35) dX0_firstCopyIn_35 rfl ?_
            refine r_goto (pc := 38) (tgt := 2) dX0_firstCopyIn_38 (by decide) ?_
            first
            | (have k9 : F (4 * g + (k : Int)) = -4 := c_19
               exact ih _ (by omega) ((k : Int) + 1) _ rfl (by omega) (by rw [show ((k : Int) + 1).toNat = k + 1 by omega, fst4_s, if_neg (fun z => by have := z.2.1; omega)]; exact hs))
            | (have k9 : iA set (iSl 1 (F (4 * g + (k : Int)) - 10)) = 0 := c_29
               exact ih _ (by omega) ((k : Int) + 1) _ rfl (by omega) (by rw [show ((k : Int) + 1).toNat = k + 1 by omega, fst4_s, if_neg (fun z => ((hst.t (by omega)).mpr z.2.2) k9)]; exact hs))
          · refine r_iload_4 (pc := 32) dX0_firstCopyIn_32 ?_
            refine r_iret (pc := 34) hret dX0_firstCopyIn_34 rfl rfl rfl ?_
            first
            | (have k9 : k = 4 := by omega
               subst k9
               rw [hs] at hQ
               exact hQ)
            | (have k9 : ¬ iA set (iSl 1 (F (4 * g + (k : Int)) - 10)) = 0 := c_29
               have q1 : fst4 F g (bP set) (k + 1) = F (4 * g + (k : Int)) := by rw [fst4_s, if_pos ⟨by omega, by omega, (hst.t (by omega)).mp k9⟩]
               have q2 := fst4_st F g (bP set) (k + 1) (by omega) (3 - k)
               rw [show k + 1 + (3 - k) = 4 by omega, q1] at q2
               rw [q2] at hQ
               exact hQ)
  refine r_iconst (pc := 0) dX0_firstCopyIn_0 ?_
  refine r_istore_3 (pc := 1) dX0_firstCopyIn_1 rfl ?_
  exact lp _ 0 _ rfl (by omega) rfl

theorem dX0_serverOf_0 : decode cX0_serverOf 0 = .ok (.aload_n 0, 1) := by decide +kernel
theorem dX0_serverOf_1 : decode cX0_serverOf 1 = .ok (.getfield 15, 3) := by decide +kernel
theorem dX0_serverOf_4 : decode cX0_serverOf 4 = .ok (.iload_n 2, 1) := by decide +kernel
theorem dX0_serverOf_5 : decode cX0_serverOf 5 = .ok (.iaload, 1) := by decide +kernel
theorem dX0_serverOf_6 : decode cX0_serverOf 6 = .ok (.aload_n 0, 1) := by decide +kernel
theorem dX0_serverOf_7 : decode cX0_serverOf 7 = .ok (.getfield 30, 3) := by decide +kernel
theorem dX0_serverOf_10 : decode cX0_serverOf 10 = .ok (.iand, 1) := by decide +kernel
theorem dX0_serverOf_11 : decode cX0_serverOf 11 = .ok (.istore_n 3, 1) := by decide +kernel
theorem dX0_serverOf_12 : decode cX0_serverOf 12 = .ok (.aload_n 1, 1) := by decide +kernel
theorem dX0_serverOf_13 : decode cX0_serverOf 13 = .ok (.iload_n 2, 1) := by decide +kernel
theorem dX0_serverOf_14 : decode cX0_serverOf 14 = .ok (.iload_n 3, 1) := by decide +kernel
theorem dX0_serverOf_15 : decode cX0_serverOf 15 = .ok (.invokestatic 58, 3) := by decide +kernel
theorem dX0_serverOf_18 : decode cX0_serverOf 18 = .ok (.istore 4, 2) := by decide +kernel
theorem dX0_serverOf_20 : decode cX0_serverOf 20 = .ok (.iload 4, 2) := by decide +kernel
theorem dX0_serverOf_22 : decode cX0_serverOf 22 = .ok (.bipush (-4), 2) := by decide +kernel
theorem dX0_serverOf_24 : decode cX0_serverOf 24 = .ok (.if_icmp .eq 6, 3) := by decide +kernel
theorem dX0_serverOf_27 : decode cX0_serverOf 27 = .ok (.iload 4, 2) := by decide +kernel
theorem dX0_serverOf_29 : decode cX0_serverOf 29 = .ok (.ireturn, 1) := by decide +kernel
theorem dX0_serverOf_30 : decode cX0_serverOf 30 = .ok (.bipush 10, 2) := by decide +kernel
theorem dX0_serverOf_32 : decode cX0_serverOf 32 = .ok (.istore 5, 2) := by decide +kernel
theorem dX0_serverOf_34 : decode cX0_serverOf 34 = .ok (.iload 5, 2) := by decide +kernel
theorem dX0_serverOf_36 : decode cX0_serverOf 36 = .ok (.bipush 22, 2) := by decide +kernel
theorem dX0_serverOf_38 : decode cX0_serverOf 38 = .ok (.if_icmp .ge 22, 3) := by decide +kernel
theorem dX0_serverOf_41 : decode cX0_serverOf 41 = .ok (.iload_n 3, 1) := by decide +kernel
theorem dX0_serverOf_42 : decode cX0_serverOf 42 = .ok (.iload 5, 2) := by decide +kernel
theorem dX0_serverOf_44 : decode cX0_serverOf 44 = .ok (.invokestatic 43, 3) := by decide +kernel
theorem dX0_serverOf_47 : decode cX0_serverOf 47 = .ok (.iand, 1) := by decide +kernel
theorem dX0_serverOf_48 : decode cX0_serverOf 48 = .ok (.ifCond .eq 6, 3) := by decide +kernel
theorem dX0_serverOf_51 : decode cX0_serverOf 51 = .ok (.iload 5, 2) := by decide +kernel
theorem dX0_serverOf_53 : decode cX0_serverOf 53 = .ok (.ireturn, 1) := by decide +kernel
theorem dX0_serverOf_54 : decode cX0_serverOf 54 = .ok (.iinc 5 1, 3) := by decide +kernel
theorem dX0_serverOf_57 : decode cX0_serverOf 57 = .ok (.goto (-23), 3) := by decide +kernel
theorem dX0_serverOf_60 : decode cX0_serverOf 60 = .ok (.bipush (-4), 2) := by decide +kernel
theorem dX0_serverOf_62 : decode cX0_serverOf 62 = .ok (.ireturn, 1) := by decide +kernel
set_option maxHeartbeats 4000000 in
set_option maxRecDepth 20000 in
theorem c_X0_serverOf : ConI mX0_serverOf (fun args N lay r h Q => ∃ (a : Nat) (ux : Int) (sz ho : Int → Int) (p n : Nat) (F : Int → Int) (g : Int), args = [.ref a, .ref p, vI g] ∧ DaAt lay r a ∧ DaS h a ux sz ho ∧ MkI ux ho ∧ lay p = (4, n) ∧ lay (p + 11) = (10, 64) ∧ r p 9 = some (p + 11) ∧ FdI F ∧ (∀ j, 0 ≤ j → j < 64 → h (p + 11) j = F j) ∧ (0 ≤ g ∧ g < 16) ∧ Q (srv F (iA (ho g) ux) g) N lay r h) := by
  refine ConI.of (by decide) (by rintro _ N lay r h Q ⟨a, ux, sz, ho, p, n, F, g, rfl, hD, hV, hM, pl0, pl11, pr9, hF, hp1, hg, hQ⟩; exact ⟨rfl, Nat.le_of_ble_eq_true rfl⟩) ?_
  rintro E _ N lay r h Q ⟨a, ux, sz, ho, p, n, F, g, rfl, hD, hV, hM, pl0, pl11, pr9, hF, hp1, hg, hQ⟩ hret
  obtain ⟨dl0, dl1, dl2, dr1, dr2⟩ := id hD
  obtain ⟨d0, d1, d2⟩ := id hV
  have mset : Ms (iA (ho g) ux) := Ms_A (hM.2 g hg.1 hg.2) hM.1
  have fin4 : fst4 F g (bP (iA (ho g) ux)) 4 = -4 ∨ (10 ≤ fst4 F g (bP (iA (ho g) ux)) 4 ∧ fst4 F g (bP (iA (ho g) ux)) 4 < 22) := by
    rcases fst4_in (F := F) (g := g) (P := bP (iA (ho g) ux)) 4 with w | ⟨c, c1, c2, c3, c4⟩
    · exact Or.inl w
    · have := hF (4 * g + c) (by omega) (by omega)
      omega
  show St E mX0_serverOf 0 [some (.ref a), some (.ref p), some (vI g), none, none, none] [] (0, 0) N lay r h
  have lp : ∀ (n_ : Nat) (d : Int), (22 - d).toNat = n_ → (10 ≤ d ∧ d ≤ 22) → (lwd (iA (ho g) ux) (d - 10).toNat = -4) → (fst4 F g (bP (iA (ho g) ux)) 4 = -4) → St E mX0_serverOf 34 [some (.ref a), some (.ref p), some (vI g), some (vI (iA (ho g) ux)), some (vI (fst4 F g (bP (iA (ho g) ux)) 4)), some (vI d)] [] (0, 0) N lay r h := by
    intro  n_
    induction n_ using Nat.strongRecOn with
    | ind n_ ih =>
      intro d hn_ hd hs hz
      obtain ⟨k, rfl⟩ : ∃ k : Nat, d = 10 + k := ⟨(d - 10).toNat, by omega⟩
      rw [show (10 + (k : Int) - 10).toNat = k by omega] at hs
      refine r_iload_5 (pc := 34) dX0_serverOf_34 ?_
      refine r_bipush (pc := 36) dX0_serverOf_36 (by decide) ?_
      refine r_icmp_ge (pc := 38) (tgt := 60) dX0_serverOf_38 (by decide) (by omega) (by omega) (fun c_38 => ?_) (fun c_38 => ?_)
      · refine r_bipush (pc := 60) dX0_serverOf_60 (by decide) ?_
        refine r_iret (pc := 62) hret dX0_serverOf_62 rfl rfl rfl ?_
        first
        | (have k9 : k = 12 := by omega
           subst k9
           unfold srv at hQ
           rw [hz, if_neg (by omega), hs] at hQ
           exact hQ)
        | (have k9 : ¬ iA (iA (ho g) ux) (iSl 1 (10 + (k : Int) - 10)) = 0 := c_48
           have q1 : lwd (iA (ho g) ux) (k + 1) = 10 + (k : Int) := by rw [lwd_s, if_pos ⟨by omega, (mset.t (by omega)).mp k9⟩]
           have q2 := lwd_st (iA (ho g) ux) (k + 1) (by omega) (11 - k)
           rw [show k + 1 + (11 - k) = 12 by omega, q1] at q2
           unfold srv at hQ
           rw [hz, if_neg (by omega), q2] at hQ
           exact hQ)
      · refine r_iload_3 (pc := 41) dX0_serverOf_41 ?_
        refine r_iload_5 (pc := 42) dX0_serverOf_42 ?_
        refine k_SNI1 (pc := 44) c_X7_bitOf lk_X0_43 ⟨Nat.le_of_ble_eq_true rfl, Nat.le_of_ble_eq_true rfl⟩ ⟨rfl, rfl⟩ ⟨Nat.le_of_ble_eq_true rfl, Nat.le_of_ble_eq_true rfl⟩ dX0_serverOf_44 (Nat.le_of_ble_eq_true rfl) ?_
        refine ⟨_, rfl, fun i_44 => ?_⟩
        refine r_iand (pc := 47) dX0_serverOf_47 (fun i_47 => ?_)
        refine r_if_eq (pc := 48) (tgt := 54) dX0_serverOf_48 (by decide) (by omega) (fun c_48 => ?_) (fun c_48 => ?_)
        · refine r_iinc_5 (pc := 54) dX0_serverOf_54 rfl ?_
          refine r_goto (pc := 57) (tgt := 34) dX0_serverOf_57 (by decide) ?_
          exact ih _ (by omega) (10 + (k : Int) + 1) rfl (by omega) (by rw [show (10 + (k : Int) + 1 - 10).toNat = k + 1 by omega, lwd_s, if_neg (fun z => ((mset.t (by omega)).mpr z.2) c_48)]; exact hs) hz
        · refine r_iload_5 (pc := 51) dX0_serverOf_51 ?_
          refine r_iret (pc := 53) hret dX0_serverOf_53 rfl rfl rfl ?_
          first
          | (have k9 : k = 12 := by omega
             subst k9
             unfold srv at hQ
             rw [hz, if_neg (by omega), hs] at hQ
             exact hQ)
          | (have k9 : ¬ iA (iA (ho g) ux) (iSl 1 (10 + (k : Int) - 10)) = 0 := c_48
             have q1 : lwd (iA (ho g) ux) (k + 1) = 10 + (k : Int) := by rw [lwd_s, if_pos ⟨by omega, (mset.t (by omega)).mp k9⟩]
             have q2 := lwd_st (iA (ho g) ux) (k + 1) (by omega) (11 - k)
             rw [show k + 1 + (11 - k) = 12 by omega, q1] at q2
             unfold srv at hQ
             rw [hz, if_neg (by omega), q2] at hQ
             exact hQ)
  refine r_aload_0 (pc := 0) dX0_serverOf_0 ?_
  refine gf_X0_15 (pc := 1) rfl (by assumption) dX0_serverOf_1 (by assumption) ?_
  refine r_iload_2 (pc := 4) dX0_serverOf_4 ?_
  refine r_ialdE (pc := 5) (by assumption) (by first | assumption | exact rfl) dX0_serverOf_5 (by omega) (by omega) (fun i_5 => ?_)
  rw [d2 g hg.1 hg.2] at i_5 ⊢
  refine r_aload_0 (pc := 6) dX0_serverOf_6 ?_
  refine gf_X0_30 (pc := 7) rfl (by assumption) dX0_serverOf_7 (fun i_7 => ?_)
  rw [d0] at i_7 ⊢
  refine r_iand (pc := 10) dX0_serverOf_10 (fun i_10 => ?_)
  refine r_istore_3 (pc := 11) dX0_serverOf_11 rfl ?_
  refine r_aload_1 (pc := 12) dX0_serverOf_12 ?_
  refine r_iload_2 (pc := 13) dX0_serverOf_13 ?_
  refine r_iload_3 (pc := 14) dX0_serverOf_14 ?_
  refine k_SI3 (pc := 15) c_X0_firstCopyIn lk_X0_58 ⟨Nat.le_of_ble_eq_true rfl, Nat.le_of_ble_eq_true rfl⟩ ⟨rfl, rfl⟩ ⟨Nat.le_of_ble_eq_true rfl, Nat.le_of_ble_eq_true rfl⟩ dX0_serverOf_15 (Nat.le_of_ble_eq_true rfl) ?_
  refine ⟨_, _, _, _, _, rfl, by assumption, by assumption, by assumption, by assumption, by assumption, by omega, by assumption, ?_⟩
  refine r_istore_4 (pc := 18) dX0_serverOf_18 rfl ?_
  refine r_iload_4 (pc := 20) dX0_serverOf_20 ?_
  refine r_bipush (pc := 22) dX0_serverOf_22 (by decide) ?_
  refine r_icmp_eq (pc := 24) (tgt := 30) dX0_serverOf_24 (by decide) (by omega) (by omega) (fun c_24 => ?_) (fun c_24 => ?_)
  · refine r_bipush (pc := 30) dX0_serverOf_30 (by decide) ?_
    refine r_istore_5 (pc := 32) dX0_serverOf_32 rfl ?_
    exact lp _ 10 rfl (by omega) rfl c_24
  · refine r_iload_4 (pc := 27) dX0_serverOf_27 ?_
    refine r_iret (pc := 29) hret dX0_serverOf_29 rfl rfl rfl ?_
    unfold srv at hQ
    rw [if_pos (by omega)] at hQ
    exact hQ

theorem dX0_mostUrgent_0 : decode cX0_mostUrgent 0 = .ok (.bipush (-4), 2) := by decide +kernel
theorem dX0_mostUrgent_2 : decode cX0_mostUrgent 2 = .ok (.istore_n 2, 1) := by decide +kernel
theorem dX0_mostUrgent_3 : decode cX0_mostUrgent 3 = .ok (.iconst 0, 1) := by decide +kernel
theorem dX0_mostUrgent_4 : decode cX0_mostUrgent 4 = .ok (.istore_n 3, 1) := by decide +kernel
theorem dX0_mostUrgent_5 : decode cX0_mostUrgent 5 = .ok (.iconst 0, 1) := by decide +kernel
theorem dX0_mostUrgent_6 : decode cX0_mostUrgent 6 = .ok (.istore 4, 2) := by decide +kernel
theorem dX0_mostUrgent_8 : decode cX0_mostUrgent 8 = .ok (.iconst 0, 1) := by decide +kernel
theorem dX0_mostUrgent_9 : decode cX0_mostUrgent 9 = .ok (.istore 5, 2) := by decide +kernel
theorem dX0_mostUrgent_11 : decode cX0_mostUrgent 11 = .ok (.iload 5, 2) := by decide +kernel
theorem dX0_mostUrgent_13 : decode cX0_mostUrgent 13 = .ok (.bipush 16, 2) := by decide +kernel
theorem dX0_mostUrgent_15 : decode cX0_mostUrgent 15 = .ok (.if_icmp .ge 84, 3) := by decide +kernel
theorem dX0_mostUrgent_18 : decode cX0_mostUrgent 18 = .ok (.aload_n 0, 1) := by decide +kernel
theorem dX0_mostUrgent_19 : decode cX0_mostUrgent 19 = .ok (.aload_n 1, 1) := by decide +kernel
theorem dX0_mostUrgent_20 : decode cX0_mostUrgent 20 = .ok (.iload 5, 2) := by decide +kernel
theorem dX0_mostUrgent_22 : decode cX0_mostUrgent 22 = .ok (.invokevirtual 54, 3) := by decide +kernel
theorem dX0_mostUrgent_25 : decode cX0_mostUrgent 25 = .ok (.ifCond .ne 6, 3) := by decide +kernel
theorem dX0_mostUrgent_28 : decode cX0_mostUrgent 28 = .ok (.goto 65, 3) := by decide +kernel
theorem dX0_mostUrgent_31 : decode cX0_mostUrgent 31 = .ok (.aload_n 0, 1) := by decide +kernel
theorem dX0_mostUrgent_32 : decode cX0_mostUrgent 32 = .ok (.getfield 15, 3) := by decide +kernel
theorem dX0_mostUrgent_35 : decode cX0_mostUrgent 35 = .ok (.iload 5, 2) := by decide +kernel
theorem dX0_mostUrgent_37 : decode cX0_mostUrgent 37 = .ok (.iaload, 1) := by decide +kernel
theorem dX0_mostUrgent_38 : decode cX0_mostUrgent 38 = .ok (.aload_n 0, 1) := by decide +kernel
theorem dX0_mostUrgent_39 : decode cX0_mostUrgent 39 = .ok (.getfield 30, 3) := by decide +kernel
theorem dX0_mostUrgent_42 : decode cX0_mostUrgent 42 = .ok (.iand, 1) := by decide +kernel
theorem dX0_mostUrgent_43 : decode cX0_mostUrgent 43 = .ok (.invokestatic 78, 3) := by decide +kernel
theorem dX0_mostUrgent_46 : decode cX0_mostUrgent 46 = .ok (.istore 6, 2) := by decide +kernel
theorem dX0_mostUrgent_48 : decode cX0_mostUrgent 48 = .ok (.iload_n 2, 1) := by decide +kernel
theorem dX0_mostUrgent_49 : decode cX0_mostUrgent 49 = .ok (.bipush (-4), 2) := by decide +kernel
theorem dX0_mostUrgent_51 : decode cX0_mostUrgent 51 = .ok (.if_icmp .eq 27, 3) := by decide +kernel
theorem dX0_mostUrgent_54 : decode cX0_mostUrgent 54 = .ok (.iload 6, 2) := by decide +kernel
theorem dX0_mostUrgent_56 : decode cX0_mostUrgent 56 = .ok (.iload_n 3, 1) := by decide +kernel
theorem dX0_mostUrgent_57 : decode cX0_mostUrgent 57 = .ok (.if_icmp .lt 21, 3) := by decide +kernel
theorem dX0_mostUrgent_60 : decode cX0_mostUrgent 60 = .ok (.iload 6, 2) := by decide +kernel
theorem dX0_mostUrgent_62 : decode cX0_mostUrgent 62 = .ok (.iload_n 3, 1) := by decide +kernel
theorem dX0_mostUrgent_63 : decode cX0_mostUrgent 63 = .ok (.if_icmp .ne 30, 3) := by decide +kernel
theorem dX0_mostUrgent_66 : decode cX0_mostUrgent 66 = .ok (.aload_n 0, 1) := by decide +kernel
theorem dX0_mostUrgent_67 : decode cX0_mostUrgent 67 = .ok (.getfield 9, 3) := by decide +kernel
theorem dX0_mostUrgent_70 : decode cX0_mostUrgent 70 = .ok (.iload 5, 2) := by decide +kernel
theorem dX0_mostUrgent_72 : decode cX0_mostUrgent 72 = .ok (.iaload, 1) := by decide +kernel
theorem dX0_mostUrgent_73 : decode cX0_mostUrgent 73 = .ok (.iload 4, 2) := by decide +kernel
theorem dX0_mostUrgent_75 : decode cX0_mostUrgent 75 = .ok (.if_icmp .le 18, 3) := by decide +kernel
theorem dX0_mostUrgent_78 : decode cX0_mostUrgent 78 = .ok (.iload 5, 2) := by decide +kernel
theorem dX0_mostUrgent_80 : decode cX0_mostUrgent 80 = .ok (.istore_n 2, 1) := by decide +kernel
theorem dX0_mostUrgent_81 : decode cX0_mostUrgent 81 = .ok (.iload 6, 2) := by decide +kernel
theorem dX0_mostUrgent_83 : decode cX0_mostUrgent 83 = .ok (.istore_n 3, 1) := by decide +kernel
theorem dX0_mostUrgent_84 : decode cX0_mostUrgent 84 = .ok (.aload_n 0, 1) := by decide +kernel
theorem dX0_mostUrgent_85 : decode cX0_mostUrgent 85 = .ok (.getfield 9, 3) := by decide +kernel
theorem dX0_mostUrgent_88 : decode cX0_mostUrgent 88 = .ok (.iload 5, 2) := by decide +kernel
theorem dX0_mostUrgent_90 : decode cX0_mostUrgent 90 = .ok (.iaload, 1) := by decide +kernel
theorem dX0_mostUrgent_91 : decode cX0_mostUrgent 91 = .ok (.istore 4, 2) := by decide +kernel
theorem dX0_mostUrgent_93 : decode cX0_mostUrgent 93 = .ok (.iinc 5 1, 3) := by decide +kernel
theorem dX0_mostUrgent_96 : decode cX0_mostUrgent 96 = .ok (.goto (-85), 3) := by decide +kernel
theorem dX0_mostUrgent_99 : decode cX0_mostUrgent 99 = .ok (.iload_n 2, 1) := by decide +kernel
theorem dX0_mostUrgent_100 : decode cX0_mostUrgent 100 = .ok (.ireturn, 1) := by decide +kernel
set_option maxHeartbeats 4000000 in
set_option maxRecDepth 20000 in
theorem c_X0_mostUrgent : ConI mX0_mostUrgent (fun args N lay r h Q => ∃ (a : Nat) (ux : Int) (sz ho : Int → Int) (p n : Nat) (F : Int → Int), args = [.ref a, .ref p] ∧ DaAt lay r a ∧ DaS h a ux sz ho ∧ MkI ux ho ∧ lay p = (4, n) ∧ lay (p + 11) = (10, 64) ∧ lay (p + 13) = (10, 16) ∧ r p 9 = some (p + 11) ∧ r p 11 = some (p + 13) ∧ FdI F ∧ (∀ j, 0 ≤ j → j < 64 → h (p + 11) j = F j) ∧ (∀ g, 0 ≤ g → g < 16 → h (p + 13) g = pb F g) ∧ (∀ g, 0 ≤ g → g < 16 → 0 ≤ sz g ∧ sz g ≤ 9999) ∧ Q (prs F ux ho sz 16) N lay r h) := by
  refine ConI.of (by decide) (by rintro _ N lay r h Q ⟨a, ux, sz, ho, p, n, F, rfl, hD, hV, hM, pl0, pl11, pl13, pr9, pr11, hF, hp1, hp2, hsz, hQ⟩; exact ⟨rfl, Nat.le_of_ble_eq_true rfl⟩) ?_
  rintro E _ N lay r h Q ⟨a, ux, sz, ho, p, n, F, rfl, hD, hV, hM, pl0, pl11, pl13, pr9, pr11, hF, hp1, hp2, hsz, hQ⟩ hret
  obtain ⟨dl0, dl1, dl2, dr1, dr2⟩ := id hD
  obtain ⟨d0, d1, d2⟩ := id hV
  show St E mX0_mostUrgent 0 [some (.ref a), some (.ref p), none, none, none, none, none] [] (0, 0) N lay r h
  have lp : ∀ (n_ : Nat) (g : Int) (bs : Int) (bh : Int) (bz : Int) (x6 : Option Value), (16 - g).toNat = n_ → (0 ≤ g ∧ g ≤ 16) → (bs = prs F ux ho sz g.toNat) → (0 ≤ bs → bh = bts (iA (ho bs) ux) ∧ bz = sz bs) → St E mX0_mostUrgent 11 [some (.ref a), some (.ref p), some (vI bs), some (vI bh), some (vI bz), some (vI g), x6] [] (0, 0) N lay r h := by
    intro  n_
    induction n_ using Nat.strongRecOn with
    | ind n_ ih =>
      intro g bs bh bz x6 hn_ hg hb hbw
      obtain ⟨k, rfl⟩ : ∃ k : Nat, g = k := ⟨g.toNat, by omega⟩
      rw [show ((k : Int)).toNat = k by omega] at hb
      have e1 := prs_s F ux ho sz k
      have po := prs_or F ux ho sz k
      have br1 := bts_r (iA (ho k) ux)
      have br2 := bts_r (iA (ho bs) ux)
      refine r_iload_5 (pc := 11) dX0_mostUrgent_11 ?_
      refine r_bipush (pc := 13) dX0_mostUrgent_13 (by decide) ?_
      refine r_icmp_ge (pc := 15) (tgt := 99) dX0_mostUrgent_15 (by decide) (by omega) (by omega) (fun c_15 => ?_) (fun c_15 => ?_)
      · refine r_iload_2 (pc := 99) dX0_mostUrgent_99 ?_
        refine r_iret (pc := 100) hret dX0_mostUrgent_100 rfl rfl rfl ?_
        have k9 : k = 16 := by omega
        subst k9
        rw [hb]
        exact hQ
      · refine r_aload_0 (pc := 18) dX0_mostUrgent_18 ?_
        refine r_aload_1 (pc := 19) dX0_mostUrgent_19 ?_
        refine r_iload_5 (pc := 20) dX0_mostUrgent_20 ?_
        refine k_VI2 (pc := 22) c_X0_isIncomplete lk_X0_54 ⟨Nat.le_of_ble_eq_true rfl, Nat.le_of_ble_eq_true rfl⟩ ⟨rfl, rfl⟩ ⟨Nat.le_of_ble_eq_true rfl, Nat.le_of_ble_eq_true rfl⟩ (k := 0) rfl (by decide) (by assumption) dX0_mostUrgent_22 (Nat.le_of_ble_eq_true rfl) ?_
        refine ⟨_, _, _, _, _, _, _, _, rfl, by assumption, by assumption, by assumption, by assumption, by assumption, by assumption, by assumption, by assumption, by assumption, by assumption, by assumption, by omega, ?_⟩
        refine r_ifne_b (pc := 25) (tgt := 31) dX0_mostUrgent_25 (by decide) (fun c_25 => ?_) (fun c_25 => ?_)
        · have mg : 0 ≤ iA (ho k) ux ∧ iA (ho k) ux < 4096 := Ms_A (hM.2 k (by omega) (by omega)) hM.1
          refine r_aload_0 (pc := 31) dX0_mostUrgent_31 ?_
          refine gf_X0_15 (pc := 32) rfl (by assumption) dX0_mostUrgent_32 (by assumption) ?_
          refine r_iload_5 (pc := 35) dX0_mostUrgent_35 ?_
          refine r_ialdE (pc := 37) (by assumption) (by first | assumption | exact rfl) dX0_mostUrgent_37 (by omega) (by omega) (fun i_37 => ?_)
          rw [d2 k (by omega) (by omega)] at i_37 ⊢
          refine r_aload_0 (pc := 38) dX0_mostUrgent_38 ?_
          refine gf_X0_30 (pc := 39) rfl (by assumption) dX0_mostUrgent_39 (fun i_39 => ?_)
          rw [d0] at i_39 ⊢
          refine r_iand (pc := 42) dX0_mostUrgent_42 (fun i_42 => ?_)
          refine k_SI1 (pc := 43) c_J6_bitCount_0f7a4 lk_X0_78 ⟨Nat.le_of_ble_eq_true rfl, Nat.le_of_ble_eq_true rfl⟩ ⟨rfl, rfl⟩ ⟨Nat.le_of_ble_eq_true rfl, Nat.le_of_ble_eq_true rfl⟩ dX0_mostUrgent_43 (Nat.le_of_ble_eq_true rfl) ?_
          refine ⟨_, rfl, by omega, ?_⟩
          refine r_istore_6 (pc := 46) dX0_mostUrgent_46 rfl ?_
          refine r_iload_2 (pc := 48) dX0_mostUrgent_48 ?_
          refine r_bipush (pc := 49) dX0_mostUrgent_49 (by decide) ?_
          refine r_icmp_eq (pc := 51) (tgt := 78) dX0_mostUrgent_51 (by decide) (by omega) (by omega) (fun c_51 => ?_) (fun c_51 => ?_)
          · refine r_iload_5 (pc := 78) dX0_mostUrgent_78 ?_
            refine r_istore_2 (pc := 80) dX0_mostUrgent_80 rfl ?_
            refine r_iload_6 (pc := 81) dX0_mostUrgent_81 ?_
            refine r_istore_3 (pc := 83) dX0_mostUrgent_83 rfl ?_
            refine r_aload_0 (pc := 84) dX0_mostUrgent_84 ?_
            refine gf_X0_9 (pc := 85) rfl (by assumption) dX0_mostUrgent_85 (by assumption) ?_
            refine r_iload_5 (pc := 88) dX0_mostUrgent_88 ?_
            refine r_ialdE (pc := 90) (by assumption) (by first | assumption | exact rfl) dX0_mostUrgent_90 (by omega) (by omega) (fun i_90 => ?_)
            rw [d1 k (by omega) (by omega)] at i_90 ⊢
            refine r_istore_4 (pc := 91) dX0_mostUrgent_91 rfl ?_
            refine r_iinc_5 (pc := 93) dX0_mostUrgent_93 rfl ?_
            refine r_goto (pc := 96) (tgt := 11) dX0_mostUrgent_96 (by decide) ?_
            first
            | (have k9 : ¬ wan F ux ho k = true := c_25
               refine ih _ (by omega) ((k : Int) + 1) bs bh bz _ rfl (by omega) ?_ hbw
               rw [show ((k : Int) + 1).toNat = k + 1 by omega, e1, if_neg (fun z => k9 z.1)]
               exact hb)
            | (have k9 : bs = -4 := c_51
               refine ih _ (by omega) ((k : Int) + 1) k (bts (iA (ho k) ux)) (sz k) _ rfl (by omega) ?_ (fun _ => ⟨rfl, rfl⟩)
               rw [show ((k : Int) + 1).toNat = k + 1 by omega, e1, if_pos ⟨c_25, Or.inl (by rw [← hb]; omega)⟩])
            | (have k9 : bts (iA (ho k) ux) < bh := c_57
               refine ih _ (by omega) ((k : Int) + 1) k (bts (iA (ho k) ux)) (sz k) _ rfl (by omega) ?_ (fun _ => ⟨rfl, rfl⟩)
               rw [show ((k : Int) + 1).toNat = k + 1 by omega, e1, if_pos ⟨c_25, Or.inr (Or.inl (by rw [← hb, ← (hbw (by omega)).1]; exact k9))⟩])
            | (have k9 : ¬ bts (iA (ho k) ux) = bh := c_63
               refine ih _ (by omega) ((k : Int) + 1) bs bh bz _ rfl (by omega) ?_ hbw
               rw [show ((k : Int) + 1).toNat = k + 1 by omega, e1, if_neg (fun z => by
                 rw [← hb] at z
                 have q := hbw (by omega)
                 rcases z.2 with y | y | y
                 · omega
                 · omega
                 · omega)]
               exact hb)
            | (have k9 : sz k ≤ bz := c_75
               refine ih _ (by omega) ((k : Int) + 1) bs bh bz _ rfl (by omega) ?_ hbw
               rw [show ((k : Int) + 1).toNat = k + 1 by omega, e1, if_neg (fun z => by
                 rw [← hb] at z
                 have q := hbw (by omega)
                 rcases z.2 with y | y | y
                 · omega
                 · omega
                 · omega)]
               exact hb)
            | (have k9 : bz < sz k := by omega
               refine ih _ (by omega) ((k : Int) + 1) k (bts (iA (ho k) ux)) (sz k) _ rfl (by omega) ?_ (fun _ => ⟨rfl, rfl⟩)
               rw [show ((k : Int) + 1).toNat = k + 1 by omega, e1, if_pos ⟨c_25, Or.inr (Or.inr (by
                 have q := hbw (by omega)
                 rw [← hb]
                 omega))⟩])
            
          · have hq1 := hbw (by omega)
            have zr := hsz bs (by omega) (by omega)
            refine r_iload_6 (pc := 54) dX0_mostUrgent_54 ?_
            refine r_iload_3 (pc := 56) dX0_mostUrgent_56 ?_
            refine r_icmp_lt (pc := 57) (tgt := 78) dX0_mostUrgent_57 (by decide) (by omega) (by omega) (fun c_57 => ?_) (fun c_57 => ?_)
            · refine r_iload_5 (pc := 78) dX0_mostUrgent_78 ?_
              refine r_istore_2 (pc := 80) dX0_mostUrgent_80 rfl ?_
              refine r_iload_6 (pc := 81) dX0_mostUrgent_81 ?_
              refine r_istore_3 (pc := 83) dX0_mostUrgent_83 rfl ?_
              refine r_aload_0 (pc := 84) dX0_mostUrgent_84 ?_
              refine gf_X0_9 (pc := 85) rfl (by assumption) dX0_mostUrgent_85 (by assumption) ?_
              refine r_iload_5 (pc := 88) dX0_mostUrgent_88 ?_
              refine r_ialdE (pc := 90) (by assumption) (by first | assumption | exact rfl) dX0_mostUrgent_90 (by omega) (by omega) (fun i_90 => ?_)
              rw [d1 k (by omega) (by omega)] at i_90 ⊢
              refine r_istore_4 (pc := 91) dX0_mostUrgent_91 rfl ?_
              refine r_iinc_5 (pc := 93) dX0_mostUrgent_93 rfl ?_
              refine r_goto (pc := 96) (tgt := 11) dX0_mostUrgent_96 (by decide) ?_
              first
              | (have k9 : ¬ wan F ux ho k = true := c_25
                 refine ih _ (by omega) ((k : Int) + 1) bs bh bz _ rfl (by omega) ?_ hbw
                 rw [show ((k : Int) + 1).toNat = k + 1 by omega, e1, if_neg (fun z => k9 z.1)]
                 exact hb)
              | (have k9 : bs = -4 := c_51
                 refine ih _ (by omega) ((k : Int) + 1) k (bts (iA (ho k) ux)) (sz k) _ rfl (by omega) ?_ (fun _ => ⟨rfl, rfl⟩)
                 rw [show ((k : Int) + 1).toNat = k + 1 by omega, e1, if_pos ⟨c_25, Or.inl (by rw [← hb]; omega)⟩])
              | (have k9 : bts (iA (ho k) ux) < bh := c_57
                 refine ih _ (by omega) ((k : Int) + 1) k (bts (iA (ho k) ux)) (sz k) _ rfl (by omega) ?_ (fun _ => ⟨rfl, rfl⟩)
                 rw [show ((k : Int) + 1).toNat = k + 1 by omega, e1, if_pos ⟨c_25, Or.inr (Or.inl (by rw [← hb, ← (hbw (by omega)).1]; exact k9))⟩])
              | (have k9 : ¬ bts (iA (ho k) ux) = bh := c_63
                 refine ih _ (by omega) ((k : Int) + 1) bs bh bz _ rfl (by omega) ?_ hbw
                 rw [show ((k : Int) + 1).toNat = k + 1 by omega, e1, if_neg (fun z => by
                   rw [← hb] at z
                   have q := hbw (by omega)
                   rcases z.2 with y | y | y
                   · omega
                   · omega
                   · omega)]
                 exact hb)
              | (have k9 : sz k ≤ bz := c_75
                 refine ih _ (by omega) ((k : Int) + 1) bs bh bz _ rfl (by omega) ?_ hbw
                 rw [show ((k : Int) + 1).toNat = k + 1 by omega, e1, if_neg (fun z => by
                   rw [← hb] at z
                   have q := hbw (by omega)
                   rcases z.2 with y | y | y
                   · omega
                   · omega
                   · omega)]
                 exact hb)
              | (have k9 : bz < sz k := by omega
                 refine ih _ (by omega) ((k : Int) + 1) k (bts (iA (ho k) ux)) (sz k) _ rfl (by omega) ?_ (fun _ => ⟨rfl, rfl⟩)
                 rw [show ((k : Int) + 1).toNat = k + 1 by omega, e1, if_pos ⟨c_25, Or.inr (Or.inr (by
                   have q := hbw (by omega)
                   rw [← hb]
                   omega))⟩])
              
            · refine r_iload_6 (pc := 60) dX0_mostUrgent_60 ?_
              refine r_iload_3 (pc := 62) dX0_mostUrgent_62 ?_
              refine r_icmp_ne (pc := 63) (tgt := 93) dX0_mostUrgent_63 (by decide) (by omega) (by omega) (fun c_63 => ?_) (fun c_63 => ?_)
              · refine r_iinc_5 (pc := 93) dX0_mostUrgent_93 rfl ?_
                refine r_goto (pc := 96) (tgt := 11) dX0_mostUrgent_96 (by decide) ?_
                first
                | (have k9 : ¬ wan F ux ho k = true := c_25
                   refine ih _ (by omega) ((k : Int) + 1) bs bh bz _ rfl (by omega) ?_ hbw
                   rw [show ((k : Int) + 1).toNat = k + 1 by omega, e1, if_neg (fun z => k9 z.1)]
                   exact hb)
                | (have k9 : bs = -4 := c_51
                   refine ih _ (by omega) ((k : Int) + 1) k (bts (iA (ho k) ux)) (sz k) _ rfl (by omega) ?_ (fun _ => ⟨rfl, rfl⟩)
                   rw [show ((k : Int) + 1).toNat = k + 1 by omega, e1, if_pos ⟨c_25, Or.inl (by rw [← hb]; omega)⟩])
                | (have k9 : bts (iA (ho k) ux) < bh := c_57
                   refine ih _ (by omega) ((k : Int) + 1) k (bts (iA (ho k) ux)) (sz k) _ rfl (by omega) ?_ (fun _ => ⟨rfl, rfl⟩)
                   rw [show ((k : Int) + 1).toNat = k + 1 by omega, e1, if_pos ⟨c_25, Or.inr (Or.inl (by rw [← hb, ← (hbw (by omega)).1]; exact k9))⟩])
                | (have k9 : ¬ bts (iA (ho k) ux) = bh := c_63
                   refine ih _ (by omega) ((k : Int) + 1) bs bh bz _ rfl (by omega) ?_ hbw
                   rw [show ((k : Int) + 1).toNat = k + 1 by omega, e1, if_neg (fun z => by
                     rw [← hb] at z
                     have q := hbw (by omega)
                     rcases z.2 with y | y | y
                     · omega
                     · omega
                     · omega)]
                   exact hb)
                | (have k9 : sz k ≤ bz := c_75
                   refine ih _ (by omega) ((k : Int) + 1) bs bh bz _ rfl (by omega) ?_ hbw
                   rw [show ((k : Int) + 1).toNat = k + 1 by omega, e1, if_neg (fun z => by
                     rw [← hb] at z
                     have q := hbw (by omega)
                     rcases z.2 with y | y | y
                     · omega
                     · omega
                     · omega)]
                   exact hb)
                | (have k9 : bz < sz k := by omega
                   refine ih _ (by omega) ((k : Int) + 1) k (bts (iA (ho k) ux)) (sz k) _ rfl (by omega) ?_ (fun _ => ⟨rfl, rfl⟩)
                   rw [show ((k : Int) + 1).toNat = k + 1 by omega, e1, if_pos ⟨c_25, Or.inr (Or.inr (by
                     have q := hbw (by omega)
                     rw [← hb]
                     omega))⟩])
                
              · refine r_aload_0 (pc := 66) dX0_mostUrgent_66 ?_
                refine gf_X0_9 (pc := 67) rfl (by assumption) dX0_mostUrgent_67 (by assumption) ?_
                refine r_iload_5 (pc := 70) dX0_mostUrgent_70 ?_
                refine r_ialdE (pc := 72) (by assumption) (by first | assumption | exact rfl) dX0_mostUrgent_72 (by omega) (by omega) (fun i_72 => ?_)
                rw [d1 k (by omega) (by omega)] at i_72 ⊢
                refine r_iload_4 (pc := 73) dX0_mostUrgent_73 ?_
                refine r_icmp_le (pc := 75) (tgt := 93) dX0_mostUrgent_75 (by decide) (by omega) (by omega) (fun c_75 => ?_) (fun c_75 => ?_)
                · refine r_iinc_5 (pc := 93) dX0_mostUrgent_93 rfl ?_
                  refine r_goto (pc := 96) (tgt := 11) dX0_mostUrgent_96 (by decide) ?_
                  first
                  | (have k9 : ¬ wan F ux ho k = true := c_25
                     refine ih _ (by omega) ((k : Int) + 1) bs bh bz _ rfl (by omega) ?_ hbw
                     rw [show ((k : Int) + 1).toNat = k + 1 by omega, e1, if_neg (fun z => k9 z.1)]
                     exact hb)
                  | (have k9 : bs = -4 := c_51
                     refine ih _ (by omega) ((k : Int) + 1) k (bts (iA (ho k) ux)) (sz k) _ rfl (by omega) ?_ (fun _ => ⟨rfl, rfl⟩)
                     rw [show ((k : Int) + 1).toNat = k + 1 by omega, e1, if_pos ⟨c_25, Or.inl (by rw [← hb]; omega)⟩])
                  | (have k9 : bts (iA (ho k) ux) < bh := c_57
                     refine ih _ (by omega) ((k : Int) + 1) k (bts (iA (ho k) ux)) (sz k) _ rfl (by omega) ?_ (fun _ => ⟨rfl, rfl⟩)
                     rw [show ((k : Int) + 1).toNat = k + 1 by omega, e1, if_pos ⟨c_25, Or.inr (Or.inl (by rw [← hb, ← (hbw (by omega)).1]; exact k9))⟩])
                  | (have k9 : ¬ bts (iA (ho k) ux) = bh := c_63
                     refine ih _ (by omega) ((k : Int) + 1) bs bh bz _ rfl (by omega) ?_ hbw
                     rw [show ((k : Int) + 1).toNat = k + 1 by omega, e1, if_neg (fun z => by
                       rw [← hb] at z
                       have q := hbw (by omega)
                       rcases z.2 with y | y | y
                       · omega
                       · omega
                       · omega)]
                     exact hb)
                  | (have k9 : sz k ≤ bz := c_75
                     refine ih _ (by omega) ((k : Int) + 1) bs bh bz _ rfl (by omega) ?_ hbw
                     rw [show ((k : Int) + 1).toNat = k + 1 by omega, e1, if_neg (fun z => by
                       rw [← hb] at z
                       have q := hbw (by omega)
                       rcases z.2 with y | y | y
                       · omega
                       · omega
                       · omega)]
                     exact hb)
                  | (have k9 : bz < sz k := by omega
                     refine ih _ (by omega) ((k : Int) + 1) k (bts (iA (ho k) ux)) (sz k) _ rfl (by omega) ?_ (fun _ => ⟨rfl, rfl⟩)
                     rw [show ((k : Int) + 1).toNat = k + 1 by omega, e1, if_pos ⟨c_25, Or.inr (Or.inr (by
                       have q := hbw (by omega)
                       rw [← hb]
                       omega))⟩])
                  
                · refine r_iload_5 (pc := 78) dX0_mostUrgent_78 ?_
                  refine r_istore_2 (pc := 80) dX0_mostUrgent_80 rfl ?_
                  refine r_iload_6 (pc := 81) dX0_mostUrgent_81 ?_
                  refine r_istore_3 (pc := 83) dX0_mostUrgent_83 rfl ?_
                  refine r_aload_0 (pc := 84) dX0_mostUrgent_84 ?_
                  refine gf_X0_9 (pc := 85) rfl (by assumption) dX0_mostUrgent_85 (by assumption) ?_
                  refine r_iload_5 (pc := 88) dX0_mostUrgent_88 ?_
                  refine r_ialdE (pc := 90) (by assumption) (by first | assumption | exact rfl) dX0_mostUrgent_90 (by omega) (by omega) (fun i_90 => ?_)
                  rw [d1 k (by omega) (by omega)] at i_90 ⊢
                  refine r_istore_4 (pc := 91) dX0_mostUrgent_91 rfl ?_
                  refine r_iinc_5 (pc := 93) dX0_mostUrgent_93 rfl ?_
                  refine r_goto (pc := 96) (tgt := 11) dX0_mostUrgent_96 (by decide) ?_
                  first
                  | (have k9 : ¬ wan F ux ho k = true := c_25
                     refine ih _ (by omega) ((k : Int) + 1) bs bh bz _ rfl (by omega) ?_ hbw
                     rw [show ((k : Int) + 1).toNat = k + 1 by omega, e1, if_neg (fun z => k9 z.1)]
                     exact hb)
                  | (have k9 : bs = -4 := c_51
                     refine ih _ (by omega) ((k : Int) + 1) k (bts (iA (ho k) ux)) (sz k) _ rfl (by omega) ?_ (fun _ => ⟨rfl, rfl⟩)
                     rw [show ((k : Int) + 1).toNat = k + 1 by omega, e1, if_pos ⟨c_25, Or.inl (by rw [← hb]; omega)⟩])
                  | (have k9 : bts (iA (ho k) ux) < bh := c_57
                     refine ih _ (by omega) ((k : Int) + 1) k (bts (iA (ho k) ux)) (sz k) _ rfl (by omega) ?_ (fun _ => ⟨rfl, rfl⟩)
                     rw [show ((k : Int) + 1).toNat = k + 1 by omega, e1, if_pos ⟨c_25, Or.inr (Or.inl (by rw [← hb, ← (hbw (by omega)).1]; exact k9))⟩])
                  | (have k9 : ¬ bts (iA (ho k) ux) = bh := c_63
                     refine ih _ (by omega) ((k : Int) + 1) bs bh bz _ rfl (by omega) ?_ hbw
                     rw [show ((k : Int) + 1).toNat = k + 1 by omega, e1, if_neg (fun z => by
                       rw [← hb] at z
                       have q := hbw (by omega)
                       rcases z.2 with y | y | y
                       · omega
                       · omega
                       · omega)]
                     exact hb)
                  | (have k9 : sz k ≤ bz := c_75
                     refine ih _ (by omega) ((k : Int) + 1) bs bh bz _ rfl (by omega) ?_ hbw
                     rw [show ((k : Int) + 1).toNat = k + 1 by omega, e1, if_neg (fun z => by
                       rw [← hb] at z
                       have q := hbw (by omega)
                       rcases z.2 with y | y | y
                       · omega
                       · omega
                       · omega)]
                     exact hb)
                  | (have k9 : bz < sz k := by omega
                     refine ih _ (by omega) ((k : Int) + 1) k (bts (iA (ho k) ux)) (sz k) _ rfl (by omega) ?_ (fun _ => ⟨rfl, rfl⟩)
                     rw [show ((k : Int) + 1).toNat = k + 1 by omega, e1, if_pos ⟨c_25, Or.inr (Or.inr (by
                       have q := hbw (by omega)
                       rw [← hb]
                       omega))⟩])
                  
        · refine r_goto (pc := 28) (tgt := 93) dX0_mostUrgent_28 (by decide) ?_
          refine r_iinc_5 (pc := 93) dX0_mostUrgent_93 rfl ?_
          refine r_goto (pc := 96) (tgt := 11) dX0_mostUrgent_96 (by decide) ?_
          first
          | (have k9 : ¬ wan F ux ho k = true := c_25
             refine ih _ (by omega) ((k : Int) + 1) bs bh bz _ rfl (by omega) ?_ hbw
             rw [show ((k : Int) + 1).toNat = k + 1 by omega, e1, if_neg (fun z => k9 z.1)]
             exact hb)
          | (have k9 : bs = -4 := c_51
             refine ih _ (by omega) ((k : Int) + 1) k (bts (iA (ho k) ux)) (sz k) _ rfl (by omega) ?_ (fun _ => ⟨rfl, rfl⟩)
             rw [show ((k : Int) + 1).toNat = k + 1 by omega, e1, if_pos ⟨c_25, Or.inl (by rw [← hb]; omega)⟩])
          | (have k9 : bts (iA (ho k) ux) < bh := c_57
             refine ih _ (by omega) ((k : Int) + 1) k (bts (iA (ho k) ux)) (sz k) _ rfl (by omega) ?_ (fun _ => ⟨rfl, rfl⟩)
             rw [show ((k : Int) + 1).toNat = k + 1 by omega, e1, if_pos ⟨c_25, Or.inr (Or.inl (by rw [← hb, ← (hbw (by omega)).1]; exact k9))⟩])
          | (have k9 : ¬ bts (iA (ho k) ux) = bh := c_63
             refine ih _ (by omega) ((k : Int) + 1) bs bh bz _ rfl (by omega) ?_ hbw
             rw [show ((k : Int) + 1).toNat = k + 1 by omega, e1, if_neg (fun z => by
               rw [← hb] at z
               have q := hbw (by omega)
               rcases z.2 with y | y | y
               · omega
               · omega
               · omega)]
             exact hb)
          | (have k9 : sz k ≤ bz := c_75
             refine ih _ (by omega) ((k : Int) + 1) bs bh bz _ rfl (by omega) ?_ hbw
             rw [show ((k : Int) + 1).toNat = k + 1 by omega, e1, if_neg (fun z => by
               rw [← hb] at z
               have q := hbw (by omega)
               rcases z.2 with y | y | y
               · omega
               · omega
               · omega)]
             exact hb)
          | (have k9 : bz < sz k := by omega
             refine ih _ (by omega) ((k : Int) + 1) k (bts (iA (ho k) ux)) (sz k) _ rfl (by omega) ?_ (fun _ => ⟨rfl, rfl⟩)
             rw [show ((k : Int) + 1).toNat = k + 1 by omega, e1, if_pos ⟨c_25, Or.inr (Or.inr (by
               have q := hbw (by omega)
               rw [← hb]
               omega))⟩])
          
  refine r_bipush (pc := 0) dX0_mostUrgent_0 (by decide) ?_
  refine r_istore_2 (pc := 2) dX0_mostUrgent_2 rfl ?_
  refine r_iconst (pc := 3) dX0_mostUrgent_3 ?_
  refine r_istore_3 (pc := 4) dX0_mostUrgent_4 rfl ?_
  refine r_iconst (pc := 5) dX0_mostUrgent_5 ?_
  refine r_istore_4 (pc := 6) dX0_mostUrgent_6 rfl ?_
  refine r_iconst (pc := 8) dX0_mostUrgent_8 ?_
  refine r_istore_5 (pc := 9) dX0_mostUrgent_9 rfl ?_
  exact lp _ 0 (-4) 0 0 _ rfl (by omega) rfl (fun z => by omega)

theorem dX0_copyOnce_0 : decode cX0_copyOnce 0 = .ok (.aload_n 0, 1) := by decide +kernel
theorem dX0_copyOnce_1 : decode cX0_copyOnce 1 = .ok (.aload_n 1, 1) := by decide +kernel
theorem dX0_copyOnce_2 : decode cX0_copyOnce 2 = .ok (.invokevirtual 74, 3) := by decide +kernel
theorem dX0_copyOnce_5 : decode cX0_copyOnce 5 = .ok (.istore_n 2, 1) := by decide +kernel
theorem dX0_copyOnce_6 : decode cX0_copyOnce 6 = .ok (.iload_n 2, 1) := by decide +kernel
theorem dX0_copyOnce_7 : decode cX0_copyOnce 7 = .ok (.bipush (-4), 2) := by decide +kernel
theorem dX0_copyOnce_9 : decode cX0_copyOnce 9 = .ok (.if_icmp .ne 5, 3) := by decide +kernel
theorem dX0_copyOnce_12 : decode cX0_copyOnce 12 = .ok (.iconst 0, 1) := by decide +kernel
theorem dX0_copyOnce_13 : decode cX0_copyOnce 13 = .ok (.ireturn, 1) := by decide +kernel
theorem dX0_copyOnce_14 : decode cX0_copyOnce 14 = .ok (.aload_n 1, 1) := by decide +kernel
theorem dX0_copyOnce_15 : decode cX0_copyOnce 15 = .ok (.iload_n 2, 1) := by decide +kernel
theorem dX0_copyOnce_16 : decode cX0_copyOnce 16 = .ok (.aload_n 0, 1) := by decide +kernel
theorem dX0_copyOnce_17 : decode cX0_copyOnce 17 = .ok (.getfield 30, 3) := by decide +kernel
theorem dX0_copyOnce_20 : decode cX0_copyOnce 20 = .ok (.aload_n 0, 1) := by decide +kernel
theorem dX0_copyOnce_21 : decode cX0_copyOnce 21 = .ok (.getfield 15, 3) := by decide +kernel
theorem dX0_copyOnce_24 : decode cX0_copyOnce 24 = .ok (.iload_n 2, 1) := by decide +kernel
theorem dX0_copyOnce_25 : decode cX0_copyOnce 25 = .ok (.iaload, 1) := by decide +kernel
theorem dX0_copyOnce_26 : decode cX0_copyOnce 26 = .ok (.iconst (-1), 1) := by decide +kernel
theorem dX0_copyOnce_27 : decode cX0_copyOnce 27 = .ok (.ixor, 1) := by decide +kernel
theorem dX0_copyOnce_28 : decode cX0_copyOnce 28 = .ok (.iand, 1) := by decide +kernel
theorem dX0_copyOnce_29 : decode cX0_copyOnce 29 = .ok (.invokestatic 58, 3) := by decide +kernel
theorem dX0_copyOnce_32 : decode cX0_copyOnce 32 = .ok (.istore_n 3, 1) := by decide +kernel
theorem dX0_copyOnce_33 : decode cX0_copyOnce 33 = .ok (.iload_n 3, 1) := by decide +kernel
theorem dX0_copyOnce_34 : decode cX0_copyOnce 34 = .ok (.bipush (-4), 2) := by decide +kernel
theorem dX0_copyOnce_36 : decode cX0_copyOnce 36 = .ok (.if_icmp .ne 5, 3) := by decide +kernel
theorem dX0_copyOnce_39 : decode cX0_copyOnce 39 = .ok (.iconst 0, 1) := by decide +kernel
theorem dX0_copyOnce_40 : decode cX0_copyOnce 40 = .ok (.ireturn, 1) := by decide +kernel
theorem dX0_copyOnce_41 : decode cX0_copyOnce 41 = .ok (.aload_n 0, 1) := by decide +kernel
theorem dX0_copyOnce_42 : decode cX0_copyOnce 42 = .ok (.getfield 15, 3) := by decide +kernel
theorem dX0_copyOnce_45 : decode cX0_copyOnce 45 = .ok (.iload_n 2, 1) := by decide +kernel
theorem dX0_copyOnce_46 : decode cX0_copyOnce 46 = .ok (.dup2, 1) := by decide +kernel
theorem dX0_copyOnce_47 : decode cX0_copyOnce 47 = .ok (.iaload, 1) := by decide +kernel
theorem dX0_copyOnce_48 : decode cX0_copyOnce 48 = .ok (.iload_n 3, 1) := by decide +kernel
theorem dX0_copyOnce_49 : decode cX0_copyOnce 49 = .ok (.invokestatic 43, 3) := by decide +kernel
theorem dX0_copyOnce_52 : decode cX0_copyOnce 52 = .ok (.ior, 1) := by decide +kernel
theorem dX0_copyOnce_53 : decode cX0_copyOnce 53 = .ok (.iastore, 1) := by decide +kernel
theorem dX0_copyOnce_54 : decode cX0_copyOnce 54 = .ok (.iconst 1, 1) := by decide +kernel
theorem dX0_copyOnce_55 : decode cX0_copyOnce 55 = .ok (.ireturn, 1) := by decide +kernel
set_option maxHeartbeats 4000000 in
set_option maxRecDepth 20000 in
theorem c_X0_copyOnce : ConI mX0_copyOnce (fun args N lay r h Q => ∃ (a : Nat) (ux : Int) (sz ho : Int → Int) (p n : Nat) (F : Int → Int), args = [.ref a, .ref p] ∧ DaAt lay r a ∧ DaS h a ux sz ho ∧ MkI ux ho ∧ lay p = (4, n) ∧ lay (p + 11) = (10, 64) ∧ lay (p + 13) = (10, 16) ∧ r p 9 = some (p + 11) ∧ r p 11 = some (p + 13) ∧ FdI F ∧ (∀ j, 0 ≤ j → j < 64 → h (p + 11) j = F j) ∧ (∀ g, 0 ≤ g → g < 16 → h (p + 13) g = pb F g) ∧ (∀ g, 0 ≤ g → g < 16 → 0 ≤ sz g ∧ sz g ≤ 9999) ∧ (prs F ux ho sz 16 < 0 → Q 0 N lay r h) ∧ (0 ≤ prs F ux ho sz 16 → ∀ f, (∀ q, 0 ≤ q → q < 16 → f q = cpy F ux ho (prs F ux ho sz 16) q) → Q 1 N lay r (hr h (a + 2) f))) := by
  refine ConI.of (by decide) (by rintro _ N lay r h Q ⟨a, ux, sz, ho, p, n, F, rfl, hD, hV, hM, pl0, pl11, pl13, pr9, pr11, hF, hp1, hp2, hsz, hQ0, hQ1⟩; exact ⟨rfl, Nat.le_of_ble_eq_true rfl⟩) ?_
  rintro E _ N lay r h Q ⟨a, ux, sz, ho, p, n, F, rfl, hD, hV, hM, pl0, pl11, pl13, pr9, pr11, hF, hp1, hp2, hsz, hQ0, hQ1⟩ hret
  obtain ⟨dl0, dl1, dl2, dr1, dr2⟩ := id hD
  obtain ⟨d0, d1, d2⟩ := id hV
  have po := prs_or F ux ho sz 16
  show St E mX0_copyOnce 0 [some (.ref a), some (.ref p), none, none] [] (0, 0) N lay r h
  refine r_aload_0 (pc := 0) dX0_copyOnce_0 ?_
  refine r_aload_1 (pc := 1) dX0_copyOnce_1 ?_
  refine k_VI1 (pc := 2) c_X0_mostUrgent lk_X0_74 ⟨Nat.le_of_ble_eq_true rfl, Nat.le_of_ble_eq_true rfl⟩ ⟨rfl, rfl⟩ ⟨Nat.le_of_ble_eq_true rfl, Nat.le_of_ble_eq_true rfl⟩ (k := 0) rfl (by decide) (by assumption) dX0_copyOnce_2 (Nat.le_of_ble_eq_true rfl) ?_
  refine ⟨_, _, _, _, _, _, _, rfl, by assumption, by assumption, by assumption, by assumption, by assumption, by assumption, by assumption, by assumption, by assumption, by assumption, by assumption, by assumption, ?_⟩
  refine r_istore_2 (pc := 5) dX0_copyOnce_5 rfl ?_
  refine r_iload_2 (pc := 6) dX0_copyOnce_6 ?_
  refine r_bipush (pc := 7) dX0_copyOnce_7 (by decide) ?_
  refine r_icmp_ne (pc := 9) (tgt := 14) dX0_copyOnce_9 (by decide) (by omega) (by omega) (fun c_9 => ?_) (fun c_9 => ?_)
  · have G0 : 0 ≤ prs F ux ho sz 16 ∧ prs F ux ho sz 16 < 16 := by omega
    have wf := wan_fst hF hM G0 (po.resolve_left (by omega)).2.2
    have mg := hM.2 _ G0.1 G0.2
    have mset : Ms (iA ux (iX (ho (prs F ux ho sz 16)) (-1))) := Ms_An hM.1 mg
    have fc : fst4 F (prs F ux ho sz 16) (bP (iA ux (iX (ho (prs F ux ho sz 16)) (-1)))) 4 = fst4 F (prs F ux ho sz 16) (mP ux (ho (prs F ux ho sz 16))) 4 := fst4_c (fun c c0 c1 c2 => bP_an hM.1 mg (by have := hF (4 * prs F ux ho sz 16 + c) (by omega) (by omega); omega)) 4 (by omega)
    have fr : fst4 F (prs F ux ho sz 16) (mP ux (ho (prs F ux ho sz 16))) 4 < 22 := by
      rcases fst4_in (F := F) (g := prs F ux ho sz 16) (P := mP ux (ho (prs F ux ho sz 16))) 4 with w | ⟨c, c1, c2, c3, c4⟩
      · omega
      · have := hF (4 * prs F ux ho sz 16 + c) (by omega) (by omega)
        omega
    refine r_aload_1 (pc := 14) dX0_copyOnce_14 ?_
    refine r_iload_2 (pc := 15) dX0_copyOnce_15 ?_
    refine r_aload_0 (pc := 16) dX0_copyOnce_16 ?_
    refine gf_X0_30 (pc := 17) rfl (by assumption) dX0_copyOnce_17 (fun i_17 => ?_)
    rw [d0] at i_17 ⊢
    refine r_aload_0 (pc := 20) dX0_copyOnce_20 ?_
    refine gf_X0_15 (pc := 21) rfl (by assumption) dX0_copyOnce_21 (by assumption) ?_
    refine r_iload_2 (pc := 24) dX0_copyOnce_24 ?_
    refine r_ialdE (pc := 25) (by assumption) (by first | assumption | exact rfl) dX0_copyOnce_25 (by omega) (by omega) (fun i_25 => ?_)
    rw [d2 _ G0.1 G0.2] at i_25 ⊢
    refine r_iconst (pc := 26) dX0_copyOnce_26 ?_
    refine r_ixor (pc := 27) dX0_copyOnce_27 (fun i_27 => ?_)
    refine r_iand (pc := 28) dX0_copyOnce_28 (fun i_28 => ?_)
    refine k_SI3 (pc := 29) c_X0_firstCopyIn lk_X0_58 ⟨Nat.le_of_ble_eq_true rfl, Nat.le_of_ble_eq_true rfl⟩ ⟨rfl, rfl⟩ ⟨Nat.le_of_ble_eq_true rfl, Nat.le_of_ble_eq_true rfl⟩ dX0_copyOnce_29 (Nat.le_of_ble_eq_true rfl) ?_
    refine ⟨_, _, _, _, _, rfl, by assumption, by assumption, by assumption, by assumption, by assumption, by omega, by assumption, ?_⟩
    rw [fc]
    refine r_istore_3 (pc := 32) dX0_copyOnce_32 rfl ?_
    refine r_iload_3 (pc := 33) dX0_copyOnce_33 ?_
    refine r_bipush (pc := 34) dX0_copyOnce_34 (by decide) ?_
    refine r_icmp_ne (pc := 36) (tgt := 41) dX0_copyOnce_36 (by decide) (by omega) (by omega) (fun c_36 => ?_) (fun c_36 => ?_)
    · refine r_aload_0 (pc := 41) dX0_copyOnce_41 ?_
      refine gf_X0_15 (pc := 42) rfl (by assumption) dX0_copyOnce_42 (by assumption) ?_
      refine r_iload_2 (pc := 45) dX0_copyOnce_45 ?_
      refine r_dup2 (pc := 46) dX0_copyOnce_46 ?_
      refine r_ialdE (pc := 47) (by assumption) (by first | assumption | exact rfl) dX0_copyOnce_47 (by omega) (by omega) (fun i_47 => ?_)
      rw [d2 _ G0.1 G0.2] at i_47 ⊢
      refine r_iload_3 (pc := 48) dX0_copyOnce_48 ?_
      refine k_SNI1 (pc := 49) c_X7_bitOf lk_X0_43 ⟨Nat.le_of_ble_eq_true rfl, Nat.le_of_ble_eq_true rfl⟩ ⟨rfl, rfl⟩ ⟨Nat.le_of_ble_eq_true rfl, Nat.le_of_ble_eq_true rfl⟩ dX0_copyOnce_49 (Nat.le_of_ble_eq_true rfl) ?_
      refine ⟨_, rfl, fun i_49 => ?_⟩
      refine r_ior (pc := 52) dX0_copyOnce_52 (fun i_52 => ?_)
      refine r_iastE (pc := 53) (by assumption) (by first | assumption | exact rfl) dX0_copyOnce_53 (by omega) (by omega) (by omega) ?_
      refine r_iconst (pc := 54) dX0_copyOnce_54 ?_
      refine r_zret (pc := 55) hret dX0_copyOnce_55 rfl rfl rfl (by first | exact Or.inl rfl | exact Or.inr rfl | exact bI_01 | omega) ?_
      first
      | (have k9 : prs F ux ho sz 16 = -4 := c_9
         exact hQ0 (by omega))
      | omega
      | (refine hQ1 (by omega) _ (fun q q0 q1 => ?_)
         unfold cpy
         rw [if_neg (by omega)]
         by_cases e : q = prs F ux ho sz 16
         · rw [e, up_s, up_s]
         · rw [up_n e, up_n e]; exact d2 q q0 q1)
    · refine r_iconst (pc := 39) dX0_copyOnce_39 ?_
      refine r_zret (pc := 40) hret dX0_copyOnce_40 rfl rfl rfl (by first | exact Or.inl rfl | exact Or.inr rfl | exact bI_01 | omega) ?_
      first
      | (have k9 : prs F ux ho sz 16 = -4 := c_9
         exact hQ0 (by omega))
      | omega
      | (refine hQ1 (by omega) _ (fun q q0 q1 => ?_)
         unfold cpy
         rw [if_neg (by omega)]
         by_cases e : q = prs F ux ho sz 16
         · rw [e, up_s, up_s]
         · rw [up_n e, up_n e]; exact d2 q q0 q1)
  · refine r_iconst (pc := 12) dX0_copyOnce_12 ?_
    refine r_zret (pc := 13) hret dX0_copyOnce_13 rfl rfl rfl (by first | exact Or.inl rfl | exact Or.inr rfl | exact bI_01 | omega) ?_
    first
    | (have k9 : prs F ux ho sz 16 = -4 := c_9
       exact hQ0 (by omega))
    | omega
    | (refine hQ1 (by omega) _ (fun q q0 q1 => ?_)
       unfold cpy
       rw [if_neg (by omega)]
       by_cases e : q = prs F ux ho sz 16
       · rw [e, up_s, up_s]
       · rw [up_n e, up_n e]; exact d2 q q0 q1)

theorem dX0_dropSpare_0 : decode cX0_dropSpare 0 = .ok (.iconst 0, 1) := by decide +kernel
theorem dX0_dropSpare_1 : decode cX0_dropSpare 1 = .ok (.istore_n 2, 1) := by decide +kernel
theorem dX0_dropSpare_2 : decode cX0_dropSpare 2 = .ok (.iload_n 2, 1) := by decide +kernel
theorem dX0_dropSpare_3 : decode cX0_dropSpare 3 = .ok (.bipush 16, 2) := by decide +kernel
theorem dX0_dropSpare_5 : decode cX0_dropSpare 5 = .ok (.if_icmp .ge 45, 3) := by decide +kernel
theorem dX0_dropSpare_8 : decode cX0_dropSpare 8 = .ok (.aload_n 1, 1) := by decide +kernel
theorem dX0_dropSpare_9 : decode cX0_dropSpare 9 = .ok (.getfield 34, 3) := by decide +kernel
theorem dX0_dropSpare_12 : decode cX0_dropSpare 12 = .ok (.iload_n 2, 1) := by decide +kernel
theorem dX0_dropSpare_13 : decode cX0_dropSpare 13 = .ok (.iaload, 1) := by decide +kernel
theorem dX0_dropSpare_14 : decode cX0_dropSpare 14 = .ok (.istore_n 3, 1) := by decide +kernel
theorem dX0_dropSpare_15 : decode cX0_dropSpare 15 = .ok (.iload_n 3, 1) := by decide +kernel
theorem dX0_dropSpare_16 : decode cX0_dropSpare 16 = .ok (.aload_n 0, 1) := by decide +kernel
theorem dX0_dropSpare_17 : decode cX0_dropSpare 17 = .ok (.getfield 15, 3) := by decide +kernel
theorem dX0_dropSpare_20 : decode cX0_dropSpare 20 = .ok (.iload_n 2, 1) := by decide +kernel
theorem dX0_dropSpare_21 : decode cX0_dropSpare 21 = .ok (.iaload, 1) := by decide +kernel
theorem dX0_dropSpare_22 : decode cX0_dropSpare 22 = .ok (.iconst (-1), 1) := by decide +kernel
theorem dX0_dropSpare_23 : decode cX0_dropSpare 23 = .ok (.ixor, 1) := by decide +kernel
theorem dX0_dropSpare_24 : decode cX0_dropSpare 24 = .ok (.iand, 1) := by decide +kernel
theorem dX0_dropSpare_25 : decode cX0_dropSpare 25 = .ok (.ifCond .ne 19, 3) := by decide +kernel
theorem dX0_dropSpare_28 : decode cX0_dropSpare 28 = .ok (.iload_n 3, 1) := by decide +kernel
theorem dX0_dropSpare_29 : decode cX0_dropSpare 29 = .ok (.aload_n 0, 1) := by decide +kernel
theorem dX0_dropSpare_30 : decode cX0_dropSpare 30 = .ok (.getfield 30, 3) := by decide +kernel
theorem dX0_dropSpare_33 : decode cX0_dropSpare 33 = .ok (.iand, 1) := by decide +kernel
theorem dX0_dropSpare_34 : decode cX0_dropSpare 34 = .ok (.ifCond .eq 10, 3) := by decide +kernel
theorem dX0_dropSpare_37 : decode cX0_dropSpare 37 = .ok (.aload_n 0, 1) := by decide +kernel
theorem dX0_dropSpare_38 : decode cX0_dropSpare 38 = .ok (.getfield 15, 3) := by decide +kernel
theorem dX0_dropSpare_41 : decode cX0_dropSpare 41 = .ok (.iload_n 2, 1) := by decide +kernel
theorem dX0_dropSpare_42 : decode cX0_dropSpare 42 = .ok (.iload_n 3, 1) := by decide +kernel
theorem dX0_dropSpare_43 : decode cX0_dropSpare 43 = .ok (.iastore, 1) := by decide +kernel
theorem dX0_dropSpare_44 : decode cX0_dropSpare 44 = .ok (.iinc 2 1, 3) := by decide +kernel
theorem dX0_dropSpare_47 : decode cX0_dropSpare 47 = .ok (.goto (-45), 3) := by decide +kernel
theorem dX0_dropSpare_50 : decode cX0_dropSpare 50 = .ok (.return_, 1) := by decide +kernel
set_option maxHeartbeats 4000000 in
set_option maxRecDepth 20000 in
theorem c_X0_dropSpare : ConV mX0_dropSpare (fun args N lay r h Q => ∃ (a : Nat) (ux : Int) (sz ho : Int → Int) (p n : Nat) (F : Int → Int), args = [.ref a, .ref p] ∧ DaAt lay r a ∧ DaS h a ux sz ho ∧ MkI ux ho ∧ lay p = (4, n) ∧ lay (p + 11) = (10, 64) ∧ lay (p + 13) = (10, 16) ∧ r p 9 = some (p + 11) ∧ r p 11 = some (p + 13) ∧ FdI F ∧ (∀ j, 0 ≤ j → j < 64 → h (p + 11) j = F j) ∧ (∀ g, 0 ≤ g → g < 16 → h (p + 13) g = pb F g) ∧ (a + 3 ≤ p ∨ p + 14 ≤ a) ∧ ∀ f, (∀ q, 0 ≤ q → q < 16 → f q = drp F ux ho 16 q) → Q N lay r (hr h (a + 2) f)) := by
  refine ConV.of (by decide) (by rintro _ N lay r h Q ⟨a, ux, sz, ho, p, n, F, rfl, hD, hV, hM, pl0, pl11, pl13, pr9, pr11, hF, hp1, hp2, hap, hQ⟩; exact ⟨rfl, Nat.le_of_ble_eq_true rfl⟩) ?_
  rintro E _ N lay r h Q ⟨a, ux, sz, ho, p, n, F, rfl, hD, hV, hM, pl0, pl11, pl13, pr9, pr11, hF, hp1, hp2, hap, hQ⟩ hret
  obtain ⟨dl0, dl1, dl2, dr1, dr2⟩ := id hD
  obtain ⟨d0, d1, d2⟩ := id hV
  show St E mX0_dropSpare 0 [some (.ref a), some (.ref p), none, none] [] (0, 0) N lay r h
  have lp : ∀ (n_ : Nat) (g : Int) (f : Int → Int) (x3 : Option Value), (16 - g).toNat = n_ → (0 ≤ g ∧ g ≤ 16) → (∀ q, 0 ≤ q → q < 16 → f q = drp F ux ho g q) → St E mX0_dropSpare 2 [some (.ref a), some (.ref p), some (vI g), x3] [] (0, 0) N lay r (hr h (a + 2) f) := by
    intro  n_
    induction n_ using Nat.strongRecOn with
    | ind n_ ih =>
      intro g f x3 hn_ hg hf
      have ea : hr h (a + 2) f a 0 = ux := by rw [hr_n (by omega)]; exact d0
      have hpd : hr h (a + 2) f (p + 13) = h (p + 13) := hr_n (by omega)
      refine r_iload_2 (pc := 2) dX0_dropSpare_2 ?_
      refine r_bipush (pc := 3) dX0_dropSpare_3 (by decide) ?_
      refine r_icmp_ge (pc := 5) (tgt := 50) dX0_dropSpare_5 (by decide) (by omega) (by omega) (fun c_5 => ?_) (fun c_5 => ?_)
      · refine r_ret (pc := 50) hret dX0_dropSpare_50 rfl rfl rfl ?_
        have k9 : g = 16 := by omega
        subst k9
        exact hQ f hf
      · have fg : f g = ho g := by rw [hf g (by omega) (by omega)]; exact if_neg (fun z => by omega)
        refine r_aload_1 (pc := 8) dX0_dropSpare_8 ?_
        refine gf_X0_34 (pc := 9) rfl (by assumption) dX0_dropSpare_9 (by assumption) ?_
        refine r_iload_2 (pc := 12) dX0_dropSpare_12 ?_
        refine r_ialdE (pc := 13) (by assumption) (by first | exact hr_s | exact hr_n (by omega) | assumption | exact rfl) dX0_dropSpare_13 (by omega) (by omega) (fun i_13 => ?_)
        rw [hp2 g (by omega) (by omega)] at i_13 ⊢
        refine r_istore_3 (pc := 14) dX0_dropSpare_14 rfl ?_
        refine r_iload_3 (pc := 15) dX0_dropSpare_15 ?_
        refine r_aload_0 (pc := 16) dX0_dropSpare_16 ?_
        refine gf_X0_15 (pc := 17) rfl (by assumption) dX0_dropSpare_17 (by assumption) ?_
        refine r_iload_2 (pc := 20) dX0_dropSpare_20 ?_
        refine r_ialdE (pc := 21) (by assumption) (by first | exact hr_s | exact hr_n (by omega) | assumption | exact rfl) dX0_dropSpare_21 (by omega) (by omega) (fun i_21 => ?_)
        rw [fg] at i_21 ⊢
        refine r_iconst (pc := 22) dX0_dropSpare_22 ?_
        refine r_ixor (pc := 23) dX0_dropSpare_23 (fun i_23 => ?_)
        refine r_iand (pc := 24) dX0_dropSpare_24 (fun i_24 => ?_)
        refine r_if_ne (pc := 25) (tgt := 44) dX0_dropSpare_25 (by decide) (by omega) (fun c_25 => ?_) (fun c_25 => ?_)
        · refine r_iinc_2 (pc := 44) dX0_dropSpare_44 rfl ?_
          refine r_goto (pc := 47) (tgt := 2) dX0_dropSpare_47 (by decide) ?_
          first
          | (have k9 : ¬ iA (pb F g) (iX (ho g) (-1)) = 0 := c_25
             refine ih _ (by omega) (g + 1) f _ rfl (by omega) (fun q q0 q1 => ?_)
             rw [hf q q0 q1]
             unfold drp
             by_cases e : q = g
             · rw [if_neg (fun z => by omega), if_neg (fun z => by rw [e] at z; exact k9 z.2.2.1)]
             · by_cases e2 : 0 ≤ q ∧ q < g ∧ iA (pb F q) (iX (ho q) (-1)) = 0 ∧ iA (pb F q) ux ≠ 0
               · rw [if_pos e2, if_pos ⟨e2.1, by omega, e2.2.2⟩]
               · rw [if_neg e2, if_neg (fun z => e2 ⟨z.1, by omega, z.2.2⟩)])
          | (have k9 : iA (pb F g) ux = 0 := c_34
             refine ih _ (by omega) (g + 1) f _ rfl (by omega) (fun q q0 q1 => ?_)
             rw [hf q q0 q1]
             unfold drp
             by_cases e : q = g
             · rw [if_neg (fun z => by omega), if_neg (fun z => by rw [e] at z; exact z.2.2.2 k9)]
             · by_cases e2 : 0 ≤ q ∧ q < g ∧ iA (pb F q) (iX (ho q) (-1)) = 0 ∧ iA (pb F q) ux ≠ 0
               · rw [if_pos e2, if_pos ⟨e2.1, by omega, e2.2.2⟩]
               · rw [if_neg e2, if_neg (fun z => e2 ⟨z.1, by omega, z.2.2⟩)])
          | (have k9 : ¬ iA (pb F g) ux = 0 := c_34
             rw [hr_hr]
             refine ih _ (by omega) (g + 1) _ _ rfl (by omega) (fun q q0 q1 => ?_)
             by_cases e : q = g
             · rw [e, up_s]
               unfold drp
               rw [if_pos ⟨by omega, by omega, c_25, k9⟩]
             · rw [up_n e, hf q q0 q1]
               unfold drp
               by_cases e2 : 0 ≤ q ∧ q < g ∧ iA (pb F q) (iX (ho q) (-1)) = 0 ∧ iA (pb F q) ux ≠ 0
               · rw [if_pos e2, if_pos ⟨e2.1, by omega, e2.2.2⟩]
               · rw [if_neg e2, if_neg (fun z => e2 ⟨z.1, by omega, z.2.2⟩)])
        · refine r_iload_3 (pc := 28) dX0_dropSpare_28 ?_
          refine r_aload_0 (pc := 29) dX0_dropSpare_29 ?_
          refine gf_X0_30 (pc := 30) rfl (by assumption) dX0_dropSpare_30 (fun i_30 => ?_)
          rw [ea] at i_30 ⊢
          refine r_iand (pc := 33) dX0_dropSpare_33 (fun i_33 => ?_)
          refine r_if_eq (pc := 34) (tgt := 44) dX0_dropSpare_34 (by decide) (by omega) (fun c_34 => ?_) (fun c_34 => ?_)
          · refine r_iinc_2 (pc := 44) dX0_dropSpare_44 rfl ?_
            refine r_goto (pc := 47) (tgt := 2) dX0_dropSpare_47 (by decide) ?_
            first
            | (have k9 : ¬ iA (pb F g) (iX (ho g) (-1)) = 0 := c_25
               refine ih _ (by omega) (g + 1) f _ rfl (by omega) (fun q q0 q1 => ?_)
               rw [hf q q0 q1]
               unfold drp
               by_cases e : q = g
               · rw [if_neg (fun z => by omega), if_neg (fun z => by rw [e] at z; exact k9 z.2.2.1)]
               · by_cases e2 : 0 ≤ q ∧ q < g ∧ iA (pb F q) (iX (ho q) (-1)) = 0 ∧ iA (pb F q) ux ≠ 0
                 · rw [if_pos e2, if_pos ⟨e2.1, by omega, e2.2.2⟩]
                 · rw [if_neg e2, if_neg (fun z => e2 ⟨z.1, by omega, z.2.2⟩)])
            | (have k9 : iA (pb F g) ux = 0 := c_34
               refine ih _ (by omega) (g + 1) f _ rfl (by omega) (fun q q0 q1 => ?_)
               rw [hf q q0 q1]
               unfold drp
               by_cases e : q = g
               · rw [if_neg (fun z => by omega), if_neg (fun z => by rw [e] at z; exact z.2.2.2 k9)]
               · by_cases e2 : 0 ≤ q ∧ q < g ∧ iA (pb F q) (iX (ho q) (-1)) = 0 ∧ iA (pb F q) ux ≠ 0
                 · rw [if_pos e2, if_pos ⟨e2.1, by omega, e2.2.2⟩]
                 · rw [if_neg e2, if_neg (fun z => e2 ⟨z.1, by omega, z.2.2⟩)])
            | (have k9 : ¬ iA (pb F g) ux = 0 := c_34
               rw [hr_hr]
               refine ih _ (by omega) (g + 1) _ _ rfl (by omega) (fun q q0 q1 => ?_)
               by_cases e : q = g
               · rw [e, up_s]
                 unfold drp
                 rw [if_pos ⟨by omega, by omega, c_25, k9⟩]
               · rw [up_n e, hf q q0 q1]
                 unfold drp
                 by_cases e2 : 0 ≤ q ∧ q < g ∧ iA (pb F q) (iX (ho q) (-1)) = 0 ∧ iA (pb F q) ux ≠ 0
                 · rw [if_pos e2, if_pos ⟨e2.1, by omega, e2.2.2⟩]
                 · rw [if_neg e2, if_neg (fun z => e2 ⟨z.1, by omega, z.2.2⟩)])
          · refine r_aload_0 (pc := 37) dX0_dropSpare_37 ?_
            refine gf_X0_15 (pc := 38) rfl (by assumption) dX0_dropSpare_38 (by assumption) ?_
            refine r_iload_2 (pc := 41) dX0_dropSpare_41 ?_
            refine r_iload_3 (pc := 42) dX0_dropSpare_42 ?_
            refine r_iastE (pc := 43) (by assumption) (by first | exact hr_s | exact hr_n (by omega) | assumption | exact rfl) dX0_dropSpare_43 (by omega) (by omega) (by omega) ?_
            refine r_iinc_2 (pc := 44) dX0_dropSpare_44 rfl ?_
            refine r_goto (pc := 47) (tgt := 2) dX0_dropSpare_47 (by decide) ?_
            first
            | (have k9 : ¬ iA (pb F g) (iX (ho g) (-1)) = 0 := c_25
               refine ih _ (by omega) (g + 1) f _ rfl (by omega) (fun q q0 q1 => ?_)
               rw [hf q q0 q1]
               unfold drp
               by_cases e : q = g
               · rw [if_neg (fun z => by omega), if_neg (fun z => by rw [e] at z; exact k9 z.2.2.1)]
               · by_cases e2 : 0 ≤ q ∧ q < g ∧ iA (pb F q) (iX (ho q) (-1)) = 0 ∧ iA (pb F q) ux ≠ 0
                 · rw [if_pos e2, if_pos ⟨e2.1, by omega, e2.2.2⟩]
                 · rw [if_neg e2, if_neg (fun z => e2 ⟨z.1, by omega, z.2.2⟩)])
            | (have k9 : iA (pb F g) ux = 0 := c_34
               refine ih _ (by omega) (g + 1) f _ rfl (by omega) (fun q q0 q1 => ?_)
               rw [hf q q0 q1]
               unfold drp
               by_cases e : q = g
               · rw [if_neg (fun z => by omega), if_neg (fun z => by rw [e] at z; exact z.2.2.2 k9)]
               · by_cases e2 : 0 ≤ q ∧ q < g ∧ iA (pb F q) (iX (ho q) (-1)) = 0 ∧ iA (pb F q) ux ≠ 0
                 · rw [if_pos e2, if_pos ⟨e2.1, by omega, e2.2.2⟩]
                 · rw [if_neg e2, if_neg (fun z => e2 ⟨z.1, by omega, z.2.2⟩)])
            | (have k9 : ¬ iA (pb F g) ux = 0 := c_34
               rw [hr_hr]
               refine ih _ (by omega) (g + 1) _ _ rfl (by omega) (fun q q0 q1 => ?_)
               by_cases e : q = g
               · rw [e, up_s]
                 unfold drp
                 rw [if_pos ⟨by omega, by omega, c_25, k9⟩]
               · rw [up_n e, hf q q0 q1]
                 unfold drp
                 by_cases e2 : 0 ≤ q ∧ q < g ∧ iA (pb F q) (iX (ho q) (-1)) = 0 ∧ iA (pb F q) ux ≠ 0
                 · rw [if_pos e2, if_pos ⟨e2.1, by omega, e2.2.2⟩]
                 · rw [if_neg e2, if_neg (fun z => e2 ⟨z.1, by omega, z.2.2⟩)])
  refine r_iconst (pc := 0) dX0_dropSpare_0 ?_
  refine r_istore_2 (pc := 1) dX0_dropSpare_1 rfl ?_
  have e0 := lp _ 0 (h (a + 2)) none rfl (by omega) (fun q q0 q1 => by rw [d2 q q0 q1]; exact (if_neg (fun z => by omega)).symm)
  rw [hr_id] at e0
  exact e0

theorem tkk_c {F : Int → Int} {ux : Int} {sz ho : Int → Int} : ∀ k : Nat, 0 ≤ (tkk F ux sz ho k).2 ∧ (tkk F ux sz ho k).2 ≤ k
  | 0 => ⟨Int.le_refl 0, Int.le_refl 0⟩
  | k + 1 => by
    have ih := tkk_c (F := F) (ux := ux) (sz := sz) (ho := ho) k
    show 0 ≤ (if prs F ux (tkk F ux sz ho k).1 sz 16 < 0 then tkk F ux sz ho k else (cpy F ux (tkk F ux sz ho k).1 (prs F ux (tkk F ux sz ho k).1 sz 16), (tkk F ux sz ho k).2 + 1)).2 ∧ _
    show _ ∧ (if prs F ux (tkk F ux sz ho k).1 sz 16 < 0 then tkk F ux sz ho k else (cpy F ux (tkk F ux sz ho k).1 (prs F ux (tkk F ux sz ho k).1 sz 16), (tkk F ux sz ho k).2 + 1)).2 ≤ _
    split
    · omega
    · dsimp only; omega
theorem dX0_makeTick_0 : decode cX0_makeTick 0 = .ok (.iconst 0, 1) := by decide +kernel
theorem dX0_makeTick_1 : decode cX0_makeTick 1 = .ok (.istore_n 3, 1) := by decide +kernel
theorem dX0_makeTick_2 : decode cX0_makeTick 2 = .ok (.iconst 1, 1) := by decide +kernel
theorem dX0_makeTick_3 : decode cX0_makeTick 3 = .ok (.istore 4, 2) := by decide +kernel
theorem dX0_makeTick_5 : decode cX0_makeTick 5 = .ok (.iconst 0, 1) := by decide +kernel
theorem dX0_makeTick_6 : decode cX0_makeTick 6 = .ok (.istore 5, 2) := by decide +kernel
theorem dX0_makeTick_8 : decode cX0_makeTick 8 = .ok (.iload 5, 2) := by decide +kernel
theorem dX0_makeTick_10 : decode cX0_makeTick 10 = .ok (.iload_n 2, 1) := by decide +kernel
theorem dX0_makeTick_11 : decode cX0_makeTick 11 = .ok (.if_icmp .ge 34, 3) := by decide +kernel
theorem dX0_makeTick_14 : decode cX0_makeTick 14 = .ok (.iload 4, 2) := by decide +kernel
theorem dX0_makeTick_16 : decode cX0_makeTick 16 = .ok (.ifCond .eq 29, 3) := by decide +kernel
theorem dX0_makeTick_19 : decode cX0_makeTick 19 = .ok (.aload_n 0, 1) := by decide +kernel
theorem dX0_makeTick_20 : decode cX0_makeTick 20 = .ok (.aload_n 1, 1) := by decide +kernel
theorem dX0_makeTick_21 : decode cX0_makeTick 21 = .ok (.invokevirtual 66, 3) := by decide +kernel
theorem dX0_makeTick_24 : decode cX0_makeTick 24 = .ok (.istore 4, 2) := by decide +kernel
theorem dX0_makeTick_26 : decode cX0_makeTick 26 = .ok (.iload_n 3, 1) := by decide +kernel
theorem dX0_makeTick_27 : decode cX0_makeTick 27 = .ok (.iload 4, 2) := by decide +kernel
theorem dX0_makeTick_29 : decode cX0_makeTick 29 = .ok (.ifCond .eq 7, 3) := by decide +kernel
theorem dX0_makeTick_32 : decode cX0_makeTick 32 = .ok (.iconst 1, 1) := by decide +kernel
theorem dX0_makeTick_33 : decode cX0_makeTick 33 = .ok (.goto 4, 3) := by decide +kernel
theorem dX0_makeTick_36 : decode cX0_makeTick 36 = .ok (.iconst 0, 1) := by decide +kernel
theorem dX0_makeTick_37 : decode cX0_makeTick 37 = .ok (.iadd, 1) := by decide +kernel
theorem dX0_makeTick_38 : decode cX0_makeTick 38 = .ok (.istore_n 3, 1) := by decide +kernel
theorem dX0_makeTick_39 : decode cX0_makeTick 39 = .ok (.iinc 5 1, 3) := by decide +kernel
theorem dX0_makeTick_42 : decode cX0_makeTick 42 = .ok (.goto (-34), 3) := by decide +kernel
theorem dX0_makeTick_45 : decode cX0_makeTick 45 = .ok (.aload_n 0, 1) := by decide +kernel
theorem dX0_makeTick_46 : decode cX0_makeTick 46 = .ok (.aload_n 1, 1) := by decide +kernel
theorem dX0_makeTick_47 : decode cX0_makeTick 47 = .ok (.invokevirtual 70, 3) := by decide +kernel
theorem dX0_makeTick_50 : decode cX0_makeTick 50 = .ok (.iload_n 3, 1) := by decide +kernel
theorem dX0_makeTick_51 : decode cX0_makeTick 51 = .ok (.ireturn, 1) := by decide +kernel
set_option maxHeartbeats 4000000 in
set_option maxRecDepth 20000 in
theorem c_X0_makeTick : ConI mX0_makeTick (fun args N lay r h Q => ∃ (a : Nat) (ux : Int) (sz ho : Int → Int) (p n : Nat) (F : Int → Int) (m : Int), args = [.ref a, .ref p, vI m] ∧ DaAt lay r a ∧ DaS h a ux sz ho ∧ MkI ux ho ∧ lay p = (4, n) ∧ lay (p + 11) = (10, 64) ∧ lay (p + 13) = (10, 16) ∧ r p 9 = some (p + 11) ∧ r p 11 = some (p + 13) ∧ FdI F ∧ (∀ j, 0 ≤ j → j < 64 → h (p + 11) j = F j) ∧ (∀ g, 0 ≤ g → g < 16 → h (p + 13) g = pb F g) ∧ (a + 3 ≤ p ∨ p + 14 ≤ a) ∧ (∀ g, 0 ≤ g → g < 16 → 0 ≤ sz g ∧ sz g ≤ 9999) ∧ (0 ≤ m ∧ m ≤ 8) ∧ ∀ f, (∀ q, 0 ≤ q → q < 16 → f q = (tix F ux sz ho m.toNat).1 q) → Q (tix F ux sz ho m.toNat).2 N lay r (hr h (a + 2) f)) := by
  refine ConI.of (by decide) (by rintro _ N lay r h Q ⟨a, ux, sz, ho, p, n, F, m, rfl, hD, hV, hM, pl0, pl11, pl13, pr9, pr11, hF, hp1, hp2, hap, hsz, hm, hQ⟩; exact ⟨rfl, Nat.le_of_ble_eq_true rfl⟩) ?_
  rintro E _ N lay r h Q ⟨a, ux, sz, ho, p, n, F, m, rfl, hD, hV, hM, pl0, pl11, pl13, pr9, pr11, hF, hp1, hp2, hap, hsz, hm, hQ⟩ hret
  obtain ⟨dl0, dl1, dl2, dr1, dr2⟩ := id hD
  obtain ⟨d0, d1, d2⟩ := id hV
  show St E mX0_makeTick 0 [some (.ref a), some (.ref p), some (vI m), none, none, none] [] (0, 0) N lay r h
  have lp : ∀ (n_ : Nat) (i : Int) (ma : Int) (mo : Int) (f : Int → Int), (8 - i).toNat = n_ → (0 ≤ i ∧ i ≤ m) → (ma = (tkk F ux sz ho i.toNat).2) → (mo = 0 ∨ mo = 1) → (mo = 0 → prs F ux (tkk F ux sz ho i.toNat).1 sz 16 < 0) → (∀ q, 0 ≤ q → q < 16 → f q = (tkk F ux sz ho i.toNat).1 q) → St E mX0_makeTick 8 [some (.ref a), some (.ref p), some (vI m), some (vI ma), some (vI mo), some (vI i)] [] (0, 0) N lay r (hr h (a + 2) f) := by
    intro  n_
    induction n_ using Nat.strongRecOn with
    | ind n_ ih =>
      intro i ma mo f hn_ hi hma hm01 hmo hf
      obtain ⟨k, rfl⟩ : ∃ k : Nat, i = k := ⟨i.toNat, by omega⟩
      simp only [show ((k : Int)).toNat = k by omega] at hma hf hmo
      have DSk : DaS (hr h (a + 2) f) a ux sz (tkk F ux sz ho k).1 := ⟨by rw [hr_n (by omega)]; exact d0, fun g g0 g1 => by rw [hr_n (by omega)]; exact d1 g g0 g1, fun g g0 g1 => by rw [hr_s]; exact hf g g0 g1⟩
      have MKk := tkk_M (sz := sz) hF hM k
      have P1k : ∀ j, 0 ≤ j → j < 64 → hr h (a + 2) f (p + 11) j = F j := fun j j0 j1 => by rw [hr_n (by omega)]; exact hp1 j j0 j1
      have P2k : ∀ g, 0 ≤ g → g < 16 → hr h (a + 2) f (p + 13) g = pb F g := fun j j0 j1 => by rw [hr_n (by omega)]; exact hp2 j j0 j1
      have tr : 0 ≤ (tkk F ux sz ho k).2 ∧ (tkk F ux sz ho k).2 ≤ k := tkk_c k
      refine r_iload_5 (pc := 8) dX0_makeTick_8 ?_
      refine r_iload_2 (pc := 10) dX0_makeTick_10 ?_
      refine r_icmp_ge (pc := 11) (tgt := 45) dX0_makeTick_11 (by decide) (by omega) (by omega) (fun c_11 => ?_) (fun c_11 => ?_)
      · refine r_aload_0 (pc := 45) dX0_makeTick_45 ?_
        refine r_aload_1 (pc := 46) dX0_makeTick_46 ?_
        refine k_VV1 (pc := 47) c_X0_dropSpare lk_X0_70 ⟨Nat.le_of_ble_eq_true rfl, Nat.le_of_ble_eq_true rfl⟩ ⟨rfl, rfl⟩ ⟨Nat.le_of_ble_eq_true rfl, Nat.le_of_ble_eq_true rfl⟩ (k := 0) rfl (by decide) (by assumption) dX0_makeTick_47 (Nat.le_of_ble_eq_true rfl) ?_
        refine ⟨_, _, _, _, _, _, _, rfl, hD, DSk, MKk, pl0, pl11, pl13, pr9, pr11, hF, P1k, P2k, hap, fun f_47 a_47 => ?_⟩
        rw [hr_hr]
        refine r_iload_3 (pc := 50) dX0_makeTick_50 ?_
        refine r_iret (pc := 51) hret dX0_makeTick_51 rfl rfl rfl ?_
        have e9 : tkk F ux sz ho m.toNat = tkk F ux sz ho k := by
          first
          | (have k9 : m = k := by omega
             rw [k9, show ((k : Int)).toNat = k by omega])
          | (have k9 := tkk_st F ux sz ho k (hmo (by omega)) (m.toNat - k)
             rw [show k + (m.toNat - k) = m.toNat by omega] at k9
             exact k9)
        unfold tix at hQ
        rw [e9] at hQ
        rw [hma]
        exact hQ _ a_47
      · refine r_iload_4 (pc := 14) dX0_makeTick_14 ?_
        refine r_if_eq (pc := 16) (tgt := 45) dX0_makeTick_16 (by decide) (by omega) (fun c_16 => ?_) (fun c_16 => ?_)
        · refine r_aload_0 (pc := 45) dX0_makeTick_45 ?_
          refine r_aload_1 (pc := 46) dX0_makeTick_46 ?_
          refine k_VV1 (pc := 47) c_X0_dropSpare lk_X0_70 ⟨Nat.le_of_ble_eq_true rfl, Nat.le_of_ble_eq_true rfl⟩ ⟨rfl, rfl⟩ ⟨Nat.le_of_ble_eq_true rfl, Nat.le_of_ble_eq_true rfl⟩ (k := 0) rfl (by decide) (by assumption) dX0_makeTick_47 (Nat.le_of_ble_eq_true rfl) ?_
          refine ⟨_, _, _, _, _, _, _, rfl, hD, DSk, MKk, pl0, pl11, pl13, pr9, pr11, hF, P1k, P2k, hap, fun f_47 a_47 => ?_⟩
          rw [hr_hr]
          refine r_iload_3 (pc := 50) dX0_makeTick_50 ?_
          refine r_iret (pc := 51) hret dX0_makeTick_51 rfl rfl rfl ?_
          have e9 : tkk F ux sz ho m.toNat = tkk F ux sz ho k := by
            first
            | (have k9 : m = k := by omega
               rw [k9, show ((k : Int)).toNat = k by omega])
            | (have k9 := tkk_st F ux sz ho k (hmo (by omega)) (m.toNat - k)
               rw [show k + (m.toNat - k) = m.toNat by omega] at k9
               exact k9)
          unfold tix at hQ
          rw [e9] at hQ
          rw [hma]
          exact hQ _ a_47
        · refine r_aload_0 (pc := 19) dX0_makeTick_19 ?_
          refine r_aload_1 (pc := 20) dX0_makeTick_20 ?_
          refine k_VI1 (pc := 21) c_X0_copyOnce lk_X0_66 ⟨Nat.le_of_ble_eq_true rfl, Nat.le_of_ble_eq_true rfl⟩ ⟨rfl, rfl⟩ ⟨Nat.le_of_ble_eq_true rfl, Nat.le_of_ble_eq_true rfl⟩ (k := 0) rfl (by decide) (by assumption) dX0_makeTick_21 (Nat.le_of_ble_eq_true rfl) ?_
          refine ⟨_, _, _, _, _, _, _, rfl, hD, DSk, MKk, pl0, pl11, pl13, pr9, pr11, hF, P1k, P2k, hsz, fun g_21 => ?_, fun g_21 f_21 a_21 => ?_⟩
          · refine r_istore_4 (pc := 24) dX0_makeTick_24 rfl ?_
            refine r_iload_3 (pc := 26) dX0_makeTick_26 ?_
            refine r_iload_4 (pc := 27) dX0_makeTick_27 ?_
            refine r_ifeq_T (pc := 29) (tgt := 36) dX0_makeTick_29 (by decide) (by decide) ?_
            refine r_iconst (pc := 36) dX0_makeTick_36 ?_
            refine r_iadd (pc := 37) dX0_makeTick_37 ?_
            refine r_istore_3 (pc := 38) dX0_makeTick_38 rfl ?_
            refine r_iinc_5 (pc := 39) dX0_makeTick_39 rfl ?_
            refine r_goto (pc := 42) (tgt := 8) dX0_makeTick_42 (by decide) ?_
            have e9 : tkk F ux sz ho (k + 1) = tkk F ux sz ho k := tkk_st F ux sz ho k g_21 1
            refine ih _ (by omega) ((k : Int) + 1) _ 0 f rfl (by omega) ?_ (Or.inl rfl) (fun _ => ?_) (fun q q0 q1 => ?_)
            · rw [show ((k : Int) + 1).toNat = k + 1 by omega, e9, hma]; omega
            · rw [show ((k : Int) + 1).toNat = k + 1 by omega, e9]; exact g_21
            · rw [show ((k : Int) + 1).toNat = k + 1 by omega, e9]; exact hf q q0 q1
          · rw [hr_hr]
            refine r_istore_4 (pc := 24) dX0_makeTick_24 rfl ?_
            refine r_iload_3 (pc := 26) dX0_makeTick_26 ?_
            refine r_iload_4 (pc := 27) dX0_makeTick_27 ?_
            refine r_ifeq_F (pc := 29) (tgt := 36) dX0_makeTick_29 (by decide) (by decide) ?_
            refine r_iconst (pc := 32) dX0_makeTick_32 ?_
            refine r_goto (pc := 33) (tgt := 37) dX0_makeTick_33 (by decide) ?_
            refine r_iadd (pc := 37) dX0_makeTick_37 ?_
            refine r_istore_3 (pc := 38) dX0_makeTick_38 rfl ?_
            refine r_iinc_5 (pc := 39) dX0_makeTick_39 rfl ?_
            refine r_goto (pc := 42) (tgt := 8) dX0_makeTick_42 (by decide) ?_
            have e9 : tkk F ux sz ho (k + 1) = (cpy F ux (tkk F ux sz ho k).1 (prs F ux (tkk F ux sz ho k).1 sz 16), (tkk F ux sz ho k).2 + 1) := if_neg (by omega)
            refine ih _ (by omega) ((k : Int) + 1) _ 1 f_21 rfl (by omega) ?_ (Or.inr rfl) (fun z => absurd z (by decide)) (fun q q0 q1 => ?_)
            · rw [show ((k : Int) + 1).toNat = k + 1 by omega, e9, hma]
            · rw [show ((k : Int) + 1).toNat = k + 1 by omega, e9]; exact a_21 q q0 q1
  refine r_iconst (pc := 0) dX0_makeTick_0 ?_
  refine r_istore_3 (pc := 1) dX0_makeTick_1 rfl ?_
  refine r_iconst (pc := 2) dX0_makeTick_2 ?_
  refine r_istore_4 (pc := 3) dX0_makeTick_3 rfl ?_
  refine r_iconst (pc := 5) dX0_makeTick_5 ?_
  refine r_istore_5 (pc := 6) dX0_makeTick_6 rfl ?_
  have e0 := lp _ 0 0 1 (h (a + 2)) rfl (by omega) rfl (Or.inr rfl) (fun z => absurd z (by decide)) d2
  rw [hr_id] at e0
  exact e0

