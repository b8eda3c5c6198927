/-! PLANS: diversions applied, groups settled -/
/-- the copies of a group are apart -/
def Dst (mp co : Int → Int) : Prop := ∀ c c', 0 ≤ c → c < 4 → 0 ≤ c' → c' < 4 → c ≠ c' → 0 ≤ co c → 0 ≤ co c' → prt mp (co c) ≠ prt mp (co c')
theorem Dst.up {mp co : Int → Int} (h : Dst mp co) {d c0 : Int} (ha : ∀ c, 0 ≤ c → c < 4 → c ≠ c0 → co c < 0 ∨ prt mp (co c) ≠ prt mp d) : Dst mp (up co c0 d) := by
  intro c c' a0 a1 b0 b1 e p0 p1
  by_cases e1 : c = c0
  · subst e1
    rw [up_s] at p0 ⊢
    rw [up_n (fun z => e z.symm)] at p1 ⊢
    rcases ha c' b0 b1 (fun z => e z.symm) with q | q
    · omega
    · exact fun z => q z.symm
  · rw [up_n e1] at p0 ⊢
    by_cases e2 : c' = c0
    · subst e2
      rw [up_s]
      rcases ha c a0 a1 e1 with q | q
      · omega
      · exact q
    · rw [up_n e2] at p1 ⊢
      exact h c c' a0 a1 b0 b1 e p0 p1
theorem Dst_0 (mp : Int → Int) : Dst mp (fun _ => -4) := fun c c' _ _ _ _ _ p _ => absurd p (show ¬ (0 : Int) ≤ -4 by decide)
theorem pst_D {mp : Int → Int} (g : Int) : ∀ T : Nat, Dst mp (pst mp g T).1
  | 0 => Dst_0 mp
  | T + 1 => by
    have ih := pst_D (mp := mp) g T
    show Dst mp (pstep mp g T (pst mp g T)).1
    unfold pstep
    split
    · rename_i hc
      have h3 := (tk_iff.mp (pcd_iff.mp hc).2.2).2.2
      refine ih.up (fun c c0 c1 _ => ?_)
      rcases apt_iff.mp h3 c c0 c1 with q | q | q
      · omega
      · exact Or.inl q
      · exact Or.inr q
    · exact ih
theorem odk_D {mp co : Int → Int} {g i : Int} (h : Dst mp co) : ∀ n : Nat, Dst mp (odk mp g i co n).1
  | 0 => h
  | n + 1 => by
    have ih := odk_D (g := g) (i := i) h n
    rw [odk_s]
    split
    · rename_i hc
      have h3 := (odc_iff.mp hc.1).2.2.2.2
      refine ih.up (fun c c0 c1 e => ?_)
      rcases apt_iff.mp h3 c c0 c1 with q | q | q
      · exact absurd q e
      · exact Or.inl q
      · exact Or.inr q
    · exact ih
theorem dvk_D {mp co : Int → Int} {g : Int} (h : Dst mp co) : ∀ n : Nat, Dst mp (dvk mp g co n)
  | 0 => h
  | n + 1 => odk_D (dvk_D h n) 4
theorem odk_no {mp co : Int → Int} {g i : Int} : ∀ n : Nat, (∀ c : Nat, c < n → ¬ odc mp g i co c = true) → odk mp g i co n = (co, 0)
  | 0, _ => rfl
  | n + 1, q => by
    have ih := odk_no n (fun c hc => q c (by omega))
    rw [odk_s, ih, if_neg (fun z => q n (by omega) z.1)]
theorem odk_at {mp co : Int → Int} {g i : Int} {c : Nat} (h0 : odk mp g i co c = (co, 0)) (h1 : odc mp g i co c = true) : ∀ n : Nat, odk mp g i co (c + 1 + n) = (up co c (mp (112 + 3 * i)), 1)
  | 0 => by
    show odk mp g i co (c + 1) = _
    rw [odk_s, h0, if_pos ⟨h1, rfl⟩]
  | n + 1 => by
    have ih := odk_at h0 h1 n
    show odk mp g i co (c + 1 + n + 1) = _
    rw [odk_s, ih, if_neg (fun z => absurd z.2 (show ¬ (1 : Int) = 0 by decide))]
theorem dX3_replaceCopy_0 : decode cX3_replaceCopy 0 = .ok (.aload_n 0, 1) := by decide +kernel
theorem dX3_replaceCopy_1 : decode cX3_replaceCopy 1 = .ok (.iload_n 3, 1) := by decide +kernel
theorem dX3_replaceCopy_2 : decode cX3_replaceCopy 2 = .ok (.invokevirtual 114, 3) := by decide +kernel
theorem dX3_replaceCopy_5 : decode cX3_replaceCopy 5 = .ok (.ifCond .ne 22, 3) := by decide +kernel
theorem dX3_replaceCopy_8 : decode cX3_replaceCopy 8 = .ok (.aload_n 0, 1) := by decide +kernel
theorem dX3_replaceCopy_9 : decode cX3_replaceCopy 9 = .ok (.getfield 29, 3) := by decide +kernel
theorem dX3_replaceCopy_12 : decode cX3_replaceCopy 12 = .ok (.iload_n 3, 1) := by decide +kernel
theorem dX3_replaceCopy_13 : decode cX3_replaceCopy 13 = .ok (.iaload, 1) := by decide +kernel
theorem dX3_replaceCopy_14 : decode cX3_replaceCopy 14 = .ok (.ifCond .eq 13, 3) := by decide +kernel
theorem dX3_replaceCopy_17 : decode cX3_replaceCopy 17 = .ok (.aload_n 0, 1) := by decide +kernel
theorem dX3_replaceCopy_18 : decode cX3_replaceCopy 18 = .ok (.iload_n 1, 1) := by decide +kernel
theorem dX3_replaceCopy_19 : decode cX3_replaceCopy 19 = .ok (.iload_n 3, 1) := by decide +kernel
theorem dX3_replaceCopy_20 : decode cX3_replaceCopy 20 = .ok (.iload_n 2, 1) := by decide +kernel
theorem dX3_replaceCopy_21 : decode cX3_replaceCopy 21 = .ok (.invokevirtual 106, 3) := by decide +kernel
theorem dX3_replaceCopy_24 : decode cX3_replaceCopy 24 = .ok (.ifCond .ne 5, 3) := by decide +kernel
theorem dX3_replaceCopy_27 : decode cX3_replaceCopy 27 = .ok (.iconst 0, 1) := by decide +kernel
theorem dX3_replaceCopy_28 : decode cX3_replaceCopy 28 = .ok (.ireturn, 1) := by decide +kernel
theorem dX3_replaceCopy_29 : decode cX3_replaceCopy 29 = .ok (.iconst 0, 1) := by decide +kernel
theorem dX3_replaceCopy_30 : decode cX3_replaceCopy 30 = .ok (.istore 4, 2) := by decide +kernel
theorem dX3_replaceCopy_32 : decode cX3_replaceCopy 32 = .ok (.iload 4, 2) := by decide +kernel
theorem dX3_replaceCopy_34 : decode cX3_replaceCopy 34 = .ok (.iconst 4, 1) := by decide +kernel
theorem dX3_replaceCopy_35 : decode cX3_replaceCopy 35 = .ok (.if_icmp .ge 34, 3) := by decide +kernel
theorem dX3_replaceCopy_38 : decode cX3_replaceCopy 38 = .ok (.aload_n 0, 1) := by decide +kernel
theorem dX3_replaceCopy_39 : decode cX3_replaceCopy 39 = .ok (.getfield 32, 3) := by decide +kernel
theorem dX3_replaceCopy_42 : decode cX3_replaceCopy 42 = .ok (.iload_n 1, 1) := by decide +kernel
theorem dX3_replaceCopy_43 : decode cX3_replaceCopy 43 = .ok (.iload 4, 2) := by decide +kernel
theorem dX3_replaceCopy_45 : decode cX3_replaceCopy 45 = .ok (.iadd, 1) := by decide +kernel
theorem dX3_replaceCopy_46 : decode cX3_replaceCopy 46 = .ok (.iaload, 1) := by decide +kernel
theorem dX3_replaceCopy_47 : decode cX3_replaceCopy 47 = .ok (.iload_n 2, 1) := by decide +kernel
theorem dX3_replaceCopy_48 : decode cX3_replaceCopy 48 = .ok (.if_icmp .ne 15, 3) := by decide +kernel
theorem dX3_replaceCopy_51 : decode cX3_replaceCopy 51 = .ok (.aload_n 0, 1) := by decide +kernel
theorem dX3_replaceCopy_52 : decode cX3_replaceCopy 52 = .ok (.getfield 32, 3) := by decide +kernel
theorem dX3_replaceCopy_55 : decode cX3_replaceCopy 55 = .ok (.iload_n 1, 1) := by decide +kernel
theorem dX3_replaceCopy_56 : decode cX3_replaceCopy 56 = .ok (.iload 4, 2) := by decide +kernel
theorem dX3_replaceCopy_58 : decode cX3_replaceCopy 58 = .ok (.iadd, 1) := by decide +kernel
theorem dX3_replaceCopy_59 : decode cX3_replaceCopy 59 = .ok (.iload_n 3, 1) := by decide +kernel
theorem dX3_replaceCopy_60 : decode cX3_replaceCopy 60 = .ok (.iastore, 1) := by decide +kernel
theorem dX3_replaceCopy_61 : decode cX3_replaceCopy 61 = .ok (.iconst 1, 1) := by decide +kernel
theorem dX3_replaceCopy_62 : decode cX3_replaceCopy 62 = .ok (.ireturn, 1) := by decide +kernel
theorem dX3_replaceCopy_63 : decode cX3_replaceCopy 63 = .ok (.iinc 4 1, 3) := by decide +kernel
theorem dX3_replaceCopy_66 : decode cX3_replaceCopy 66 = .ok (.goto (-34), 3) := by decide +kernel
theorem dX3_replaceCopy_69 : decode cX3_replaceCopy 69 = .ok (.iconst 0, 1) := by decide +kernel
theorem dX3_replaceCopy_70 : decode cX3_replaceCopy 70 = .ok (.ireturn, 1) := by decide +kernel
set_option maxHeartbeats 4000000 in
set_option maxRecDepth 20000 in
theorem c_X3_replaceCopy : ConI mX3_replaceCopy (fun args N lay r h Q => ∃ (p : Nat) (mp co : Int → Int) (g i : Int), args = [.ref p, vI (4 * g), vI (mp (111 + 3 * i)), vI (mp (112 + 3 * i))] ∧ PlAt lay r p ∧ TrM mp ∧ RlM mp ∧ PTr h p mp ∧ PRl h p mp ∧ CoI mp co ∧ (∀ c, 0 ≤ c → c < 4 → h (p + 11) (4 * g + c) = co c) ∧ (0 ≤ g ∧ g < 16) ∧ Dst mp co ∧ (0 ≤ i ∧ i < mp 135) ∧ mp (110 + 3 * i) = g ∧ ∀ f, (∀ c, 0 ≤ c → c < 4 → f (4 * g + c) = (odk mp g i co 4).1 c) → (∀ j, ¬ (4 * g ≤ j ∧ j < 4 * g + 4) → f j = h (p + 11) j) → Q (odk mp g i co 4).2 N lay r (hr h (p + 11) f)) := by
  refine ConI.of (by decide) (by rintro _ N lay r h Q ⟨p, mp, co, g, i, rfl, hA, hT, hR, hN, hL, hci, hco, hg, hds, hi, hgi, hQ⟩; exact ⟨rfl, Nat.le_of_ble_eq_true rfl⟩) ?_
  rintro E _ N lay r h Q ⟨p, mp, co, g, i, rfl, hA, hT, hR, hN, hL, hci, hco, hg, hds, hi, hgi, hQ⟩ hret
  obtain ⟨pl0, pl1, pl2, pl3, pl4, pl5, pl6, pl7, pl8, pl9, pl10, pl11, pl12, pl13, pr0, pr1, pr2, pr3, pr9, pr10, pr11, qr3, qr4, vr1, vr2, vr3, vr4⟩ := id hA
  obtain ⟨⟨rl5, rl6, rl7, rl8⟩, rfu, rca, rre, rnu, rdv⟩ := id hL
  obtain ⟨r1, r2, r3, r4, r5, r6, r7⟩ := id hR
  have t3 := hT.2.2.1
  obtain ⟨y1, y2, y3⟩ := r7 i hi.1 hi.2
  have x6 := r6 (mp (112 + 3 * i)) (by omega) (by omega)
  have xr := rre (mp (112 + 3 * i)) (by omega) (by omega)
  show St E mX3_replaceCopy 0 [some (.ref p), some (vI (4 * g)), some (vI (mp (111 + 3 * i))), some (vI (mp (112 + 3 * i))), none] [] (0, 0) N lay r h
  have lp : ∀ (n_ : Nat) (c : Int), (4 - c).toNat = n_ → (0 ≤ c ∧ c ≤ 4) → (∀ q, 0 ≤ q → q < c → co q ≠ mp (111 + 3 * i)) → (mp (88 + mp (112 + 3 * i)) = 0) → (0 < mp (66 + mp (112 + 3 * i))) → (apL mp co (mp (112 + 3 * i)) (mp (111 + 3 * i)) = true) → St E mX3_replaceCopy 32 [some (.ref p), some (vI (4 * g)), some (vI (mp (111 + 3 * i))), some (vI (mp (112 + 3 * i))), some (vI c)] [] (0, 0) N lay r h := by
    intro  n_
    induction n_ using Nat.strongRecOn with
    | ind n_ ih =>
      intro c hn_ hc hno hfu hre hap
      refine r_iload_4 (pc := 32) dX3_replaceCopy_32 ?_
      refine r_iconst (pc := 34) dX3_replaceCopy_34 ?_
      refine r_icmp_ge (pc := 35) (tgt := 69) dX3_replaceCopy_35 (by decide) (by omega) (by omega) (fun c_35 => ?_) (fun c_35 => ?_)
      · refine r_iconst (pc := 69) dX3_replaceCopy_69 ?_
        refine r_zret (pc := 70) hret dX3_replaceCopy_70 rfl rfl rfl (by first | exact Or.inl rfl | exact Or.inr rfl | exact bI_01 | omega) ?_
        first
        | (have k9 : 4 ≤ c := by omega
           have e9 : odk mp g i co 4 = (co, 0) := odk_no 4 (fun c' hc' z => hno c' (by omega) (by omega) (odc_iff.mp z).2.1)
           rw [e9] at hQ
           have q9 := hQ (h (p + 11)) hco (fun _ _ => rfl)
           rw [hr_id] at q9
           exact q9)
        | (have k9 : co c = mp (111 + 3 * i) := c_48
           have e8 : odk mp g i co c.toNat = (co, 0) := odk_no _ (fun c' hc' z => hno c' (by omega) (by omega) (odc_iff.mp z).2.1)
           have e7 : odc mp g i co c = true := odc_iff.mpr ⟨hgi, k9, hfu, hre, apt_iff.mpr (fun q q0 q1 => by
             by_cases e : q = c
             · exact Or.inl e
             · rcases apL_iff.mp hap q q0 q1 with y | y | y
               · exact Or.inr (Or.inl y)
               · exact absurd (show prt mp (co q) = prt mp (co c) by rw [y, k9]) (hds q c q0 q1 (by omega) (by omega) e (by omega) (by omega))
               · exact Or.inr (Or.inr y))⟩
           have e9 := odk_at (c := c.toNat) e8 (by rw [show ((c.toNat : Nat) : Int) = c by omega]; exact e7) (3 - c.toNat)
           rw [show c.toNat + 1 + (3 - c.toNat) = 4 by omega, show ((c.toNat : Nat) : Int) = c by omega] at e9
           rw [e9] at hQ
           refine hQ _ (fun q q0 q1 => ?_) (fun j hj => ?_)
           · dsimp only
             by_cases e : q = c
             · rw [e, up_s, up_s]
             · rw [up_n e, up_n (by omega)]; exact hco q q0 q1
           · rw [up_n (by omega)])
      · refine r_aload_0 (pc := 38) dX3_replaceCopy_38 ?_
        refine gf_X3_32 (pc := 39) rfl (by assumption) dX3_replaceCopy_39 (by assumption) ?_
        refine r_iload_1 (pc := 42) dX3_replaceCopy_42 ?_
        refine r_iload_4 (pc := 43) dX3_replaceCopy_43 ?_
        refine r_iadd (pc := 45) dX3_replaceCopy_45 ?_
        refine r_ialdE (pc := 46) (by assumption) (by first | assumption | exact rfl) dX3_replaceCopy_46 (by omega) (by omega) (fun i_46 => ?_)
        have ec := hco c hc.1 (by omega)
        rw [ec] at i_46 ⊢
        refine r_iload_2 (pc := 47) dX3_replaceCopy_47 ?_
        refine r_icmp_ne (pc := 48) (tgt := 63) dX3_replaceCopy_48 (by decide) (by omega) (by omega) (fun c_48 => ?_) (fun c_48 => ?_)
        · refine r_iinc_4 (pc := 63) dX3_replaceCopy_63 rfl ?_
          refine r_goto (pc := 66) (tgt := 32) dX3_replaceCopy_66 (by decide) ?_
          refine ih _ (by omega) (c + 1) rfl (by omega) (fun q q0 q1 => ?_) hfu hre hap
          by_cases e : q = c
          · subst e; exact c_48
          · exact hno q q0 (by omega)
        · refine r_aload_0 (pc := 51) dX3_replaceCopy_51 ?_
          refine gf_X3_32 (pc := 52) rfl (by assumption) dX3_replaceCopy_52 (by assumption) ?_
          refine r_iload_1 (pc := 55) dX3_replaceCopy_55 ?_
          refine r_iload_4 (pc := 56) dX3_replaceCopy_56 ?_
          refine r_iadd (pc := 58) dX3_replaceCopy_58 ?_
          refine r_iload_3 (pc := 59) dX3_replaceCopy_59 ?_
          refine r_iastE (pc := 60) (by assumption) (by first | assumption | exact rfl) dX3_replaceCopy_60 (by omega) (by omega) (by omega) ?_
          refine r_iconst (pc := 61) dX3_replaceCopy_61 ?_
          refine r_zret (pc := 62) hret dX3_replaceCopy_62 rfl rfl rfl (by first | exact Or.inl rfl | exact Or.inr rfl | exact bI_01 | omega) ?_
          first
          | (have k9 : 4 ≤ c := by omega
             have e9 : odk mp g i co 4 = (co, 0) := odk_no 4 (fun c' hc' z => hno c' (by omega) (by omega) (odc_iff.mp z).2.1)
             rw [e9] at hQ
             have q9 := hQ (h (p + 11)) hco (fun _ _ => rfl)
             rw [hr_id] at q9
             exact q9)
          | (have k9 : co c = mp (111 + 3 * i) := c_48
             have e8 : odk mp g i co c.toNat = (co, 0) := odk_no _ (fun c' hc' z => hno c' (by omega) (by omega) (odc_iff.mp z).2.1)
             have e7 : odc mp g i co c = true := odc_iff.mpr ⟨hgi, k9, hfu, hre, apt_iff.mpr (fun q q0 q1 => by
               by_cases e : q = c
               · exact Or.inl e
               · rcases apL_iff.mp hap q q0 q1 with y | y | y
                 · exact Or.inr (Or.inl y)
                 · exact absurd (show prt mp (co q) = prt mp (co c) by rw [y, k9]) (hds q c q0 q1 (by omega) (by omega) e (by omega) (by omega))
                 · exact Or.inr (Or.inr y))⟩
             have e9 := odk_at (c := c.toNat) e8 (by rw [show ((c.toNat : Nat) : Int) = c by omega]; exact e7) (3 - c.toNat)
             rw [show c.toNat + 1 + (3 - c.toNat) = 4 by omega, show ((c.toNat : Nat) : Int) = c by omega] at e9
             rw [e9] at hQ
             refine hQ _ (fun q q0 q1 => ?_) (fun j hj => ?_)
             · dsimp only
               by_cases e : q = c
               · rw [e, up_s, up_s]
               · rw [up_n e, up_n (by omega)]; exact hco q q0 q1
             · rw [up_n (by omega)])
  refine r_aload_0 (pc := 0) dX3_replaceCopy_0 ?_
  refine r_iload_3 (pc := 1) dX3_replaceCopy_1 ?_
  refine k_VI1 (pc := 2) c_X3_isFull lk_X3_114 ⟨Nat.le_of_ble_eq_true rfl, Nat.le_of_ble_eq_true rfl⟩ ⟨rfl, rfl⟩ ⟨Nat.le_of_ble_eq_true rfl, Nat.le_of_ble_eq_true rfl⟩ (k := 3) rfl (by decide) (by assumption) dX3_replaceCopy_2 (Nat.le_of_ble_eq_true rfl) ?_
  refine ⟨_, _, _, rfl, by assumption, by assumption, by assumption, by assumption, by assumption, by omega, ?_⟩
  refine r_ifne_b (pc := 5) (tgt := 27) dX3_replaceCopy_5 (by decide) (fun c_5 => ?_) (fun c_5 => ?_)
  · refine r_iconst (pc := 27) dX3_replaceCopy_27 ?_
    refine r_zret (pc := 28) hret dX3_replaceCopy_28 rfl rfl rfl (by first | exact Or.inl rfl | exact Or.inr rfl | exact bI_01 | omega) ?_
    have e9 : odk mp g i co 4 = (co, 0) := odk_no 4 (fun c hc z => by
      obtain ⟨z1, z2, z3, z4, z5⟩ := odc_iff.mp z
      first
      | (have k9 : mp (88 + mp (112 + 3 * i)) = 1 := c_5
         omega)
      | omega
      | (have k9 : ¬ apL mp co (mp (112 + 3 * i)) (mp (111 + 3 * i)) = true := c_24
         refine k9 (apL_iff.mpr (fun q q0 q1 => ?_))
         rcases apt_iff.mp z5 q q0 q1 with y | y | y
         · exact Or.inr (Or.inl (by rw [y]; exact z2))
         · exact Or.inl y
         · exact Or.inr (Or.inr y)))
    rw [e9] at hQ
    have q9 := hQ (h (p + 11)) hco (fun _ _ => rfl)
    rw [hr_id] at q9
    exact q9
  · refine r_aload_0 (pc := 8) dX3_replaceCopy_8 ?_
    refine gf_X3_29 (pc := 9) rfl (by assumption) dX3_replaceCopy_9 (by assumption) ?_
    refine r_iload_3 (pc := 12) dX3_replaceCopy_12 ?_
    refine r_ialdE (pc := 13) (by assumption) (by first | assumption | exact rfl) dX3_replaceCopy_13 (by omega) (by omega) (fun i_13 => ?_)
    rw [xr] at i_13 ⊢
    refine r_if_eq (pc := 14) (tgt := 27) dX3_replaceCopy_14 (by decide) (by omega) (fun c_14 => ?_) (fun c_14 => ?_)
    · refine r_iconst (pc := 27) dX3_replaceCopy_27 ?_
      refine r_zret (pc := 28) hret dX3_replaceCopy_28 rfl rfl rfl (by first | exact Or.inl rfl | exact Or.inr rfl | exact bI_01 | omega) ?_
      have e9 : odk mp g i co 4 = (co, 0) := odk_no 4 (fun c hc z => by
        obtain ⟨z1, z2, z3, z4, z5⟩ := odc_iff.mp z
        first
        | (have k9 : mp (88 + mp (112 + 3 * i)) = 1 := c_5
           omega)
        | omega
        | (have k9 : ¬ apL mp co (mp (112 + 3 * i)) (mp (111 + 3 * i)) = true := c_24
           refine k9 (apL_iff.mpr (fun q q0 q1 => ?_))
           rcases apt_iff.mp z5 q q0 q1 with y | y | y
           · exact Or.inr (Or.inl (by rw [y]; exact z2))
           · exact Or.inl y
           · exact Or.inr (Or.inr y)))
      rw [e9] at hQ
      have q9 := hQ (h (p + 11)) hco (fun _ _ => rfl)
      rw [hr_id] at q9
      exact q9
    · refine r_aload_0 (pc := 17) dX3_replaceCopy_17 ?_
      refine r_iload_1 (pc := 18) dX3_replaceCopy_18 ?_
      refine r_iload_3 (pc := 19) dX3_replaceCopy_19 ?_
      refine r_iload_2 (pc := 20) dX3_replaceCopy_20 ?_
      refine k_VI3 (pc := 21) c_X3_isApart lk_X3_106 ⟨Nat.le_of_ble_eq_true rfl, Nat.le_of_ble_eq_true rfl⟩ ⟨rfl, rfl⟩ ⟨Nat.le_of_ble_eq_true rfl, Nat.le_of_ble_eq_true rfl⟩ (k := 3) rfl (by decide) (by assumption) dX3_replaceCopy_21 (Nat.le_of_ble_eq_true rfl) ?_
      refine ⟨_, _, _, _, _, _, rfl, by assumption, by assumption, by assumption, by assumption, by assumption, by assumption, by assumption, by omega, by omega, by omega, ?_⟩
      refine r_ifne_b (pc := 24) (tgt := 29) dX3_replaceCopy_24 (by decide) (fun c_24 => ?_) (fun c_24 => ?_)
      · refine r_iconst (pc := 29) dX3_replaceCopy_29 ?_
        refine r_istore_4 (pc := 30) dX3_replaceCopy_30 rfl ?_
        exact lp _ 0 rfl (by omega) (fun q q0 q1 => by omega) (by omega) (by omega) c_24
      · refine r_iconst (pc := 27) dX3_replaceCopy_27 ?_
        refine r_zret (pc := 28) hret dX3_replaceCopy_28 rfl rfl rfl (by first | exact Or.inl rfl | exact Or.inr rfl | exact bI_01 | omega) ?_
        have e9 : odk mp g i co 4 = (co, 0) := odk_no 4 (fun c hc z => by
          obtain ⟨z1, z2, z3, z4, z5⟩ := odc_iff.mp z
          first
          | (have k9 : mp (88 + mp (112 + 3 * i)) = 1 := c_5
             omega)
          | omega
          | (have k9 : ¬ apL mp co (mp (112 + 3 * i)) (mp (111 + 3 * i)) = true := c_24
             refine k9 (apL_iff.mpr (fun q q0 q1 => ?_))
             rcases apt_iff.mp z5 q q0 q1 with y | y | y
             · exact Or.inr (Or.inl (by rw [y]; exact z2))
             · exact Or.inl y
             · exact Or.inr (Or.inr y)))
        rw [e9] at hQ
        have q9 := hQ (h (p + 11)) hco (fun _ _ => rfl)
        rw [hr_id] at q9
        exact q9

theorem dX3_applyDiversions_0 : decode cX3_applyDiversions 0 = .ok (.iconst 0, 1) := by decide +kernel
theorem dX3_applyDiversions_1 : decode cX3_applyDiversions 1 = .ok (.istore_n 2, 1) := by decide +kernel
theorem dX3_applyDiversions_2 : decode cX3_applyDiversions 2 = .ok (.iload_n 2, 1) := by decide +kernel
theorem dX3_applyDiversions_3 : decode cX3_applyDiversions 3 = .ok (.aload_n 0, 1) := by decide +kernel
theorem dX3_applyDiversions_4 : decode cX3_applyDiversions 4 = .ok (.getfield 21, 3) := by decide +kernel
theorem dX3_applyDiversions_7 : decode cX3_applyDiversions 7 = .ok (.getfield 44, 3) := by decide +kernel
theorem dX3_applyDiversions_10 : decode cX3_applyDiversions 10 = .ok (.if_icmp .ge 66, 3) := by decide +kernel
theorem dX3_applyDiversions_13 : decode cX3_applyDiversions 13 = .ok (.aload_n 0, 1) := by decide +kernel
theorem dX3_applyDiversions_14 : decode cX3_applyDiversions 14 = .ok (.getfield 21, 3) := by decide +kernel
theorem dX3_applyDiversions_17 : decode cX3_applyDiversions 17 = .ok (.getfield 130, 3) := by decide +kernel
theorem dX3_applyDiversions_20 : decode cX3_applyDiversions 20 = .ok (.iload_n 2, 1) := by decide +kernel
theorem dX3_applyDiversions_21 : decode cX3_applyDiversions 21 = .ok (.iaload, 1) := by decide +kernel
theorem dX3_applyDiversions_22 : decode cX3_applyDiversions 22 = .ok (.iload_n 1, 1) := by decide +kernel
theorem dX3_applyDiversions_23 : decode cX3_applyDiversions 23 = .ok (.if_icmp .ne 47, 3) := by decide +kernel
theorem dX3_applyDiversions_26 : decode cX3_applyDiversions 26 = .ok (.aload_n 0, 1) := by decide +kernel
theorem dX3_applyDiversions_27 : decode cX3_applyDiversions 27 = .ok (.iconst 4, 1) := by decide +kernel
theorem dX3_applyDiversions_28 : decode cX3_applyDiversions 28 = .ok (.iload_n 1, 1) := by decide +kernel
theorem dX3_applyDiversions_29 : decode cX3_applyDiversions 29 = .ok (.imul, 1) := by decide +kernel
theorem dX3_applyDiversions_30 : decode cX3_applyDiversions 30 = .ok (.aload_n 0, 1) := by decide +kernel
theorem dX3_applyDiversions_31 : decode cX3_applyDiversions 31 = .ok (.getfield 21, 3) := by decide +kernel
theorem dX3_applyDiversions_34 : decode cX3_applyDiversions 34 = .ok (.getfield 133, 3) := by decide +kernel
theorem dX3_applyDiversions_37 : decode cX3_applyDiversions 37 = .ok (.iload_n 2, 1) := by decide +kernel
theorem dX3_applyDiversions_38 : decode cX3_applyDiversions 38 = .ok (.iaload, 1) := by decide +kernel
theorem dX3_applyDiversions_39 : decode cX3_applyDiversions 39 = .ok (.aload_n 0, 1) := by decide +kernel
theorem dX3_applyDiversions_40 : decode cX3_applyDiversions 40 = .ok (.getfield 21, 3) := by decide +kernel
theorem dX3_applyDiversions_43 : decode cX3_applyDiversions 43 = .ok (.getfield 136, 3) := by decide +kernel
theorem dX3_applyDiversions_46 : decode cX3_applyDiversions 46 = .ok (.iload_n 2, 1) := by decide +kernel
theorem dX3_applyDiversions_47 : decode cX3_applyDiversions 47 = .ok (.iaload, 1) := by decide +kernel
theorem dX3_applyDiversions_48 : decode cX3_applyDiversions 48 = .ok (.invokevirtual 139, 3) := by decide +kernel
theorem dX3_applyDiversions_51 : decode cX3_applyDiversions 51 = .ok (.istore_n 3, 1) := by decide +kernel
theorem dX3_applyDiversions_52 : decode cX3_applyDiversions 52 = .ok (.aload_n 0, 1) := by decide +kernel
theorem dX3_applyDiversions_53 : decode cX3_applyDiversions 53 = .ok (.getfield 21, 3) := by decide +kernel
theorem dX3_applyDiversions_56 : decode cX3_applyDiversions 56 = .ok (.getfield 142, 3) := by decide +kernel
theorem dX3_applyDiversions_59 : decode cX3_applyDiversions 59 = .ok (.iload_n 2, 1) := by decide +kernel
theorem dX3_applyDiversions_60 : decode cX3_applyDiversions 60 = .ok (.iload_n 3, 1) := by decide +kernel
theorem dX3_applyDiversions_61 : decode cX3_applyDiversions 61 = .ok (.ifCond .eq 7, 3) := by decide +kernel
theorem dX3_applyDiversions_64 : decode cX3_applyDiversions 64 = .ok (.iconst 1, 1) := by decide +kernel
theorem dX3_applyDiversions_65 : decode cX3_applyDiversions 65 = .ok (.goto 4, 3) := by decide +kernel
theorem dX3_applyDiversions_68 : decode cX3_applyDiversions 68 = .ok (.iconst 0, 1) := by decide +kernel
theorem dX3_applyDiversions_69 : decode cX3_applyDiversions 69 = .ok (.iastore, 1) := by decide +kernel
theorem dX3_applyDiversions_70 : decode cX3_applyDiversions 70 = .ok (.iinc 2 1, 3) := by decide +kernel
theorem dX3_applyDiversions_73 : decode cX3_applyDiversions 73 = .ok (.goto (-71), 3) := by decide +kernel
theorem dX3_applyDiversions_76 : decode cX3_applyDiversions 76 = .ok (.return_, 1) := by decide +kernel
set_option maxHeartbeats 4000000 in
set_option maxRecDepth 20000 in
theorem c_X3_applyDiversions : ConV mX3_applyDiversions (fun args N lay r h Q => ∃ (p : Nat) (mp co : Int → Int) (g : Int), args = [.ref p, vI g] ∧ PlAt lay r p ∧ TrM mp ∧ RlM mp ∧ PTr h p mp ∧ PRl h p mp ∧ CoI mp co ∧ (∀ c, 0 ≤ c → c < 4 → h (p + 11) (4 * g + c) = co c) ∧ (0 ≤ g ∧ g < 16) ∧ Dst mp co ∧ ∀ h2, Fr h h2 (fun x => x = p + 8 ∨ x = p + 11) → (∀ c, 0 ≤ c → c < 4 → h2 (p + 11) (4 * g + c) = dvk mp g co (mp 135).toNat c) → (∀ j, ¬ (4 * g ≤ j ∧ j < 4 * g + 4) → h2 (p + 11) j = h (p + 11) j) → (∀ j, 0 ≤ j → j < mp 135 → h2 (p + 8) j = if mp (110 + 3 * j) = g then (odk mp g j (dvk mp g co j.toNat) 4).2 else h (p + 8) j) → Q N lay r h2) := by
  refine ConV.of (by decide) (by rintro _ N lay r h Q ⟨p, mp, co, g, rfl, hA, hT, hR, hN, hL, hci, hco, hg, hds, hQ⟩; exact ⟨rfl, Nat.le_of_ble_eq_true rfl⟩) ?_
  rintro E _ N lay r h Q ⟨p, mp, co, g, rfl, hA, hT, hR, hN, hL, hci, hco, hg, hds, hQ⟩ hret
  obtain ⟨pl0, pl1, pl2, pl3, pl4, pl5, pl6, pl7, pl8, pl9, pl10, pl11, pl12, pl13, pr0, pr1, pr2, pr3, pr9, pr10, pr11, qr3, qr4, vr1, vr2, vr3, vr4⟩ := id hA
  obtain ⟨⟨rl5, rl6, rl7, rl8⟩, rfu, rca, rre, rnu, rdv⟩ := id hL
  obtain ⟨r1, r2, r3, r4, r5, r6, r7⟩ := id hR
  have t3 := hT.2.2.1
  show St E mX3_applyDiversions 0 [some (.ref p), some (vI g), none, none] [] (0, 0) N lay r h
  have lp : ∀ (n_ : Nat) (i : Int) (hk : HpT) (x3 : Option Value), (6 - i).toNat = n_ → (0 ≤ i ∧ i ≤ mp 135) → (Fr h hk (fun x => x = p + 8 ∨ x = p + 11)) → (∀ c, 0 ≤ c → c < 4 → hk (p + 11) (4 * g + c) = dvk mp g co i.toNat c) → (∀ j, ¬ (4 * g ≤ j ∧ j < 4 * g + 4) → hk (p + 11) j = h (p + 11) j) → (∀ j, 0 ≤ j → j < mp 135 → hk (p + 8) j = if j < i ∧ mp (110 + 3 * j) = g then (odk mp g j (dvk mp g co j.toNat) 4).2 else h (p + 8) j) → St E mX3_applyDiversions 2 [some (.ref p), some (vI g), some (vI i), x3] [] (0, 0) N lay r hk := by
    intro  n_
    induction n_ using Nat.strongRecOn with
    | ind n_ ih =>
      intro i hk x3 hn_ hi hf hcp hco2 hwk
      obtain ⟨k, rfl⟩ : ∃ k : Nat, i = k := ⟨i.toNat, by omega⟩
      simp only [show ((k : Int)).toNat = k by omega] at hcp
      have en : hk (p + 4) 0 = mp 135 := by rw [hf _ (by omega)]; exact rnu
      have TR : PTr hk p mp := hN.of (hf _ (by omega)) (hf _ (by omega)) (hf _ (by omega))
      have RL : PRl hk p mp := hL.of (hf _ (by omega)) (hf _ (by omega)) (hf _ (by omega)) (hf _ (by omega)) (hf _ (by omega)) (hf _ (by omega)) (hf _ (by omega))
      have cI := dvk_I hR (g := g) hci k
      have cD := dvk_D (g := g) hds k
      have e1 : dvk mp g co (k + 1) = (odk mp g k (dvk mp g co k) 4).1 := rfl
      have dv := RL.2.2.2.2.2 k
      have q7 := r7 k
      refine r_iload_2 (pc := 2) dX3_applyDiversions_2 ?_
      refine r_aload_0 (pc := 3) dX3_applyDiversions_3 ?_
      refine gf_X3_21 (pc := 4) rfl (by assumption) dX3_applyDiversions_4 (by assumption) ?_
      refine gf_X3_44 (pc := 7) rfl (by assumption) dX3_applyDiversions_7 (fun i_7 => ?_)
      refine r_icmp_ge (pc := 10) (tgt := 76) dX3_applyDiversions_10 (by decide) (by omega) (by omega) (fun c_10 => ?_) (fun c_10 => ?_)
      · refine r_ret (pc := 76) hret dX3_applyDiversions_76 rfl rfl rfl ?_
        have hk5 : (k : Int) = mp 135 := by omega
        refine hQ hk hf (fun c c0 c1 => by rw [hcp c c0 c1, ← hk5, show ((k : Int)).toNat = k by omega]) hco2 (fun j j0 j1 => ?_)
        rw [hwk j j0 j1]
        by_cases e : mp (110 + 3 * j) = g
        · rw [if_pos e, if_pos ⟨by omega, e⟩]
        · rw [if_neg e, if_neg (fun z => e z.2)]
      · have dv := dv (by omega) (by omega)
        have q7 := q7 (by omega) (by omega)
        have cI := cI (by omega)
        have oI := (odk_I hR (g := g) (i := k) (by omega) cI 4).2
        refine r_aload_0 (pc := 13) dX3_applyDiversions_13 ?_
        refine gf_X3_21 (pc := 14) rfl (by assumption) dX3_applyDiversions_14 (by assumption) ?_
        refine gf_X3_130 (pc := 17) rfl (by assumption) dX3_applyDiversions_17 (by assumption) ?_
        refine r_iload_2 (pc := 20) dX3_applyDiversions_20 ?_
        refine r_ialdE (pc := 21) (by assumption) (by first | assumption | exact rfl) dX3_applyDiversions_21 (by omega) (by omega) (fun i_21 => ?_)
        rw [dv.1] at i_21 ⊢
        refine r_iload_1 (pc := 22) dX3_applyDiversions_22 ?_
        refine r_icmp_ne (pc := 23) (tgt := 70) dX3_applyDiversions_23 (by decide) (by omega) (by omega) (fun c_23 => ?_) (fun c_23 => ?_)
        · refine r_iinc_2 (pc := 70) dX3_applyDiversions_70 rfl ?_
          refine r_goto (pc := 73) (tgt := 2) dX3_applyDiversions_73 (by decide) ?_
          first
          | (have k9 : ¬ mp (110 + 3 * (k : Int)) = g := c_23
             have e9 : odk mp g k (dvk mp g co k) 4 = (dvk mp g co k, 0) := odk_no 4 (fun c hc z => k9 (odc_iff.mp z).1)
             refine ih _ (by omega) ((k : Int) + 1) hk _ rfl (by omega) hf (fun c c0 c1 => ?_) hco2 (fun j j0 j1 => ?_)
             · rw [show ((k : Int) + 1).toNat = k + 1 by omega, e1, e9]; exact hcp c c0 c1
             · rw [hwk j j0 j1]
               by_cases e : j = k
               · subst e
                 rw [if_neg (fun z => by omega), if_neg (fun z => k9 z.2)]
               · by_cases e2 : j < k ∧ mp (110 + 3 * j) = g
                 · rw [if_pos e2, if_pos ⟨by omega, e2.2⟩]
                 · rw [if_neg e2, if_neg (fun z => e2 ⟨by omega, z.2⟩)])
          | (have k9 : (odk mp g k (dvk mp g co k) 4).2 = 0 := by omega
             refine ih _ (by omega) ((k : Int) + 1) _ _ rfl (by omega) (fun x hx => by rw [hr_n (by omega), hr_n (by omega)]; exact hf x hx) (fun c c0 c1 => ?_) (fun j hj => ?_) (fun j j0 j1 => ?_)
             · rw [show ((k : Int) + 1).toNat = k + 1 by omega, e1, hr_n (by omega), hr_s]; exact a_48 c c0 c1
             · rw [hr_n (by omega), hr_s, b_48 j hj]; exact hco2 j hj
             · rw [hr_s]
               by_cases e : j = k
               · subst e
                 rw [up_s, if_pos ⟨by omega, c_23⟩, show ((k : Int)).toNat = k by omega]; exact k9.symm
               · rw [up_n e, hwk j j0 j1]
                 by_cases e2 : j < k ∧ mp (110 + 3 * j) = g
                 · rw [if_pos e2, if_pos ⟨by omega, e2.2⟩]
                 · rw [if_neg e2, if_neg (fun z => e2 ⟨by omega, z.2⟩)])
          | (have k9 : (odk mp g k (dvk mp g co k) 4).2 = 1 := by omega
             refine ih _ (by omega) ((k : Int) + 1) _ _ rfl (by omega) (fun x hx => by rw [hr_n (by omega), hr_n (by omega)]; exact hf x hx) (fun c c0 c1 => ?_) (fun j hj => ?_) (fun j j0 j1 => ?_)
             · rw [show ((k : Int) + 1).toNat = k + 1 by omega, e1, hr_n (by omega), hr_s]; exact a_48 c c0 c1
             · rw [hr_n (by omega), hr_s, b_48 j hj]; exact hco2 j hj
             · rw [hr_s]
               by_cases e : j = k
               · subst e
                 rw [up_s, if_pos ⟨by omega, c_23⟩, show ((k : Int)).toNat = k by omega]; exact k9.symm
               · rw [up_n e, hwk j j0 j1]
                 by_cases e2 : j < k ∧ mp (110 + 3 * j) = g
                 · rw [if_pos e2, if_pos ⟨by omega, e2.2⟩]
                 · rw [if_neg e2, if_neg (fun z => e2 ⟨by omega, z.2⟩)])
          
        · refine r_aload_0 (pc := 26) dX3_applyDiversions_26 ?_
          refine r_iconst (pc := 27) dX3_applyDiversions_27 ?_
          refine r_iload_1 (pc := 28) dX3_applyDiversions_28 ?_
          refine r_imul (pc := 29) dX3_applyDiversions_29 ?_
          refine r_aload_0 (pc := 30) dX3_applyDiversions_30 ?_
          refine gf_X3_21 (pc := 31) rfl (by assumption) dX3_applyDiversions_31 (by assumption) ?_
          refine gf_X3_133 (pc := 34) rfl (by assumption) dX3_applyDiversions_34 (by assumption) ?_
          refine r_iload_2 (pc := 37) dX3_applyDiversions_37 ?_
          refine r_ialdE (pc := 38) (by assumption) (by first | assumption | exact rfl) dX3_applyDiversions_38 (by omega) (by omega) (fun i_38 => ?_)
          rw [dv.2.1] at i_38 ⊢
          refine r_aload_0 (pc := 39) dX3_applyDiversions_39 ?_
          refine gf_X3_21 (pc := 40) rfl (by assumption) dX3_applyDiversions_40 (by assumption) ?_
          refine gf_X3_136 (pc := 43) rfl (by assumption) dX3_applyDiversions_43 (by assumption) ?_
          refine r_iload_2 (pc := 46) dX3_applyDiversions_46 ?_
          refine r_ialdE (pc := 47) (by assumption) (by first | assumption | exact rfl) dX3_applyDiversions_47 (by omega) (by omega) (fun i_47 => ?_)
          rw [dv.2.2] at i_47 ⊢
          refine k_VI3 (pc := 48) c_X3_replaceCopy lk_X3_139 ⟨Nat.le_of_ble_eq_true rfl, Nat.le_of_ble_eq_true rfl⟩ ⟨rfl, rfl⟩ ⟨Nat.le_of_ble_eq_true rfl, Nat.le_of_ble_eq_true rfl⟩ (k := 3) rfl (by decide) (by assumption) dX3_applyDiversions_48 (Nat.le_of_ble_eq_true rfl) ?_
          refine ⟨p, mp, _, g, _, rfl, by assumption, by assumption, by assumption, by assumption, by assumption, by assumption, by assumption, by omega, by assumption, by omega, by assumption, fun f_48 a_48 b_48 => ?_⟩
          refine r_istore_3 (pc := 51) dX3_applyDiversions_51 rfl ?_
          refine r_aload_0 (pc := 52) dX3_applyDiversions_52 ?_
          refine gf_X3_21 (pc := 53) rfl (by assumption) dX3_applyDiversions_53 (by assumption) ?_
          refine gf_X3_142 (pc := 56) rfl (by assumption) dX3_applyDiversions_56 (by assumption) ?_
          refine r_iload_2 (pc := 59) dX3_applyDiversions_59 ?_
          refine r_iload_3 (pc := 60) dX3_applyDiversions_60 ?_
          refine r_if_eq (pc := 61) (tgt := 68) dX3_applyDiversions_61 (by decide) (by omega) (fun c_61 => ?_) (fun c_61 => ?_)
          · refine r_iconst (pc := 68) dX3_applyDiversions_68 ?_
            refine r_iastE (pc := 69) (by assumption) (hr_n (by omega)) dX3_applyDiversions_69 (by omega) (by omega) (by omega) ?_
            refine r_iinc_2 (pc := 70) dX3_applyDiversions_70 rfl ?_
            refine r_goto (pc := 73) (tgt := 2) dX3_applyDiversions_73 (by decide) ?_
            first
            | (have k9 : ¬ mp (110 + 3 * (k : Int)) = g := c_23
               have e9 : odk mp g k (dvk mp g co k) 4 = (dvk mp g co k, 0) := odk_no 4 (fun c hc z => k9 (odc_iff.mp z).1)
               refine ih _ (by omega) ((k : Int) + 1) hk _ rfl (by omega) hf (fun c c0 c1 => ?_) hco2 (fun j j0 j1 => ?_)
               · rw [show ((k : Int) + 1).toNat = k + 1 by omega, e1, e9]; exact hcp c c0 c1
               · rw [hwk j j0 j1]
                 by_cases e : j = k
                 · subst e
                   rw [if_neg (fun z => by omega), if_neg (fun z => k9 z.2)]
                 · by_cases e2 : j < k ∧ mp (110 + 3 * j) = g
                   · rw [if_pos e2, if_pos ⟨by omega, e2.2⟩]
                   · rw [if_neg e2, if_neg (fun z => e2 ⟨by omega, z.2⟩)])
            | (have k9 : (odk mp g k (dvk mp g co k) 4).2 = 0 := by omega
               refine ih _ (by omega) ((k : Int) + 1) _ _ rfl (by omega) (fun x hx => by rw [hr_n (by omega), hr_n (by omega)]; exact hf x hx) (fun c c0 c1 => ?_) (fun j hj => ?_) (fun j j0 j1 => ?_)
               · rw [show ((k : Int) + 1).toNat = k + 1 by omega, e1, hr_n (by omega), hr_s]; exact a_48 c c0 c1
               · rw [hr_n (by omega), hr_s, b_48 j hj]; exact hco2 j hj
               · rw [hr_s]
                 by_cases e : j = k
                 · subst e
                   rw [up_s, if_pos ⟨by omega, c_23⟩, show ((k : Int)).toNat = k by omega]; exact k9.symm
                 · rw [up_n e, hwk j j0 j1]
                   by_cases e2 : j < k ∧ mp (110 + 3 * j) = g
                   · rw [if_pos e2, if_pos ⟨by omega, e2.2⟩]
                   · rw [if_neg e2, if_neg (fun z => e2 ⟨by omega, z.2⟩)])
            | (have k9 : (odk mp g k (dvk mp g co k) 4).2 = 1 := by omega
               refine ih _ (by omega) ((k : Int) + 1) _ _ rfl (by omega) (fun x hx => by rw [hr_n (by omega), hr_n (by omega)]; exact hf x hx) (fun c c0 c1 => ?_) (fun j hj => ?_) (fun j j0 j1 => ?_)
               · rw [show ((k : Int) + 1).toNat = k + 1 by omega, e1, hr_n (by omega), hr_s]; exact a_48 c c0 c1
               · rw [hr_n (by omega), hr_s, b_48 j hj]; exact hco2 j hj
               · rw [hr_s]
                 by_cases e : j = k
                 · subst e
                   rw [up_s, if_pos ⟨by omega, c_23⟩, show ((k : Int)).toNat = k by omega]; exact k9.symm
                 · rw [up_n e, hwk j j0 j1]
                   by_cases e2 : j < k ∧ mp (110 + 3 * j) = g
                   · rw [if_pos e2, if_pos ⟨by omega, e2.2⟩]
                   · rw [if_neg e2, if_neg (fun z => e2 ⟨by omega, z.2⟩)])
            
          · refine r_iconst (pc := 64) dX3_applyDiversions_64 ?_
            refine r_goto (pc := 65) (tgt := 69) dX3_applyDiversions_65 (by decide) ?_
            refine r_iastE (pc := 69) (by assumption) (hr_n (by omega)) dX3_applyDiversions_69 (by omega) (by omega) (by omega) ?_
            refine r_iinc_2 (pc := 70) dX3_applyDiversions_70 rfl ?_
            refine r_goto (pc := 73) (tgt := 2) dX3_applyDiversions_73 (by decide) ?_
            first
            | (have k9 : ¬ mp (110 + 3 * (k : Int)) = g := c_23
               have e9 : odk mp g k (dvk mp g co k) 4 = (dvk mp g co k, 0) := odk_no 4 (fun c hc z => k9 (odc_iff.mp z).1)
               refine ih _ (by omega) ((k : Int) + 1) hk _ rfl (by omega) hf (fun c c0 c1 => ?_) hco2 (fun j j0 j1 => ?_)
               · rw [show ((k : Int) + 1).toNat = k + 1 by omega, e1, e9]; exact hcp c c0 c1
               · rw [hwk j j0 j1]
                 by_cases e : j = k
                 · subst e
                   rw [if_neg (fun z => by omega), if_neg (fun z => k9 z.2)]
                 · by_cases e2 : j < k ∧ mp (110 + 3 * j) = g
                   · rw [if_pos e2, if_pos ⟨by omega, e2.2⟩]
                   · rw [if_neg e2, if_neg (fun z => e2 ⟨by omega, z.2⟩)])
            | (have k9 : (odk mp g k (dvk mp g co k) 4).2 = 0 := by omega
               refine ih _ (by omega) ((k : Int) + 1) _ _ rfl (by omega) (fun x hx => by rw [hr_n (by omega), hr_n (by omega)]; exact hf x hx) (fun c c0 c1 => ?_) (fun j hj => ?_) (fun j j0 j1 => ?_)
               · rw [show ((k : Int) + 1).toNat = k + 1 by omega, e1, hr_n (by omega), hr_s]; exact a_48 c c0 c1
               · rw [hr_n (by omega), hr_s, b_48 j hj]; exact hco2 j hj
               · rw [hr_s]
                 by_cases e : j = k
                 · subst e
                   rw [up_s, if_pos ⟨by omega, c_23⟩, show ((k : Int)).toNat = k by omega]; exact k9.symm
                 · rw [up_n e, hwk j j0 j1]
                   by_cases e2 : j < k ∧ mp (110 + 3 * j) = g
                   · rw [if_pos e2, if_pos ⟨by omega, e2.2⟩]
                   · rw [if_neg e2, if_neg (fun z => e2 ⟨by omega, z.2⟩)])
            | (have k9 : (odk mp g k (dvk mp g co k) 4).2 = 1 := by omega
               refine ih _ (by omega) ((k : Int) + 1) _ _ rfl (by omega) (fun x hx => by rw [hr_n (by omega), hr_n (by omega)]; exact hf x hx) (fun c c0 c1 => ?_) (fun j hj => ?_) (fun j j0 j1 => ?_)
               · rw [show ((k : Int) + 1).toNat = k + 1 by omega, e1, hr_n (by omega), hr_s]; exact a_48 c c0 c1
               · rw [hr_n (by omega), hr_s, b_48 j hj]; exact hco2 j hj
               · rw [hr_s]
                 by_cases e : j = k
                 · subst e
                   rw [up_s, if_pos ⟨by omega, c_23⟩, show ((k : Int)).toNat = k by omega]; exact k9.symm
                 · rw [up_n e, hwk j j0 j1]
                   by_cases e2 : j < k ∧ mp (110 + 3 * j) = g
                   · rw [if_pos e2, if_pos ⟨by omega, e2.2⟩]
                   · rw [if_neg e2, if_neg (fun z => e2 ⟨by omega, z.2⟩)])
            
  refine r_iconst (pc := 0) dX3_applyDiversions_0 ?_
  refine r_istore_2 (pc := 1) dX3_applyDiversions_1 rfl ?_
  refine lp _ 0 h _ rfl (by omega) (fun _ _ => rfl) hco (fun _ _ => rfl) (fun j j0 j1 => ?_)
  rw [if_neg (fun z => by omega)]

