/-! THE CLASS: copies counted by bits; since, count, node, would -/
theorem sm_pt {f f' : Int → Int} {k0 : Nat} (hf : ∀ k : Nat, k ≠ k0 → f k = f' k) : ∀ n : Nat, k0 < n → sm f n = sm f' n + (f k0 - f' k0)
  | 0, h => by omega
  | n + 1, h => by
    show sm f n + f n = sm f' n + f' n + (f k0 - f' k0)
    by_cases e : k0 = n
    · subst e
      rw [sm_c (g := f') (fun k hk => hf k (by omega))]
      omega
    · rw [sm_pt hf n (by omega), hf n (fun z => e z.symm)]
      omega
theorem bts_tb {x : Int} (h : Ms x) : bts x = sm (fun k => bI (tb x k.toNat = true)) 12 := by
  unfold bts
  refine sm_c (fun k hk => ?_)
  rw [tb_r h.b (by omega) (by omega)]
  rfl
/-- the copies of a group are different disks -/
def FDs (F : Int → Int) (g : Int) : Prop := ∀ c c', 0 ≤ c → c < 4 → 0 ≤ c' → c' < 4 → c ≠ c' → 0 ≤ F (4 * g + c) → F (4 * g + c) ≠ F (4 * g + c')
theorem FDs_plr {mp : Int → Int} (g : Int) : FDs (plr mp) g := by
  intro c c' c0 c1 d0 d1 e p z
  rw [plr_g ⟨c0, c1⟩] at p z
  rw [plr_g ⟨d0, d1⟩] at z
  have hd : Dst mp (plc mp g) := dvk_D (pst_D g _) _
  exact hd c c' c0 c1 d0 d1 e p (by rw [← z]; exact p) (by rw [z])
theorem FDs.c {F F' : Int → Int} {g : Int} (h : FDs F g) (hg : 0 ≤ g ∧ g < 16) (e : ∀ j, 0 ≤ j → j < 64 → F j = F' j) : FDs F' g := by
  intro c c' c0 c1 d0 d1 ne p
  rw [← e _ (by omega) (by omega)] at p ⊢
  rw [← e _ (by omega) (by omega)]
  exact h c c' c0 c1 d0 d1 ne p
def exC (F : Int → Int) (g : Int) (n k : Nat) : Bool := decide (∃ c : Nat, c < n ∧ F (4 * g + c) = 10 + (k : Int))
theorem exC_iff {F : Int → Int} {g : Int} {n k : Nat} : exC F g n k = true ↔ ∃ c : Nat, c < n ∧ F (4 * g + c) = 10 + (k : Int) := by
  unfold exC
  rw [decide_eq_true_iff]
theorem cnt_ex {F : Int → Int} {g : Int} {P : Int → Bool} (hF : ∀ c, 0 ≤ c → c < 4 → F (4 * g + c) = -4 ∨ (10 ≤ F (4 * g + c) ∧ F (4 * g + c) < 22)) (hD : FDs F g) : ∀ n : Nat, n ≤ 4 → sm (fun k => bI (exC F g n k.toNat = true ∧ P (10 + k) = true)) 12 = sm (fun c => bI (0 ≤ F (4 * g + c) ∧ P (F (4 * g + c)) = true)) n
  | 0, _ => by
    show _ = (0 : Int)
    rw [sm_ext (a := 0) 12 (by omega) (fun k _ _ => bI_f (fun z => by obtain ⟨c, c1, _⟩ := exC_iff.mp z.1; omega))]
    rfl
  | n + 1, hn => by
    have ih := cnt_ex (P := P) hF hD n (by omega)
    have hc := hF n (by omega) (by omega)
    show _ = sm (fun c => bI (0 ≤ F (4 * g + c) ∧ P (F (4 * g + c)) = true)) n + bI (0 ≤ F (4 * g + n) ∧ P (F (4 * g + n)) = true)
    rw [← ih]
    by_cases e : F (4 * g + n) = -4
    · rw [bI_f (fun z => by omega), sm_c (g := fun k => bI (exC F g n k.toNat = true ∧ P (10 + k) = true)) (fun k hk => ?_)]
      · omega
      · have : exC F g (n + 1) ((k : Int)).toNat = exC F g n ((k : Int)).toNat := by
          rw [Bool.eq_iff_iff, exC_iff, exC_iff]
          constructor
          · rintro ⟨c, c1, c2⟩
            by_cases ec : c = n
            · subst ec; omega
            · exact ⟨c, by omega, c2⟩
          · rintro ⟨c, c1, c2⟩; exact ⟨c, by omega, c2⟩
        rw [this]
    · have hc := hc.resolve_left e
      obtain ⟨k0, hk0⟩ : ∃ k0 : Nat, F (4 * g + n) = 10 + (k0 : Int) := ⟨(F (4 * g + n) - 10).toNat, by omega⟩
      rw [sm_pt (f' := fun k => bI (exC F g n k.toNat = true ∧ P (10 + k) = true)) (k0 := k0) (fun k hk => ?_) 12 (by omega)]
      · have x1 : exC F g (n + 1) ((k0 : Int)).toNat = true := exC_iff.mpr ⟨n, by omega, by rw [hk0]; omega⟩
        have x2 : ¬ exC F g n ((k0 : Int)).toNat = true := fun z => by
          obtain ⟨c, c1, c2⟩ := exC_iff.mp z
          refine hD n c (by omega) (by omega) (by omega) (by omega) (by omega) (by omega) ?_
          rw [c2, hk0]; omega
        rw [bI_f (c := exC F g n ((k0 : Int)).toNat = true ∧ P (10 + (k0 : Int)) = true) (fun z => x2 z.1)]
        by_cases hp : P (10 + (k0 : Int)) = true
        · rw [bI_t ⟨x1, hp⟩, bI_t ⟨by omega, by rw [hk0]; exact hp⟩]; omega
        · rw [bI_f (fun z => hp z.2), bI_f (fun z => hp (by rw [← hk0]; exact z.2))]; omega
      · have : exC F g (n + 1) ((k : Int)).toNat = exC F g n ((k : Int)).toNat := by
          rw [Bool.eq_iff_iff, exC_iff, exC_iff]
          constructor
          · rintro ⟨c, c1, c2⟩
            by_cases ec : c = n
            · subst ec; omega
            · exact ⟨c, by omega, c2⟩
          · rintro ⟨c, c1, c2⟩; exact ⟨c, by omega, c2⟩
        rw [this]
/-- bits of a set of copies, counted by copies -/
theorem cnt4 {F : Int → Int} {g M : Int} {P : Int → Bool} (hF : FdI F) (hg : 0 ≤ g ∧ g < 16) (hD : FDs F g) (hM : Ms M) (hb : ∀ k : Nat, k < 12 → (tb M k = true ↔ hasB F g (10 + (k : Int)) = true ∧ P (10 + (k : Int)) = true)) : bts M = sm (fun c => bI (0 ≤ F (4 * g + c) ∧ P (F (4 * g + c)) = true)) 4 := by
  rw [bts_tb hM, ← cnt_ex (P := P) (hF.g hg.1 hg.2) hD 4 (by omega)]
  refine sm_c (fun k hk => ?_)
  have e1 : tb M ((k : Int)).toNat = true ↔ (exC F g 4 ((k : Int)).toNat = true ∧ P (10 + (k : Int)) = true) := by
    rw [show ((k : Int)).toNat = k by omega, hb k hk, hasB_iff, exC_iff]
    constructor
    · rintro ⟨⟨c, c0, c1, c2⟩, p⟩; exact ⟨⟨c.toNat, by omega, by rw [show ((c.toNat : Nat) : Int) = c by omega]; exact c2⟩, p⟩
    · rintro ⟨⟨c, c1, c2⟩, p⟩; exact ⟨⟨c, by omega, by omega, c2⟩, p⟩
  by_cases z : tb M ((k : Int)).toNat = true
  · rw [bI_t z, bI_t (e1.mp z)]
  · rw [bI_f z, bI_f (fun y => z (e1.mpr y))]
theorem pb_M {F : Int → Int} {g : Int} (hF : FdI F) (hg : 0 ≤ g ∧ g < 16) : Ms (pb F g) := pb_12 (hF.g hg.1 hg.2)
theorem cnt_N {F T : Int → Int} {g : Int} (hF : FdI F) (hT : FdI T) (hg : 0 ≤ g ∧ g < 16) (hD : FDs F g) : bts (iA (pb F g) (iX (pb T g) (-1))) = sm (ncF F T g) 4 := by
  rw [cnt4 (P := fun d => !hasB T g d) hF hg hD (Ms_An (pb_M hF hg) (pb_M hT hg)) (fun k hk => by
    rw [tb_An (pb_M hF hg).b (pb_M hT hg).b, Bool.and_eq_true, tb_pb (hF.g hg.1 hg.2), tb_pb (hT.g hg.1 hg.2)])]
  refine sm_c (fun k hk => ?_)
  unfold ncF
  simp only [Bool.not_eq_true', Bool.not_eq_true]
theorem cnt_S {F T : Int → Int} {g : Int} (hF : FdI F) (hT : FdI T) (hg : 0 ≤ g ∧ g < 16) (hD : FDs F g) : bts (iA (pb F g) (pb T g)) = sm (scF F T g) 4 := by
  rw [cnt4 (P := fun d => hasB T g d) hF hg hD (Ms_A (pb_M hF hg) (pb_M hT hg)) (fun k hk => by
    rw [tb_A (pb_M hF hg).b (pb_M hT hg).b, Bool.and_eq_true, tb_pb (hF.g hg.1 hg.2), tb_pb (hT.g hg.1 hg.2)])]
  rfl
theorem alq_cc {f t f' t' : Int → Int} (h : ∀ j, 0 ≤ j → j < 64 → t j = t' j) (h2 : ∀ j, 0 ≤ j → j < 64 → f j = f' j) {g : Int} (hg : 0 ≤ g ∧ g < 16) : ∀ c : Nat, c ≤ 4 → alq f t g c = alq f' t' g c
  | 0, _ => rfl
  | c + 1, hc => by
    show (alq f t g c && decide (f (4 * g + c) = t (4 * g + c))) = (alq f' t' g c && decide (f' (4 * g + c) = t' (4 * g + c)))
    rw [alq_cc h h2 hg c (by omega), h _ (by omega) (by omega), h2 _ (by omega) (by omega)]
theorem fu_cnt {x : Int} {mp : Int → Int} (h : FuM x mp) (hT : TrM mp) (hR : RlM mp) : bts x = sm (fun k => mp (88 + (10 + k))) (mp 130).toNat := by
  have t3 := hT.2.2.1
  have r6 := hR.2.2.2.2.2.1
  rw [bts_tb h.1, sm_ext (a := (mp 130).toNat) 12 (by omega) (fun k k0 k1 => bI_f (fun z => by
    rw [h.2, decide_eq_true_iff] at z
    omega))]
  refine sm_c (fun k hk => ?_)
  have x6 := r6 (10 + (k : Int)) (by omega) (by omega)
  have e : tb x ((k : Int)).toNat = true ↔ mp (88 + (10 + (k : Int))) = 1 := by
    rw [h.2, decide_eq_true_iff, show ((((k : Int)).toNat : Nat) : Int) = k by omega]
    exact ⟨fun z => z.2, fun z => ⟨by omega, z⟩⟩
  by_cases z : mp (88 + (10 + (k : Int))) = 1
  · rw [bI_t (e.mpr z), z]
  · rw [bI_f (fun y => z (e.mp y))]; omega
theorem dX7_since_0 : decode cX7_since 0 = .ok (.iload_n 2, 1) := by decide +kernel
theorem dX7_since_1 : decode cX7_since 1 = .ok (.ifCond .lt 8, 3) := by decide +kernel
theorem dX7_since_4 : decode cX7_since 4 = .ok (.iload_n 2, 1) := by decide +kernel
theorem dX7_since_5 : decode cX7_since 5 = .ok (.iconst 2, 1) := by decide +kernel
theorem dX7_since_6 : decode cX7_since 6 = .ok (.if_icmp .le 5, 3) := by decide +kernel
theorem dX7_since_9 : decode cX7_since 9 = .ok (.iconst (-1), 1) := by decide +kernel
theorem dX7_since_10 : decode cX7_since 10 = .ok (.ireturn, 1) := by decide +kernel
theorem dX7_since_11 : decode cX7_since 11 = .ok (.aload_n 0, 1) := by decide +kernel
theorem dX7_since_12 : decode cX7_since 12 = .ok (.iload_n 1, 1) := by decide +kernel
theorem dX7_since_13 : decode cX7_since 13 = .ok (.invokevirtual 221, 3) := by decide +kernel
theorem dX7_since_16 : decode cX7_since 16 = .ok (.astore_n 3, 1) := by decide +kernel
theorem dX7_since_17 : decode cX7_since 17 = .ok (.aload_n 3, 1) := by decide +kernel
theorem dX7_since_18 : decode cX7_since 18 = .ok (.ifnonnull 6, 3) := by decide +kernel
theorem dX7_since_21 : decode cX7_since 21 = .ok (.bipush (-4), 2) := by decide +kernel
theorem dX7_since_23 : decode cX7_since 23 = .ok (.ireturn, 1) := by decide +kernel
theorem dX7_since_24 : decode cX7_since 24 = .ok (.iconst 0, 1) := by decide +kernel
theorem dX7_since_25 : decode cX7_since 25 = .ok (.istore 4, 2) := by decide +kernel
theorem dX7_since_27 : decode cX7_since 27 = .ok (.iconst 0, 1) := by decide +kernel
theorem dX7_since_28 : decode cX7_since 28 = .ok (.istore 5, 2) := by decide +kernel
theorem dX7_since_30 : decode cX7_since 30 = .ok (.iconst 0, 1) := by decide +kernel
theorem dX7_since_31 : decode cX7_since 31 = .ok (.istore 6, 2) := by decide +kernel
theorem dX7_since_33 : decode cX7_since 33 = .ok (.iconst 0, 1) := by decide +kernel
theorem dX7_since_34 : decode cX7_since 34 = .ok (.istore 7, 2) := by decide +kernel
theorem dX7_since_36 : decode cX7_since 36 = .ok (.iload 7, 2) := by decide +kernel
theorem dX7_since_38 : decode cX7_since 38 = .ok (.bipush 16, 2) := by decide +kernel
theorem dX7_since_40 : decode cX7_since 40 = .ok (.if_icmp .ge 85, 3) := by decide +kernel
theorem dX7_since_43 : decode cX7_since 43 = .ok (.iload 4, 2) := by decide +kernel
theorem dX7_since_45 : decode cX7_since 45 = .ok (.aload_n 0, 1) := by decide +kernel
theorem dX7_since_46 : decode cX7_since 46 = .ok (.getfield 51, 3) := by decide +kernel
theorem dX7_since_49 : decode cX7_since 49 = .ok (.getfield 259, 3) := by decide +kernel
theorem dX7_since_52 : decode cX7_since 52 = .ok (.iload 7, 2) := by decide +kernel
theorem dX7_since_54 : decode cX7_since 54 = .ok (.iaload, 1) := by decide +kernel
theorem dX7_since_55 : decode cX7_since 55 = .ok (.aload_n 3, 1) := by decide +kernel
theorem dX7_since_56 : decode cX7_since 56 = .ok (.getfield 259, 3) := by decide +kernel
theorem dX7_since_59 : decode cX7_since 59 = .ok (.iload 7, 2) := by decide +kernel
theorem dX7_since_61 : decode cX7_since 61 = .ok (.iaload, 1) := by decide +kernel
theorem dX7_since_62 : decode cX7_since 62 = .ok (.iconst (-1), 1) := by decide +kernel
theorem dX7_since_63 : decode cX7_since 63 = .ok (.ixor, 1) := by decide +kernel
theorem dX7_since_64 : decode cX7_since 64 = .ok (.iand, 1) := by decide +kernel
theorem dX7_since_65 : decode cX7_since 65 = .ok (.invokestatic 167, 3) := by decide +kernel
theorem dX7_since_68 : decode cX7_since 68 = .ok (.iadd, 1) := by decide +kernel
theorem dX7_since_69 : decode cX7_since 69 = .ok (.istore 4, 2) := by decide +kernel
theorem dX7_since_71 : decode cX7_since 71 = .ok (.iload 5, 2) := by decide +kernel
theorem dX7_since_73 : decode cX7_since 73 = .ok (.aload_n 0, 1) := by decide +kernel
theorem dX7_since_74 : decode cX7_since 74 = .ok (.getfield 51, 3) := by decide +kernel
theorem dX7_since_77 : decode cX7_since 77 = .ok (.getfield 259, 3) := by decide +kernel
theorem dX7_since_80 : decode cX7_since 80 = .ok (.iload 7, 2) := by decide +kernel
theorem dX7_since_82 : decode cX7_since 82 = .ok (.iaload, 1) := by decide +kernel
theorem dX7_since_83 : decode cX7_since 83 = .ok (.aload_n 3, 1) := by decide +kernel
theorem dX7_since_84 : decode cX7_since 84 = .ok (.getfield 259, 3) := by decide +kernel
theorem dX7_since_87 : decode cX7_since 87 = .ok (.iload 7, 2) := by decide +kernel
theorem dX7_since_89 : decode cX7_since 89 = .ok (.iaload, 1) := by decide +kernel
theorem dX7_since_90 : decode cX7_since 90 = .ok (.iand, 1) := by decide +kernel
theorem dX7_since_91 : decode cX7_since 91 = .ok (.invokestatic 167, 3) := by decide +kernel
theorem dX7_since_94 : decode cX7_since 94 = .ok (.iadd, 1) := by decide +kernel
theorem dX7_since_95 : decode cX7_since 95 = .ok (.istore 5, 2) := by decide +kernel
theorem dX7_since_97 : decode cX7_since 97 = .ok (.aload_n 0, 1) := by decide +kernel
theorem dX7_since_98 : decode cX7_since 98 = .ok (.getfield 51, 3) := by decide +kernel
theorem dX7_since_101 : decode cX7_since 101 = .ok (.aload_n 3, 1) := by decide +kernel
theorem dX7_since_102 : decode cX7_since 102 = .ok (.iload 7, 2) := by decide +kernel
theorem dX7_since_104 : decode cX7_since 104 = .ok (.invokevirtual 268, 3) := by decide +kernel
theorem dX7_since_107 : decode cX7_since 107 = .ok (.ifCond .eq 12, 3) := by decide +kernel
theorem dX7_since_110 : decode cX7_since 110 = .ok (.iload 6, 2) := by decide +kernel
theorem dX7_since_112 : decode cX7_since 112 = .ok (.iconst 1, 1) := by decide +kernel
theorem dX7_since_113 : decode cX7_since 113 = .ok (.iload 7, 2) := by decide +kernel
theorem dX7_since_115 : decode cX7_since 115 = .ok (.ishl, 1) := by decide +kernel
theorem dX7_since_116 : decode cX7_since 116 = .ok (.ior, 1) := by decide +kernel
theorem dX7_since_117 : decode cX7_since 117 = .ok (.istore 6, 2) := by decide +kernel
theorem dX7_since_119 : decode cX7_since 119 = .ok (.iinc 7 1, 3) := by decide +kernel
theorem dX7_since_122 : decode cX7_since 122 = .ok (.goto (-86), 3) := by decide +kernel
theorem dX7_since_125 : decode cX7_since 125 = .ok (.iload_n 2, 1) := by decide +kernel
theorem dX7_since_126 : decode cX7_since 126 = .ok (.ifCond .ne 8, 3) := by decide +kernel
theorem dX7_since_129 : decode cX7_since 129 = .ok (.iload 4, 2) := by decide +kernel
theorem dX7_since_131 : decode cX7_since 131 = .ok (.goto 15, 3) := by decide +kernel
theorem dX7_since_134 : decode cX7_since 134 = .ok (.iload_n 2, 1) := by decide +kernel
theorem dX7_since_135 : decode cX7_since 135 = .ok (.iconst 1, 1) := by decide +kernel
theorem dX7_since_136 : decode cX7_since 136 = .ok (.if_icmp .ne 8, 3) := by decide +kernel
theorem dX7_since_139 : decode cX7_since 139 = .ok (.iload 5, 2) := by decide +kernel
theorem dX7_since_141 : decode cX7_since 141 = .ok (.goto 5, 3) := by decide +kernel
theorem dX7_since_144 : decode cX7_since 144 = .ok (.iload 6, 2) := by decide +kernel
theorem dX7_since_146 : decode cX7_since 146 = .ok (.ireturn, 1) := by decide +kernel
set_option maxHeartbeats 4000000 in
set_option maxRecDepth 20000 in
theorem c_X7_since : ConI mX7_since (fun args N lay r h Q => ∃ (c : Nat) (q : Int → Nat) (n : Int) (tx : Int → Int) (ep : Int) (km : Int → Int → Int) (mp F : Int → Int) (ux : Int) (sz ho : Int → Int) (sn : Int) (row : Int → Int) (e k : Int), args = [.ref c, vI e, vI k] ∧ CI lay r h c q n tx ep km mp F ux sz ho sn row ∧ (-2147483648 ≤ e ∧ e < 2147483648) ∧ (-2147483648 ≤ k ∧ k < 2147483648) ∧ (¬ (0 ≤ k ∧ k ≤ 2) → Q (-1) N lay r h) ∧ ((0 ≤ k ∧ k ≤ 2) → (¬ (1 ≤ e ∧ e ≤ ep ∧ ep - e < 5) → Q (-4) N lay r h) ∧ ((1 ≤ e ∧ e ≤ ep ∧ ep - e < 5) → (k = 0 → Q (snN F (plr (km (ep - e)))) N lay r h) ∧ (k = 1 → Q (snS F (plr (km (ep - e)))) N lay r h) ∧ (k = 2 → Q (snA F (plr (km (ep - e)))) N lay r h)))) := by
  refine ConI.of (by decide) (by rintro _ N lay r h Q ⟨c, q, n, tx, ep, km, mp, F, ux, sz, ho, sn, row, e, k, rfl, hI, h_e, h_k, hB, hQ⟩; exact ⟨rfl, Nat.le_of_ble_eq_true rfl⟩) ?_
  rintro E _ N lay r h Q ⟨c, q, n, tx, ep, km, mp, F, ux, sz, ho, sn, row, e, k, rfl, hI, h_e, h_k, hB, hQ⟩ hret
  obtain ⟨hC, hLt, ⟨hCT, htx⟩, hSK, ⟨he8, hep⟩, hkm, ⟨hk0, h130⟩, hF0, ⟨hDa, hMk, hsz⟩, ⟨hOb, hSe⟩⟩ := id hI
  obtain ⟨cl0, cl6, ⟨cr0, cr1, cr2, cr3, cr4, cr5, cr6⟩, cT, cS, cP, cD, cE, cO⟩ := id hC
  obtain ⟨lr7, lr6, lpl, lrg, ldj⟩ := id hLt
  have hP0 := hkm 0 (by omega) (by omega) (by omega)
  rw [hk0] at hP0
  obtain ⟨hT, hR, hN, hW, hL, hPS⟩ := id hP0
  have hA := lpl 0 (by omega) (by omega)
  have q0r := lrg 0 (by omega) (by omega)
  obtain ⟨pl0, pl1, pl2, pl3, pl4, pl5, pl6, pl7, pl8, pl9, pl10, pl11, pl12, pl13, pr0, pr1, pr2, pr3, pr9, pr10, pr11, qr3, qr4, vr1, vr2, vr3, vr4⟩ := id hA
  obtain ⟨⟨n0, n1, n2⟩, up1, up2, uw, u0, uh⟩ := id hN
  obtain ⟨t1, t2, t3, t4, t5, t6, t7⟩ := id hT
  have hFI : FdI F := fun j j0 j1 => by rw [← hF0 j j0 j1]; exact FdI_plr hT hR j j0 j1
  have hp1 : ∀ j, 0 ≤ j → j < 64 → h (q 0 + 11) j = F j := fun j j0 j1 => (hPS.1 j j0 j1).trans (hF0 j j0 j1)
  have hp2 : ∀ g, 0 ≤ g → g < 16 → h (q 0 + 13) g = pb F g := fun g g0 g1 => (hPS.2.2.1 g g0 g1).trans (pb_c ⟨g0, g1⟩ hF0)
  have hFD : ∀ g, 0 ≤ g ∧ g < 16 → FDs F g := fun g hg => (FDs_plr g).c hg hF0
  show St E mX7_since 0 [some (.ref c), some (vI e), some (vI k), none, none, none, none, none] [] (0, 0) N lay r h
  refine r_iload_2 (pc := 0) dX7_since_0 ?_
  refine r_if_lt (pc := 1) (tgt := 9) dX7_since_1 (by decide) (by omega) (fun c_1 => ?_) (fun c_1 => ?_)
  · refine r_iconst (pc := 9) dX7_since_9 ?_
    refine r_iret (pc := 10) hret dX7_since_10 rfl rfl rfl ?_
    exact hB (by omega)
  · refine r_iload_2 (pc := 4) dX7_since_4 ?_
    refine r_iconst (pc := 5) dX7_since_5 ?_
    refine r_icmp_le (pc := 6) (tgt := 11) dX7_since_6 (by decide) (by omega) (by omega) (fun c_6 => ?_) (fun c_6 => ?_)
    · refine r_aload_0 (pc := 11) dX7_since_11 ?_
      refine r_iload_1 (pc := 12) dX7_since_12 ?_
      refine k_VQ1 (pc := 13) c_X7_planOf lk_X7_221 ⟨Nat.le_of_ble_eq_true rfl, Nat.le_of_ble_eq_true rfl⟩ ⟨rfl, rfl⟩ ⟨Nat.le_of_ble_eq_true rfl, Nat.le_of_ble_eq_true rfl⟩ (k := 7) rfl (by decide) (by assumption) dX7_since_13 (Nat.le_of_ble_eq_true rfl) ?_
      refine ⟨_, q, _, rfl, hC, hLt, by omega, fun g_13 => ?_, fun g_13 => ?_⟩
      · refine r_astoreN_3 (pc := 16) dX7_since_16 rfl ?_
        refine r_aloadN_3 (pc := 17) dX7_since_17 ?_
        refine r_ifnonnullN (pc := 18) dX7_since_18 ?_
        refine r_bipush (pc := 21) dX7_since_21 (by decide) ?_
        refine r_iret (pc := 23) hret dX7_since_23 rfl rfl rfl ?_
        exact (hQ (by omega)).1 (by omega)
      · have pe := lpl (h c 8 - e) (by omega) (by omega)
        have pm := hkm (h c 8 - e) (by omega) (by omega) (by omega)
        obtain ⟨yl0, yl13, yr11⟩ : lay (q (h c 8 - e)) = (4, 0) ∧ lay (q (h c 8 - e) + 13) = (10, 16) ∧ r (q (h c 8 - e)) 11 = some (q (h c 8 - e) + 13) := by
          obtain ⟨z0, z1, z2, z3, z4, z5, z6, z7, z8, z9, z10, z11, z12, z13, w0, w1, w2, w3, w9, w10, w11, _⟩ := pe
          exact ⟨z0, z13, w11⟩
        obtain ⟨T, hTd⟩ : ∃ T, T = plr (km (h c 8 - e)) := ⟨_, rfl⟩
        have hTI : FdI T := by rw [hTd]; exact FdI_plr pm.1 pm.2.1
        have hT1 : ∀ j, 0 ≤ j → j < 64 → h (q (h c 8 - e) + 11) j = T j := by rw [hTd]; exact pm.2.2.2.2.2.1
        have hT2 : ∀ g, 0 ≤ g → g < 16 → h (q (h c 8 - e) + 13) g = pb T g := by rw [hTd]; exact pm.2.2.2.2.2.2.2.1
        have lp : ∀ (n_ : Nat) (g : Int) (a : Int) (b : Int) (s : Int), (16 - g).toNat = n_ → (0 ≤ g ∧ g ≤ 16) → (a = sm (fun g => sm (ncF F T g) 4) g.toNat) → (b = sm (fun g => sm (scF F T g) 4) g.toNat) → (s = sm (fun g => if alq F T g 4 = true then iSl 1 g else 0) g.toNat) → St E mX7_since 36 [some (.ref c), some (vI e), some (vI k), some (.ref (q (h c 8 - e))), some (vI a), some (vI b), some (vI s), some (vI g)] [] (0, 0) N lay r h := by
          intro  n_
          induction n_ using Nat.strongRecOn with
          | ind n_ ih =>
            intro g a b s hn_ hg ha hb hs
            refine r_iload_7 (pc := 36) dX7_since_36 ?_
            refine r_bipush (pc := 38) dX7_since_38 (by decide) ?_
            refine r_icmp_ge (pc := 40) (tgt := 125) dX7_since_40 (by decide) (by omega) (by omega) (fun c_40 => ?_) (fun c_40 => ?_)
            · refine r_iload_2 (pc := 125) dX7_since_125 ?_
              refine r_if_ne (pc := 126) (tgt := 134) dX7_since_126 (by decide) (by omega) (fun c_126 => ?_) (fun c_126 => ?_)
              · refine r_iload_2 (pc := 134) dX7_since_134 ?_
                refine r_iconst (pc := 135) dX7_since_135 ?_
                refine r_icmp_ne (pc := 136) (tgt := 144) dX7_since_136 (by decide) (by omega) (by omega) (fun c_136 => ?_) (fun c_136 => ?_)
                · refine r_iload_6 (pc := 144) dX7_since_144 ?_
                  refine r_iret (pc := 146) hret dX7_since_146 rfl rfl rfl ?_
                  have g9 : g = 16 := by omega
                  subst g9
                  have q9 := (hQ (by omega)).2 (by omega)
                  rw [he8] at hTd
                  rw [← hTd] at q9
                  first
                  | (have k9 : k = 0 := by omega
                     rw [ha]; exact q9.1 k9)
                  | (have k9 : k = 1 := by omega
                     rw [hb]; exact q9.2.1 k9)
                  | (have k9 : k = 2 := by omega
                     rw [hs]; exact q9.2.2 k9)
                · refine r_iload_5 (pc := 139) dX7_since_139 ?_
                  refine r_goto (pc := 141) (tgt := 146) dX7_since_141 (by decide) ?_
                  refine r_iret (pc := 146) hret dX7_since_146 rfl rfl rfl ?_
                  have g9 : g = 16 := by omega
                  subst g9
                  have q9 := (hQ (by omega)).2 (by omega)
                  rw [he8] at hTd
                  rw [← hTd] at q9
                  first
                  | (have k9 : k = 0 := by omega
                     rw [ha]; exact q9.1 k9)
                  | (have k9 : k = 1 := by omega
                     rw [hb]; exact q9.2.1 k9)
                  | (have k9 : k = 2 := by omega
                     rw [hs]; exact q9.2.2 k9)
              · refine r_iload_4 (pc := 129) dX7_since_129 ?_
                refine r_goto (pc := 131) (tgt := 146) dX7_since_131 (by decide) ?_
                refine r_iret (pc := 146) hret dX7_since_146 rfl rfl rfl ?_
                have g9 : g = 16 := by omega
                subst g9
                have q9 := (hQ (by omega)).2 (by omega)
                rw [he8] at hTd
                rw [← hTd] at q9
                first
                | (have k9 : k = 0 := by omega
                   rw [ha]; exact q9.1 k9)
                | (have k9 : k = 1 := by omega
                   rw [hb]; exact q9.2.1 k9)
                | (have k9 : k = 2 := by omega
                   rw [hs]; exact q9.2.2 k9)
            · have m1 := pb_M hFI (g := g) (by omega)
              have m2 := pb_M hTI (g := g) (by omega)
              have m3 : 0 ≤ iA (pb F g) (iX (pb T g) (-1)) ∧ iA (pb F g) (iX (pb T g) (-1)) < 4096 := Ms_An m1 m2
              have m4 : 0 ≤ iA (pb F g) (pb T g) ∧ iA (pb F g) (pb T g) < 4096 := Ms_A m1 m2
              refine r_iload_4 (pc := 43) dX7_since_43 ?_
              refine r_aload_0 (pc := 45) dX7_since_45 ?_
              refine gf_X7_51 (pc := 46) rfl (by assumption) dX7_since_46 (by assumption) ?_
              refine gf_X7_259 (pc := 49) rfl (by assumption) dX7_since_49 (by assumption) ?_
              refine r_iload_7 (pc := 52) dX7_since_52 ?_
              refine r_ialdE (pc := 54) (by assumption) (by first | assumption | exact rfl) dX7_since_54 (by omega) (by omega) (fun i_54 => ?_)
              rw [hp2 g (by omega) (by omega)] at i_54 ⊢
              refine r_aload_3 (pc := 55) dX7_since_55 ?_
              refine gf_X7_259 (pc := 56) rfl (by assumption) dX7_since_56 (by assumption) ?_
              refine r_iload_7 (pc := 59) dX7_since_59 ?_
              refine r_ialdE (pc := 61) (by assumption) (by first | assumption | exact rfl) dX7_since_61 (by omega) (by omega) (fun i_61 => ?_)
              rw [hT2 g (by omega) (by omega)] at i_61 ⊢
              refine r_iconst (pc := 62) dX7_since_62 ?_
              refine r_ixor (pc := 63) dX7_since_63 (fun i_63 => ?_)
              refine r_iand (pc := 64) dX7_since_64 (fun i_64 => ?_)
              refine k_SI1 (pc := 65) c_J6_bitCount_0f7a4 lk_X7_167 ⟨Nat.le_of_ble_eq_true rfl, Nat.le_of_ble_eq_true rfl⟩ ⟨rfl, rfl⟩ ⟨Nat.le_of_ble_eq_true rfl, Nat.le_of_ble_eq_true rfl⟩ dX7_since_65 (Nat.le_of_ble_eq_true rfl) ?_
              refine ⟨_, rfl, by omega, ?_⟩
              refine r_iadd (pc := 68) dX7_since_68 ?_
              refine r_istore_4 (pc := 69) dX7_since_69 rfl ?_
              refine r_iload_5 (pc := 71) dX7_since_71 ?_
              refine r_aload_0 (pc := 73) dX7_since_73 ?_
              refine gf_X7_51 (pc := 74) rfl (by assumption) dX7_since_74 (by assumption) ?_
              refine gf_X7_259 (pc := 77) rfl (by assumption) dX7_since_77 (by assumption) ?_
              refine r_iload_7 (pc := 80) dX7_since_80 ?_
              refine r_ialdE (pc := 82) (by assumption) (by first | assumption | exact rfl) dX7_since_82 (by omega) (by omega) (fun i_82 => ?_)
              rw [hp2 g (by omega) (by omega)] at i_82 ⊢
              refine r_aload_3 (pc := 83) dX7_since_83 ?_
              refine gf_X7_259 (pc := 84) rfl (by assumption) dX7_since_84 (by assumption) ?_
              refine r_iload_7 (pc := 87) dX7_since_87 ?_
              refine r_ialdE (pc := 89) (by assumption) (by first | assumption | exact rfl) dX7_since_89 (by omega) (by omega) (fun i_89 => ?_)
              rw [hT2 g (by omega) (by omega)] at i_89 ⊢
              refine r_iand (pc := 90) dX7_since_90 (fun i_90 => ?_)
              refine k_SI1 (pc := 91) c_J6_bitCount_0f7a4 lk_X7_167 ⟨Nat.le_of_ble_eq_true rfl, Nat.le_of_ble_eq_true rfl⟩ ⟨rfl, rfl⟩ ⟨Nat.le_of_ble_eq_true rfl, Nat.le_of_ble_eq_true rfl⟩ dX7_since_91 (Nat.le_of_ble_eq_true rfl) ?_
              refine ⟨_, rfl, by omega, ?_⟩
              refine r_iadd (pc := 94) dX7_since_94 ?_
              refine r_istore_5 (pc := 95) dX7_since_95 rfl ?_
              refine r_aload_0 (pc := 97) dX7_since_97 ?_
              refine gf_X7_51 (pc := 98) rfl (by assumption) dX7_since_98 (by assumption) ?_
              refine r_aload_3 (pc := 101) dX7_since_101 ?_
              refine r_iload_7 (pc := 102) dX7_since_102 ?_
              refine k_VI2 (pc := 104) c_X3_hasSameCopies lk_X7_268 ⟨Nat.le_of_ble_eq_true rfl, Nat.le_of_ble_eq_true rfl⟩ ⟨rfl, rfl⟩ ⟨Nat.le_of_ble_eq_true rfl, Nat.le_of_ble_eq_true rfl⟩ (k := 3) rfl (by decide) (by assumption) dX7_since_104 (Nat.le_of_ble_eq_true rfl) ?_
              refine ⟨_, _, _, rfl, hA, pe, by omega, ?_⟩
              refine r_ifeq_b (pc := 107) (tgt := 119) dX7_since_107 (by decide) (fun c_107 => ?_) (fun c_107 => ?_)
              · refine r_iinc_7 (pc := 119) dX7_since_119 rfl ?_
                refine r_goto (pc := 122) (tgt := 36) dX7_since_122 (by decide) ?_
                have ha2 : a + bts (iA (pb F g) (iX (pb T g) (-1))) = sm (fun g => sm (ncF F T g) 4) (g + 1).toNat := by rw [sm_z hg.1, cnt_N hFI hTI (by omega) (hFD g (by omega)), ha]
                have hb2 : b + bts (iA (pb F g) (pb T g)) = sm (fun g => sm (scF F T g) 4) (g + 1).toNat := by rw [sm_z hg.1, cnt_S hFI hTI (by omega) (hFD g (by omega)), hb]
                have al := alq_cc (f := h (q 0 + 11)) (t := h (q (h c 8 - e) + 11)) hT1 hp1 (g := g) (by omega) 4 (by omega)
                first
                | (have k9 : alq (h (q 0 + 11)) (h (q (h c 8 - e) + 11)) g 4 = true := c_107
                   exact ih _ (by omega) (g + 1) _ _ _ rfl (by omega) ha2 hb2 (by rw [← smb_t (P := fun g => alq F T g 4 = true) (by omega) (by rw [← al]; exact k9), ← hs]))
                | (have k9 : ¬ alq (h (q 0 + 11)) (h (q (h c 8 - e) + 11)) g 4 = true := c_107
                   exact ih _ (by omega) (g + 1) _ _ _ rfl (by omega) ha2 hb2 (by rw [← smb_f (P := fun g => alq F T g 4 = true) (by omega) (by rw [← al]; exact k9)]; exact hs))
              · refine r_iload_6 (pc := 110) dX7_since_110 ?_
                refine r_iconst (pc := 112) dX7_since_112 ?_
                refine r_iload_7 (pc := 113) dX7_since_113 ?_
                refine r_ishl (pc := 115) dX7_since_115 (fun i_115 => ?_)
                refine r_ior (pc := 116) dX7_since_116 (fun i_116 => ?_)
                refine r_istore_6 (pc := 117) dX7_since_117 rfl ?_
                refine r_iinc_7 (pc := 119) dX7_since_119 rfl ?_
                refine r_goto (pc := 122) (tgt := 36) dX7_since_122 (by decide) ?_
                have ha2 : a + bts (iA (pb F g) (iX (pb T g) (-1))) = sm (fun g => sm (ncF F T g) 4) (g + 1).toNat := by rw [sm_z hg.1, cnt_N hFI hTI (by omega) (hFD g (by omega)), ha]
                have hb2 : b + bts (iA (pb F g) (pb T g)) = sm (fun g => sm (scF F T g) 4) (g + 1).toNat := by rw [sm_z hg.1, cnt_S hFI hTI (by omega) (hFD g (by omega)), hb]
                have al := alq_cc (f := h (q 0 + 11)) (t := h (q (h c 8 - e) + 11)) hT1 hp1 (g := g) (by omega) 4 (by omega)
                first
                | (have k9 : alq (h (q 0 + 11)) (h (q (h c 8 - e) + 11)) g 4 = true := c_107
                   exact ih _ (by omega) (g + 1) _ _ _ rfl (by omega) ha2 hb2 (by rw [← smb_t (P := fun g => alq F T g 4 = true) (by omega) (by rw [← al]; exact k9), ← hs]))
                | (have k9 : ¬ alq (h (q 0 + 11)) (h (q (h c 8 - e) + 11)) g 4 = true := c_107
                   exact ih _ (by omega) (g + 1) _ _ _ rfl (by omega) ha2 hb2 (by rw [← smb_f (P := fun g => alq F T g 4 = true) (by omega) (by rw [← al]; exact k9)]; exact hs))
        refine r_astore_3 (pc := 16) dX7_since_16 rfl ?_
        refine r_aload_3 (pc := 17) dX7_since_17 ?_
        refine r_ifnonnull (pc := 18) (tgt := 24) dX7_since_18 (by decide) ?_
        refine r_iconst (pc := 24) dX7_since_24 ?_
        refine r_istore_4 (pc := 25) dX7_since_25 rfl ?_
        refine r_iconst (pc := 27) dX7_since_27 ?_
        refine r_istore_5 (pc := 28) dX7_since_28 rfl ?_
        refine r_iconst (pc := 30) dX7_since_30 ?_
        refine r_istore_6 (pc := 31) dX7_since_31 rfl ?_
        refine r_iconst (pc := 33) dX7_since_33 ?_
        refine r_istore_7 (pc := 34) dX7_since_34 rfl ?_
        exact lp _ 0 0 0 0 rfl (by omega) rfl rfl rfl
    · refine r_iconst (pc := 9) dX7_since_9 ?_
      refine r_iret (pc := 10) hret dX7_since_10 rfl rfl rfl ?_
      exact hB (by omega)

theorem dX7_count_0 : decode cX7_count 0 = .ok (.iload_n 1, 1) := by decide +kernel
theorem dX7_count_1 : decode cX7_count 1 = .ok (.tableswitch 239 0 16 #[83, 94, 105, 116, 124, 132, 140, 148, 159, 164, 173, 184, 195, 203, 211, 223, 231], 83) := by decide +kernel
theorem dX7_count_84 : decode cX7_count 84 = .ok (.aload_n 0, 1) := by decide +kernel
theorem dX7_count_85 : decode cX7_count 85 = .ok (.getfield 51, 3) := by decide +kernel
theorem dX7_count_88 : decode cX7_count 88 = .ok (.getfield 84, 3) := by decide +kernel
theorem dX7_count_91 : decode cX7_count 91 = .ok (.getfield 327, 3) := by decide +kernel
theorem dX7_count_94 : decode cX7_count 94 = .ok (.ireturn, 1) := by decide +kernel
theorem dX7_count_95 : decode cX7_count 95 = .ok (.aload_n 0, 1) := by decide +kernel
theorem dX7_count_96 : decode cX7_count 96 = .ok (.getfield 51, 3) := by decide +kernel
theorem dX7_count_99 : decode cX7_count 99 = .ok (.getfield 84, 3) := by decide +kernel
theorem dX7_count_102 : decode cX7_count 102 = .ok (.getfield 205, 3) := by decide +kernel
theorem dX7_count_105 : decode cX7_count 105 = .ok (.ireturn, 1) := by decide +kernel
theorem dX7_count_106 : decode cX7_count 106 = .ok (.aload_n 0, 1) := by decide +kernel
theorem dX7_count_107 : decode cX7_count 107 = .ok (.getfield 51, 3) := by decide +kernel
theorem dX7_count_110 : decode cX7_count 110 = .ok (.getfield 84, 3) := by decide +kernel
theorem dX7_count_113 : decode cX7_count 113 = .ok (.getfield 88, 3) := by decide +kernel
theorem dX7_count_116 : decode cX7_count 116 = .ok (.ireturn, 1) := by decide +kernel
theorem dX7_count_117 : decode cX7_count 117 = .ok (.aload_n 0, 1) := by decide +kernel
theorem dX7_count_118 : decode cX7_count 118 = .ok (.getfield 51, 3) := by decide +kernel
theorem dX7_count_121 : decode cX7_count 121 = .ok (.getfield 190, 3) := by decide +kernel
theorem dX7_count_124 : decode cX7_count 124 = .ok (.ireturn, 1) := by decide +kernel
theorem dX7_count_125 : decode cX7_count 125 = .ok (.aload_n 0, 1) := by decide +kernel
theorem dX7_count_126 : decode cX7_count 126 = .ok (.getfield 51, 3) := by decide +kernel
theorem dX7_count_129 : decode cX7_count 129 = .ok (.getfield 193, 3) := by decide +kernel
theorem dX7_count_132 : decode cX7_count 132 = .ok (.ireturn, 1) := by decide +kernel
theorem dX7_count_133 : decode cX7_count 133 = .ok (.aload_n 0, 1) := by decide +kernel
theorem dX7_count_134 : decode cX7_count 134 = .ok (.getfield 51, 3) := by decide +kernel
theorem dX7_count_137 : decode cX7_count 137 = .ok (.getfield 196, 3) := by decide +kernel
theorem dX7_count_140 : decode cX7_count 140 = .ok (.ireturn, 1) := by decide +kernel
theorem dX7_count_141 : decode cX7_count 141 = .ok (.aload_n 0, 1) := by decide +kernel
theorem dX7_count_142 : decode cX7_count 142 = .ok (.getfield 51, 3) := by decide +kernel
theorem dX7_count_145 : decode cX7_count 145 = .ok (.getfield 330, 3) := by decide +kernel
theorem dX7_count_148 : decode cX7_count 148 = .ok (.ireturn, 1) := by decide +kernel
theorem dX7_count_149 : decode cX7_count 149 = .ok (.aload_n 0, 1) := by decide +kernel
theorem dX7_count_150 : decode cX7_count 150 = .ok (.getfield 51, 3) := by decide +kernel
theorem dX7_count_153 : decode cX7_count 153 = .ok (.getfield 123, 3) := by decide +kernel
theorem dX7_count_156 : decode cX7_count 156 = .ok (.getfield 127, 3) := by decide +kernel
theorem dX7_count_159 : decode cX7_count 159 = .ok (.ireturn, 1) := by decide +kernel
theorem dX7_count_160 : decode cX7_count 160 = .ok (.aload_n 0, 1) := by decide +kernel
theorem dX7_count_161 : decode cX7_count 161 = .ok (.getfield 225, 3) := by decide +kernel
theorem dX7_count_164 : decode cX7_count 164 = .ok (.ireturn, 1) := by decide +kernel
theorem dX7_count_165 : decode cX7_count 165 = .ok (.aload_n 0, 1) := by decide +kernel
theorem dX7_count_166 : decode cX7_count 166 = .ok (.getfield 225, 3) := by decide +kernel
theorem dX7_count_169 : decode cX7_count 169 = .ok (.iconst 5, 1) := by decide +kernel
theorem dX7_count_170 : decode cX7_count 170 = .ok (.invokestatic 333, 3) := by decide +kernel
theorem dX7_count_173 : decode cX7_count 173 = .ok (.ireturn, 1) := by decide +kernel
theorem dX7_count_174 : decode cX7_count 174 = .ok (.aload_n 0, 1) := by decide +kernel
theorem dX7_count_175 : decode cX7_count 175 = .ok (.getfield 37, 3) := by decide +kernel
theorem dX7_count_178 : decode cX7_count 178 = .ok (.getfield 284, 3) := by decide +kernel
theorem dX7_count_181 : decode cX7_count 181 = .ok (.invokestatic 167, 3) := by decide +kernel
theorem dX7_count_184 : decode cX7_count 184 = .ok (.ireturn, 1) := by decide +kernel
theorem dX7_count_185 : decode cX7_count 185 = .ok (.aload_n 0, 1) := by decide +kernel
theorem dX7_count_186 : decode cX7_count 186 = .ok (.getfield 51, 3) := by decide +kernel
theorem dX7_count_189 : decode cX7_count 189 = .ok (.getfield 164, 3) := by decide +kernel
theorem dX7_count_192 : decode cX7_count 192 = .ok (.invokestatic 167, 3) := by decide +kernel
theorem dX7_count_195 : decode cX7_count 195 = .ok (.ireturn, 1) := by decide +kernel
theorem dX7_count_196 : decode cX7_count 196 = .ok (.aload_n 0, 1) := by decide +kernel
theorem dX7_count_197 : decode cX7_count 197 = .ok (.getfield 37, 3) := by decide +kernel
theorem dX7_count_200 : decode cX7_count 200 = .ok (.invokevirtual 313, 3) := by decide +kernel
theorem dX7_count_203 : decode cX7_count 203 = .ok (.ireturn, 1) := by decide +kernel
theorem dX7_count_204 : decode cX7_count 204 = .ok (.aload_n 0, 1) := by decide +kernel
theorem dX7_count_205 : decode cX7_count 205 = .ok (.getfield 37, 3) := by decide +kernel
theorem dX7_count_208 : decode cX7_count 208 = .ok (.invokevirtual 338, 3) := by decide +kernel
theorem dX7_count_211 : decode cX7_count 211 = .ok (.ireturn, 1) := by decide +kernel
theorem dX7_count_212 : decode cX7_count 212 = .ok (.aload_n 0, 1) := by decide +kernel
theorem dX7_count_213 : decode cX7_count 213 = .ok (.getfield 37, 3) := by decide +kernel
theorem dX7_count_216 : decode cX7_count 216 = .ok (.aload_n 0, 1) := by decide +kernel
theorem dX7_count_217 : decode cX7_count 217 = .ok (.getfield 51, 3) := by decide +kernel
theorem dX7_count_220 : decode cX7_count 220 = .ok (.invokevirtual 341, 3) := by decide +kernel
theorem dX7_count_223 : decode cX7_count 223 = .ok (.ireturn, 1) := by decide +kernel
theorem dX7_count_224 : decode cX7_count 224 = .ok (.aload_n 0, 1) := by decide +kernel
theorem dX7_count_225 : decode cX7_count 225 = .ok (.getfield 47, 3) := by decide +kernel
theorem dX7_count_228 : decode cX7_count 228 = .ok (.getfield 316, 3) := by decide +kernel
theorem dX7_count_231 : decode cX7_count 231 = .ok (.ireturn, 1) := by decide +kernel
theorem dX7_count_232 : decode cX7_count 232 = .ok (.aload_n 0, 1) := by decide +kernel
theorem dX7_count_233 : decode cX7_count 233 = .ok (.getfield 10, 3) := by decide +kernel
theorem dX7_count_236 : decode cX7_count 236 = .ok (.getfield 81, 3) := by decide +kernel
theorem dX7_count_239 : decode cX7_count 239 = .ok (.ireturn, 1) := by decide +kernel
theorem dX7_count_240 : decode cX7_count 240 = .ok (.iconst (-1), 1) := by decide +kernel
theorem dX7_count_241 : decode cX7_count 241 = .ok (.ireturn, 1) := by decide +kernel
set_option maxHeartbeats 4000000 in
set_option maxRecDepth 20000 in
theorem c_X7_count : ConI mX7_count (fun args N lay r h Q => ∃ (c : Nat) (q : Int → Nat) (n : Int) (tx : Int → Int) (ep : Int) (km : Int → Int → Int) (mp F : Int → Int) (ux : Int) (sz ho : Int → Int) (sn : Int) (row : Int → Int) (w : Int), args = [.ref c, vI w] ∧ CI lay r h c q n tx ep km mp F ux sz ho sn row ∧ (-2147483648 ≤ w ∧ w < 2147483648) ∧ (¬ (0 ≤ w ∧ w ≤ 16) → Q (-1) N lay r h) ∧ ((0 ≤ w ∧ w ≤ 16) → (w < 8 → Q (mp (128 + w)) N lay r h) ∧ (w = 8 → Q ep N lay r h) ∧ (w = 9 → Q (if 5 < ep then 5 else ep) N lay r h) ∧ (w = 10 → Q (bts ux) N lay r h) ∧ (w = 11 → Q (sm (fun k => mp (88 + (10 + k))) (mp 130).toNat) N lay r h) ∧ (12 ≤ w → w ≤ 14 → Q (sm (fun g => if w - 12 = 0 then bI (ho g = 0) else if w - 12 = 1 then bI (iA (ho g) ux = 0) else bI (wan F ux ho g = true)) 16) N lay r h) ∧ (w = 15 → Q sn N lay r h) ∧ (w = 16 → Q n N lay r h))) := by
  refine ConI.of (by decide) (by rintro _ N lay r h Q ⟨c, q, n, tx, ep, km, mp, F, ux, sz, ho, sn, row, w, rfl, hI, h_w, hB, hQ⟩; exact ⟨rfl, Nat.le_of_ble_eq_true rfl⟩) ?_
  rintro E _ N lay r h Q ⟨c, q, n, tx, ep, km, mp, F, ux, sz, ho, sn, row, w, rfl, hI, h_w, hB, hQ⟩ hret
  obtain ⟨hC, hLt, ⟨hCT, htx⟩, hSK, ⟨he8, hep⟩, hkm, ⟨hk0, h130⟩, hF0, ⟨hDa, hMk, hsz⟩, ⟨hOb, hSe⟩⟩ := id hI
  obtain ⟨cl0, cl6, ⟨cr0, cr1, cr2, cr3, cr4, cr5, cr6⟩, cT, cS, cP, cD, cE, cO⟩ := id hC
  obtain ⟨lr7, lr6, lpl, lrg, ldj⟩ := id hLt
  have hP0 := hkm 0 (by omega) (by omega) (by omega)
  rw [hk0] at hP0
  obtain ⟨hT, hR, hN, hW, hL, hPS⟩ := id hP0
  have hA := lpl 0 (by omega) (by omega)
  have q0r := lrg 0 (by omega) (by omega)
  obtain ⟨pl0, pl1, pl2, pl3, pl4, pl5, pl6, pl7, pl8, pl9, pl10, pl11, pl12, pl13, pr0, pr1, pr2, pr3, pr9, pr10, pr11, qr3, qr4, vr1, vr2, vr3, vr4⟩ := id hA
  obtain ⟨⟨n0, n1, n2⟩, up1, up2, uw, u0, uh⟩ := id hN
  obtain ⟨t1, t2, t3, t4, t5, t6, t7⟩ := id hT
  have hFI : FdI F := fun j j0 j1 => by rw [← hF0 j j0 j1]; exact FdI_plr hT hR j j0 j1
  have hp1 : ∀ j, 0 ≤ j → j < 64 → h (q 0 + 11) j = F j := fun j j0 j1 => (hPS.1 j j0 j1).trans (hF0 j j0 j1)
  have hp2 : ∀ g, 0 ≤ g → g < 16 → h (q 0 + 13) g = pb F g := fun g g0 g1 => (hPS.2.2.1 g g0 g1).trans (pb_c ⟨g0, g1⟩ hF0)
  obtain ⟨dl0, dl1, dl2, dr1, dr2⟩ := id cD
  obtain ⟨d0, d1, d2⟩ := id hDa
  obtain ⟨xl0, xl1, xl2, xr1, xr3⟩ := id cT
  obtain ⟨x0, x1, x2⟩ := id hCT
  obtain ⟨ol0, ol1, ol2, ol3, or1, or2, or3⟩ := id cO
  obtain ⟨b0, b1⟩ := id hOb
  obtain ⟨⟨rl5, rl6, rl7, rl8⟩, rfu, rca, rre, rnu, rdv⟩ := id hL
  obtain ⟨r1, r2, r3, r4, r5, r6, r7⟩ := id hR
  have mu : 0 ≤ ux ∧ ux < 4096 := hMk.1
  have mf : 0 ≤ h (q 0) 4 ∧ h (q 0) 4 < 4096 := rfu.1
  show St E mX7_count 0 [some (.ref c), some (vI w)] [] (0, 0) N lay r h
  refine r_iload_1 (pc := 0) dX7_count_0 ?_
  rcases (show w = 0 ∨ w = 1 ∨ w = 2 ∨ w = 3 ∨ w = 4 ∨ w = 5 ∨ w = 6 ∨ w = 7 ∨ w = 8 ∨ w = 9 ∨ w = 10 ∨ w = 11 ∨ w = 12 ∨ w = 13 ∨ w = 14 ∨ w = 15 ∨ w = 16 ∨ (w < 0 ∨ 16 < w) by omega) with rfl | rfl | rfl | rfl | rfl | rfl | rfl | rfl | rfl | rfl | rfl | rfl | rfl | rfl | rfl | rfl | rfl | hsw
  · refine r_tableIn (pc := 1) (off := 83) (tgt := 84) dX7_count_1 (by decide) (by decide) (by decide) (by decide) (by decide) ?_
    refine r_aload_0 (pc := 84) dX7_count_84 ?_
    refine gf_X7_51 (pc := 85) rfl (by assumption) dX7_count_85 (by assumption) ?_
    refine gf_X7_84 (pc := 88) rfl (by assumption) dX7_count_88 (by assumption) ?_
    refine gf_X7_327 (pc := 91) rfl (by assumption) dX7_count_91 (fun i_91 => ?_)
    refine r_iret (pc := 94) hret dX7_count_94 rfl rfl rfl ?_
    first
    | exact hB (by omega)
    | (rw [n0]; exact (hQ (by omega)).1 (by omega))
    | (rw [n1]; exact (hQ (by omega)).1 (by omega))
    | (rw [n2]; exact (hQ (by omega)).1 (by omega))
    | (rw [rl5]; exact (hQ (by omega)).1 (by omega))
    | (rw [rl6]; exact (hQ (by omega)).1 (by omega))
    | (rw [rl7]; exact (hQ (by omega)).1 (by omega))
    | (rw [rl8]; exact (hQ (by omega)).1 (by omega))
    | (rw [rnu]; exact (hQ (by omega)).1 (by omega))
    | (rw [he8]; exact (hQ (by omega)).2.1 rfl)
    | (rw [he8]; exact (hQ (by omega)).2.2.1 rfl)
    | exact (hQ (by omega)).2.2.2.1 rfl
    | exact (hQ (by omega)).2.2.2.2.1 rfl
    | exact (hQ (by omega)).2.2.2.2.2.1 (by omega) (by omega)
    | (rw [b0]; exact (hQ (by omega)).2.2.2.2.2.2.1 rfl)
    | (rw [x0]; exact (hQ (by omega)).2.2.2.2.2.2.2 rfl)
  · refine r_tableIn (pc := 1) (off := 94) (tgt := 95) dX7_count_1 (by decide) (by decide) (by decide) (by decide) (by decide) ?_
    refine r_aload_0 (pc := 95) dX7_count_95 ?_
    refine gf_X7_51 (pc := 96) rfl (by assumption) dX7_count_96 (by assumption) ?_
    refine gf_X7_84 (pc := 99) rfl (by assumption) dX7_count_99 (by assumption) ?_
    refine gf_X7_205 (pc := 102) rfl (by assumption) dX7_count_102 (fun i_102 => ?_)
    refine r_iret (pc := 105) hret dX7_count_105 rfl rfl rfl ?_
    first
    | exact hB (by omega)
    | (rw [n0]; exact (hQ (by omega)).1 (by omega))
    | (rw [n1]; exact (hQ (by omega)).1 (by omega))
    | (rw [n2]; exact (hQ (by omega)).1 (by omega))
    | (rw [rl5]; exact (hQ (by omega)).1 (by omega))
    | (rw [rl6]; exact (hQ (by omega)).1 (by omega))
    | (rw [rl7]; exact (hQ (by omega)).1 (by omega))
    | (rw [rl8]; exact (hQ (by omega)).1 (by omega))
    | (rw [rnu]; exact (hQ (by omega)).1 (by omega))
    | (rw [he8]; exact (hQ (by omega)).2.1 rfl)
    | (rw [he8]; exact (hQ (by omega)).2.2.1 rfl)
    | exact (hQ (by omega)).2.2.2.1 rfl
    | exact (hQ (by omega)).2.2.2.2.1 rfl
    | exact (hQ (by omega)).2.2.2.2.2.1 (by omega) (by omega)
    | (rw [b0]; exact (hQ (by omega)).2.2.2.2.2.2.1 rfl)
    | (rw [x0]; exact (hQ (by omega)).2.2.2.2.2.2.2 rfl)
  · refine r_tableIn (pc := 1) (off := 105) (tgt := 106) dX7_count_1 (by decide) (by decide) (by decide) (by decide) (by decide) ?_
    refine r_aload_0 (pc := 106) dX7_count_106 ?_
    refine gf_X7_51 (pc := 107) rfl (by assumption) dX7_count_107 (by assumption) ?_
    refine gf_X7_84 (pc := 110) rfl (by assumption) dX7_count_110 (by assumption) ?_
    refine gf_X7_88 (pc := 113) rfl (by assumption) dX7_count_113 (fun i_113 => ?_)
    refine r_iret (pc := 116) hret dX7_count_116 rfl rfl rfl ?_
    first
    | exact hB (by omega)
    | (rw [n0]; exact (hQ (by omega)).1 (by omega))
    | (rw [n1]; exact (hQ (by omega)).1 (by omega))
    | (rw [n2]; exact (hQ (by omega)).1 (by omega))
    | (rw [rl5]; exact (hQ (by omega)).1 (by omega))
    | (rw [rl6]; exact (hQ (by omega)).1 (by omega))
    | (rw [rl7]; exact (hQ (by omega)).1 (by omega))
    | (rw [rl8]; exact (hQ (by omega)).1 (by omega))
    | (rw [rnu]; exact (hQ (by omega)).1 (by omega))
    | (rw [he8]; exact (hQ (by omega)).2.1 rfl)
    | (rw [he8]; exact (hQ (by omega)).2.2.1 rfl)
    | exact (hQ (by omega)).2.2.2.1 rfl
    | exact (hQ (by omega)).2.2.2.2.1 rfl
    | exact (hQ (by omega)).2.2.2.2.2.1 (by omega) (by omega)
    | (rw [b0]; exact (hQ (by omega)).2.2.2.2.2.2.1 rfl)
    | (rw [x0]; exact (hQ (by omega)).2.2.2.2.2.2.2 rfl)
  · refine r_tableIn (pc := 1) (off := 116) (tgt := 117) dX7_count_1 (by decide) (by decide) (by decide) (by decide) (by decide) ?_
    refine r_aload_0 (pc := 117) dX7_count_117 ?_
    refine gf_X7_51 (pc := 118) rfl (by assumption) dX7_count_118 (by assumption) ?_
    refine gf_X7_190 (pc := 121) rfl (by assumption) dX7_count_121 (fun i_121 => ?_)
    refine r_iret (pc := 124) hret dX7_count_124 rfl rfl rfl ?_
    first
    | exact hB (by omega)
    | (rw [n0]; exact (hQ (by omega)).1 (by omega))
    | (rw [n1]; exact (hQ (by omega)).1 (by omega))
    | (rw [n2]; exact (hQ (by omega)).1 (by omega))
    | (rw [rl5]; exact (hQ (by omega)).1 (by omega))
    | (rw [rl6]; exact (hQ (by omega)).1 (by omega))
    | (rw [rl7]; exact (hQ (by omega)).1 (by omega))
    | (rw [rl8]; exact (hQ (by omega)).1 (by omega))
    | (rw [rnu]; exact (hQ (by omega)).1 (by omega))
    | (rw [he8]; exact (hQ (by omega)).2.1 rfl)
    | (rw [he8]; exact (hQ (by omega)).2.2.1 rfl)
    | exact (hQ (by omega)).2.2.2.1 rfl
    | exact (hQ (by omega)).2.2.2.2.1 rfl
    | exact (hQ (by omega)).2.2.2.2.2.1 (by omega) (by omega)
    | (rw [b0]; exact (hQ (by omega)).2.2.2.2.2.2.1 rfl)
    | (rw [x0]; exact (hQ (by omega)).2.2.2.2.2.2.2 rfl)
  · refine r_tableIn (pc := 1) (off := 124) (tgt := 125) dX7_count_1 (by decide) (by decide) (by decide) (by decide) (by decide) ?_
    refine r_aload_0 (pc := 125) dX7_count_125 ?_
    refine gf_X7_51 (pc := 126) rfl (by assumption) dX7_count_126 (by assumption) ?_
    refine gf_X7_193 (pc := 129) rfl (by assumption) dX7_count_129 (fun i_129 => ?_)
    refine r_iret (pc := 132) hret dX7_count_132 rfl rfl rfl ?_
    first
    | exact hB (by omega)
    | (rw [n0]; exact (hQ (by omega)).1 (by omega))
    | (rw [n1]; exact (hQ (by omega)).1 (by omega))
    | (rw [n2]; exact (hQ (by omega)).1 (by omega))
    | (rw [rl5]; exact (hQ (by omega)).1 (by omega))
    | (rw [rl6]; exact (hQ (by omega)).1 (by omega))
    | (rw [rl7]; exact (hQ (by omega)).1 (by omega))
    | (rw [rl8]; exact (hQ (by omega)).1 (by omega))
    | (rw [rnu]; exact (hQ (by omega)).1 (by omega))
    | (rw [he8]; exact (hQ (by omega)).2.1 rfl)
    | (rw [he8]; exact (hQ (by omega)).2.2.1 rfl)
    | exact (hQ (by omega)).2.2.2.1 rfl
    | exact (hQ (by omega)).2.2.2.2.1 rfl
    | exact (hQ (by omega)).2.2.2.2.2.1 (by omega) (by omega)
    | (rw [b0]; exact (hQ (by omega)).2.2.2.2.2.2.1 rfl)
    | (rw [x0]; exact (hQ (by omega)).2.2.2.2.2.2.2 rfl)
  · refine r_tableIn (pc := 1) (off := 132) (tgt := 133) dX7_count_1 (by decide) (by decide) (by decide) (by decide) (by decide) ?_
    refine r_aload_0 (pc := 133) dX7_count_133 ?_
    refine gf_X7_51 (pc := 134) rfl (by assumption) dX7_count_134 (by assumption) ?_
    refine gf_X7_196 (pc := 137) rfl (by assumption) dX7_count_137 (fun i_137 => ?_)
    refine r_iret (pc := 140) hret dX7_count_140 rfl rfl rfl ?_
    first
    | exact hB (by omega)
    | (rw [n0]; exact (hQ (by omega)).1 (by omega))
    | (rw [n1]; exact (hQ (by omega)).1 (by omega))
    | (rw [n2]; exact (hQ (by omega)).1 (by omega))
    | (rw [rl5]; exact (hQ (by omega)).1 (by omega))
    | (rw [rl6]; exact (hQ (by omega)).1 (by omega))
    | (rw [rl7]; exact (hQ (by omega)).1 (by omega))
    | (rw [rl8]; exact (hQ (by omega)).1 (by omega))
    | (rw [rnu]; exact (hQ (by omega)).1 (by omega))
    | (rw [he8]; exact (hQ (by omega)).2.1 rfl)
    | (rw [he8]; exact (hQ (by omega)).2.2.1 rfl)
    | exact (hQ (by omega)).2.2.2.1 rfl
    | exact (hQ (by omega)).2.2.2.2.1 rfl
    | exact (hQ (by omega)).2.2.2.2.2.1 (by omega) (by omega)
    | (rw [b0]; exact (hQ (by omega)).2.2.2.2.2.2.1 rfl)
    | (rw [x0]; exact (hQ (by omega)).2.2.2.2.2.2.2 rfl)
  · refine r_tableIn (pc := 1) (off := 140) (tgt := 141) dX7_count_1 (by decide) (by decide) (by decide) (by decide) (by decide) ?_
    refine r_aload_0 (pc := 141) dX7_count_141 ?_
    refine gf_X7_51 (pc := 142) rfl (by assumption) dX7_count_142 (by assumption) ?_
    refine gf_X7_330 (pc := 145) rfl (by assumption) dX7_count_145 (fun i_145 => ?_)
    refine r_iret (pc := 148) hret dX7_count_148 rfl rfl rfl ?_
    first
    | exact hB (by omega)
    | (rw [n0]; exact (hQ (by omega)).1 (by omega))
    | (rw [n1]; exact (hQ (by omega)).1 (by omega))
    | (rw [n2]; exact (hQ (by omega)).1 (by omega))
    | (rw [rl5]; exact (hQ (by omega)).1 (by omega))
    | (rw [rl6]; exact (hQ (by omega)).1 (by omega))
    | (rw [rl7]; exact (hQ (by omega)).1 (by omega))
    | (rw [rl8]; exact (hQ (by omega)).1 (by omega))
    | (rw [rnu]; exact (hQ (by omega)).1 (by omega))
    | (rw [he8]; exact (hQ (by omega)).2.1 rfl)
    | (rw [he8]; exact (hQ (by omega)).2.2.1 rfl)
    | exact (hQ (by omega)).2.2.2.1 rfl
    | exact (hQ (by omega)).2.2.2.2.1 rfl
    | exact (hQ (by omega)).2.2.2.2.2.1 (by omega) (by omega)
    | (rw [b0]; exact (hQ (by omega)).2.2.2.2.2.2.1 rfl)
    | (rw [x0]; exact (hQ (by omega)).2.2.2.2.2.2.2 rfl)
  · refine r_tableIn (pc := 1) (off := 148) (tgt := 149) dX7_count_1 (by decide) (by decide) (by decide) (by decide) (by decide) ?_
    refine r_aload_0 (pc := 149) dX7_count_149 ?_
    refine gf_X7_51 (pc := 150) rfl (by assumption) dX7_count_150 (by assumption) ?_
    refine gf_X7_123 (pc := 153) rfl (by assumption) dX7_count_153 (by assumption) ?_
    refine gf_X7_127 (pc := 156) rfl (by assumption) dX7_count_156 (fun i_156 => ?_)
    refine r_iret (pc := 159) hret dX7_count_159 rfl rfl rfl ?_
    first
    | exact hB (by omega)
    | (rw [n0]; exact (hQ (by omega)).1 (by omega))
    | (rw [n1]; exact (hQ (by omega)).1 (by omega))
    | (rw [n2]; exact (hQ (by omega)).1 (by omega))
    | (rw [rl5]; exact (hQ (by omega)).1 (by omega))
    | (rw [rl6]; exact (hQ (by omega)).1 (by omega))
    | (rw [rl7]; exact (hQ (by omega)).1 (by omega))
    | (rw [rl8]; exact (hQ (by omega)).1 (by omega))
    | (rw [rnu]; exact (hQ (by omega)).1 (by omega))
    | (rw [he8]; exact (hQ (by omega)).2.1 rfl)
    | (rw [he8]; exact (hQ (by omega)).2.2.1 rfl)
    | exact (hQ (by omega)).2.2.2.1 rfl
    | exact (hQ (by omega)).2.2.2.2.1 rfl
    | exact (hQ (by omega)).2.2.2.2.2.1 (by omega) (by omega)
    | (rw [b0]; exact (hQ (by omega)).2.2.2.2.2.2.1 rfl)
    | (rw [x0]; exact (hQ (by omega)).2.2.2.2.2.2.2 rfl)
  · refine r_tableIn (pc := 1) (off := 159) (tgt := 160) dX7_count_1 (by decide) (by decide) (by decide) (by decide) (by decide) ?_
    refine r_aload_0 (pc := 160) dX7_count_160 ?_
    refine gf_X7_225 (pc := 161) rfl (by assumption) dX7_count_161 (fun i_161 => ?_)
    refine r_iret (pc := 164) hret dX7_count_164 rfl rfl rfl ?_
    first
    | exact hB (by omega)
    | (rw [n0]; exact (hQ (by omega)).1 (by omega))
    | (rw [n1]; exact (hQ (by omega)).1 (by omega))
    | (rw [n2]; exact (hQ (by omega)).1 (by omega))
    | (rw [rl5]; exact (hQ (by omega)).1 (by omega))
    | (rw [rl6]; exact (hQ (by omega)).1 (by omega))
    | (rw [rl7]; exact (hQ (by omega)).1 (by omega))
    | (rw [rl8]; exact (hQ (by omega)).1 (by omega))
    | (rw [rnu]; exact (hQ (by omega)).1 (by omega))
    | (rw [he8]; exact (hQ (by omega)).2.1 rfl)
    | (rw [he8]; exact (hQ (by omega)).2.2.1 rfl)
    | exact (hQ (by omega)).2.2.2.1 rfl
    | exact (hQ (by omega)).2.2.2.2.1 rfl
    | exact (hQ (by omega)).2.2.2.2.2.1 (by omega) (by omega)
    | (rw [b0]; exact (hQ (by omega)).2.2.2.2.2.2.1 rfl)
    | (rw [x0]; exact (hQ (by omega)).2.2.2.2.2.2.2 rfl)
  · refine r_tableIn (pc := 1) (off := 164) (tgt := 165) dX7_count_1 (by decide) (by decide) (by decide) (by decide) (by decide) ?_
    refine r_aload_0 (pc := 165) dX7_count_165 ?_
    refine gf_X7_225 (pc := 166) rfl (by assumption) dX7_count_166 (fun i_166 => ?_)
    refine r_iconst (pc := 169) dX7_count_169 ?_
    refine r_min (pc := 170) (inT 901 (by decide +kernel) rfl) dX7_count_170 (by omega) (by omega) (Nat.le_of_ble_eq_true rfl) (Nat.le_of_ble_eq_true rfl) ⟨(Nat.le_of_ble_eq_true rfl), (Nat.le_of_ble_eq_true rfl)⟩ ?_
    refine r_iret (pc := 173) hret dX7_count_173 rfl rfl rfl ?_
    first
    | exact hB (by omega)
    | (rw [n0]; exact (hQ (by omega)).1 (by omega))
    | (rw [n1]; exact (hQ (by omega)).1 (by omega))
    | (rw [n2]; exact (hQ (by omega)).1 (by omega))
    | (rw [rl5]; exact (hQ (by omega)).1 (by omega))
    | (rw [rl6]; exact (hQ (by omega)).1 (by omega))
    | (rw [rl7]; exact (hQ (by omega)).1 (by omega))
    | (rw [rl8]; exact (hQ (by omega)).1 (by omega))
    | (rw [rnu]; exact (hQ (by omega)).1 (by omega))
    | (rw [he8]; exact (hQ (by omega)).2.1 rfl)
    | (rw [he8]; exact (hQ (by omega)).2.2.1 rfl)
    | exact (hQ (by omega)).2.2.2.1 rfl
    | exact (hQ (by omega)).2.2.2.2.1 rfl
    | exact (hQ (by omega)).2.2.2.2.2.1 (by omega) (by omega)
    | (rw [b0]; exact (hQ (by omega)).2.2.2.2.2.2.1 rfl)
    | (rw [x0]; exact (hQ (by omega)).2.2.2.2.2.2.2 rfl)
  · refine r_tableIn (pc := 1) (off := 173) (tgt := 174) dX7_count_1 (by decide) (by decide) (by decide) (by decide) (by decide) ?_
    refine r_aload_0 (pc := 174) dX7_count_174 ?_
    refine gf_X7_37 (pc := 175) rfl (by assumption) dX7_count_175 (by assumption) ?_
    refine gf_X7_284 (pc := 178) rfl (by assumption) dX7_count_178 (fun i_178 => ?_)
    rw [d0] at i_178 ⊢
    refine k_SI1 (pc := 181) c_J6_bitCount_0f7a4 lk_X7_167 ⟨Nat.le_of_ble_eq_true rfl, Nat.le_of_ble_eq_true rfl⟩ ⟨rfl, rfl⟩ ⟨Nat.le_of_ble_eq_true rfl, Nat.le_of_ble_eq_true rfl⟩ dX7_count_181 (Nat.le_of_ble_eq_true rfl) ?_
    refine ⟨_, rfl, by omega, ?_⟩
    skip
    refine r_iret (pc := 184) hret dX7_count_184 rfl rfl rfl ?_
    first
    | exact hB (by omega)
    | (rw [n0]; exact (hQ (by omega)).1 (by omega))
    | (rw [n1]; exact (hQ (by omega)).1 (by omega))
    | (rw [n2]; exact (hQ (by omega)).1 (by omega))
    | (rw [rl5]; exact (hQ (by omega)).1 (by omega))
    | (rw [rl6]; exact (hQ (by omega)).1 (by omega))
    | (rw [rl7]; exact (hQ (by omega)).1 (by omega))
    | (rw [rl8]; exact (hQ (by omega)).1 (by omega))
    | (rw [rnu]; exact (hQ (by omega)).1 (by omega))
    | (rw [he8]; exact (hQ (by omega)).2.1 rfl)
    | (rw [he8]; exact (hQ (by omega)).2.2.1 rfl)
    | exact (hQ (by omega)).2.2.2.1 rfl
    | exact (hQ (by omega)).2.2.2.2.1 rfl
    | exact (hQ (by omega)).2.2.2.2.2.1 (by omega) (by omega)
    | (rw [b0]; exact (hQ (by omega)).2.2.2.2.2.2.1 rfl)
    | (rw [x0]; exact (hQ (by omega)).2.2.2.2.2.2.2 rfl)
  · refine r_tableIn (pc := 1) (off := 184) (tgt := 185) dX7_count_1 (by decide) (by decide) (by decide) (by decide) (by decide) ?_
    refine r_aload_0 (pc := 185) dX7_count_185 ?_
    refine gf_X7_51 (pc := 186) rfl (by assumption) dX7_count_186 (by assumption) ?_
    refine gf_X7_164 (pc := 189) rfl (by assumption) dX7_count_189 (fun i_189 => ?_)
    refine k_SI1 (pc := 192) c_J6_bitCount_0f7a4 lk_X7_167 ⟨Nat.le_of_ble_eq_true rfl, Nat.le_of_ble_eq_true rfl⟩ ⟨rfl, rfl⟩ ⟨Nat.le_of_ble_eq_true rfl, Nat.le_of_ble_eq_true rfl⟩ dX7_count_192 (Nat.le_of_ble_eq_true rfl) ?_
    refine ⟨_, rfl, by omega, ?_⟩
    rw [fu_cnt rfu hT hR]
    refine r_iret (pc := 195) hret dX7_count_195 rfl rfl rfl ?_
    first
    | exact hB (by omega)
    | (rw [n0]; exact (hQ (by omega)).1 (by omega))
    | (rw [n1]; exact (hQ (by omega)).1 (by omega))
    | (rw [n2]; exact (hQ (by omega)).1 (by omega))
    | (rw [rl5]; exact (hQ (by omega)).1 (by omega))
    | (rw [rl6]; exact (hQ (by omega)).1 (by omega))
    | (rw [rl7]; exact (hQ (by omega)).1 (by omega))
    | (rw [rl8]; exact (hQ (by omega)).1 (by omega))
    | (rw [rnu]; exact (hQ (by omega)).1 (by omega))
    | (rw [he8]; exact (hQ (by omega)).2.1 rfl)
    | (rw [he8]; exact (hQ (by omega)).2.2.1 rfl)
    | exact (hQ (by omega)).2.2.2.1 rfl
    | exact (hQ (by omega)).2.2.2.2.1 rfl
    | exact (hQ (by omega)).2.2.2.2.2.1 (by omega) (by omega)
    | (rw [b0]; exact (hQ (by omega)).2.2.2.2.2.2.1 rfl)
    | (rw [x0]; exact (hQ (by omega)).2.2.2.2.2.2.2 rfl)
  · refine r_tableIn (pc := 1) (off := 195) (tgt := 196) dX7_count_1 (by decide) (by decide) (by decide) (by decide) (by decide) ?_
    refine r_aload_0 (pc := 196) dX7_count_196 ?_
    refine gf_X7_37 (pc := 197) rfl (by assumption) dX7_count_197 (by assumption) ?_
    refine k_VI0 (pc := 200) c_X0_countLost lk_X7_313 ⟨Nat.le_of_ble_eq_true rfl, Nat.le_of_ble_eq_true rfl⟩ ⟨rfl, rfl⟩ ⟨Nat.le_of_ble_eq_true rfl, Nat.le_of_ble_eq_true rfl⟩ (k := 0) rfl (by decide) (by assumption) dX7_count_200 (Nat.le_of_ble_eq_true rfl) ?_
    refine ⟨_, ux, sz, ho, rfl, cD, hDa, hMk, ?_⟩
    refine r_iret (pc := 203) hret dX7_count_203 rfl rfl rfl ?_
    first
    | exact hB (by omega)
    | (rw [n0]; exact (hQ (by omega)).1 (by omega))
    | (rw [n1]; exact (hQ (by omega)).1 (by omega))
    | (rw [n2]; exact (hQ (by omega)).1 (by omega))
    | (rw [rl5]; exact (hQ (by omega)).1 (by omega))
    | (rw [rl6]; exact (hQ (by omega)).1 (by omega))
    | (rw [rl7]; exact (hQ (by omega)).1 (by omega))
    | (rw [rl8]; exact (hQ (by omega)).1 (by omega))
    | (rw [rnu]; exact (hQ (by omega)).1 (by omega))
    | (rw [he8]; exact (hQ (by omega)).2.1 rfl)
    | (rw [he8]; exact (hQ (by omega)).2.2.1 rfl)
    | exact (hQ (by omega)).2.2.2.1 rfl
    | exact (hQ (by omega)).2.2.2.2.1 rfl
    | exact (hQ (by omega)).2.2.2.2.2.1 (by omega) (by omega)
    | (rw [b0]; exact (hQ (by omega)).2.2.2.2.2.2.1 rfl)
    | (rw [x0]; exact (hQ (by omega)).2.2.2.2.2.2.2 rfl)
  · refine r_tableIn (pc := 1) (off := 203) (tgt := 204) dX7_count_1 (by decide) (by decide) (by decide) (by decide) (by decide) ?_
    refine r_aload_0 (pc := 204) dX7_count_204 ?_
    refine gf_X7_37 (pc := 205) rfl (by assumption) dX7_count_205 (by assumption) ?_
    refine k_VI0 (pc := 208) c_X0_countWaiting lk_X7_338 ⟨Nat.le_of_ble_eq_true rfl, Nat.le_of_ble_eq_true rfl⟩ ⟨rfl, rfl⟩ ⟨Nat.le_of_ble_eq_true rfl, Nat.le_of_ble_eq_true rfl⟩ (k := 0) rfl (by decide) (by assumption) dX7_count_208 (Nat.le_of_ble_eq_true rfl) ?_
    refine ⟨_, ux, sz, ho, rfl, cD, hDa, hMk, ?_⟩
    refine r_iret (pc := 211) hret dX7_count_211 rfl rfl rfl ?_
    first
    | exact hB (by omega)
    | (rw [n0]; exact (hQ (by omega)).1 (by omega))
    | (rw [n1]; exact (hQ (by omega)).1 (by omega))
    | (rw [n2]; exact (hQ (by omega)).1 (by omega))
    | (rw [rl5]; exact (hQ (by omega)).1 (by omega))
    | (rw [rl6]; exact (hQ (by omega)).1 (by omega))
    | (rw [rl7]; exact (hQ (by omega)).1 (by omega))
    | (rw [rl8]; exact (hQ (by omega)).1 (by omega))
    | (rw [rnu]; exact (hQ (by omega)).1 (by omega))
    | (rw [he8]; exact (hQ (by omega)).2.1 rfl)
    | (rw [he8]; exact (hQ (by omega)).2.2.1 rfl)
    | exact (hQ (by omega)).2.2.2.1 rfl
    | exact (hQ (by omega)).2.2.2.2.1 rfl
    | exact (hQ (by omega)).2.2.2.2.2.1 (by omega) (by omega)
    | (rw [b0]; exact (hQ (by omega)).2.2.2.2.2.2.1 rfl)
    | (rw [x0]; exact (hQ (by omega)).2.2.2.2.2.2.2 rfl)
  · refine r_tableIn (pc := 1) (off := 211) (tgt := 212) dX7_count_1 (by decide) (by decide) (by decide) (by decide) (by decide) ?_
    refine r_aload_0 (pc := 212) dX7_count_212 ?_
    refine gf_X7_37 (pc := 213) rfl (by assumption) dX7_count_213 (by assumption) ?_
    refine r_aload_0 (pc := 216) dX7_count_216 ?_
    refine gf_X7_51 (pc := 217) rfl (by assumption) dX7_count_217 (by assumption) ?_
    refine k_VI1 (pc := 220) c_X0_countIncomplete lk_X7_341 ⟨Nat.le_of_ble_eq_true rfl, Nat.le_of_ble_eq_true rfl⟩ ⟨rfl, rfl⟩ ⟨Nat.le_of_ble_eq_true rfl, Nat.le_of_ble_eq_true rfl⟩ (k := 0) rfl (by decide) (by assumption) dX7_count_220 (Nat.le_of_ble_eq_true rfl) ?_
    refine ⟨_, ux, sz, ho, _, _, F, rfl, cD, hDa, hMk, pl0, pl11, pl13, pr9, pr11, hFI, hp1, hp2, ?_⟩
    refine r_iret (pc := 223) hret dX7_count_223 rfl rfl rfl ?_
    first
    | exact hB (by omega)
    | (rw [n0]; exact (hQ (by omega)).1 (by omega))
    | (rw [n1]; exact (hQ (by omega)).1 (by omega))
    | (rw [n2]; exact (hQ (by omega)).1 (by omega))
    | (rw [rl5]; exact (hQ (by omega)).1 (by omega))
    | (rw [rl6]; exact (hQ (by omega)).1 (by omega))
    | (rw [rl7]; exact (hQ (by omega)).1 (by omega))
    | (rw [rl8]; exact (hQ (by omega)).1 (by omega))
    | (rw [rnu]; exact (hQ (by omega)).1 (by omega))
    | (rw [he8]; exact (hQ (by omega)).2.1 rfl)
    | (rw [he8]; exact (hQ (by omega)).2.2.1 rfl)
    | exact (hQ (by omega)).2.2.2.1 rfl
    | exact (hQ (by omega)).2.2.2.2.1 rfl
    | exact (hQ (by omega)).2.2.2.2.2.1 (by omega) (by omega)
    | (rw [b0]; exact (hQ (by omega)).2.2.2.2.2.2.1 rfl)
    | (rw [x0]; exact (hQ (by omega)).2.2.2.2.2.2.2 rfl)
  · refine r_tableIn (pc := 1) (off := 223) (tgt := 224) dX7_count_1 (by decide) (by decide) (by decide) (by decide) (by decide) ?_
    refine r_aload_0 (pc := 224) dX7_count_224 ?_
    refine gf_X7_47 (pc := 225) rfl (by assumption) dX7_count_225 (by assumption) ?_
    refine gf_X7_316 (pc := 228) rfl (by assumption) dX7_count_228 (fun i_228 => ?_)
    refine r_iret (pc := 231) hret dX7_count_231 rfl rfl rfl ?_
    first
    | exact hB (by omega)
    | (rw [n0]; exact (hQ (by omega)).1 (by omega))
    | (rw [n1]; exact (hQ (by omega)).1 (by omega))
    | (rw [n2]; exact (hQ (by omega)).1 (by omega))
    | (rw [rl5]; exact (hQ (by omega)).1 (by omega))
    | (rw [rl6]; exact (hQ (by omega)).1 (by omega))
    | (rw [rl7]; exact (hQ (by omega)).1 (by omega))
    | (rw [rl8]; exact (hQ (by omega)).1 (by omega))
    | (rw [rnu]; exact (hQ (by omega)).1 (by omega))
    | (rw [he8]; exact (hQ (by omega)).2.1 rfl)
    | (rw [he8]; exact (hQ (by omega)).2.2.1 rfl)
    | exact (hQ (by omega)).2.2.2.1 rfl
    | exact (hQ (by omega)).2.2.2.2.1 rfl
    | exact (hQ (by omega)).2.2.2.2.2.1 (by omega) (by omega)
    | (rw [b0]; exact (hQ (by omega)).2.2.2.2.2.2.1 rfl)
    | (rw [x0]; exact (hQ (by omega)).2.2.2.2.2.2.2 rfl)
  · refine r_tableIn (pc := 1) (off := 231) (tgt := 232) dX7_count_1 (by decide) (by decide) (by decide) (by decide) (by decide) ?_
    refine r_aload_0 (pc := 232) dX7_count_232 ?_
    refine gf_X7_10 (pc := 233) rfl (by assumption) dX7_count_233 (by assumption) ?_
    refine gf_X7_81 (pc := 236) rfl (by assumption) dX7_count_236 (fun i_236 => ?_)
    refine r_iret (pc := 239) hret dX7_count_239 rfl rfl rfl ?_
    first
    | exact hB (by omega)
    | (rw [n0]; exact (hQ (by omega)).1 (by omega))
    | (rw [n1]; exact (hQ (by omega)).1 (by omega))
    | (rw [n2]; exact (hQ (by omega)).1 (by omega))
    | (rw [rl5]; exact (hQ (by omega)).1 (by omega))
    | (rw [rl6]; exact (hQ (by omega)).1 (by omega))
    | (rw [rl7]; exact (hQ (by omega)).1 (by omega))
    | (rw [rl8]; exact (hQ (by omega)).1 (by omega))
    | (rw [rnu]; exact (hQ (by omega)).1 (by omega))
    | (rw [he8]; exact (hQ (by omega)).2.1 rfl)
    | (rw [he8]; exact (hQ (by omega)).2.2.1 rfl)
    | exact (hQ (by omega)).2.2.2.1 rfl
    | exact (hQ (by omega)).2.2.2.2.1 rfl
    | exact (hQ (by omega)).2.2.2.2.2.1 (by omega) (by omega)
    | (rw [b0]; exact (hQ (by omega)).2.2.2.2.2.2.1 rfl)
    | (rw [x0]; exact (hQ (by omega)).2.2.2.2.2.2.2 rfl)
  · refine r_tableOut (pc := 1) (tgt := 240) dX7_count_1 (by omega) (by omega) (by decide) ?_
    refine r_iconst (pc := 240) dX7_count_240 ?_
    refine r_iret (pc := 241) hret dX7_count_241 rfl rfl rfl ?_
    first
    | exact hB (by omega)
    | (rw [n0]; exact (hQ (by omega)).1 (by omega))
    | (rw [n1]; exact (hQ (by omega)).1 (by omega))
    | (rw [n2]; exact (hQ (by omega)).1 (by omega))
    | (rw [rl5]; exact (hQ (by omega)).1 (by omega))
    | (rw [rl6]; exact (hQ (by omega)).1 (by omega))
    | (rw [rl7]; exact (hQ (by omega)).1 (by omega))
    | (rw [rl8]; exact (hQ (by omega)).1 (by omega))
    | (rw [rnu]; exact (hQ (by omega)).1 (by omega))
    | (rw [he8]; exact (hQ (by omega)).2.1 rfl)
    | (rw [he8]; exact (hQ (by omega)).2.2.1 rfl)
    | exact (hQ (by omega)).2.2.2.1 rfl
    | exact (hQ (by omega)).2.2.2.2.1 rfl
    | exact (hQ (by omega)).2.2.2.2.2.1 (by omega) (by omega)
    | (rw [b0]; exact (hQ (by omega)).2.2.2.2.2.2.1 rfl)
    | (rw [x0]; exact (hQ (by omega)).2.2.2.2.2.2.2 rfl)

theorem dX7_node_0 : decode cX7_node 0 = .ok (.aload_n 0, 1) := by decide +kernel
theorem dX7_node_1 : decode cX7_node 1 = .ok (.getfield 51, 3) := by decide +kernel
theorem dX7_node_4 : decode cX7_node 4 = .ok (.getfield 84, 3) := by decide +kernel
theorem dX7_node_7 : decode cX7_node 7 = .ok (.astore_n 3, 1) := by decide +kernel
theorem dX7_node_8 : decode cX7_node 8 = .ok (.aload_n 3, 1) := by decide +kernel
theorem dX7_node_9 : decode cX7_node 9 = .ok (.iload_n 1, 1) := by decide +kernel
theorem dX7_node_10 : decode cX7_node 10 = .ok (.invokevirtual 93, 3) := by decide +kernel
theorem dX7_node_13 : decode cX7_node 13 = .ok (.ifCond .eq 26, 3) := by decide +kernel
theorem dX7_node_16 : decode cX7_node 16 = .ok (.iload_n 2, 1) := by decide +kernel
theorem dX7_node_17 : decode cX7_node 17 = .ok (.ifCond .lt 22, 3) := by decide +kernel
theorem dX7_node_20 : decode cX7_node 20 = .ok (.iload_n 2, 1) := by decide +kernel
theorem dX7_node_21 : decode cX7_node 21 = .ok (.bipush 6, 2) := by decide +kernel
theorem dX7_node_23 : decode cX7_node 23 = .ok (.if_icmp .gt 16, 3) := by decide +kernel
theorem dX7_node_26 : decode cX7_node 26 = .ok (.iload_n 2, 1) := by decide +kernel
theorem dX7_node_27 : decode cX7_node 27 = .ok (.iconst 2, 1) := by decide +kernel
theorem dX7_node_28 : decode cX7_node 28 = .ok (.if_icmp .le 13, 3) := by decide +kernel
theorem dX7_node_31 : decode cX7_node 31 = .ok (.aload_n 3, 1) := by decide +kernel
theorem dX7_node_32 : decode cX7_node 32 = .ok (.iload_n 1, 1) := by decide +kernel
theorem dX7_node_33 : decode cX7_node 33 = .ok (.invokevirtual 97, 3) := by decide +kernel
theorem dX7_node_36 : decode cX7_node 36 = .ok (.ifCond .ne 5, 3) := by decide +kernel
theorem dX7_node_39 : decode cX7_node 39 = .ok (.iconst (-1), 1) := by decide +kernel
theorem dX7_node_40 : decode cX7_node 40 = .ok (.ireturn, 1) := by decide +kernel
theorem dX7_node_41 : decode cX7_node 41 = .ok (.iload_n 2, 1) := by decide +kernel
theorem dX7_node_42 : decode cX7_node 42 = .ok (.tableswitch 95 0 5 #[38, 45, 52, 58, 68, 85], 38) := by decide +kernel
theorem dX7_node_80 : decode cX7_node 80 = .ok (.aload_n 3, 1) := by decide +kernel
theorem dX7_node_81 : decode cX7_node 81 = .ok (.getfield 100, 3) := by decide +kernel
theorem dX7_node_84 : decode cX7_node 84 = .ok (.iload_n 1, 1) := by decide +kernel
theorem dX7_node_85 : decode cX7_node 85 = .ok (.iaload, 1) := by decide +kernel
theorem dX7_node_86 : decode cX7_node 86 = .ok (.ireturn, 1) := by decide +kernel
theorem dX7_node_87 : decode cX7_node 87 = .ok (.aload_n 3, 1) := by decide +kernel
theorem dX7_node_88 : decode cX7_node 88 = .ok (.getfield 104, 3) := by decide +kernel
theorem dX7_node_91 : decode cX7_node 91 = .ok (.iload_n 1, 1) := by decide +kernel
theorem dX7_node_92 : decode cX7_node 92 = .ok (.iaload, 1) := by decide +kernel
theorem dX7_node_93 : decode cX7_node 93 = .ok (.ireturn, 1) := by decide +kernel
theorem dX7_node_94 : decode cX7_node 94 = .ok (.aload_n 3, 1) := by decide +kernel
theorem dX7_node_95 : decode cX7_node 95 = .ok (.iload_n 1, 1) := by decide +kernel
theorem dX7_node_96 : decode cX7_node 96 = .ok (.invokevirtual 107, 3) := by decide +kernel
theorem dX7_node_99 : decode cX7_node 99 = .ok (.ireturn, 1) := by decide +kernel
theorem dX7_node_100 : decode cX7_node 100 = .ok (.aload_n 0, 1) := by decide +kernel
theorem dX7_node_101 : decode cX7_node 101 = .ok (.getfield 51, 3) := by decide +kernel
theorem dX7_node_104 : decode cX7_node 104 = .ok (.getfield 111, 3) := by decide +kernel
theorem dX7_node_107 : decode cX7_node 107 = .ok (.iload_n 1, 1) := by decide +kernel
theorem dX7_node_108 : decode cX7_node 108 = .ok (.iaload, 1) := by decide +kernel
theorem dX7_node_109 : decode cX7_node 109 = .ok (.ireturn, 1) := by decide +kernel
theorem dX7_node_110 : decode cX7_node 110 = .ok (.aload_n 0, 1) := by decide +kernel
theorem dX7_node_111 : decode cX7_node 111 = .ok (.getfield 51, 3) := by decide +kernel
theorem dX7_node_114 : decode cX7_node 114 = .ok (.iload_n 1, 1) := by decide +kernel
theorem dX7_node_115 : decode cX7_node 115 = .ok (.invokevirtual 114, 3) := by decide +kernel
theorem dX7_node_118 : decode cX7_node 118 = .ok (.ifCond .eq 7, 3) := by decide +kernel
theorem dX7_node_121 : decode cX7_node 121 = .ok (.iconst 1, 1) := by decide +kernel
theorem dX7_node_122 : decode cX7_node 122 = .ok (.goto 4, 3) := by decide +kernel
theorem dX7_node_125 : decode cX7_node 125 = .ok (.iconst 0, 1) := by decide +kernel
theorem dX7_node_126 : decode cX7_node 126 = .ok (.ireturn, 1) := by decide +kernel
theorem dX7_node_127 : decode cX7_node 127 = .ok (.aload_n 0, 1) := by decide +kernel
theorem dX7_node_128 : decode cX7_node 128 = .ok (.getfield 51, 3) := by decide +kernel
theorem dX7_node_131 : decode cX7_node 131 = .ok (.getfield 117, 3) := by decide +kernel
theorem dX7_node_134 : decode cX7_node 134 = .ok (.iload_n 1, 1) := by decide +kernel
theorem dX7_node_135 : decode cX7_node 135 = .ok (.iaload, 1) := by decide +kernel
theorem dX7_node_136 : decode cX7_node 136 = .ok (.ireturn, 1) := by decide +kernel
theorem dX7_node_137 : decode cX7_node 137 = .ok (.aload_n 0, 1) := by decide +kernel
theorem dX7_node_138 : decode cX7_node 138 = .ok (.getfield 37, 3) := by decide +kernel
theorem dX7_node_141 : decode cX7_node 141 = .ok (.iload_n 1, 1) := by decide +kernel
theorem dX7_node_142 : decode cX7_node 142 = .ok (.invokevirtual 120, 3) := by decide +kernel
theorem dX7_node_145 : decode cX7_node 145 = .ok (.ifCond .eq 7, 3) := by decide +kernel
theorem dX7_node_148 : decode cX7_node 148 = .ok (.iconst 1, 1) := by decide +kernel
theorem dX7_node_149 : decode cX7_node 149 = .ok (.goto 4, 3) := by decide +kernel
theorem dX7_node_152 : decode cX7_node 152 = .ok (.iconst 0, 1) := by decide +kernel
theorem dX7_node_153 : decode cX7_node 153 = .ok (.ireturn, 1) := by decide +kernel
set_option maxHeartbeats 4000000 in
set_option maxRecDepth 20000 in
theorem c_X7_node : ConI mX7_node (fun args N lay r h Q => ∃ (c : Nat) (q : Int → Nat) (n : Int) (tx : Int → Int) (ep : Int) (km : Int → Int → Int) (mp F : Int → Int) (ux : Int) (sz ho : Int → Int) (sn : Int) (row : Int → Int) (m w : Int), args = [.ref c, vI m, vI w] ∧ CI lay r h c q n tx ep km mp F ux sz ho sn row ∧ (-2147483648 ≤ m ∧ m < 2147483648) ∧ (-2147483648 ≤ w ∧ w < 2147483648) ∧ (¬ (isNd mp m ∧ (0 ≤ w ∧ w ≤ if 10 ≤ m ∧ m ≤ 9 + mp 130 then 6 else 2)) → Q (-1) N lay r h) ∧ ((isNd mp m ∧ (0 ≤ w ∧ w ≤ if 10 ≤ m ∧ m ≤ 9 + mp 130 then 6 else 2)) → (w = 0 → Q (wt mp m) N lay r h) ∧ (w = 1 → (m = 0 → Q (-4) N lay r h) ∧ (m ≠ 0 → Q (mp m) N lay r h)) ∧ (w = 2 → Q (sm (fun k => bI (isNd mp (k + 1) ∧ mp (k + 1) = m)) 21) N lay r h) ∧ (w = 3 → Q (mp (66 + m)) N lay r h) ∧ (w = 4 → Q (mp (88 + m)) N lay r h) ∧ (w = 5 → Q (mp (44 + m)) N lay r h) ∧ (w = 6 → Q (iA (iSr ux (m - 10)) 1) N lay r h))) := by
  refine ConI.of (by decide) (by rintro _ N lay r h Q ⟨c, q, n, tx, ep, km, mp, F, ux, sz, ho, sn, row, m, w, rfl, hI, h_m, h_w, hB, hQ⟩; exact ⟨rfl, Nat.le_of_ble_eq_true rfl⟩) ?_
  rintro E _ N lay r h Q ⟨c, q, n, tx, ep, km, mp, F, ux, sz, ho, sn, row, m, w, rfl, hI, h_m, h_w, hB, hQ⟩ hret
  obtain ⟨hC, hLt, ⟨hCT, htx⟩, hSK, ⟨he8, hep⟩, hkm, ⟨hk0, h130⟩, hF0, ⟨hDa, hMk, hsz⟩, ⟨hOb, hSe⟩⟩ := id hI
  obtain ⟨cl0, cl6, ⟨cr0, cr1, cr2, cr3, cr4, cr5, cr6⟩, cT, cS, cP, cD, cE, cO⟩ := id hC
  obtain ⟨lr7, lr6, lpl, lrg, ldj⟩ := id hLt
  have hP0 := hkm 0 (by omega) (by omega) (by omega)
  rw [hk0] at hP0
  obtain ⟨hT, hR, hN, hW, hL, hPS⟩ := id hP0
  have hA := lpl 0 (by omega) (by omega)
  have q0r := lrg 0 (by omega) (by omega)
  obtain ⟨pl0, pl1, pl2, pl3, pl4, pl5, pl6, pl7, pl8, pl9, pl10, pl11, pl12, pl13, pr0, pr1, pr2, pr3, pr9, pr10, pr11, qr3, qr4, vr1, vr2, vr3, vr4⟩ := id hA
  obtain ⟨⟨n0, n1, n2⟩, up1, up2, uw, u0, uh⟩ := id hN
  obtain ⟨t1, t2, t3, t4, t5, t6, t7⟩ := id hT
  obtain ⟨dl0, dl1, dl2, dr1, dr2⟩ := id cD
  obtain ⟨d0, d1, d2⟩ := id hDa
  obtain ⟨⟨rl5, rl6, rl7, rl8⟩, rfu, rca, rre, rnu, rdv⟩ := id hL
  obtain ⟨r1, r2, r3, r4, r5, r6, r7⟩ := id hR
  show St E mX7_node 0 [some (.ref c), some (vI m), some (vI w), none] [] (0, 0) N lay r h
  refine r_aload_0 (pc := 0) dX7_node_0 ?_
  refine gf_X7_51 (pc := 1) rfl (by assumption) dX7_node_1 (by assumption) ?_
  refine gf_X7_84 (pc := 4) rfl (by assumption) dX7_node_4 (by assumption) ?_
  refine r_astore_3 (pc := 7) dX7_node_7 rfl ?_
  refine r_aload_3 (pc := 8) dX7_node_8 ?_
  refine r_iload_1 (pc := 9) dX7_node_9 ?_
  refine k_VI1 (pc := 10) c_X6_isNode lk_X7_93 ⟨Nat.le_of_ble_eq_true rfl, Nat.le_of_ble_eq_true rfl⟩ ⟨rfl, rfl⟩ ⟨Nat.le_of_ble_eq_true rfl, Nat.le_of_ble_eq_true rfl⟩ (k := 6) rfl (by decide) (by assumption) dX7_node_10 (Nat.le_of_ble_eq_true rfl) ?_
  refine ⟨_, mp, _, rfl, hA.tr, hN.no, hT, by omega, ?_⟩
  refine r_ifeq_b (pc := 13) (tgt := 39) dX7_node_13 (by decide) (fun c_13 => ?_) (fun c_13 => ?_)
  · refine r_iconst (pc := 39) dX7_node_39 ?_
    refine r_iret (pc := 40) hret dX7_node_40 rfl rfl rfl ?_
    first
    | exact hB (fun z => c_13 z.1)
    | exact hB (fun z => by have := z.2.1; omega)
    | exact hB (fun z => by
        have z2 := z.2.2
        split at z2 <;> omega)
    | (rw [ch_wt hT hN hW c_13, wg_nd2 c_13]; exact (hQ gd).1 rfl)
    | (have q9 := (hQ gd).2.1 rfl
       rcases c_13 with z | z | z | z
       · subst z; rw [u0]; exact q9.1 rfl
       · rw [uh m (by omega) (by omega), ← t4 m (by omega) (by omega)]; exact q9.2 (by omega)
       · rw [up1 m (by omega) (by omega)]; exact q9.2 (by omega)
       · rw [up2 m (by omega) (by omega)]; exact q9.2 (by omega))
    | exact (hQ gd).2.2.1 rfl
    | (rw [rre m dk.1 dk.2]; exact (hQ gd).2.2.2.1 rfl)
    | (have k9 : mp (88 + m) = 1 := c_118
       have q9 := (hQ gd).2.2.2.2.1 rfl
       rw [k9] at q9; exact q9)
    | (have k9 : ¬ mp (88 + m) = 1 := c_118
       have q9 := (hQ gd).2.2.2.2.1 rfl
       rw [show mp (88 + m) = 0 by omega] at q9; exact q9)
    | (rw [rca m dk.1 dk.2]; exact (hQ gd).2.2.2.2.2.1 rfl)
    | (have k9 : bP ux m = true := c_145
       have q9 := (hQ gd).2.2.2.2.2.2 rfl
       rw [bP_01 hMk.1 (by omega), if_pos k9] at q9; exact q9)
    | (have k9 : ¬ bP ux m = true := c_145
       have q9 := (hQ gd).2.2.2.2.2.2 rfl
       rw [bP_01 hMk.1 (by omega), if_neg k9] at q9; exact q9)
  · refine r_iload_2 (pc := 16) dX7_node_16 ?_
    refine r_if_lt (pc := 17) (tgt := 39) dX7_node_17 (by decide) (by omega) (fun c_17 => ?_) (fun c_17 => ?_)
    · refine r_iconst (pc := 39) dX7_node_39 ?_
      refine r_iret (pc := 40) hret dX7_node_40 rfl rfl rfl ?_
      first
      | exact hB (fun z => c_13 z.1)
      | exact hB (fun z => by have := z.2.1; omega)
      | exact hB (fun z => by
          have z2 := z.2.2
          split at z2 <;> omega)
      | (rw [ch_wt hT hN hW c_13, wg_nd2 c_13]; exact (hQ gd).1 rfl)
      | (have q9 := (hQ gd).2.1 rfl
         rcases c_13 with z | z | z | z
         · subst z; rw [u0]; exact q9.1 rfl
         · rw [uh m (by omega) (by omega), ← t4 m (by omega) (by omega)]; exact q9.2 (by omega)
         · rw [up1 m (by omega) (by omega)]; exact q9.2 (by omega)
         · rw [up2 m (by omega) (by omega)]; exact q9.2 (by omega))
      | exact (hQ gd).2.2.1 rfl
      | (rw [rre m dk.1 dk.2]; exact (hQ gd).2.2.2.1 rfl)
      | (have k9 : mp (88 + m) = 1 := c_118
         have q9 := (hQ gd).2.2.2.2.1 rfl
         rw [k9] at q9; exact q9)
      | (have k9 : ¬ mp (88 + m) = 1 := c_118
         have q9 := (hQ gd).2.2.2.2.1 rfl
         rw [show mp (88 + m) = 0 by omega] at q9; exact q9)
      | (rw [rca m dk.1 dk.2]; exact (hQ gd).2.2.2.2.2.1 rfl)
      | (have k9 : bP ux m = true := c_145
         have q9 := (hQ gd).2.2.2.2.2.2 rfl
         rw [bP_01 hMk.1 (by omega), if_pos k9] at q9; exact q9)
      | (have k9 : ¬ bP ux m = true := c_145
         have q9 := (hQ gd).2.2.2.2.2.2 rfl
         rw [bP_01 hMk.1 (by omega), if_neg k9] at q9; exact q9)
    · refine r_iload_2 (pc := 20) dX7_node_20 ?_
      refine r_bipush (pc := 21) dX7_node_21 (by decide) ?_
      refine r_icmp_gt (pc := 23) (tgt := 39) dX7_node_23 (by decide) (by omega) (by omega) (fun c_23 => ?_) (fun c_23 => ?_)
      · refine r_iconst (pc := 39) dX7_node_39 ?_
        refine r_iret (pc := 40) hret dX7_node_40 rfl rfl rfl ?_
        first
        | exact hB (fun z => c_13 z.1)
        | exact hB (fun z => by have := z.2.1; omega)
        | exact hB (fun z => by
            have z2 := z.2.2
            split at z2 <;> omega)
        | (rw [ch_wt hT hN hW c_13, wg_nd2 c_13]; exact (hQ gd).1 rfl)
        | (have q9 := (hQ gd).2.1 rfl
           rcases c_13 with z | z | z | z
           · subst z; rw [u0]; exact q9.1 rfl
           · rw [uh m (by omega) (by omega), ← t4 m (by omega) (by omega)]; exact q9.2 (by omega)
           · rw [up1 m (by omega) (by omega)]; exact q9.2 (by omega)
           · rw [up2 m (by omega) (by omega)]; exact q9.2 (by omega))
        | exact (hQ gd).2.2.1 rfl
        | (rw [rre m dk.1 dk.2]; exact (hQ gd).2.2.2.1 rfl)
        | (have k9 : mp (88 + m) = 1 := c_118
           have q9 := (hQ gd).2.2.2.2.1 rfl
           rw [k9] at q9; exact q9)
        | (have k9 : ¬ mp (88 + m) = 1 := c_118
           have q9 := (hQ gd).2.2.2.2.1 rfl
           rw [show mp (88 + m) = 0 by omega] at q9; exact q9)
        | (rw [rca m dk.1 dk.2]; exact (hQ gd).2.2.2.2.2.1 rfl)
        | (have k9 : bP ux m = true := c_145
           have q9 := (hQ gd).2.2.2.2.2.2 rfl
           rw [bP_01 hMk.1 (by omega), if_pos k9] at q9; exact q9)
        | (have k9 : ¬ bP ux m = true := c_145
           have q9 := (hQ gd).2.2.2.2.2.2 rfl
           rw [bP_01 hMk.1 (by omega), if_neg k9] at q9; exact q9)
      · refine r_iload_2 (pc := 26) dX7_node_26 ?_
        refine r_iconst (pc := 27) dX7_node_27 ?_
        refine r_icmp_le (pc := 28) (tgt := 41) dX7_node_28 (by decide) (by omega) (by omega) (fun c_28 => ?_) (fun c_28 => ?_)
        · have nr := nd_r hT c_13
          have gd : isNd mp m ∧ (0 ≤ w ∧ w ≤ if 10 ≤ m ∧ m ≤ 9 + mp 130 then 6 else 2) := ⟨c_13, by omega, by split <;> omega⟩
          have dk : 2 < w → 10 ≤ m ∧ m < 10 + mp 130 := fun z => by omega
          refine r_iload_2 (pc := 41) dX7_node_41 ?_
          rcases (show w = 0 ∨ w = 1 ∨ w = 2 ∨ w = 3 ∨ w = 4 ∨ w = 5 ∨ w = 6 by omega) with rfl | rfl | rfl | rfl | rfl | rfl | rfl
          · refine r_tableIn (pc := 42) (off := 38) (tgt := 80) dX7_node_42 (by decide) (by decide) (by decide) (by decide) (by decide) ?_
            refine r_aload_3 (pc := 80) dX7_node_80 ?_
            refine gf_X7_100 (pc := 81) rfl (by assumption) dX7_node_81 (by assumption) ?_
            refine r_iload_1 (pc := 84) dX7_node_84 ?_
            refine r_ialdE (pc := 85) (by assumption) (by first | assumption | exact rfl) dX7_node_85 (by omega) (by omega) (fun i_85 => ?_)
            refine r_iret (pc := 86) hret dX7_node_86 rfl rfl rfl ?_
            first
            | exact hB (fun z => c_13 z.1)
            | exact hB (fun z => by have := z.2.1; omega)
            | exact hB (fun z => by
                have z2 := z.2.2
                split at z2 <;> omega)
            | (rw [ch_wt hT hN hW c_13, wg_nd2 c_13]; exact (hQ gd).1 rfl)
            | (have q9 := (hQ gd).2.1 rfl
               rcases c_13 with z | z | z | z
               · subst z; rw [u0]; exact q9.1 rfl
               · rw [uh m (by omega) (by omega), ← t4 m (by omega) (by omega)]; exact q9.2 (by omega)
               · rw [up1 m (by omega) (by omega)]; exact q9.2 (by omega)
               · rw [up2 m (by omega) (by omega)]; exact q9.2 (by omega))
            | exact (hQ gd).2.2.1 rfl
            | (rw [rre m dk.1 dk.2]; exact (hQ gd).2.2.2.1 rfl)
            | (have k9 : mp (88 + m) = 1 := c_118
               have q9 := (hQ gd).2.2.2.2.1 rfl
               rw [k9] at q9; exact q9)
            | (have k9 : ¬ mp (88 + m) = 1 := c_118
               have q9 := (hQ gd).2.2.2.2.1 rfl
               rw [show mp (88 + m) = 0 by omega] at q9; exact q9)
            | (rw [rca m dk.1 dk.2]; exact (hQ gd).2.2.2.2.2.1 rfl)
            | (have k9 : bP ux m = true := c_145
               have q9 := (hQ gd).2.2.2.2.2.2 rfl
               rw [bP_01 hMk.1 (by omega), if_pos k9] at q9; exact q9)
            | (have k9 : ¬ bP ux m = true := c_145
               have q9 := (hQ gd).2.2.2.2.2.2 rfl
               rw [bP_01 hMk.1 (by omega), if_neg k9] at q9; exact q9)
          · refine r_tableIn (pc := 42) (off := 45) (tgt := 87) dX7_node_42 (by decide) (by decide) (by decide) (by decide) (by decide) ?_
            refine r_aload_3 (pc := 87) dX7_node_87 ?_
            refine gf_X7_104 (pc := 88) rfl (by assumption) dX7_node_88 (by assumption) ?_
            refine r_iload_1 (pc := 91) dX7_node_91 ?_
            refine r_ialdE (pc := 92) (by assumption) (by first | assumption | exact rfl) dX7_node_92 (by omega) (by omega) (fun i_92 => ?_)
            refine r_iret (pc := 93) hret dX7_node_93 rfl rfl rfl ?_
            first
            | exact hB (fun z => c_13 z.1)
            | exact hB (fun z => by have := z.2.1; omega)
            | exact hB (fun z => by
                have z2 := z.2.2
                split at z2 <;> omega)
            | (rw [ch_wt hT hN hW c_13, wg_nd2 c_13]; exact (hQ gd).1 rfl)
            | (have q9 := (hQ gd).2.1 rfl
               rcases c_13 with z | z | z | z
               · subst z; rw [u0]; exact q9.1 rfl
               · rw [uh m (by omega) (by omega), ← t4 m (by omega) (by omega)]; exact q9.2 (by omega)
               · rw [up1 m (by omega) (by omega)]; exact q9.2 (by omega)
               · rw [up2 m (by omega) (by omega)]; exact q9.2 (by omega))
            | exact (hQ gd).2.2.1 rfl
            | (rw [rre m dk.1 dk.2]; exact (hQ gd).2.2.2.1 rfl)
            | (have k9 : mp (88 + m) = 1 := c_118
               have q9 := (hQ gd).2.2.2.2.1 rfl
               rw [k9] at q9; exact q9)
            | (have k9 : ¬ mp (88 + m) = 1 := c_118
               have q9 := (hQ gd).2.2.2.2.1 rfl
               rw [show mp (88 + m) = 0 by omega] at q9; exact q9)
            | (rw [rca m dk.1 dk.2]; exact (hQ gd).2.2.2.2.2.1 rfl)
            | (have k9 : bP ux m = true := c_145
               have q9 := (hQ gd).2.2.2.2.2.2 rfl
               rw [bP_01 hMk.1 (by omega), if_pos k9] at q9; exact q9)
            | (have k9 : ¬ bP ux m = true := c_145
               have q9 := (hQ gd).2.2.2.2.2.2 rfl
               rw [bP_01 hMk.1 (by omega), if_neg k9] at q9; exact q9)
          · refine r_tableIn (pc := 42) (off := 52) (tgt := 94) dX7_node_42 (by decide) (by decide) (by decide) (by decide) (by decide) ?_
            refine r_aload_3 (pc := 94) dX7_node_94 ?_
            refine r_iload_1 (pc := 95) dX7_node_95 ?_
            refine k_VI1 (pc := 96) c_X6_countBelow lk_X7_107 ⟨Nat.le_of_ble_eq_true rfl, Nat.le_of_ble_eq_true rfl⟩ ⟨rfl, rfl⟩ ⟨Nat.le_of_ble_eq_true rfl, Nat.le_of_ble_eq_true rfl⟩ (k := 6) rfl (by decide) (by assumption) dX7_node_96 (Nat.le_of_ble_eq_true rfl) ?_
            refine ⟨_, mp, _, rfl, hA, hT, hN, by omega, ?_⟩
            refine r_iret (pc := 99) hret dX7_node_99 rfl rfl rfl ?_
            first
            | exact hB (fun z => c_13 z.1)
            | exact hB (fun z => by have := z.2.1; omega)
            | exact hB (fun z => by
                have z2 := z.2.2
                split at z2 <;> omega)
            | (rw [ch_wt hT hN hW c_13, wg_nd2 c_13]; exact (hQ gd).1 rfl)
            | (have q9 := (hQ gd).2.1 rfl
               rcases c_13 with z | z | z | z
               · subst z; rw [u0]; exact q9.1 rfl
               · rw [uh m (by omega) (by omega), ← t4 m (by omega) (by omega)]; exact q9.2 (by omega)
               · rw [up1 m (by omega) (by omega)]; exact q9.2 (by omega)
               · rw [up2 m (by omega) (by omega)]; exact q9.2 (by omega))
            | exact (hQ gd).2.2.1 rfl
            | (rw [rre m dk.1 dk.2]; exact (hQ gd).2.2.2.1 rfl)
            | (have k9 : mp (88 + m) = 1 := c_118
               have q9 := (hQ gd).2.2.2.2.1 rfl
               rw [k9] at q9; exact q9)
            | (have k9 : ¬ mp (88 + m) = 1 := c_118
               have q9 := (hQ gd).2.2.2.2.1 rfl
               rw [show mp (88 + m) = 0 by omega] at q9; exact q9)
            | (rw [rca m dk.1 dk.2]; exact (hQ gd).2.2.2.2.2.1 rfl)
            | (have k9 : bP ux m = true := c_145
               have q9 := (hQ gd).2.2.2.2.2.2 rfl
               rw [bP_01 hMk.1 (by omega), if_pos k9] at q9; exact q9)
            | (have k9 : ¬ bP ux m = true := c_145
               have q9 := (hQ gd).2.2.2.2.2.2 rfl
               rw [bP_01 hMk.1 (by omega), if_neg k9] at q9; exact q9)
          · refine r_tableIn (pc := 42) (off := 58) (tgt := 100) dX7_node_42 (by decide) (by decide) (by decide) (by decide) (by decide) ?_
            have dk := dk (by omega)
            refine r_aload_0 (pc := 100) dX7_node_100 ?_
            refine gf_X7_51 (pc := 101) rfl (by assumption) dX7_node_101 (by assumption) ?_
            refine gf_X7_111 (pc := 104) rfl (by assumption) dX7_node_104 (by assumption) ?_
            refine r_iload_1 (pc := 107) dX7_node_107 ?_
            refine r_ialdE (pc := 108) (by assumption) (by first | assumption | exact rfl) dX7_node_108 (by omega) (by omega) (fun i_108 => ?_)
            refine r_iret (pc := 109) hret dX7_node_109 rfl rfl rfl ?_
            first
            | exact hB (fun z => c_13 z.1)
            | exact hB (fun z => by have := z.2.1; omega)
            | exact hB (fun z => by
                have z2 := z.2.2
                split at z2 <;> omega)
            | (rw [ch_wt hT hN hW c_13, wg_nd2 c_13]; exact (hQ gd).1 rfl)
            | (have q9 := (hQ gd).2.1 rfl
               rcases c_13 with z | z | z | z
               · subst z; rw [u0]; exact q9.1 rfl
               · rw [uh m (by omega) (by omega), ← t4 m (by omega) (by omega)]; exact q9.2 (by omega)
               · rw [up1 m (by omega) (by omega)]; exact q9.2 (by omega)
               · rw [up2 m (by omega) (by omega)]; exact q9.2 (by omega))
            | exact (hQ gd).2.2.1 rfl
            | (rw [rre m dk.1 dk.2]; exact (hQ gd).2.2.2.1 rfl)
            | (have k9 : mp (88 + m) = 1 := c_118
               have q9 := (hQ gd).2.2.2.2.1 rfl
               rw [k9] at q9; exact q9)
            | (have k9 : ¬ mp (88 + m) = 1 := c_118
               have q9 := (hQ gd).2.2.2.2.1 rfl
               rw [show mp (88 + m) = 0 by omega] at q9; exact q9)
            | (rw [rca m dk.1 dk.2]; exact (hQ gd).2.2.2.2.2.1 rfl)
            | (have k9 : bP ux m = true := c_145
               have q9 := (hQ gd).2.2.2.2.2.2 rfl
               rw [bP_01 hMk.1 (by omega), if_pos k9] at q9; exact q9)
            | (have k9 : ¬ bP ux m = true := c_145
               have q9 := (hQ gd).2.2.2.2.2.2 rfl
               rw [bP_01 hMk.1 (by omega), if_neg k9] at q9; exact q9)
          · refine r_tableIn (pc := 42) (off := 68) (tgt := 110) dX7_node_42 (by decide) (by decide) (by decide) (by decide) (by decide) ?_
            have dk := dk (by omega)
            have x6 := r6 m dk.1 dk.2
            refine r_aload_0 (pc := 110) dX7_node_110 ?_
            refine gf_X7_51 (pc := 111) rfl (by assumption) dX7_node_111 (by assumption) ?_
            refine r_iload_1 (pc := 114) dX7_node_114 ?_
            refine k_VI1 (pc := 115) c_X3_isFull lk_X7_114 ⟨Nat.le_of_ble_eq_true rfl, Nat.le_of_ble_eq_true rfl⟩ ⟨rfl, rfl⟩ ⟨Nat.le_of_ble_eq_true rfl, Nat.le_of_ble_eq_true rfl⟩ (k := 3) rfl (by decide) (by assumption) dX7_node_115 (Nat.le_of_ble_eq_true rfl) ?_
            refine ⟨_, mp, _, rfl, hA, hT, hR, hN, hL, by omega, ?_⟩
            refine r_ifeq_b (pc := 118) (tgt := 125) dX7_node_118 (by decide) (fun c_118 => ?_) (fun c_118 => ?_)
            · refine r_iconst (pc := 125) dX7_node_125 ?_
              refine r_iret (pc := 126) hret dX7_node_126 rfl rfl rfl ?_
              first
              | exact hB (fun z => c_13 z.1)
              | exact hB (fun z => by have := z.2.1; omega)
              | exact hB (fun z => by
                  have z2 := z.2.2
                  split at z2 <;> omega)
              | (rw [ch_wt hT hN hW c_13, wg_nd2 c_13]; exact (hQ gd).1 rfl)
              | (have q9 := (hQ gd).2.1 rfl
                 rcases c_13 with z | z | z | z
                 · subst z; rw [u0]; exact q9.1 rfl
                 · rw [uh m (by omega) (by omega), ← t4 m (by omega) (by omega)]; exact q9.2 (by omega)
                 · rw [up1 m (by omega) (by omega)]; exact q9.2 (by omega)
                 · rw [up2 m (by omega) (by omega)]; exact q9.2 (by omega))
              | exact (hQ gd).2.2.1 rfl
              | (rw [rre m dk.1 dk.2]; exact (hQ gd).2.2.2.1 rfl)
              | (have k9 : mp (88 + m) = 1 := c_118
                 have q9 := (hQ gd).2.2.2.2.1 rfl
                 rw [k9] at q9; exact q9)
              | (have k9 : ¬ mp (88 + m) = 1 := c_118
                 have q9 := (hQ gd).2.2.2.2.1 rfl
                 rw [show mp (88 + m) = 0 by omega] at q9; exact q9)
              | (rw [rca m dk.1 dk.2]; exact (hQ gd).2.2.2.2.2.1 rfl)
              | (have k9 : bP ux m = true := c_145
                 have q9 := (hQ gd).2.2.2.2.2.2 rfl
                 rw [bP_01 hMk.1 (by omega), if_pos k9] at q9; exact q9)
              | (have k9 : ¬ bP ux m = true := c_145
                 have q9 := (hQ gd).2.2.2.2.2.2 rfl
                 rw [bP_01 hMk.1 (by omega), if_neg k9] at q9; exact q9)
            · refine r_iconst (pc := 121) dX7_node_121 ?_
              refine r_goto (pc := 122) (tgt := 126) dX7_node_122 (by decide) ?_
              refine r_iret (pc := 126) hret dX7_node_126 rfl rfl rfl ?_
              first
              | exact hB (fun z => c_13 z.1)
              | exact hB (fun z => by have := z.2.1; omega)
              | exact hB (fun z => by
                  have z2 := z.2.2
                  split at z2 <;> omega)
              | (rw [ch_wt hT hN hW c_13, wg_nd2 c_13]; exact (hQ gd).1 rfl)
              | (have q9 := (hQ gd).2.1 rfl
                 rcases c_13 with z | z | z | z
                 · subst z; rw [u0]; exact q9.1 rfl
                 · rw [uh m (by omega) (by omega), ← t4 m (by omega) (by omega)]; exact q9.2 (by omega)
                 · rw [up1 m (by omega) (by omega)]; exact q9.2 (by omega)
                 · rw [up2 m (by omega) (by omega)]; exact q9.2 (by omega))
              | exact (hQ gd).2.2.1 rfl
              | (rw [rre m dk.1 dk.2]; exact (hQ gd).2.2.2.1 rfl)
              | (have k9 : mp (88 + m) = 1 := c_118
                 have q9 := (hQ gd).2.2.2.2.1 rfl
                 rw [k9] at q9; exact q9)
              | (have k9 : ¬ mp (88 + m) = 1 := c_118
                 have q9 := (hQ gd).2.2.2.2.1 rfl
                 rw [show mp (88 + m) = 0 by omega] at q9; exact q9)
              | (rw [rca m dk.1 dk.2]; exact (hQ gd).2.2.2.2.2.1 rfl)
              | (have k9 : bP ux m = true := c_145
                 have q9 := (hQ gd).2.2.2.2.2.2 rfl
                 rw [bP_01 hMk.1 (by omega), if_pos k9] at q9; exact q9)
              | (have k9 : ¬ bP ux m = true := c_145
                 have q9 := (hQ gd).2.2.2.2.2.2 rfl
                 rw [bP_01 hMk.1 (by omega), if_neg k9] at q9; exact q9)
          · refine r_tableIn (pc := 42) (off := 85) (tgt := 127) dX7_node_42 (by decide) (by decide) (by decide) (by decide) (by decide) ?_
            have dk := dk (by omega)
            refine r_aload_0 (pc := 127) dX7_node_127 ?_
            refine gf_X7_51 (pc := 128) rfl (by assumption) dX7_node_128 (by assumption) ?_
            refine gf_X7_117 (pc := 131) rfl (by assumption) dX7_node_131 (by assumption) ?_
            refine r_iload_1 (pc := 134) dX7_node_134 ?_
            refine r_ialdE (pc := 135) (by assumption) (by first | assumption | exact rfl) dX7_node_135 (by omega) (by omega) (fun i_135 => ?_)
            refine r_iret (pc := 136) hret dX7_node_136 rfl rfl rfl ?_
            first
            | exact hB (fun z => c_13 z.1)
            | exact hB (fun z => by have := z.2.1; omega)
            | exact hB (fun z => by
                have z2 := z.2.2
                split at z2 <;> omega)
            | (rw [ch_wt hT hN hW c_13, wg_nd2 c_13]; exact (hQ gd).1 rfl)
            | (have q9 := (hQ gd).2.1 rfl
               rcases c_13 with z | z | z | z
               · subst z; rw [u0]; exact q9.1 rfl
               · rw [uh m (by omega) (by omega), ← t4 m (by omega) (by omega)]; exact q9.2 (by omega)
               · rw [up1 m (by omega) (by omega)]; exact q9.2 (by omega)
               · rw [up2 m (by omega) (by omega)]; exact q9.2 (by omega))
            | exact (hQ gd).2.2.1 rfl
            | (rw [rre m dk.1 dk.2]; exact (hQ gd).2.2.2.1 rfl)
            | (have k9 : mp (88 + m) = 1 := c_118
               have q9 := (hQ gd).2.2.2.2.1 rfl
               rw [k9] at q9; exact q9)
            | (have k9 : ¬ mp (88 + m) = 1 := c_118
               have q9 := (hQ gd).2.2.2.2.1 rfl
               rw [show mp (88 + m) = 0 by omega] at q9; exact q9)
            | (rw [rca m dk.1 dk.2]; exact (hQ gd).2.2.2.2.2.1 rfl)
            | (have k9 : bP ux m = true := c_145
               have q9 := (hQ gd).2.2.2.2.2.2 rfl
               rw [bP_01 hMk.1 (by omega), if_pos k9] at q9; exact q9)
            | (have k9 : ¬ bP ux m = true := c_145
               have q9 := (hQ gd).2.2.2.2.2.2 rfl
               rw [bP_01 hMk.1 (by omega), if_neg k9] at q9; exact q9)
          · refine r_tableOut (pc := 42) (tgt := 137) dX7_node_42 (by decide) (by decide) (by decide) ?_
            have dk := dk (by omega)
            refine r_aload_0 (pc := 137) dX7_node_137 ?_
            refine gf_X7_37 (pc := 138) rfl (by assumption) dX7_node_138 (by assumption) ?_
            refine r_iload_1 (pc := 141) dX7_node_141 ?_
            refine k_VI1 (pc := 142) c_X0_isUp lk_X7_120 ⟨Nat.le_of_ble_eq_true rfl, Nat.le_of_ble_eq_true rfl⟩ ⟨rfl, rfl⟩ ⟨Nat.le_of_ble_eq_true rfl, Nat.le_of_ble_eq_true rfl⟩ (k := 0) rfl (by decide) (by assumption) dX7_node_142 (Nat.le_of_ble_eq_true rfl) ?_
            refine ⟨_, ux, sz, ho, _, rfl, cD, hDa, hMk, by omega, ?_⟩
            refine r_ifeq_b (pc := 145) (tgt := 152) dX7_node_145 (by decide) (fun c_145 => ?_) (fun c_145 => ?_)
            · refine r_iconst (pc := 152) dX7_node_152 ?_
              refine r_iret (pc := 153) hret dX7_node_153 rfl rfl rfl ?_
              first
              | exact hB (fun z => c_13 z.1)
              | exact hB (fun z => by have := z.2.1; omega)
              | exact hB (fun z => by
                  have z2 := z.2.2
                  split at z2 <;> omega)
              | (rw [ch_wt hT hN hW c_13, wg_nd2 c_13]; exact (hQ gd).1 rfl)
              | (have q9 := (hQ gd).2.1 rfl
                 rcases c_13 with z | z | z | z
                 · subst z; rw [u0]; exact q9.1 rfl
                 · rw [uh m (by omega) (by omega), ← t4 m (by omega) (by omega)]; exact q9.2 (by omega)
                 · rw [up1 m (by omega) (by omega)]; exact q9.2 (by omega)
                 · rw [up2 m (by omega) (by omega)]; exact q9.2 (by omega))
              | exact (hQ gd).2.2.1 rfl
              | (rw [rre m dk.1 dk.2]; exact (hQ gd).2.2.2.1 rfl)
              | (have k9 : mp (88 + m) = 1 := c_118
                 have q9 := (hQ gd).2.2.2.2.1 rfl
                 rw [k9] at q9; exact q9)
              | (have k9 : ¬ mp (88 + m) = 1 := c_118
                 have q9 := (hQ gd).2.2.2.2.1 rfl
                 rw [show mp (88 + m) = 0 by omega] at q9; exact q9)
              | (rw [rca m dk.1 dk.2]; exact (hQ gd).2.2.2.2.2.1 rfl)
              | (have k9 : bP ux m = true := c_145
                 have q9 := (hQ gd).2.2.2.2.2.2 rfl
                 rw [bP_01 hMk.1 (by omega), if_pos k9] at q9; exact q9)
              | (have k9 : ¬ bP ux m = true := c_145
                 have q9 := (hQ gd).2.2.2.2.2.2 rfl
                 rw [bP_01 hMk.1 (by omega), if_neg k9] at q9; exact q9)
            · refine r_iconst (pc := 148) dX7_node_148 ?_
              refine r_goto (pc := 149) (tgt := 153) dX7_node_149 (by decide) ?_
              refine r_iret (pc := 153) hret dX7_node_153 rfl rfl rfl ?_
              first
              | exact hB (fun z => c_13 z.1)
              | exact hB (fun z => by have := z.2.1; omega)
              | exact hB (fun z => by
                  have z2 := z.2.2
                  split at z2 <;> omega)
              | (rw [ch_wt hT hN hW c_13, wg_nd2 c_13]; exact (hQ gd).1 rfl)
              | (have q9 := (hQ gd).2.1 rfl
                 rcases c_13 with z | z | z | z
                 · subst z; rw [u0]; exact q9.1 rfl
                 · rw [uh m (by omega) (by omega), ← t4 m (by omega) (by omega)]; exact q9.2 (by omega)
                 · rw [up1 m (by omega) (by omega)]; exact q9.2 (by omega)
                 · rw [up2 m (by omega) (by omega)]; exact q9.2 (by omega))
              | exact (hQ gd).2.2.1 rfl
              | (rw [rre m dk.1 dk.2]; exact (hQ gd).2.2.2.1 rfl)
              | (have k9 : mp (88 + m) = 1 := c_118
                 have q9 := (hQ gd).2.2.2.2.1 rfl
                 rw [k9] at q9; exact q9)
              | (have k9 : ¬ mp (88 + m) = 1 := c_118
                 have q9 := (hQ gd).2.2.2.2.1 rfl
                 rw [show mp (88 + m) = 0 by omega] at q9; exact q9)
              | (rw [rca m dk.1 dk.2]; exact (hQ gd).2.2.2.2.2.1 rfl)
              | (have k9 : bP ux m = true := c_145
                 have q9 := (hQ gd).2.2.2.2.2.2 rfl
                 rw [bP_01 hMk.1 (by omega), if_pos k9] at q9; exact q9)
              | (have k9 : ¬ bP ux m = true := c_145
                 have q9 := (hQ gd).2.2.2.2.2.2 rfl
                 rw [bP_01 hMk.1 (by omega), if_neg k9] at q9; exact q9)
        · refine r_aload_3 (pc := 31) dX7_node_31 ?_
          refine r_iload_1 (pc := 32) dX7_node_32 ?_
          refine k_VI1 (pc := 33) c_X6_isDisk lk_X7_97 ⟨Nat.le_of_ble_eq_true rfl, Nat.le_of_ble_eq_true rfl⟩ ⟨rfl, rfl⟩ ⟨Nat.le_of_ble_eq_true rfl, Nat.le_of_ble_eq_true rfl⟩ (k := 6) rfl (by decide) (by assumption) dX7_node_33 (Nat.le_of_ble_eq_true rfl) ?_
          refine ⟨_, _, _, rfl, by assumption, by omega, by omega, ?_⟩
          refine r_ifne_b (pc := 36) (tgt := 41) dX7_node_36 (by decide) (fun c_36 => ?_) (fun c_36 => ?_)
          · have nr := nd_r hT c_13
            have gd : isNd mp m ∧ (0 ≤ w ∧ w ≤ if 10 ≤ m ∧ m ≤ 9 + mp 130 then 6 else 2) := ⟨c_13, by omega, by split <;> omega⟩
            have dk : 2 < w → 10 ≤ m ∧ m < 10 + mp 130 := fun z => by omega
            refine r_iload_2 (pc := 41) dX7_node_41 ?_
            rcases (show w = 0 ∨ w = 1 ∨ w = 2 ∨ w = 3 ∨ w = 4 ∨ w = 5 ∨ w = 6 by omega) with rfl | rfl | rfl | rfl | rfl | rfl | rfl
            · refine r_tableIn (pc := 42) (off := 38) (tgt := 80) dX7_node_42 (by decide) (by decide) (by decide) (by decide) (by decide) ?_
              refine r_aload_3 (pc := 80) dX7_node_80 ?_
              refine gf_X7_100 (pc := 81) rfl (by assumption) dX7_node_81 (by assumption) ?_
              refine r_iload_1 (pc := 84) dX7_node_84 ?_
              refine r_ialdE (pc := 85) (by assumption) (by first | assumption | exact rfl) dX7_node_85 (by omega) (by omega) (fun i_85 => ?_)
              refine r_iret (pc := 86) hret dX7_node_86 rfl rfl rfl ?_
              first
              | exact hB (fun z => c_13 z.1)
              | exact hB (fun z => by have := z.2.1; omega)
              | exact hB (fun z => by
                  have z2 := z.2.2
                  split at z2 <;> omega)
              | (rw [ch_wt hT hN hW c_13, wg_nd2 c_13]; exact (hQ gd).1 rfl)
              | (have q9 := (hQ gd).2.1 rfl
                 rcases c_13 with z | z | z | z
                 · subst z; rw [u0]; exact q9.1 rfl
                 · rw [uh m (by omega) (by omega), ← t4 m (by omega) (by omega)]; exact q9.2 (by omega)
                 · rw [up1 m (by omega) (by omega)]; exact q9.2 (by omega)
                 · rw [up2 m (by omega) (by omega)]; exact q9.2 (by omega))
              | exact (hQ gd).2.2.1 rfl
              | (rw [rre m dk.1 dk.2]; exact (hQ gd).2.2.2.1 rfl)
              | (have k9 : mp (88 + m) = 1 := c_118
                 have q9 := (hQ gd).2.2.2.2.1 rfl
                 rw [k9] at q9; exact q9)
              | (have k9 : ¬ mp (88 + m) = 1 := c_118
                 have q9 := (hQ gd).2.2.2.2.1 rfl
                 rw [show mp (88 + m) = 0 by omega] at q9; exact q9)
              | (rw [rca m dk.1 dk.2]; exact (hQ gd).2.2.2.2.2.1 rfl)
              | (have k9 : bP ux m = true := c_145
                 have q9 := (hQ gd).2.2.2.2.2.2 rfl
                 rw [bP_01 hMk.1 (by omega), if_pos k9] at q9; exact q9)
              | (have k9 : ¬ bP ux m = true := c_145
                 have q9 := (hQ gd).2.2.2.2.2.2 rfl
                 rw [bP_01 hMk.1 (by omega), if_neg k9] at q9; exact q9)
            · refine r_tableIn (pc := 42) (off := 45) (tgt := 87) dX7_node_42 (by decide) (by decide) (by decide) (by decide) (by decide) ?_
              refine r_aload_3 (pc := 87) dX7_node_87 ?_
              refine gf_X7_104 (pc := 88) rfl (by assumption) dX7_node_88 (by assumption) ?_
              refine r_iload_1 (pc := 91) dX7_node_91 ?_
              refine r_ialdE (pc := 92) (by assumption) (by first | assumption | exact rfl) dX7_node_92 (by omega) (by omega) (fun i_92 => ?_)
              refine r_iret (pc := 93) hret dX7_node_93 rfl rfl rfl ?_
              first
              | exact hB (fun z => c_13 z.1)
              | exact hB (fun z => by have := z.2.1; omega)
              | exact hB (fun z => by
                  have z2 := z.2.2
                  split at z2 <;> omega)
              | (rw [ch_wt hT hN hW c_13, wg_nd2 c_13]; exact (hQ gd).1 rfl)
              | (have q9 := (hQ gd).2.1 rfl
                 rcases c_13 with z | z | z | z
                 · subst z; rw [u0]; exact q9.1 rfl
                 · rw [uh m (by omega) (by omega), ← t4 m (by omega) (by omega)]; exact q9.2 (by omega)
                 · rw [up1 m (by omega) (by omega)]; exact q9.2 (by omega)
                 · rw [up2 m (by omega) (by omega)]; exact q9.2 (by omega))
              | exact (hQ gd).2.2.1 rfl
              | (rw [rre m dk.1 dk.2]; exact (hQ gd).2.2.2.1 rfl)
              | (have k9 : mp (88 + m) = 1 := c_118
                 have q9 := (hQ gd).2.2.2.2.1 rfl
                 rw [k9] at q9; exact q9)
              | (have k9 : ¬ mp (88 + m) = 1 := c_118
                 have q9 := (hQ gd).2.2.2.2.1 rfl
                 rw [show mp (88 + m) = 0 by omega] at q9; exact q9)
              | (rw [rca m dk.1 dk.2]; exact (hQ gd).2.2.2.2.2.1 rfl)
              | (have k9 : bP ux m = true := c_145
                 have q9 := (hQ gd).2.2.2.2.2.2 rfl
                 rw [bP_01 hMk.1 (by omega), if_pos k9] at q9; exact q9)
              | (have k9 : ¬ bP ux m = true := c_145
                 have q9 := (hQ gd).2.2.2.2.2.2 rfl
                 rw [bP_01 hMk.1 (by omega), if_neg k9] at q9; exact q9)
            · refine r_tableIn (pc := 42) (off := 52) (tgt := 94) dX7_node_42 (by decide) (by decide) (by decide) (by decide) (by decide) ?_
              refine r_aload_3 (pc := 94) dX7_node_94 ?_
              refine r_iload_1 (pc := 95) dX7_node_95 ?_
              refine k_VI1 (pc := 96) c_X6_countBelow lk_X7_107 ⟨Nat.le_of_ble_eq_true rfl, Nat.le_of_ble_eq_true rfl⟩ ⟨rfl, rfl⟩ ⟨Nat.le_of_ble_eq_true rfl, Nat.le_of_ble_eq_true rfl⟩ (k := 6) rfl (by decide) (by assumption) dX7_node_96 (Nat.le_of_ble_eq_true rfl) ?_
              refine ⟨_, mp, _, rfl, hA, hT, hN, by omega, ?_⟩
              refine r_iret (pc := 99) hret dX7_node_99 rfl rfl rfl ?_
              first
              | exact hB (fun z => c_13 z.1)
              | exact hB (fun z => by have := z.2.1; omega)
              | exact hB (fun z => by
                  have z2 := z.2.2
                  split at z2 <;> omega)
              | (rw [ch_wt hT hN hW c_13, wg_nd2 c_13]; exact (hQ gd).1 rfl)
              | (have q9 := (hQ gd).2.1 rfl
                 rcases c_13 with z | z | z | z
                 · subst z; rw [u0]; exact q9.1 rfl
                 · rw [uh m (by omega) (by omega), ← t4 m (by omega) (by omega)]; exact q9.2 (by omega)
                 · rw [up1 m (by omega) (by omega)]; exact q9.2 (by omega)
                 · rw [up2 m (by omega) (by omega)]; exact q9.2 (by omega))
              | exact (hQ gd).2.2.1 rfl
              | (rw [rre m dk.1 dk.2]; exact (hQ gd).2.2.2.1 rfl)
              | (have k9 : mp (88 + m) = 1 := c_118
                 have q9 := (hQ gd).2.2.2.2.1 rfl
                 rw [k9] at q9; exact q9)
              | (have k9 : ¬ mp (88 + m) = 1 := c_118
                 have q9 := (hQ gd).2.2.2.2.1 rfl
                 rw [show mp (88 + m) = 0 by omega] at q9; exact q9)
              | (rw [rca m dk.1 dk.2]; exact (hQ gd).2.2.2.2.2.1 rfl)
              | (have k9 : bP ux m = true := c_145
                 have q9 := (hQ gd).2.2.2.2.2.2 rfl
                 rw [bP_01 hMk.1 (by omega), if_pos k9] at q9; exact q9)
              | (have k9 : ¬ bP ux m = true := c_145
                 have q9 := (hQ gd).2.2.2.2.2.2 rfl
                 rw [bP_01 hMk.1 (by omega), if_neg k9] at q9; exact q9)
            · refine r_tableIn (pc := 42) (off := 58) (tgt := 100) dX7_node_42 (by decide) (by decide) (by decide) (by decide) (by decide) ?_
              have dk := dk (by omega)
              refine r_aload_0 (pc := 100) dX7_node_100 ?_
              refine gf_X7_51 (pc := 101) rfl (by assumption) dX7_node_101 (by assumption) ?_
              refine gf_X7_111 (pc := 104) rfl (by assumption) dX7_node_104 (by assumption) ?_
              refine r_iload_1 (pc := 107) dX7_node_107 ?_
              refine r_ialdE (pc := 108) (by assumption) (by first | assumption | exact rfl) dX7_node_108 (by omega) (by omega) (fun i_108 => ?_)
              refine r_iret (pc := 109) hret dX7_node_109 rfl rfl rfl ?_
              first
              | exact hB (fun z => c_13 z.1)
              | exact hB (fun z => by have := z.2.1; omega)
              | exact hB (fun z => by
                  have z2 := z.2.2
                  split at z2 <;> omega)
              | (rw [ch_wt hT hN hW c_13, wg_nd2 c_13]; exact (hQ gd).1 rfl)
              | (have q9 := (hQ gd).2.1 rfl
                 rcases c_13 with z | z | z | z
                 · subst z; rw [u0]; exact q9.1 rfl
                 · rw [uh m (by omega) (by omega), ← t4 m (by omega) (by omega)]; exact q9.2 (by omega)
                 · rw [up1 m (by omega) (by omega)]; exact q9.2 (by omega)
                 · rw [up2 m (by omega) (by omega)]; exact q9.2 (by omega))
              | exact (hQ gd).2.2.1 rfl
              | (rw [rre m dk.1 dk.2]; exact (hQ gd).2.2.2.1 rfl)
              | (have k9 : mp (88 + m) = 1 := c_118
                 have q9 := (hQ gd).2.2.2.2.1 rfl
                 rw [k9] at q9; exact q9)
              | (have k9 : ¬ mp (88 + m) = 1 := c_118
                 have q9 := (hQ gd).2.2.2.2.1 rfl
                 rw [show mp (88 + m) = 0 by omega] at q9; exact q9)
              | (rw [rca m dk.1 dk.2]; exact (hQ gd).2.2.2.2.2.1 rfl)
              | (have k9 : bP ux m = true := c_145
                 have q9 := (hQ gd).2.2.2.2.2.2 rfl
                 rw [bP_01 hMk.1 (by omega), if_pos k9] at q9; exact q9)
              | (have k9 : ¬ bP ux m = true := c_145
                 have q9 := (hQ gd).2.2.2.2.2.2 rfl
                 rw [bP_01 hMk.1 (by omega), if_neg k9] at q9; exact q9)
            · refine r_tableIn (pc := 42) (off := 68) (tgt := 110) dX7_node_42 (by decide) (by decide) (by decide) (by decide) (by decide) ?_
              have dk := dk (by omega)
              have x6 := r6 m dk.1 dk.2
              refine r_aload_0 (pc := 110) dX7_node_110 ?_
              refine gf_X7_51 (pc := 111) rfl (by assumption) dX7_node_111 (by assumption) ?_
              refine r_iload_1 (pc := 114) dX7_node_114 ?_
              refine k_VI1 (pc := 115) c_X3_isFull lk_X7_114 ⟨Nat.le_of_ble_eq_true rfl, Nat.le_of_ble_eq_true rfl⟩ ⟨rfl, rfl⟩ ⟨Nat.le_of_ble_eq_true rfl, Nat.le_of_ble_eq_true rfl⟩ (k := 3) rfl (by decide) (by assumption) dX7_node_115 (Nat.le_of_ble_eq_true rfl) ?_
              refine ⟨_, mp, _, rfl, hA, hT, hR, hN, hL, by omega, ?_⟩
              refine r_ifeq_b (pc := 118) (tgt := 125) dX7_node_118 (by decide) (fun c_118 => ?_) (fun c_118 => ?_)
              · refine r_iconst (pc := 125) dX7_node_125 ?_
                refine r_iret (pc := 126) hret dX7_node_126 rfl rfl rfl ?_
                first
                | exact hB (fun z => c_13 z.1)
                | exact hB (fun z => by have := z.2.1; omega)
                | exact hB (fun z => by
                    have z2 := z.2.2
                    split at z2 <;> omega)
                | (rw [ch_wt hT hN hW c_13, wg_nd2 c_13]; exact (hQ gd).1 rfl)
                | (have q9 := (hQ gd).2.1 rfl
                   rcases c_13 with z | z | z | z
                   · subst z; rw [u0]; exact q9.1 rfl
                   · rw [uh m (by omega) (by omega), ← t4 m (by omega) (by omega)]; exact q9.2 (by omega)
                   · rw [up1 m (by omega) (by omega)]; exact q9.2 (by omega)
                   · rw [up2 m (by omega) (by omega)]; exact q9.2 (by omega))
                | exact (hQ gd).2.2.1 rfl
                | (rw [rre m dk.1 dk.2]; exact (hQ gd).2.2.2.1 rfl)
                | (have k9 : mp (88 + m) = 1 := c_118
                   have q9 := (hQ gd).2.2.2.2.1 rfl
                   rw [k9] at q9; exact q9)
                | (have k9 : ¬ mp (88 + m) = 1 := c_118
                   have q9 := (hQ gd).2.2.2.2.1 rfl
                   rw [show mp (88 + m) = 0 by omega] at q9; exact q9)
                | (rw [rca m dk.1 dk.2]; exact (hQ gd).2.2.2.2.2.1 rfl)
                | (have k9 : bP ux m = true := c_145
                   have q9 := (hQ gd).2.2.2.2.2.2 rfl
                   rw [bP_01 hMk.1 (by omega), if_pos k9] at q9; exact q9)
                | (have k9 : ¬ bP ux m = true := c_145
                   have q9 := (hQ gd).2.2.2.2.2.2 rfl
                   rw [bP_01 hMk.1 (by omega), if_neg k9] at q9; exact q9)
              · refine r_iconst (pc := 121) dX7_node_121 ?_
                refine r_goto (pc := 122) (tgt := 126) dX7_node_122 (by decide) ?_
                refine r_iret (pc := 126) hret dX7_node_126 rfl rfl rfl ?_
                first
                | exact hB (fun z => c_13 z.1)
                | exact hB (fun z => by have := z.2.1; omega)
                | exact hB (fun z => by
                    have z2 := z.2.2
                    split at z2 <;> omega)
                | (rw [ch_wt hT hN hW c_13, wg_nd2 c_13]; exact (hQ gd).1 rfl)
                | (have q9 := (hQ gd).2.1 rfl
                   rcases c_13 with z | z | z | z
                   · subst z; rw [u0]; exact q9.1 rfl
                   · rw [uh m (by omega) (by omega), ← t4 m (by omega) (by omega)]; exact q9.2 (by omega)
                   · rw [up1 m (by omega) (by omega)]; exact q9.2 (by omega)
                   · rw [up2 m (by omega) (by omega)]; exact q9.2 (by omega))
                | exact (hQ gd).2.2.1 rfl
                | (rw [rre m dk.1 dk.2]; exact (hQ gd).2.2.2.1 rfl)
                | (have k9 : mp (88 + m) = 1 := c_118
                   have q9 := (hQ gd).2.2.2.2.1 rfl
                   rw [k9] at q9; exact q9)
                | (have k9 : ¬ mp (88 + m) = 1 := c_118
                   have q9 := (hQ gd).2.2.2.2.1 rfl
                   rw [show mp (88 + m) = 0 by omega] at q9; exact q9)
                | (rw [rca m dk.1 dk.2]; exact (hQ gd).2.2.2.2.2.1 rfl)
                | (have k9 : bP ux m = true := c_145
                   have q9 := (hQ gd).2.2.2.2.2.2 rfl
                   rw [bP_01 hMk.1 (by omega), if_pos k9] at q9; exact q9)
                | (have k9 : ¬ bP ux m = true := c_145
                   have q9 := (hQ gd).2.2.2.2.2.2 rfl
                   rw [bP_01 hMk.1 (by omega), if_neg k9] at q9; exact q9)
            · refine r_tableIn (pc := 42) (off := 85) (tgt := 127) dX7_node_42 (by decide) (by decide) (by decide) (by decide) (by decide) ?_
              have dk := dk (by omega)
              refine r_aload_0 (pc := 127) dX7_node_127 ?_
              refine gf_X7_51 (pc := 128) rfl (by assumption) dX7_node_128 (by assumption) ?_
              refine gf_X7_117 (pc := 131) rfl (by assumption) dX7_node_131 (by assumption) ?_
              refine r_iload_1 (pc := 134) dX7_node_134 ?_
              refine r_ialdE (pc := 135) (by assumption) (by first | assumption | exact rfl) dX7_node_135 (by omega) (by omega) (fun i_135 => ?_)
              refine r_iret (pc := 136) hret dX7_node_136 rfl rfl rfl ?_
              first
              | exact hB (fun z => c_13 z.1)
              | exact hB (fun z => by have := z.2.1; omega)
              | exact hB (fun z => by
                  have z2 := z.2.2
                  split at z2 <;> omega)
              | (rw [ch_wt hT hN hW c_13, wg_nd2 c_13]; exact (hQ gd).1 rfl)
              | (have q9 := (hQ gd).2.1 rfl
                 rcases c_13 with z | z | z | z
                 · subst z; rw [u0]; exact q9.1 rfl
                 · rw [uh m (by omega) (by omega), ← t4 m (by omega) (by omega)]; exact q9.2 (by omega)
                 · rw [up1 m (by omega) (by omega)]; exact q9.2 (by omega)
                 · rw [up2 m (by omega) (by omega)]; exact q9.2 (by omega))
              | exact (hQ gd).2.2.1 rfl
              | (rw [rre m dk.1 dk.2]; exact (hQ gd).2.2.2.1 rfl)
              | (have k9 : mp (88 + m) = 1 := c_118
                 have q9 := (hQ gd).2.2.2.2.1 rfl
                 rw [k9] at q9; exact q9)
              | (have k9 : ¬ mp (88 + m) = 1 := c_118
                 have q9 := (hQ gd).2.2.2.2.1 rfl
                 rw [show mp (88 + m) = 0 by omega] at q9; exact q9)
              | (rw [rca m dk.1 dk.2]; exact (hQ gd).2.2.2.2.2.1 rfl)
              | (have k9 : bP ux m = true := c_145
                 have q9 := (hQ gd).2.2.2.2.2.2 rfl
                 rw [bP_01 hMk.1 (by omega), if_pos k9] at q9; exact q9)
              | (have k9 : ¬ bP ux m = true := c_145
                 have q9 := (hQ gd).2.2.2.2.2.2 rfl
                 rw [bP_01 hMk.1 (by omega), if_neg k9] at q9; exact q9)
            · refine r_tableOut (pc := 42) (tgt := 137) dX7_node_42 (by decide) (by decide) (by decide) ?_
              have dk := dk (by omega)
              refine r_aload_0 (pc := 137) dX7_node_137 ?_
              refine gf_X7_37 (pc := 138) rfl (by assumption) dX7_node_138 (by assumption) ?_
              refine r_iload_1 (pc := 141) dX7_node_141 ?_
              refine k_VI1 (pc := 142) c_X0_isUp lk_X7_120 ⟨Nat.le_of_ble_eq_true rfl, Nat.le_of_ble_eq_true rfl⟩ ⟨rfl, rfl⟩ ⟨Nat.le_of_ble_eq_true rfl, Nat.le_of_ble_eq_true rfl⟩ (k := 0) rfl (by decide) (by assumption) dX7_node_142 (Nat.le_of_ble_eq_true rfl) ?_
              refine ⟨_, ux, sz, ho, _, rfl, cD, hDa, hMk, by omega, ?_⟩
              refine r_ifeq_b (pc := 145) (tgt := 152) dX7_node_145 (by decide) (fun c_145 => ?_) (fun c_145 => ?_)
              · refine r_iconst (pc := 152) dX7_node_152 ?_
                refine r_iret (pc := 153) hret dX7_node_153 rfl rfl rfl ?_
                first
                | exact hB (fun z => c_13 z.1)
                | exact hB (fun z => by have := z.2.1; omega)
                | exact hB (fun z => by
                    have z2 := z.2.2
                    split at z2 <;> omega)
                | (rw [ch_wt hT hN hW c_13, wg_nd2 c_13]; exact (hQ gd).1 rfl)
                | (have q9 := (hQ gd).2.1 rfl
                   rcases c_13 with z | z | z | z
                   · subst z; rw [u0]; exact q9.1 rfl
                   · rw [uh m (by omega) (by omega), ← t4 m (by omega) (by omega)]; exact q9.2 (by omega)
                   · rw [up1 m (by omega) (by omega)]; exact q9.2 (by omega)
                   · rw [up2 m (by omega) (by omega)]; exact q9.2 (by omega))
                | exact (hQ gd).2.2.1 rfl
                | (rw [rre m dk.1 dk.2]; exact (hQ gd).2.2.2.1 rfl)
                | (have k9 : mp (88 + m) = 1 := c_118
                   have q9 := (hQ gd).2.2.2.2.1 rfl
                   rw [k9] at q9; exact q9)
                | (have k9 : ¬ mp (88 + m) = 1 := c_118
                   have q9 := (hQ gd).2.2.2.2.1 rfl
                   rw [show mp (88 + m) = 0 by omega] at q9; exact q9)
                | (rw [rca m dk.1 dk.2]; exact (hQ gd).2.2.2.2.2.1 rfl)
                | (have k9 : bP ux m = true := c_145
                   have q9 := (hQ gd).2.2.2.2.2.2 rfl
                   rw [bP_01 hMk.1 (by omega), if_pos k9] at q9; exact q9)
                | (have k9 : ¬ bP ux m = true := c_145
                   have q9 := (hQ gd).2.2.2.2.2.2 rfl
                   rw [bP_01 hMk.1 (by omega), if_neg k9] at q9; exact q9)
              · refine r_iconst (pc := 148) dX7_node_148 ?_
                refine r_goto (pc := 149) (tgt := 153) dX7_node_149 (by decide) ?_
                refine r_iret (pc := 153) hret dX7_node_153 rfl rfl rfl ?_
                first
                | exact hB (fun z => c_13 z.1)
                | exact hB (fun z => by have := z.2.1; omega)
                | exact hB (fun z => by
                    have z2 := z.2.2
                    split at z2 <;> omega)
                | (rw [ch_wt hT hN hW c_13, wg_nd2 c_13]; exact (hQ gd).1 rfl)
                | (have q9 := (hQ gd).2.1 rfl
                   rcases c_13 with z | z | z | z
                   · subst z; rw [u0]; exact q9.1 rfl
                   · rw [uh m (by omega) (by omega), ← t4 m (by omega) (by omega)]; exact q9.2 (by omega)
                   · rw [up1 m (by omega) (by omega)]; exact q9.2 (by omega)
                   · rw [up2 m (by omega) (by omega)]; exact q9.2 (by omega))
                | exact (hQ gd).2.2.1 rfl
                | (rw [rre m dk.1 dk.2]; exact (hQ gd).2.2.2.1 rfl)
                | (have k9 : mp (88 + m) = 1 := c_118
                   have q9 := (hQ gd).2.2.2.2.1 rfl
                   rw [k9] at q9; exact q9)
                | (have k9 : ¬ mp (88 + m) = 1 := c_118
                   have q9 := (hQ gd).2.2.2.2.1 rfl
                   rw [show mp (88 + m) = 0 by omega] at q9; exact q9)
                | (rw [rca m dk.1 dk.2]; exact (hQ gd).2.2.2.2.2.1 rfl)
                | (have k9 : bP ux m = true := c_145
                   have q9 := (hQ gd).2.2.2.2.2.2 rfl
                   rw [bP_01 hMk.1 (by omega), if_pos k9] at q9; exact q9)
                | (have k9 : ¬ bP ux m = true := c_145
                   have q9 := (hQ gd).2.2.2.2.2.2 rfl
                   rw [bP_01 hMk.1 (by omega), if_neg k9] at q9; exact q9)
          · refine r_iconst (pc := 39) dX7_node_39 ?_
            refine r_iret (pc := 40) hret dX7_node_40 rfl rfl rfl ?_
            first
            | exact hB (fun z => c_13 z.1)
            | exact hB (fun z => by have := z.2.1; omega)
            | exact hB (fun z => by
                have z2 := z.2.2
                split at z2 <;> omega)
            | (rw [ch_wt hT hN hW c_13, wg_nd2 c_13]; exact (hQ gd).1 rfl)
            | (have q9 := (hQ gd).2.1 rfl
               rcases c_13 with z | z | z | z
               · subst z; rw [u0]; exact q9.1 rfl
               · rw [uh m (by omega) (by omega), ← t4 m (by omega) (by omega)]; exact q9.2 (by omega)
               · rw [up1 m (by omega) (by omega)]; exact q9.2 (by omega)
               · rw [up2 m (by omega) (by omega)]; exact q9.2 (by omega))
            | exact (hQ gd).2.2.1 rfl
            | (rw [rre m dk.1 dk.2]; exact (hQ gd).2.2.2.1 rfl)
            | (have k9 : mp (88 + m) = 1 := c_118
               have q9 := (hQ gd).2.2.2.2.1 rfl
               rw [k9] at q9; exact q9)
            | (have k9 : ¬ mp (88 + m) = 1 := c_118
               have q9 := (hQ gd).2.2.2.2.1 rfl
               rw [show mp (88 + m) = 0 by omega] at q9; exact q9)
            | (rw [rca m dk.1 dk.2]; exact (hQ gd).2.2.2.2.2.1 rfl)
            | (have k9 : bP ux m = true := c_145
               have q9 := (hQ gd).2.2.2.2.2.2 rfl
               rw [bP_01 hMk.1 (by omega), if_pos k9] at q9; exact q9)
            | (have k9 : ¬ bP ux m = true := c_145
               have q9 := (hQ gd).2.2.2.2.2.2 rfl
               rw [bP_01 hMk.1 (by omega), if_neg k9] at q9; exact q9)

