/-! PLACEMENTS: what they are; the reference computes them -/
/-- the rule, the disks' own numbers, the overrides -/
def RlM (mp : Int → Int) : Prop := (1 ≤ mp 131 ∧ mp 131 ≤ 4) ∧ (1 ≤ mp 132 ∧ mp 132 ≤ 3) ∧ (0 ≤ mp 133 ∧ mp 133 ≤ 1) ∧ (1 ≤ mp 134 ∧ mp 134 ≤ 24) ∧ (0 ≤ mp 135 ∧ mp 135 ≤ 6) ∧ (∀ d, 10 ≤ d → d < 10 + mp 130 → (0 ≤ mp (44 + d) ∧ mp (44 + d) ≤ 990) ∧ (0 ≤ mp (66 + d) ∧ mp (66 + d) ≤ 16) ∧ (0 ≤ mp (88 + d) ∧ mp (88 + d) ≤ 1)) ∧ ∀ i, 0 ≤ i → i < mp 135 → (0 ≤ mp (110 + 3 * i) ∧ mp (110 + 3 * i) < 16) ∧ (10 ≤ mp (111 + 3 * i) ∧ mp (111 + 3 * i) < 10 + mp 130) ∧ (10 ≤ mp (112 + 3 * i) ∧ mp (112 + 3 * i) < 10 + mp 130)
def prt (mp : Int → Int) (d : Int) : Int := if mp 132 = 3 then d else if mp 132 = 2 then mp d else mp (mp d)
abbrev apC (mp co : Int → Int) (d but c : Int) : Prop := c = but ∨ co c < 0 ∨ prt mp (co c) ≠ prt mp d
def apt (mp co : Int → Int) (d but : Int) : Bool := decide (apC mp co d but 0 ∧ apC mp co d but 1 ∧ apC mp co d but 2 ∧ apC mp co d but 3)
theorem apt_iff {mp co : Int → Int} {d but : Int} : apt mp co d but = true ↔ ∀ c, 0 ≤ c → c < 4 → apC mp co d but c := by
  unfold apt
  rw [decide_eq_true_iff]
  constructor
  · intro ⟨q0, q1, q2, q3⟩ c c0 c4
    rcases (show c = 0 ∨ c = 1 ∨ c = 2 ∨ c = 3 by omega) with rfl | rfl | rfl | rfl <;> assumption
  · intro q
    exact ⟨q 0 (by omega) (by omega), q 1 (by omega) (by omega), q 2 (by omega) (by omega), q 3 (by omega) (by omega)⟩
def mb (mp : Int → Int) (g d : Int) : Bool := decide (mp (88 + d) = 0 ∧ dr g d 99 % 16 < mp (66 + d))
theorem mb_iff {mp : Int → Int} {g d : Int} : mb mp g d = true ↔ mp (88 + d) = 0 ∧ dr g d 99 % 16 < mp (66 + d) := by
  unfold mb
  rw [decide_eq_true_iff]
def tk (mp : Int → Int) (g t : Int) (co : Int → Int) : Bool := decide (0 ≤ tryS mp g t ∧ mb mp g (tryS mp g t) = true ∧ apt mp co (tryS mp g t) (-1) = true)
theorem tk_iff {mp co : Int → Int} {g t : Int} : tk mp g t co = true ↔ 0 ≤ tryS mp g t ∧ mb mp g (tryS mp g t) = true ∧ apt mp co (tryS mp g t) (-1) = true := by
  unfold tk
  rw [decide_eq_true_iff]
theorem wg_nd {mp : Int → Int} {n : Int} (h : 0 < wg mp n) : isNd mp n := by
  unfold wg at h
  split at h
  · assumption
  · omega
theorem try_dk {mp : Int → Int} (hT : TrM mp) (g t : Int) : tryS mp g t = -4 ∨ (10 ≤ tryS mp g t ∧ tryS mp g t < 10 + mp 130) := by
  obtain ⟨t1, t2, t3, t4, t5, t6, t7⟩ := hT
  unfold tryS try1
  rcases chz_or mp g t 0 with q | ⟨q1, q2, q3, q4⟩
  · rw [q]; simp
  · have n1 := wg_nd q3
    have h1 : 1 ≤ chz mp g t 0 ∧ chz mp g t 0 ≤ 3 := by
      rcases n1 with n1 | n1 | n1 | n1
      · omega
      · omega
      · have := t5 _ n1.1 (by omega); omega
      · have := t6 _ n1.1 (by omega); omega
    rw [if_neg (show ¬ chz mp g t 0 < 0 by omega)]
    rcases chz_or mp g t (chz mp g t 0) with p | ⟨p1, p2, p3, p4⟩
    · rw [p]; simp
    · have n2 := wg_nd p3
      have h2 : 4 ≤ chz mp g t (chz mp g t 0) ∧ chz mp g t (chz mp g t 0) ≤ 9 := by
        rcases n2 with n2 | n2 | n2 | n2
        · omega
        · have := t4 _ (by omega) (show chz mp g t (chz mp g t 0) ≤ 3 by omega); omega
        · omega
        · have := t6 _ n2.1 (by omega); omega
      rw [if_neg (show ¬ chz mp g t (chz mp g t 0) < 0 by omega)]
      rcases chz_or mp g t (chz mp g t (chz mp g t 0)) with w | ⟨w1, w2, w3, w4⟩
      · exact Or.inl w
      · have n3 := wg_nd w3
        rcases n3 with n3 | n3 | n3 | n3
        · omega
        · have := t4 _ (by omega) (show chz mp g t (chz mp g t (chz mp g t 0)) ≤ 3 by omega); omega
        · have := t5 _ n3.1 (by omega); omega
        · exact Or.inr ⟨n3.1, by omega⟩
/-- the copies, their tries and how many there are, behind T tries -/
def pat (mp : Int → Int) (T : Nat) (s : (Int → Int) × (Int → Int) × Int) : Int := if mp 133 = 1 then (T : Int) % mp 131 else s.2.2
def pcd (mp : Int → Int) (g : Int) (T : Nat) (s : (Int → Int) × (Int → Int) × Int) : Bool := decide ((mp 133 = 1 ∨ s.2.2 < mp 131) ∧ s.1 (pat mp T s) < 0 ∧ tk mp g T s.1 = true)
theorem pcd_iff {mp : Int → Int} {g : Int} {T : Nat} {s : (Int → Int) × (Int → Int) × Int} : pcd mp g T s = true ↔ (mp 133 = 1 ∨ s.2.2 < mp 131) ∧ s.1 (pat mp T s) < 0 ∧ tk mp g T s.1 = true := by
  unfold pcd
  rw [decide_eq_true_iff]
def pstep (mp : Int → Int) (g : Int) (T : Nat) (s : (Int → Int) × (Int → Int) × Int) : (Int → Int) × (Int → Int) × Int :=
  if pcd mp g T s = true then (up s.1 (pat mp T s) (tryS mp g T), up s.2.1 (pat mp T s) T, s.2.2 + 1) else s
def pst (mp : Int → Int) (g : Int) : Nat → (Int → Int) × (Int → Int) × Int
  | 0 => (fun _ => -4, fun _ => -4, 0)
  | T + 1 => pstep mp g T (pst mp g T)
/-- what holds of the copies on the way -/
def PsI (mp : Int → Int) (s : (Int → Int) × (Int → Int) × Int) : Prop := (∀ c, s.1 c = -4 ∨ (10 ≤ s.1 c ∧ s.1 c < 10 + mp 130)) ∧ 0 ≤ s.2.2 ∧ (mp 133 ≠ 1 → s.2.2 ≤ mp 131 ∧ ∀ c, s.2.2 ≤ c → s.1 c = -4) ∧ (∀ c, mp 131 ≤ c → s.1 c = -4) ∧ (∀ c, c < 0 → s.1 c = -4) ∧ (∀ c, s.2.1 c = -4 ∨ (0 ≤ s.2.1 c ∧ s.2.1 c < 24))
theorem pst_I {mp : Int → Int} (hT : TrM mp) (hR : RlM mp) (g : Int) : ∀ T : Nat, T ≤ 24 → PsI mp (pst mp g T)
  | 0, _ => ⟨fun _ => Or.inl rfl, by simp [pst], fun _ => ⟨by simp only [pst]; have := hR.1; omega, fun _ _ => rfl⟩, fun _ _ => rfl, fun _ _ => rfl, fun _ => Or.inl rfl⟩
  | T + 1, hT24 => by
    obtain ⟨i1, i2, i3, i4, i5, i6⟩ := pst_I hT hR g T (by omega)
    have r1 := hR.1
    simp only [pst, pstep]
    split
    · rename_i hc
      obtain ⟨c1, c2, c3⟩ := pcd_iff.mp hc
      have d1 := (try_dk hT g T).resolve_left (by have := (tk_iff.mp c3).1; omega)
      have p0 : 0 ≤ pat mp T (pst mp g T) ∧ pat mp T (pst mp g T) < mp 131 := by
        unfold pat
        split
        · exact ⟨Int.emod_nonneg _ (by omega), Int.emod_lt_of_pos _ (by omega)⟩
        · rcases c1 with c1 | c1
          · omega
          · omega
      refine ⟨fun c => ?_, by simp only; omega, fun hm => ?_, fun c hc2 => ?_, fun c hc2 => ?_, fun c => ?_⟩
      · simp only
        by_cases e : c = pat mp T (pst mp g T)
        · rw [e, up_s]; exact Or.inr d1
        · rw [up_n e]; exact i1 c
      · simp only
        obtain ⟨m1, m2⟩ := i3 hm
        have e : pat mp T (pst mp g T) = (pst mp g T).2.2 := if_neg hm
        refine ⟨by rcases c1 with c1 | c1 <;> omega, fun c hcm => ?_⟩
        rw [up_n (by omega)]
        exact m2 c (by omega)
      · simp only
        rw [up_n (by omega)]
        exact i4 c hc2
      · simp only
        rw [up_n (by omega)]
        exact i5 c hc2
      · simp only
        by_cases e : c = pat mp T (pst mp g T)
        · rw [e, up_s]; exact Or.inr (by omega)
        · rw [up_n e]; exact i6 c
    · exact ⟨i1, i2, i3, i4, i5, i6⟩
/-- one override, copy by copy; then all overrides -/
def odc (mp : Int → Int) (g i : Int) (co : Int → Int) (c : Int) : Bool := decide (mp (110 + 3 * i) = g ∧ co c = mp (111 + 3 * i) ∧ mp (88 + mp (112 + 3 * i)) = 0 ∧ 0 < mp (66 + mp (112 + 3 * i)) ∧ apt mp co (mp (112 + 3 * i)) c = true)
theorem odc_iff {mp co : Int → Int} {g i c : Int} : odc mp g i co c = true ↔ mp (110 + 3 * i) = g ∧ co c = mp (111 + 3 * i) ∧ mp (88 + mp (112 + 3 * i)) = 0 ∧ 0 < mp (66 + mp (112 + 3 * i)) ∧ apt mp co (mp (112 + 3 * i)) c = true := by
  unfold odc
  rw [decide_eq_true_iff]
def odk (mp : Int → Int) (g i : Int) (co : Int → Int) : Nat → (Int → Int) × Int
  | 0 => (co, 0)
  | c + 1 => if odc mp g i (odk mp g i co c).1 c = true ∧ (odk mp g i co c).2 = 0 then (up (odk mp g i co c).1 c (mp (112 + 3 * i)), 1) else odk mp g i co c
def dvk (mp : Int → Int) (g : Int) (co : Int → Int) : Nat → (Int → Int)
  | 0 => co
  | i + 1 => (odk mp g i (dvk mp g co i) 4).1
def co0 (mp : Int → Int) (g : Int) : Int → Int := (pst mp g (mp 134).toNat).1
def trs (mp : Int → Int) (g : Int) : Int → Int := (pst mp g (mp 134).toNat).2.1
def plc (mp : Int → Int) (g : Int) : Int → Int := dvk mp g (co0 mp g) (mp 135).toNat
def std (mp : Int → Int) (g : Int) (i : Nat) : Int := (odk mp g i (dvk mp g (co0 mp g) i) 4).2
def CoI (mp co : Int → Int) : Prop := ∀ c, co c = -4 ∨ (10 ≤ co c ∧ co c < 10 + mp 130)
theorem odk_I {mp : Int → Int} (hR : RlM mp) {g : Int} {i : Int} (hi : 0 ≤ i ∧ i < mp 135) {co : Int → Int} (h : CoI mp co) : ∀ c : Nat, CoI mp (odk mp g i co c).1 ∧ ((odk mp g i co c).2 = 0 ∨ (odk mp g i co c).2 = 1)
  | 0 => ⟨h, Or.inl rfl⟩
  | c + 1 => by
    obtain ⟨a1, a2⟩ := odk_I hR hi (g := g) h c
    simp only [odk]
    split
    · refine ⟨fun x => ?_, Or.inr rfl⟩
      simp only
      by_cases e : x = c
      · rw [e, up_s]; exact Or.inr (hR.2.2.2.2.2.2 i hi.1 hi.2).2.2
      · rw [up_n e]; exact a1 x
    · exact ⟨a1, a2⟩
theorem dvk_I {mp : Int → Int} (hR : RlM mp) {g : Int} {co : Int → Int} (h : CoI mp co) : ∀ i : Nat, (i : Int) ≤ mp 135 → CoI mp (dvk mp g co i)
  | 0, _ => h
  | i + 1, hi => (odk_I hR (by omega) (dvk_I hR h i (by omega)) 4).1
theorem co0_I {mp : Int → Int} (hT : TrM mp) (hR : RlM mp) (g : Int) : CoI mp (co0 mp g) := (pst_I hT hR g (mp 134).toNat (by have := hR.2.2.2.1; omega)).1
theorem dX8_partOf_0 : decode cX8_partOf 0 = .ok (.aload_n 0, 1) := by decide +kernel
theorem dX8_partOf_1 : decode cX8_partOf 1 = .ok (.getfield 13, 3) := by decide +kernel
theorem dX8_partOf_4 : decode cX8_partOf 4 = .ok (.sipush 132, 3) := by decide +kernel
theorem dX8_partOf_7 : decode cX8_partOf 7 = .ok (.iaload, 1) := by decide +kernel
theorem dX8_partOf_8 : decode cX8_partOf 8 = .ok (.iconst 3, 1) := by decide +kernel
theorem dX8_partOf_9 : decode cX8_partOf 9 = .ok (.if_icmp .ne 7, 3) := by decide +kernel
theorem dX8_partOf_12 : decode cX8_partOf 12 = .ok (.iload_n 1, 1) := by decide +kernel
theorem dX8_partOf_13 : decode cX8_partOf 13 = .ok (.goto 35, 3) := by decide +kernel
theorem dX8_partOf_16 : decode cX8_partOf 16 = .ok (.aload_n 0, 1) := by decide +kernel
theorem dX8_partOf_17 : decode cX8_partOf 17 = .ok (.getfield 13, 3) := by decide +kernel
theorem dX8_partOf_20 : decode cX8_partOf 20 = .ok (.sipush 132, 3) := by decide +kernel
theorem dX8_partOf_23 : decode cX8_partOf 23 = .ok (.iaload, 1) := by decide +kernel
theorem dX8_partOf_24 : decode cX8_partOf 24 = .ok (.iconst 2, 1) := by decide +kernel
theorem dX8_partOf_25 : decode cX8_partOf 25 = .ok (.if_icmp .ne 12, 3) := by decide +kernel
theorem dX8_partOf_28 : decode cX8_partOf 28 = .ok (.aload_n 0, 1) := by decide +kernel
theorem dX8_partOf_29 : decode cX8_partOf 29 = .ok (.getfield 13, 3) := by decide +kernel
theorem dX8_partOf_32 : decode cX8_partOf 32 = .ok (.iload_n 1, 1) := by decide +kernel
theorem dX8_partOf_33 : decode cX8_partOf 33 = .ok (.iaload, 1) := by decide +kernel
theorem dX8_partOf_34 : decode cX8_partOf 34 = .ok (.goto 14, 3) := by decide +kernel
theorem dX8_partOf_37 : decode cX8_partOf 37 = .ok (.aload_n 0, 1) := by decide +kernel
theorem dX8_partOf_38 : decode cX8_partOf 38 = .ok (.getfield 13, 3) := by decide +kernel
theorem dX8_partOf_41 : decode cX8_partOf 41 = .ok (.aload_n 0, 1) := by decide +kernel
theorem dX8_partOf_42 : decode cX8_partOf 42 = .ok (.getfield 13, 3) := by decide +kernel
theorem dX8_partOf_45 : decode cX8_partOf 45 = .ok (.iload_n 1, 1) := by decide +kernel
theorem dX8_partOf_46 : decode cX8_partOf 46 = .ok (.iaload, 1) := by decide +kernel
theorem dX8_partOf_47 : decode cX8_partOf 47 = .ok (.iaload, 1) := by decide +kernel
theorem dX8_partOf_48 : decode cX8_partOf 48 = .ok (.ireturn, 1) := by decide +kernel
set_option maxHeartbeats 4000000 in
set_option maxRecDepth 20000 in
theorem c_X8_partOf : ConI mX8_partOf (fun args N lay r h Q => ∃ b mp d, args = [.ref b, vI d] ∧ MdAt lay r b ∧ h (b + 2) = mp ∧ TrM mp ∧ RlM mp ∧ (10 ≤ d ∧ d < 10 + mp 130) ∧ (-2147483648 ≤ prt mp d ∧ prt mp d < 2147483648 → Q (prt mp d) N lay r h)) := by
  refine ConI.of (by decide) (by rintro _ N lay r h Q ⟨b, mp, d, rfl, hM, hmp, hT, hR, hd, hQ⟩; exact ⟨rfl, Nat.le_of_ble_eq_true rfl⟩) ?_
  rintro E _ N lay r h Q ⟨b, mp, d, rfl, hM, hmp, hT, hR, hd, hQ⟩ hret
  obtain ⟨ml0, ml1, ml2, ml3, ml4, ml5, ml6, ml7, ml8, ml9, ml10, ml11, ml12, ml13, ml14, ml15, ml16, ml17, ml18, ml19, ml20, mr1, mr2, mr3, mr4, mr5, mr6, mr7, mr8, mr9, mr10, mr11, mr12, mr13, mr14, mr15, mr16, mr17, mr18, mr19, mr20⟩ := id hM
  obtain ⟨t1, t2, t3, t4, t5, t6, t7⟩ := id hT
  obtain ⟨r1, r2, r3, r4, r5, r6, r7⟩ := id hR
  have q6 := t6 d (by omega) (by omega)
  have q5 := t5 (mp d) (by omega) (by omega)
  show St E mX8_partOf 0 [some (.ref b), some (vI d)] [] (0, 0) N lay r h
  refine r_aload_0 (pc := 0) dX8_partOf_0 ?_
  refine gf_X8_13 (pc := 1) rfl (by assumption) dX8_partOf_1 (by assumption) ?_
  refine r_sipush (pc := 4) dX8_partOf_4 (by decide) ?_
  refine r_ialdE (pc := 7) (by assumption) (by first | assumption | exact rfl) dX8_partOf_7 (by omega) (by omega) (fun i_7 => ?_)
  refine r_iconst (pc := 8) dX8_partOf_8 ?_
  refine r_icmp_ne (pc := 9) (tgt := 16) dX8_partOf_9 (by decide) (by omega) (by omega) (fun c_9 => ?_) (fun c_9 => ?_)
  · refine r_aload_0 (pc := 16) dX8_partOf_16 ?_
    refine gf_X8_13 (pc := 17) rfl (by assumption) dX8_partOf_17 (by assumption) ?_
    refine r_sipush (pc := 20) dX8_partOf_20 (by decide) ?_
    refine r_ialdE (pc := 23) (by assumption) (by first | assumption | exact rfl) dX8_partOf_23 (by omega) (by omega) (fun i_23 => ?_)
    refine r_iconst (pc := 24) dX8_partOf_24 ?_
    refine r_icmp_ne (pc := 25) (tgt := 37) dX8_partOf_25 (by decide) (by omega) (by omega) (fun c_25 => ?_) (fun c_25 => ?_)
    · refine r_aload_0 (pc := 37) dX8_partOf_37 ?_
      refine gf_X8_13 (pc := 38) rfl (by assumption) dX8_partOf_38 (by assumption) ?_
      refine r_aload_0 (pc := 41) dX8_partOf_41 ?_
      refine gf_X8_13 (pc := 42) rfl (by assumption) dX8_partOf_42 (by assumption) ?_
      refine r_iload_1 (pc := 45) dX8_partOf_45 ?_
      refine r_ialdE (pc := 46) (by assumption) (by first | assumption | exact rfl) dX8_partOf_46 (by omega) (by omega) (fun i_46 => ?_)
      refine r_ialdE (pc := 47) (by assumption) (by first | assumption | exact rfl) dX8_partOf_47 (by omega) (by omega) (fun i_47 => ?_)
      refine r_iret (pc := 48) hret dX8_partOf_48 rfl rfl rfl ?_
      unfold prt at hQ
      first | (rw [if_pos c_9] at hQ; exact hQ (by omega)) | (rw [if_neg c_9, if_pos c_25] at hQ; exact hQ (by omega)) | (rw [if_neg c_9, if_neg c_25] at hQ; exact hQ (by omega))
    · refine r_aload_0 (pc := 28) dX8_partOf_28 ?_
      refine gf_X8_13 (pc := 29) rfl (by assumption) dX8_partOf_29 (by assumption) ?_
      refine r_iload_1 (pc := 32) dX8_partOf_32 ?_
      refine r_ialdE (pc := 33) (by assumption) (by first | assumption | exact rfl) dX8_partOf_33 (by omega) (by omega) (fun i_33 => ?_)
      refine r_goto (pc := 34) (tgt := 48) dX8_partOf_34 (by decide) ?_
      refine r_iret (pc := 48) hret dX8_partOf_48 rfl rfl rfl ?_
      unfold prt at hQ
      first | (rw [if_pos c_9] at hQ; exact hQ (by omega)) | (rw [if_neg c_9, if_pos c_25] at hQ; exact hQ (by omega)) | (rw [if_neg c_9, if_neg c_25] at hQ; exact hQ (by omega))
  · refine r_iload_1 (pc := 12) dX8_partOf_12 ?_
    refine r_goto (pc := 13) (tgt := 48) dX8_partOf_13 (by decide) ?_
    refine r_iret (pc := 48) hret dX8_partOf_48 rfl rfl rfl ?_
    unfold prt at hQ
    first | (rw [if_pos c_9] at hQ; exact hQ (by omega)) | (rw [if_neg c_9, if_pos c_25] at hQ; exact hQ (by omega)) | (rw [if_neg c_9, if_neg c_25] at hQ; exact hQ (by omega))

theorem dX8_isApart_0 : decode cX8_isApart 0 = .ok (.iconst 0, 1) := by decide +kernel
theorem dX8_isApart_1 : decode cX8_isApart 1 = .ok (.istore_n 3, 1) := by decide +kernel
theorem dX8_isApart_2 : decode cX8_isApart 2 = .ok (.iload_n 3, 1) := by decide +kernel
theorem dX8_isApart_3 : decode cX8_isApart 3 = .ok (.iconst 4, 1) := by decide +kernel
theorem dX8_isApart_4 : decode cX8_isApart 4 = .ok (.if_icmp .ge 43, 3) := by decide +kernel
theorem dX8_isApart_7 : decode cX8_isApart 7 = .ok (.iload_n 3, 1) := by decide +kernel
theorem dX8_isApart_8 : decode cX8_isApart 8 = .ok (.iload_n 2, 1) := by decide +kernel
theorem dX8_isApart_9 : decode cX8_isApart 9 = .ok (.if_icmp .eq 32, 3) := by decide +kernel
theorem dX8_isApart_12 : decode cX8_isApart 12 = .ok (.aload_n 0, 1) := by decide +kernel
theorem dX8_isApart_13 : decode cX8_isApart 13 = .ok (.getfield 34, 3) := by decide +kernel
theorem dX8_isApart_16 : decode cX8_isApart 16 = .ok (.iload_n 3, 1) := by decide +kernel
theorem dX8_isApart_17 : decode cX8_isApart 17 = .ok (.iaload, 1) := by decide +kernel
theorem dX8_isApart_18 : decode cX8_isApart 18 = .ok (.ifCond .lt 23, 3) := by decide +kernel
theorem dX8_isApart_21 : decode cX8_isApart 21 = .ok (.aload_n 0, 1) := by decide +kernel
theorem dX8_isApart_22 : decode cX8_isApart 22 = .ok (.aload_n 0, 1) := by decide +kernel
theorem dX8_isApart_23 : decode cX8_isApart 23 = .ok (.getfield 34, 3) := by decide +kernel
theorem dX8_isApart_26 : decode cX8_isApart 26 = .ok (.iload_n 3, 1) := by decide +kernel
theorem dX8_isApart_27 : decode cX8_isApart 27 = .ok (.iaload, 1) := by decide +kernel
theorem dX8_isApart_28 : decode cX8_isApart 28 = .ok (.invokevirtual 189, 3) := by decide +kernel
theorem dX8_isApart_31 : decode cX8_isApart 31 = .ok (.aload_n 0, 1) := by decide +kernel
theorem dX8_isApart_32 : decode cX8_isApart 32 = .ok (.iload_n 1, 1) := by decide +kernel
theorem dX8_isApart_33 : decode cX8_isApart 33 = .ok (.invokevirtual 189, 3) := by decide +kernel
theorem dX8_isApart_36 : decode cX8_isApart 36 = .ok (.if_icmp .ne 5, 3) := by decide +kernel
theorem dX8_isApart_39 : decode cX8_isApart 39 = .ok (.iconst 0, 1) := by decide +kernel
theorem dX8_isApart_40 : decode cX8_isApart 40 = .ok (.ireturn, 1) := by decide +kernel
theorem dX8_isApart_41 : decode cX8_isApart 41 = .ok (.iinc 3 1, 3) := by decide +kernel
theorem dX8_isApart_44 : decode cX8_isApart 44 = .ok (.goto (-42), 3) := by decide +kernel
theorem dX8_isApart_47 : decode cX8_isApart 47 = .ok (.iconst 1, 1) := by decide +kernel
theorem dX8_isApart_48 : decode cX8_isApart 48 = .ok (.ireturn, 1) := by decide +kernel
set_option maxHeartbeats 4000000 in
set_option maxRecDepth 20000 in
theorem c_X8_isApart : ConI mX8_isApart (fun args N lay r h Q => ∃ b mp co d bt, args = [.ref b, vI d, vI bt] ∧ MdAt lay r b ∧ h (b + 2) = mp ∧ TrM mp ∧ RlM mp ∧ CoI mp co ∧ (∀ c, 0 ≤ c → c < 4 → h (b + 9) c = co c) ∧ (10 ≤ d ∧ d < 10 + mp 130) ∧ (-2147483648 ≤ bt ∧ bt < 2147483648) ∧ Q (bI (apt mp co d bt = true)) N lay r h) := by
  refine ConI.of (by decide) (by rintro _ N lay r h Q ⟨b, mp, co, d, bt, rfl, hM, hmp, hT, hR, hci, hco, hd, hbt, hQ⟩; exact ⟨rfl, Nat.le_of_ble_eq_true rfl⟩) ?_
  rintro E _ N lay r h Q ⟨b, mp, co, d, bt, rfl, hM, hmp, hT, hR, hci, hco, hd, hbt, hQ⟩ hret
  obtain ⟨ml0, ml1, ml2, ml3, ml4, ml5, ml6, ml7, ml8, ml9, ml10, ml11, ml12, ml13, ml14, ml15, ml16, ml17, ml18, ml19, ml20, mr1, mr2, mr3, mr4, mr5, mr6, mr7, mr8, mr9, mr10, mr11, mr12, mr13, mr14, mr15, mr16, mr17, mr18, mr19, mr20⟩ := id hM
  obtain ⟨t1, t2, t3, t4, t5, t6, t7⟩ := id hT
  obtain ⟨r1, r2, r3, r4, r5, r6, r7⟩ := id hR
  show St E mX8_isApart 0 [some (.ref b), some (vI d), some (vI bt), none] [] (0, 0) N lay r h
  have lp : ∀ (n_ : Nat) (i : Int), (4 - i).toNat = n_ → (0 ≤ i ∧ i ≤ 4) → (∀ c, 0 ≤ c → c < i → apC mp co d bt c) → St E mX8_isApart 2 [some (.ref b), some (vI d), some (vI bt), some (vI i)] [] (0, 0) N lay r h := by
    intro n_
    induction n_ using Nat.strongRecOn with
    | ind n_ ih =>
      intro i hn_ hi ha
      have hc := hci i
      have hco2 := hco i
      refine r_iload_3 (pc := 2) dX8_isApart_2 ?_
      refine r_iconst (pc := 3) dX8_isApart_3 ?_
      refine r_icmp_ge (pc := 4) (tgt := 47) dX8_isApart_4 (by decide) (by omega) (by omega) (fun c_4 => ?_) (fun c_4 => ?_)
      · refine r_iconst (pc := 47) dX8_isApart_47 ?_
        refine r_zret (pc := 48) hret dX8_isApart_48 rfl rfl rfl (by first | exact Or.inl rfl | exact Or.inr rfl | exact bI_01 | omega) ?_
        first
        | (rw [bI_t (apt_iff.mpr (fun c c0 c4 => ha c c0 (by omega)))] at hQ; exact hQ)
        | (rw [bI_f (fun z => by
             have z2 := apt_iff.mp z i (by omega) (by omega)
             rw [apC, ← hco i (by omega) (by omega)] at z2
             rcases z2 with z2 | z2 | z2
             · exact c_9 z2
             · omega
             · exact z2 c_36)] at hQ; exact hQ)
      · refine r_iload_3 (pc := 7) dX8_isApart_7 ?_
        refine r_iload_2 (pc := 8) dX8_isApart_8 ?_
        refine r_icmp_eq (pc := 9) (tgt := 41) dX8_isApart_9 (by decide) (by omega) (by omega) (fun c_9 => ?_) (fun c_9 => ?_)
        · refine r_iinc_3 (pc := 41) dX8_isApart_41 rfl ?_
          refine r_goto (pc := 44) (tgt := 2) dX8_isApart_44 (by decide) ?_
          exact ih _ (by omega) (i + 1) rfl (by omega) (fun c c0 c1 => by
            by_cases e : c = i
            · subst e
              rw [apC, ← hco c (by omega) (by omega)]
              first | exact Or.inl c_9 | exact Or.inr (Or.inl c_18) | exact Or.inr (Or.inr c_36)
            · exact ha c c0 (by omega))
        · refine r_aload_0 (pc := 12) dX8_isApart_12 ?_
          refine gf_X8_34 (pc := 13) rfl (by assumption) dX8_isApart_13 (by assumption) ?_
          refine r_iload_3 (pc := 16) dX8_isApart_16 ?_
          refine r_ialdE (pc := 17) (by assumption) rfl dX8_isApart_17 (by omega) (by omega) (fun i_17 => ?_)
          refine r_if_lt (pc := 18) (tgt := 41) dX8_isApart_18 (by decide) (by omega) (fun c_18 => ?_) (fun c_18 => ?_)
          · refine r_iinc_3 (pc := 41) dX8_isApart_41 rfl ?_
            refine r_goto (pc := 44) (tgt := 2) dX8_isApart_44 (by decide) ?_
            exact ih _ (by omega) (i + 1) rfl (by omega) (fun c c0 c1 => by
              by_cases e : c = i
              · subst e
                rw [apC, ← hco c (by omega) (by omega)]
                first | exact Or.inl c_9 | exact Or.inr (Or.inl c_18) | exact Or.inr (Or.inr c_36)
              · exact ha c c0 (by omega))
          · refine r_aload_0 (pc := 21) dX8_isApart_21 ?_
            refine r_aload_0 (pc := 22) dX8_isApart_22 ?_
            refine gf_X8_34 (pc := 23) rfl (by assumption) dX8_isApart_23 (by assumption) ?_
            refine r_iload_3 (pc := 26) dX8_isApart_26 ?_
            refine r_ialdE (pc := 27) (by assumption) rfl dX8_isApart_27 (by omega) (by omega) (fun i_27 => ?_)
            have hc9 : 10 ≤ h (b + 9) i ∧ h (b + 9) i < 10 + mp 130 := by rw [hco i (by omega) (by omega)] at c_18 ⊢; omega
            refine k_VI1 (pc := 28) c_X8_partOf lk_X8_189 ⟨Nat.le_of_ble_eq_true rfl, Nat.le_of_ble_eq_true rfl⟩ ⟨rfl, rfl⟩ ⟨Nat.le_of_ble_eq_true rfl, Nat.le_of_ble_eq_true rfl⟩ (k := 8) rfl (by decide) (by assumption) dX8_isApart_28 (Nat.le_of_ble_eq_true rfl) ?_
            refine ⟨_, _, _, rfl, by assumption, by first | assumption | exact rfl, by assumption, by assumption, by omega, fun i_28 => ?_⟩
            refine r_aload_0 (pc := 31) dX8_isApart_31 ?_
            refine r_iload_1 (pc := 32) dX8_isApart_32 ?_
            refine k_VI1 (pc := 33) c_X8_partOf lk_X8_189 ⟨Nat.le_of_ble_eq_true rfl, Nat.le_of_ble_eq_true rfl⟩ ⟨rfl, rfl⟩ ⟨Nat.le_of_ble_eq_true rfl, Nat.le_of_ble_eq_true rfl⟩ (k := 8) rfl (by decide) (by assumption) dX8_isApart_33 (Nat.le_of_ble_eq_true rfl) ?_
            refine ⟨_, _, _, rfl, by assumption, by first | assumption | exact rfl, by assumption, by assumption, by omega, fun i_33 => ?_⟩
            refine r_icmp_ne (pc := 36) (tgt := 41) dX8_isApart_36 (by decide) (by omega) (by omega) (fun c_36 => ?_) (fun c_36 => ?_)
            · refine r_iinc_3 (pc := 41) dX8_isApart_41 rfl ?_
              refine r_goto (pc := 44) (tgt := 2) dX8_isApart_44 (by decide) ?_
              exact ih _ (by omega) (i + 1) rfl (by omega) (fun c c0 c1 => by
                by_cases e : c = i
                · subst e
                  rw [apC, ← hco c (by omega) (by omega)]
                  first | exact Or.inl c_9 | exact Or.inr (Or.inl c_18) | exact Or.inr (Or.inr c_36)
                · exact ha c c0 (by omega))
            · refine r_iconst (pc := 39) dX8_isApart_39 ?_
              refine r_zret (pc := 40) hret dX8_isApart_40 rfl rfl rfl (by first | exact Or.inl rfl | exact Or.inr rfl | exact bI_01 | omega) ?_
              first
              | (rw [bI_t (apt_iff.mpr (fun c c0 c4 => ha c c0 (by omega)))] at hQ; exact hQ)
              | (rw [bI_f (fun z => by
                   have z2 := apt_iff.mp z i (by omega) (by omega)
                   rw [apC, ← hco i (by omega) (by omega)] at z2
                   rcases z2 with z2 | z2 | z2
                   · exact c_9 z2
                   · omega
                   · exact z2 c_36)] at hQ; exact hQ)
  refine r_iconst (pc := 0) dX8_isApart_0 ?_
  refine r_istore_3 (pc := 1) dX8_isApart_1 rfl ?_
  exact lp _ 0 rfl (by omega) (fun c c0 c1 => by omega)

theorem dX8_mayBe_0 : decode cX8_mayBe 0 = .ok (.aload_n 0, 1) := by decide +kernel
theorem dX8_mayBe_1 : decode cX8_mayBe 1 = .ok (.getfield 13, 3) := by decide +kernel
theorem dX8_mayBe_4 : decode cX8_mayBe 4 = .ok (.bipush 88, 2) := by decide +kernel
theorem dX8_mayBe_6 : decode cX8_mayBe 6 = .ok (.iload_n 2, 1) := by decide +kernel
theorem dX8_mayBe_7 : decode cX8_mayBe 7 = .ok (.iadd, 1) := by decide +kernel
theorem dX8_mayBe_8 : decode cX8_mayBe 8 = .ok (.iaload, 1) := by decide +kernel
theorem dX8_mayBe_9 : decode cX8_mayBe 9 = .ok (.ifCond .ne 29, 3) := by decide +kernel
theorem dX8_mayBe_12 : decode cX8_mayBe 12 = .ok (.iload_n 1, 1) := by decide +kernel
theorem dX8_mayBe_13 : decode cX8_mayBe 13 = .ok (.iload_n 2, 1) := by decide +kernel
theorem dX8_mayBe_14 : decode cX8_mayBe 14 = .ok (.bipush 99, 2) := by decide +kernel
theorem dX8_mayBe_16 : decode cX8_mayBe 16 = .ok (.invokestatic 70, 3) := by decide +kernel
theorem dX8_mayBe_19 : decode cX8_mayBe 19 = .ok (.bipush 16, 2) := by decide +kernel
theorem dX8_mayBe_21 : decode cX8_mayBe 21 = .ok (.irem, 1) := by decide +kernel
theorem dX8_mayBe_22 : decode cX8_mayBe 22 = .ok (.aload_n 0, 1) := by decide +kernel
theorem dX8_mayBe_23 : decode cX8_mayBe 23 = .ok (.getfield 13, 3) := by decide +kernel
theorem dX8_mayBe_26 : decode cX8_mayBe 26 = .ok (.bipush 66, 2) := by decide +kernel
theorem dX8_mayBe_28 : decode cX8_mayBe 28 = .ok (.iload_n 2, 1) := by decide +kernel
theorem dX8_mayBe_29 : decode cX8_mayBe 29 = .ok (.iadd, 1) := by decide +kernel
theorem dX8_mayBe_30 : decode cX8_mayBe 30 = .ok (.iaload, 1) := by decide +kernel
theorem dX8_mayBe_31 : decode cX8_mayBe 31 = .ok (.if_icmp .ge 7, 3) := by decide +kernel
theorem dX8_mayBe_34 : decode cX8_mayBe 34 = .ok (.iconst 1, 1) := by decide +kernel
theorem dX8_mayBe_35 : decode cX8_mayBe 35 = .ok (.goto 4, 3) := by decide +kernel
theorem dX8_mayBe_38 : decode cX8_mayBe 38 = .ok (.iconst 0, 1) := by decide +kernel
theorem dX8_mayBe_39 : decode cX8_mayBe 39 = .ok (.ireturn, 1) := by decide +kernel
set_option maxHeartbeats 4000000 in
set_option maxRecDepth 20000 in
theorem c_X8_mayBe : ConI mX8_mayBe (fun args N lay r h Q => ∃ b mp g d, args = [.ref b, vI g, vI d] ∧ MdAt lay r b ∧ h (b + 2) = mp ∧ TrM mp ∧ RlM mp ∧ (0 ≤ g ∧ g < 16) ∧ (10 ≤ d ∧ d < 10 + mp 130) ∧ Q (bI (mb mp g d = true)) N lay r h) := by
  refine ConI.of (by decide) (by rintro _ N lay r h Q ⟨b, mp, g, d, rfl, hM, hmp, hT, hR, hg, hd, hQ⟩; exact ⟨rfl, Nat.le_of_ble_eq_true rfl⟩) ?_
  rintro E _ N lay r h Q ⟨b, mp, g, d, rfl, hM, hmp, hT, hR, hg, hd, hQ⟩ hret
  obtain ⟨ml0, ml1, ml2, ml3, ml4, ml5, ml6, ml7, ml8, ml9, ml10, ml11, ml12, ml13, ml14, ml15, ml16, ml17, ml18, ml19, ml20, mr1, mr2, mr3, mr4, mr5, mr6, mr7, mr8, mr9, mr10, mr11, mr12, mr13, mr14, mr15, mr16, mr17, mr18, mr19, mr20⟩ := id hM
  obtain ⟨t1, t2, t3, t4, t5, t6, t7⟩ := id hT
  obtain ⟨r1, r2, r3, r4, r5, r6, r7⟩ := id hR
  have q6 := r6 d (by omega) (by omega)
  have dq := dr_r g d 99
  show St E mX8_mayBe 0 [some (.ref b), some (vI g), some (vI d)] [] (0, 0) N lay r h
  refine r_aload_0 (pc := 0) dX8_mayBe_0 ?_
  refine gf_X8_13 (pc := 1) rfl (by assumption) dX8_mayBe_1 (by assumption) ?_
  refine r_bipush (pc := 4) dX8_mayBe_4 (by decide) ?_
  refine r_iload_2 (pc := 6) dX8_mayBe_6 ?_
  refine r_iadd (pc := 7) dX8_mayBe_7 ?_
  refine r_ialdE (pc := 8) (by assumption) (by first | assumption | exact rfl) dX8_mayBe_8 (by omega) (by omega) (fun i_8 => ?_)
  refine r_if_ne (pc := 9) (tgt := 38) dX8_mayBe_9 (by decide) (by omega) (fun c_9 => ?_) (fun c_9 => ?_)
  · refine r_iconst (pc := 38) dX8_mayBe_38 ?_
    refine r_zret (pc := 39) hret dX8_mayBe_39 rfl rfl rfl (by first | exact Or.inl rfl | exact Or.inr rfl | exact bI_01 | omega) ?_
    first | (rw [bI_t (mb_iff.mpr ⟨c_9, c_31⟩)] at hQ; exact hQ) | (rw [bI_f (fun z => c_9 (mb_iff.mp z).1)] at hQ; exact hQ) | (rw [bI_f (fun z => by have := (mb_iff.mp z).2; omega)] at hQ; exact hQ)
  · refine r_iload_1 (pc := 12) dX8_mayBe_12 ?_
    refine r_iload_2 (pc := 13) dX8_mayBe_13 ?_
    refine r_bipush (pc := 14) dX8_mayBe_14 (by decide) ?_
    refine k_SI3 (pc := 16) c_X8_drawn lk_X8_70 ⟨Nat.le_of_ble_eq_true rfl, Nat.le_of_ble_eq_true rfl⟩ ⟨rfl, rfl⟩ ⟨Nat.le_of_ble_eq_true rfl, Nat.le_of_ble_eq_true rfl⟩ dX8_mayBe_16 (Nat.le_of_ble_eq_true rfl) ?_
    refine ⟨_, _, _, rfl, by omega, by omega, by omega, ?_⟩
    refine r_bipush (pc := 19) dX8_mayBe_19 (by decide) ?_
    refine r_irem (pc := 21) dX8_mayBe_21 (by omega) (by omega) ?_
    refine r_aload_0 (pc := 22) dX8_mayBe_22 ?_
    refine gf_X8_13 (pc := 23) rfl (by assumption) dX8_mayBe_23 (by assumption) ?_
    refine r_bipush (pc := 26) dX8_mayBe_26 (by decide) ?_
    refine r_iload_2 (pc := 28) dX8_mayBe_28 ?_
    refine r_iadd (pc := 29) dX8_mayBe_29 ?_
    refine r_ialdE (pc := 30) (by assumption) (by first | assumption | exact rfl) dX8_mayBe_30 (by omega) (by omega) (fun i_30 => ?_)
    refine r_icmp_ge (pc := 31) (tgt := 38) dX8_mayBe_31 (by decide) (by omega) (by omega) (fun c_31 => ?_) (fun c_31 => ?_)
    · refine r_iconst (pc := 38) dX8_mayBe_38 ?_
      refine r_zret (pc := 39) hret dX8_mayBe_39 rfl rfl rfl (by first | exact Or.inl rfl | exact Or.inr rfl | exact bI_01 | omega) ?_
      first | (rw [bI_t (mb_iff.mpr ⟨c_9, c_31⟩)] at hQ; exact hQ) | (rw [bI_f (fun z => c_9 (mb_iff.mp z).1)] at hQ; exact hQ) | (rw [bI_f (fun z => by have := (mb_iff.mp z).2; omega)] at hQ; exact hQ)
    · refine r_iconst (pc := 34) dX8_mayBe_34 ?_
      refine r_goto (pc := 35) (tgt := 39) dX8_mayBe_35 (by decide) ?_
      refine r_zret (pc := 39) hret dX8_mayBe_39 rfl rfl rfl (by first | exact Or.inl rfl | exact Or.inr rfl | exact bI_01 | omega) ?_
      first | (rw [bI_t (mb_iff.mpr ⟨c_9, c_31⟩)] at hQ; exact hQ) | (rw [bI_f (fun z => c_9 (mb_iff.mp z).1)] at hQ; exact hQ) | (rw [bI_f (fun z => by have := (mb_iff.mp z).2; omega)] at hQ; exact hQ)

theorem dX8_takes_0 : decode cX8_takes 0 = .ok (.aload_n 0, 1) := by decide +kernel
theorem dX8_takes_1 : decode cX8_takes 1 = .ok (.iload_n 1, 1) := by decide +kernel
theorem dX8_takes_2 : decode cX8_takes 2 = .ok (.iload_n 3, 1) := by decide +kernel
theorem dX8_takes_3 : decode cX8_takes 3 = .ok (.invokevirtual 192, 3) := by decide +kernel
theorem dX8_takes_6 : decode cX8_takes 6 = .ok (.istore 4, 2) := by decide +kernel
theorem dX8_takes_8 : decode cX8_takes 8 = .ok (.iload 4, 2) := by decide +kernel
theorem dX8_takes_10 : decode cX8_takes 10 = .ok (.ifCond .lt 38, 3) := by decide +kernel
theorem dX8_takes_13 : decode cX8_takes 13 = .ok (.aload_n 0, 1) := by decide +kernel
theorem dX8_takes_14 : decode cX8_takes 14 = .ok (.iload_n 1, 1) := by decide +kernel
theorem dX8_takes_15 : decode cX8_takes 15 = .ok (.iload 4, 2) := by decide +kernel
theorem dX8_takes_17 : decode cX8_takes 17 = .ok (.invokevirtual 195, 3) := by decide +kernel
theorem dX8_takes_20 : decode cX8_takes 20 = .ok (.ifCond .eq 28, 3) := by decide +kernel
theorem dX8_takes_23 : decode cX8_takes 23 = .ok (.aload_n 0, 1) := by decide +kernel
theorem dX8_takes_24 : decode cX8_takes 24 = .ok (.iload 4, 2) := by decide +kernel
theorem dX8_takes_26 : decode cX8_takes 26 = .ok (.iconst (-1), 1) := by decide +kernel
theorem dX8_takes_27 : decode cX8_takes 27 = .ok (.invokevirtual 198, 3) := by decide +kernel
theorem dX8_takes_30 : decode cX8_takes 30 = .ok (.ifCond .eq 18, 3) := by decide +kernel
theorem dX8_takes_33 : decode cX8_takes 33 = .ok (.aload_n 0, 1) := by decide +kernel
theorem dX8_takes_34 : decode cX8_takes 34 = .ok (.getfield 34, 3) := by decide +kernel
theorem dX8_takes_37 : decode cX8_takes 37 = .ok (.iload_n 2, 1) := by decide +kernel
theorem dX8_takes_38 : decode cX8_takes 38 = .ok (.iload 4, 2) := by decide +kernel
theorem dX8_takes_40 : decode cX8_takes 40 = .ok (.iastore, 1) := by decide +kernel
theorem dX8_takes_41 : decode cX8_takes 41 = .ok (.aload_n 0, 1) := by decide +kernel
theorem dX8_takes_42 : decode cX8_takes 42 = .ok (.getfield 37, 3) := by decide +kernel
theorem dX8_takes_45 : decode cX8_takes 45 = .ok (.iload_n 2, 1) := by decide +kernel
theorem dX8_takes_46 : decode cX8_takes 46 = .ok (.iload_n 3, 1) := by decide +kernel
theorem dX8_takes_47 : decode cX8_takes 47 = .ok (.iastore, 1) := by decide +kernel
theorem dX8_takes_48 : decode cX8_takes 48 = .ok (.return_, 1) := by decide +kernel
set_option maxHeartbeats 4000000 in
set_option maxRecDepth 20000 in
theorem c_X8_takes : ConV mX8_takes (fun args N lay r h Q => ∃ b mp co tr g c t, args = [.ref b, vI g, vI c, vI t] ∧ MdAt lay r b ∧ h (b + 2) = mp ∧ TrM mp ∧ RlM mp ∧ CoI mp co ∧ (∀ c, 0 ≤ c → c < 4 → h (b + 9) c = co c) ∧ (∀ c, 0 ≤ c → c < 4 → h (b + 10) c = tr c) ∧ (∀ n, 0 ≤ n → n < 22 → h (b + 8) n = wg mp n) ∧ WaT (h (b + 7)) ∧ (0 ≤ g ∧ g < 16) ∧ (0 ≤ c ∧ c < 4) ∧ (0 ≤ t ∧ t < 24) ∧ ∀ h2, Fr h h2 (fun x => x = b + 9 ∨ x = b + 10) → (∀ k, 0 ≤ k → k < 4 → h2 (b + 9) k = if tk mp g t co = true then up co c (tryS mp g t) k else co k) → (∀ k, 0 ≤ k → k < 4 → h2 (b + 10) k = if tk mp g t co = true then up tr c t k else tr k) → Q N lay r h2) := by
  refine ConV.of (by decide) (by rintro _ N lay r h Q ⟨b, mp, co, tr, g, c, t, rfl, hM, hmp, hT, hR, hci, hco, htr, hw, hwa, hg, hc, ht, hQ⟩; exact ⟨rfl, Nat.le_of_ble_eq_true rfl⟩) ?_
  rintro E _ N lay r h Q ⟨b, mp, co, tr, g, c, t, rfl, hM, hmp, hT, hR, hci, hco, htr, hw, hwa, hg, hc, ht, hQ⟩ hret
  obtain ⟨ml0, ml1, ml2, ml3, ml4, ml5, ml6, ml7, ml8, ml9, ml10, ml11, ml12, ml13, ml14, ml15, ml16, ml17, ml18, ml19, ml20, mr1, mr2, mr3, mr4, mr5, mr6, mr7, mr8, mr9, mr10, mr11, mr12, mr13, mr14, mr15, mr16, mr17, mr18, mr19, mr20⟩ := id hM
  obtain ⟨t1, t2, t3, t4, t5, t6, t7⟩ := id hT
  obtain ⟨r1, r2, r3, r4, r5, r6, r7⟩ := id hR
  have dk := try_dk hT g t
  show St E mX8_takes 0 [some (.ref b), some (vI g), some (vI c), some (vI t), none] [] (0, 0) N lay r h
  refine r_aload_0 (pc := 0) dX8_takes_0 ?_
  refine r_iload_1 (pc := 1) dX8_takes_1 ?_
  refine r_iload_3 (pc := 2) dX8_takes_2 ?_
  refine k_VI2 (pc := 3) c_X8_tryOf lk_X8_192 ⟨Nat.le_of_ble_eq_true rfl, Nat.le_of_ble_eq_true rfl⟩ ⟨rfl, rfl⟩ ⟨Nat.le_of_ble_eq_true rfl, Nat.le_of_ble_eq_true rfl⟩ (k := 8) rfl (by decide) (by assumption) dX8_takes_3 (Nat.le_of_ble_eq_true rfl) ?_
  refine ⟨_, _, _, _, rfl, by assumption, by first | assumption | exact rfl, by assumption, by assumption, by assumption, by omega, by omega, ?_⟩
  refine r_istore_4 (pc := 6) dX8_takes_6 rfl ?_
  refine r_iload_4 (pc := 8) dX8_takes_8 ?_
  refine r_if_lt (pc := 10) (tgt := 48) dX8_takes_10 (by decide) (by omega) (fun c_10 => ?_) (fun c_10 => ?_)
  · refine r_ret (pc := 48) hret dX8_takes_48 rfl rfl rfl ?_
    first
    | (have e1 : ¬ tk mp g t co = true := fun z => by first | (have := (tk_iff.mp z).1; omega) | exact c_20 (tk_iff.mp z).2.1 | exact c_30 (tk_iff.mp z).2.2
       exact hQ h (fun _ _ => rfl) (fun k k0 k4 => by rw [if_neg e1]; exact hco k k0 k4) (fun k k0 k4 => by rw [if_neg e1]; exact htr k k0 k4))
    | (have e1 : tk mp g t co = true := tk_iff.mpr ⟨by omega, c_20, c_30⟩
       refine hQ _ (fun x hx => by rw [hr_n (by omega), hr_n (by omega)]) (fun k k0 k4 => ?_) (fun k k0 k4 => ?_)
       · rw [if_pos e1, hr_n (by omega), hr_s]
         by_cases e : k = c
         · rw [e, up_s, up_s]
         · rw [up_n e, up_n e]; exact hco k k0 k4
       · rw [if_pos e1, hr_s, hr_n (by omega)]
         by_cases e : k = c
         · rw [e, up_s, up_s]
         · rw [up_n e, up_n e]; exact htr k k0 k4)
  · refine r_aload_0 (pc := 13) dX8_takes_13 ?_
    refine r_iload_1 (pc := 14) dX8_takes_14 ?_
    refine r_iload_4 (pc := 15) dX8_takes_15 ?_
    refine k_VI2 (pc := 17) c_X8_mayBe lk_X8_195 ⟨Nat.le_of_ble_eq_true rfl, Nat.le_of_ble_eq_true rfl⟩ ⟨rfl, rfl⟩ ⟨Nat.le_of_ble_eq_true rfl, Nat.le_of_ble_eq_true rfl⟩ (k := 8) rfl (by decide) (by assumption) dX8_takes_17 (Nat.le_of_ble_eq_true rfl) ?_
    refine ⟨_, _, _, _, rfl, by assumption, by first | assumption | exact rfl, by assumption, by assumption, by omega, by omega, ?_⟩
    refine r_ifeq_b (pc := 20) (tgt := 48) dX8_takes_20 (by decide) (fun c_20 => ?_) (fun c_20 => ?_)
    · refine r_ret (pc := 48) hret dX8_takes_48 rfl rfl rfl ?_
      first
      | (have e1 : ¬ tk mp g t co = true := fun z => by first | (have := (tk_iff.mp z).1; omega) | exact c_20 (tk_iff.mp z).2.1 | exact c_30 (tk_iff.mp z).2.2
         exact hQ h (fun _ _ => rfl) (fun k k0 k4 => by rw [if_neg e1]; exact hco k k0 k4) (fun k k0 k4 => by rw [if_neg e1]; exact htr k k0 k4))
      | (have e1 : tk mp g t co = true := tk_iff.mpr ⟨by omega, c_20, c_30⟩
         refine hQ _ (fun x hx => by rw [hr_n (by omega), hr_n (by omega)]) (fun k k0 k4 => ?_) (fun k k0 k4 => ?_)
         · rw [if_pos e1, hr_n (by omega), hr_s]
           by_cases e : k = c
           · rw [e, up_s, up_s]
           · rw [up_n e, up_n e]; exact hco k k0 k4
         · rw [if_pos e1, hr_s, hr_n (by omega)]
           by_cases e : k = c
           · rw [e, up_s, up_s]
           · rw [up_n e, up_n e]; exact htr k k0 k4)
    · refine r_aload_0 (pc := 23) dX8_takes_23 ?_
      refine r_iload_4 (pc := 24) dX8_takes_24 ?_
      refine r_iconst (pc := 26) dX8_takes_26 ?_
      refine k_VI2 (pc := 27) c_X8_isApart lk_X8_198 ⟨Nat.le_of_ble_eq_true rfl, Nat.le_of_ble_eq_true rfl⟩ ⟨rfl, rfl⟩ ⟨Nat.le_of_ble_eq_true rfl, Nat.le_of_ble_eq_true rfl⟩ (k := 8) rfl (by decide) (by assumption) dX8_takes_27 (Nat.le_of_ble_eq_true rfl) ?_
      refine ⟨_, _, _, _, _, rfl, by assumption, by first | assumption | exact rfl, by assumption, by assumption, by assumption, by assumption, by omega, by omega, ?_⟩
      refine r_ifeq_b (pc := 30) (tgt := 48) dX8_takes_30 (by decide) (fun c_30 => ?_) (fun c_30 => ?_)
      · refine r_ret (pc := 48) hret dX8_takes_48 rfl rfl rfl ?_
        first
        | (have e1 : ¬ tk mp g t co = true := fun z => by first | (have := (tk_iff.mp z).1; omega) | exact c_20 (tk_iff.mp z).2.1 | exact c_30 (tk_iff.mp z).2.2
           exact hQ h (fun _ _ => rfl) (fun k k0 k4 => by rw [if_neg e1]; exact hco k k0 k4) (fun k k0 k4 => by rw [if_neg e1]; exact htr k k0 k4))
        | (have e1 : tk mp g t co = true := tk_iff.mpr ⟨by omega, c_20, c_30⟩
           refine hQ _ (fun x hx => by rw [hr_n (by omega), hr_n (by omega)]) (fun k k0 k4 => ?_) (fun k k0 k4 => ?_)
           · rw [if_pos e1, hr_n (by omega), hr_s]
             by_cases e : k = c
             · rw [e, up_s, up_s]
             · rw [up_n e, up_n e]; exact hco k k0 k4
           · rw [if_pos e1, hr_s, hr_n (by omega)]
             by_cases e : k = c
             · rw [e, up_s, up_s]
             · rw [up_n e, up_n e]; exact htr k k0 k4)
      · refine r_aload_0 (pc := 33) dX8_takes_33 ?_
        refine gf_X8_34 (pc := 34) rfl (by assumption) dX8_takes_34 (by assumption) ?_
        refine r_iload_2 (pc := 37) dX8_takes_37 ?_
        refine r_iload_4 (pc := 38) dX8_takes_38 ?_
        refine r_iastE (pc := 40) (by assumption) (by first | assumption | exact rfl) dX8_takes_40 (by omega) (by omega) (by omega) ?_
        refine r_aload_0 (pc := 41) dX8_takes_41 ?_
        refine gf_X8_37 (pc := 42) rfl (by assumption) dX8_takes_42 (by assumption) ?_
        refine r_iload_2 (pc := 45) dX8_takes_45 ?_
        refine r_iload_3 (pc := 46) dX8_takes_46 ?_
        refine r_iastE (pc := 47) (by assumption) (by first | assumption | exact rfl) dX8_takes_47 (by omega) (by omega) (by omega) ?_
        refine r_ret (pc := 48) hret dX8_takes_48 rfl rfl rfl ?_
        first
        | (have e1 : ¬ tk mp g t co = true := fun z => by first | (have := (tk_iff.mp z).1; omega) | exact c_20 (tk_iff.mp z).2.1 | exact c_30 (tk_iff.mp z).2.2
           exact hQ h (fun _ _ => rfl) (fun k k0 k4 => by rw [if_neg e1]; exact hco k k0 k4) (fun k k0 k4 => by rw [if_neg e1]; exact htr k k0 k4))
        | (have e1 : tk mp g t co = true := tk_iff.mpr ⟨by omega, c_20, c_30⟩
           refine hQ _ (fun x hx => by rw [hr_n (by omega), hr_n (by omega)]) (fun k k0 k4 => ?_) (fun k k0 k4 => ?_)
           · rw [if_pos e1, hr_n (by omega), hr_s]
             by_cases e : k = c
             · rw [e, up_s, up_s]
             · rw [up_n e, up_n e]; exact hco k k0 k4
           · rw [if_pos e1, hr_s, hr_n (by omega)]
             by_cases e : k = c
             · rw [e, up_s, up_s]
             · rw [up_n e, up_n e]; exact htr k k0 k4)

