/-! THE MAP AS A ROW OF 136 NUMBERS, and what follows from it: weights, choices. The reference: the tree -/
def MdAt (lay : LyT) (r : RfT) (b : Nat) : Prop := lay b = (9, 0) ∧ lay (b + 1) = (10, 200) ∧ lay (b + 2) = (10, 136) ∧ lay (b + 3) = (10, 680) ∧ lay (b + 4) = (10, 5) ∧ lay (b + 5) = (10, 136) ∧ lay (b + 6) = (10, 136) ∧ lay (b + 7) = (10, 8800) ∧ lay (b + 8) = (10, 22) ∧ lay (b + 9) = (10, 4) ∧ lay (b + 10) = (10, 4) ∧ lay (b + 11) = (10, 6) ∧ lay (b + 12) = (10, 64) ∧ lay (b + 13) = (10, 64) ∧ lay (b + 14) = (10, 16) ∧ lay (b + 15) = (10, 16) ∧ lay (b + 16) = (10, 16) ∧ lay (b + 17) = (10, 18) ∧ lay (b + 18) = (10, 5) ∧ lay (b + 19) = (10, 9) ∧ lay (b + 20) = (10, 9) ∧ r b 1 = some (b + 1) ∧ r b 2 = some (b + 2) ∧ r b 3 = some (b + 3) ∧ r b 4 = some (b + 4) ∧ r b 6 = some (b + 5) ∧ r b 7 = some (b + 6) ∧ r b 8 = some (b + 7) ∧ r b 9 = some (b + 8) ∧ r b 10 = some (b + 9) ∧ r b 11 = some (b + 10) ∧ r b 12 = some (b + 11) ∧ r b 13 = some (b + 12) ∧ r b 14 = some (b + 13) ∧ r b 15 = some (b + 14) ∧ r b 16 = some (b + 15) ∧ r b 18 = some (b + 16) ∧ r b 20 = some (b + 17) ∧ r b 21 = some (b + 18) ∧ r b 22 = some (b + 19) ∧ r b 23 = some (b + 20)
/-- a fact that omega passes over -/
def Hid (p : Prop) : Prop := p
theorem Hid.out {p : Prop} (h : Hid p) : p := h
theorem bI_01 {c : Prop} [Decidable c] : bI c = 0 ∨ bI c = 1 := by
  unfold bI
  split <;> simp
/-- the tree part of a map -/
def TrM (mp : Int → Int) : Prop := (0 ≤ mp 128 ∧ mp 128 ≤ 3) ∧ (0 ≤ mp 129 ∧ mp 129 ≤ 6) ∧ (0 ≤ mp 130 ∧ mp 130 ≤ 12) ∧ (∀ n, 0 ≤ n → n ≤ 3 → mp n = 0) ∧ (∀ n, 4 ≤ n → n < 4 + mp 129 → 1 ≤ mp n ∧ mp n ≤ mp 128) ∧ (∀ n, 10 ≤ n → n < 10 + mp 130 → 4 ≤ mp n ∧ mp n < 4 + mp 129) ∧ ∀ d, 10 ≤ d → d < 10 + mp 130 → 0 ≤ mp (22 + d) ∧ mp (22 + d) ≤ 40
abbrev isNd (mp : Int → Int) (n : Int) : Prop := n = 0 ∨ (1 ≤ n ∧ n ≤ mp 128) ∨ (4 ≤ n ∧ n ≤ 3 + mp 129) ∨ (10 ≤ n ∧ n ≤ 9 + mp 130)
abbrev bel (mp : Int → Int) (d n : Int) : Prop := n = 0 ∨ n = d ∨ n = mp d ∨ n = mp (mp d)
def sW (mp : Int → Int) (n : Int) : Nat → Int
  | 0 => 0
  | k + 1 => sW mp n k + if bel mp (10 + (k : Int)) n then mp (22 + (10 + (k : Int))) else 0
def wt (mp : Int → Int) (n : Int) : Int := sW mp n (mp 130).toNat
def wg (mp : Int → Int) (n : Int) : Int := if isNd mp n then wt mp n else 0
theorem sW_r {mp : Int → Int} (h : TrM mp) (n : Int) : ∀ k : Nat, (k : Int) ≤ mp 130 → 0 ≤ sW mp n k ∧ sW mp n k ≤ 40 * k
  | 0, _ => by simp [sW]
  | k + 1, hk => by
    have h1 := sW_r h n k (by omega)
    have h2 := h.2.2.2.2.2.2 (10 + k) (by omega) (by omega)
    simp only [sW]
    split <;> omega
theorem wt_r {mp : Int → Int} (h : TrM mp) (n : Int) : 0 ≤ wt mp n ∧ wt mp n ≤ 480 := by
  have h0 := h.2.2.1
  have h1 := sW_r h n (mp 130).toNat (by omega)
  unfold wt
  omega
theorem wg_r {mp : Int → Int} (h : TrM mp) (n : Int) : 0 ≤ wg mp n ∧ wg mp n ≤ 480 := by
  unfold wg
  split
  · exact wt_r h n
  · omega
/-- the best of the candidates below k -/
def pk (c : Int → Prop) [DecidablePred c] (L W : Int → Int) : Nat → Int
  | 0 => -4
  | k + 1 => if c k ∧ (pk c L W k < 0 ∨ L k * W (pk c L W k) < L (pk c L W k) * W k) then k else pk c L W k
theorem pk_or (c : Int → Prop) [DecidablePred c] (L W : Int → Int) : ∀ k : Nat, pk c L W k = -4 ∨ (0 ≤ pk c L W k ∧ pk c L W k < k ∧ c (pk c L W k))
  | 0 => Or.inl rfl
  | k + 1 => by
    simp only [pk]
    split
    · rename_i q
      exact Or.inr ⟨by omega, by omega, q.1⟩
    · rcases pk_or c L W k with q | ⟨q1, q2, q3⟩
      · exact Or.inl q
      · exact Or.inr ⟨q1, by omega, q3⟩
abbrev cd (mp : Int → Int) (n c : Int) : Prop := 1 ≤ c ∧ 0 < wg mp c ∧ mp c = n
def chz (mp : Int → Int) (g t n : Int) : Int := pk (cd mp n) (fun c => wn (dr g c t)) (wg mp) 22
theorem chz_or (mp : Int → Int) (g t n : Int) : chz mp g t n = -4 ∨ (1 ≤ chz mp g t n ∧ chz mp g t n < 22 ∧ 0 < wg mp (chz mp g t n) ∧ mp (chz mp g t n) = n) := by
  rcases pk_or (cd mp n) (fun c => wn (dr g c t)) (wg mp) 22 with h | ⟨h1, h2, h3⟩
  · exact Or.inl h
  · exact Or.inr ⟨h3.1, h2, h3.2⟩
def try1 (mp : Int → Int) (g t n : Int) : Int := if n < 0 then n else chz mp g t n
def tryS (mp : Int → Int) (g t : Int) : Int := try1 mp g t (try1 mp g t (chz mp g t 0))
def WaT (f : Int → Int) : Prop := ∀ g n t : Int, 0 ≤ g → g < 16 → 0 ≤ n → n < 22 → 0 ≤ t → t < 24 → f (550 * g + 25 * n + t) = wn (dr g n t)
theorem dX8_isHall_0 : decode cX8_isHall 0 = .ok (.aload_n 0, 1) := by decide +kernel
theorem dX8_isHall_1 : decode cX8_isHall 1 = .ok (.iload_n 1, 1) := by decide +kernel
theorem dX8_isHall_2 : decode cX8_isHall 2 = .ok (.iconst 1, 1) := by decide +kernel
theorem dX8_isHall_3 : decode cX8_isHall 3 = .ok (.aload_n 0, 1) := by decide +kernel
theorem dX8_isHall_4 : decode cX8_isHall 4 = .ok (.getfield 13, 3) := by decide +kernel
theorem dX8_isHall_7 : decode cX8_isHall 7 = .ok (.sipush 128, 3) := by decide +kernel
theorem dX8_isHall_10 : decode cX8_isHall 10 = .ok (.iaload, 1) := by decide +kernel
theorem dX8_isHall_11 : decode cX8_isHall 11 = .ok (.invokevirtual 137, 3) := by decide +kernel
theorem dX8_isHall_14 : decode cX8_isHall 14 = .ok (.ireturn, 1) := by decide +kernel
set_option maxHeartbeats 4000000 in
set_option maxRecDepth 20000 in
theorem c_X8_isHall : ConI mX8_isHall (fun args N lay r h Q => ∃ b mp k, args = [.ref b, vI k] ∧ MdAt lay r b ∧ h (b + 2) = mp ∧ (-2147483648 ≤ k ∧ k < 2147483648) ∧ (0 ≤ mp 128 ∧ mp 128 ≤ 12) ∧ Q (bI (1 ≤ k ∧ k ≤ mp 128)) N lay r h) := by
  refine ConI.of (by decide) (by rintro _ N lay r h Q ⟨b, mp, k, rfl, hM, rfl, hk, hj, hQ⟩; exact ⟨rfl, Nat.le_of_ble_eq_true rfl⟩) ?_
  rintro E _ N lay r h Q ⟨b, mp, k, rfl, hM, rfl, hk, hj, hQ⟩ hret
  obtain ⟨ml0, ml1, ml2, ml3, ml4, ml5, ml6, ml7, ml8, ml9, ml10, ml11, ml12, ml13, ml14, ml15, ml16, ml17, ml18, ml19, ml20, mr1, mr2, mr3, mr4, mr5, mr6, mr7, mr8, mr9, mr10, mr11, mr12, mr13, mr14, mr15, mr16, mr17, mr18, mr19, mr20⟩ := id hM
  show St E mX8_isHall 0 [some (.ref b), some (vI k)] [] (0, 0) N lay r h
  refine r_aload_0 (pc := 0) dX8_isHall_0 ?_
  refine r_iload_1 (pc := 1) dX8_isHall_1 ?_
  refine r_iconst (pc := 2) dX8_isHall_2 ?_
  refine r_aload_0 (pc := 3) dX8_isHall_3 ?_
  refine gf_X8_13 (pc := 4) rfl (by assumption) dX8_isHall_4 (by assumption) ?_
  refine r_sipush (pc := 7) dX8_isHall_7 (by decide) ?_
  refine r_ialdE (pc := 10) (by assumption) (by first | assumption | exact rfl) dX8_isHall_10 (by omega) (by omega) (fun i_10 => ?_)
  refine k_VI3 (pc := 11) c_X8_isIn lk_X8_137 ⟨Nat.le_of_ble_eq_true rfl, Nat.le_of_ble_eq_true rfl⟩ ⟨rfl, rfl⟩ ⟨Nat.le_of_ble_eq_true rfl, Nat.le_of_ble_eq_true rfl⟩ (k := 8) rfl (by decide) (by assumption) dX8_isHall_11 (Nat.le_of_ble_eq_true rfl) ?_
  refine ⟨_, _, _, _, rfl, by omega, by omega, by omega, ?_⟩
  refine r_zret (pc := 14) hret dX8_isHall_14 rfl rfl rfl (by first | exact Or.inl rfl | exact Or.inr rfl | exact bI_01 | omega) ?_
  first | (rw [bI_t (by omega)] at hQ; exact hQ) | (rw [bI_f (by omega)] at hQ; exact hQ) | exact hQ

theorem dX8_isRack_0 : decode cX8_isRack 0 = .ok (.aload_n 0, 1) := by decide +kernel
theorem dX8_isRack_1 : decode cX8_isRack 1 = .ok (.iload_n 1, 1) := by decide +kernel
theorem dX8_isRack_2 : decode cX8_isRack 2 = .ok (.iconst 4, 1) := by decide +kernel
theorem dX8_isRack_3 : decode cX8_isRack 3 = .ok (.iconst 3, 1) := by decide +kernel
theorem dX8_isRack_4 : decode cX8_isRack 4 = .ok (.aload_n 0, 1) := by decide +kernel
theorem dX8_isRack_5 : decode cX8_isRack 5 = .ok (.getfield 13, 3) := by decide +kernel
theorem dX8_isRack_8 : decode cX8_isRack 8 = .ok (.sipush 129, 3) := by decide +kernel
theorem dX8_isRack_11 : decode cX8_isRack 11 = .ok (.iaload, 1) := by decide +kernel
theorem dX8_isRack_12 : decode cX8_isRack 12 = .ok (.iadd, 1) := by decide +kernel
theorem dX8_isRack_13 : decode cX8_isRack 13 = .ok (.invokevirtual 137, 3) := by decide +kernel
theorem dX8_isRack_16 : decode cX8_isRack 16 = .ok (.ireturn, 1) := by decide +kernel
set_option maxHeartbeats 4000000 in
set_option maxRecDepth 20000 in
theorem c_X8_isRack : ConI mX8_isRack (fun args N lay r h Q => ∃ b mp k, args = [.ref b, vI k] ∧ MdAt lay r b ∧ h (b + 2) = mp ∧ (-2147483648 ≤ k ∧ k < 2147483648) ∧ (0 ≤ mp 129 ∧ mp 129 ≤ 12) ∧ Q (bI (4 ≤ k ∧ k ≤ 3 + mp 129)) N lay r h) := by
  refine ConI.of (by decide) (by rintro _ N lay r h Q ⟨b, mp, k, rfl, hM, rfl, hk, hj, hQ⟩; exact ⟨rfl, Nat.le_of_ble_eq_true rfl⟩) ?_
  rintro E _ N lay r h Q ⟨b, mp, k, rfl, hM, rfl, hk, hj, hQ⟩ hret
  obtain ⟨ml0, ml1, ml2, ml3, ml4, ml5, ml6, ml7, ml8, ml9, ml10, ml11, ml12, ml13, ml14, ml15, ml16, ml17, ml18, ml19, ml20, mr1, mr2, mr3, mr4, mr5, mr6, mr7, mr8, mr9, mr10, mr11, mr12, mr13, mr14, mr15, mr16, mr17, mr18, mr19, mr20⟩ := id hM
  show St E mX8_isRack 0 [some (.ref b), some (vI k)] [] (0, 0) N lay r h
  refine r_aload_0 (pc := 0) dX8_isRack_0 ?_
  refine r_iload_1 (pc := 1) dX8_isRack_1 ?_
  refine r_iconst (pc := 2) dX8_isRack_2 ?_
  refine r_iconst (pc := 3) dX8_isRack_3 ?_
  refine r_aload_0 (pc := 4) dX8_isRack_4 ?_
  refine gf_X8_13 (pc := 5) rfl (by assumption) dX8_isRack_5 (by assumption) ?_
  refine r_sipush (pc := 8) dX8_isRack_8 (by decide) ?_
  refine r_ialdE (pc := 11) (by assumption) (by first | assumption | exact rfl) dX8_isRack_11 (by omega) (by omega) (fun i_11 => ?_)
  refine r_iadd (pc := 12) dX8_isRack_12 ?_
  refine k_VI3 (pc := 13) c_X8_isIn lk_X8_137 ⟨Nat.le_of_ble_eq_true rfl, Nat.le_of_ble_eq_true rfl⟩ ⟨rfl, rfl⟩ ⟨Nat.le_of_ble_eq_true rfl, Nat.le_of_ble_eq_true rfl⟩ (k := 8) rfl (by decide) (by assumption) dX8_isRack_13 (Nat.le_of_ble_eq_true rfl) ?_
  refine ⟨_, _, _, _, rfl, by omega, by omega, by omega, ?_⟩
  refine r_zret (pc := 16) hret dX8_isRack_16 rfl rfl rfl (by first | exact Or.inl rfl | exact Or.inr rfl | exact bI_01 | omega) ?_
  first | (rw [bI_t (by omega)] at hQ; exact hQ) | (rw [bI_f (by omega)] at hQ; exact hQ) | exact hQ

theorem dX8_isDisk_0 : decode cX8_isDisk 0 = .ok (.aload_n 0, 1) := by decide +kernel
theorem dX8_isDisk_1 : decode cX8_isDisk 1 = .ok (.iload_n 1, 1) := by decide +kernel
theorem dX8_isDisk_2 : decode cX8_isDisk 2 = .ok (.bipush 10, 2) := by decide +kernel
theorem dX8_isDisk_4 : decode cX8_isDisk 4 = .ok (.bipush 9, 2) := by decide +kernel
theorem dX8_isDisk_6 : decode cX8_isDisk 6 = .ok (.aload_n 0, 1) := by decide +kernel
theorem dX8_isDisk_7 : decode cX8_isDisk 7 = .ok (.getfield 13, 3) := by decide +kernel
theorem dX8_isDisk_10 : decode cX8_isDisk 10 = .ok (.sipush 130, 3) := by decide +kernel
theorem dX8_isDisk_13 : decode cX8_isDisk 13 = .ok (.iaload, 1) := by decide +kernel
theorem dX8_isDisk_14 : decode cX8_isDisk 14 = .ok (.iadd, 1) := by decide +kernel
theorem dX8_isDisk_15 : decode cX8_isDisk 15 = .ok (.invokevirtual 137, 3) := by decide +kernel
theorem dX8_isDisk_18 : decode cX8_isDisk 18 = .ok (.ireturn, 1) := by decide +kernel
set_option maxHeartbeats 4000000 in
set_option maxRecDepth 20000 in
theorem c_X8_isDisk : ConI mX8_isDisk (fun args N lay r h Q => ∃ b mp k, args = [.ref b, vI k] ∧ MdAt lay r b ∧ h (b + 2) = mp ∧ (-2147483648 ≤ k ∧ k < 2147483648) ∧ (0 ≤ mp 130 ∧ mp 130 ≤ 12) ∧ Q (bI (10 ≤ k ∧ k ≤ 9 + mp 130)) N lay r h) := by
  refine ConI.of (by decide) (by rintro _ N lay r h Q ⟨b, mp, k, rfl, hM, rfl, hk, hj, hQ⟩; exact ⟨rfl, Nat.le_of_ble_eq_true rfl⟩) ?_
  rintro E _ N lay r h Q ⟨b, mp, k, rfl, hM, rfl, hk, hj, hQ⟩ hret
  obtain ⟨ml0, ml1, ml2, ml3, ml4, ml5, ml6, ml7, ml8, ml9, ml10, ml11, ml12, ml13, ml14, ml15, ml16, ml17, ml18, ml19, ml20, mr1, mr2, mr3, mr4, mr5, mr6, mr7, mr8, mr9, mr10, mr11, mr12, mr13, mr14, mr15, mr16, mr17, mr18, mr19, mr20⟩ := id hM
  show St E mX8_isDisk 0 [some (.ref b), some (vI k)] [] (0, 0) N lay r h
  refine r_aload_0 (pc := 0) dX8_isDisk_0 ?_
  refine r_iload_1 (pc := 1) dX8_isDisk_1 ?_
  refine r_bipush (pc := 2) dX8_isDisk_2 (by decide) ?_
  refine r_bipush (pc := 4) dX8_isDisk_4 (by decide) ?_
  refine r_aload_0 (pc := 6) dX8_isDisk_6 ?_
  refine gf_X8_13 (pc := 7) rfl (by assumption) dX8_isDisk_7 (by assumption) ?_
  refine r_sipush (pc := 10) dX8_isDisk_10 (by decide) ?_
  refine r_ialdE (pc := 13) (by assumption) (by first | assumption | exact rfl) dX8_isDisk_13 (by omega) (by omega) (fun i_13 => ?_)
  refine r_iadd (pc := 14) dX8_isDisk_14 ?_
  refine k_VI3 (pc := 15) c_X8_isIn lk_X8_137 ⟨Nat.le_of_ble_eq_true rfl, Nat.le_of_ble_eq_true rfl⟩ ⟨rfl, rfl⟩ ⟨Nat.le_of_ble_eq_true rfl, Nat.le_of_ble_eq_true rfl⟩ (k := 8) rfl (by decide) (by assumption) dX8_isDisk_15 (Nat.le_of_ble_eq_true rfl) ?_
  refine ⟨_, _, _, _, rfl, by omega, by omega, by omega, ?_⟩
  refine r_zret (pc := 18) hret dX8_isDisk_18 rfl rfl rfl (by first | exact Or.inl rfl | exact Or.inr rfl | exact bI_01 | omega) ?_
  first | (rw [bI_t (by omega)] at hQ; exact hQ) | (rw [bI_f (by omega)] at hQ; exact hQ) | exact hQ

theorem dX8_isNode_0 : decode cX8_isNode 0 = .ok (.iload_n 1, 1) := by decide +kernel
theorem dX8_isNode_1 : decode cX8_isNode 1 = .ok (.ifCond .eq 27, 3) := by decide +kernel
theorem dX8_isNode_4 : decode cX8_isNode 4 = .ok (.aload_n 0, 1) := by decide +kernel
theorem dX8_isNode_5 : decode cX8_isNode 5 = .ok (.iload_n 1, 1) := by decide +kernel
theorem dX8_isNode_6 : decode cX8_isNode 6 = .ok (.invokevirtual 141, 3) := by decide +kernel
theorem dX8_isNode_9 : decode cX8_isNode 9 = .ok (.ifCond .ne 19, 3) := by decide +kernel
theorem dX8_isNode_12 : decode cX8_isNode 12 = .ok (.aload_n 0, 1) := by decide +kernel
theorem dX8_isNode_13 : decode cX8_isNode 13 = .ok (.iload_n 1, 1) := by decide +kernel
theorem dX8_isNode_14 : decode cX8_isNode 14 = .ok (.invokevirtual 144, 3) := by decide +kernel
theorem dX8_isNode_17 : decode cX8_isNode 17 = .ok (.ifCond .ne 11, 3) := by decide +kernel
theorem dX8_isNode_20 : decode cX8_isNode 20 = .ok (.aload_n 0, 1) := by decide +kernel
theorem dX8_isNode_21 : decode cX8_isNode 21 = .ok (.iload_n 1, 1) := by decide +kernel
theorem dX8_isNode_22 : decode cX8_isNode 22 = .ok (.invokevirtual 147, 3) := by decide +kernel
theorem dX8_isNode_25 : decode cX8_isNode 25 = .ok (.ifCond .eq 7, 3) := by decide +kernel
theorem dX8_isNode_28 : decode cX8_isNode 28 = .ok (.iconst 1, 1) := by decide +kernel
theorem dX8_isNode_29 : decode cX8_isNode 29 = .ok (.goto 4, 3) := by decide +kernel
theorem dX8_isNode_32 : decode cX8_isNode 32 = .ok (.iconst 0, 1) := by decide +kernel
theorem dX8_isNode_33 : decode cX8_isNode 33 = .ok (.ireturn, 1) := by decide +kernel
set_option maxHeartbeats 4000000 in
set_option maxRecDepth 20000 in
theorem c_X8_isNode : ConI mX8_isNode (fun args N lay r h Q => ∃ b mp k, args = [.ref b, vI k] ∧ MdAt lay r b ∧ h (b + 2) = mp ∧ (-2147483648 ≤ k ∧ k < 2147483648) ∧ TrM mp ∧ Q (bI (isNd mp k)) N lay r h) := by
  refine ConI.of (by decide) (by rintro _ N lay r h Q ⟨b, mp, k, rfl, hM, rfl, hk, hj, hQ⟩; exact ⟨rfl, Nat.le_of_ble_eq_true rfl⟩) ?_
  rintro E _ N lay r h Q ⟨b, mp, k, rfl, hM, rfl, hk, hj, hQ⟩ hret
  obtain ⟨ml0, ml1, ml2, ml3, ml4, ml5, ml6, ml7, ml8, ml9, ml10, ml11, ml12, ml13, ml14, ml15, ml16, ml17, ml18, ml19, ml20, mr1, mr2, mr3, mr4, mr5, mr6, mr7, mr8, mr9, mr10, mr11, mr12, mr13, mr14, mr15, mr16, mr17, mr18, mr19, mr20⟩ := id hM
  obtain ⟨t1, t2, t3, -⟩ := id hj
  show St E mX8_isNode 0 [some (.ref b), some (vI k)] [] (0, 0) N lay r h
  refine r_iload_1 (pc := 0) dX8_isNode_0 ?_
  refine r_if_eq (pc := 1) (tgt := 28) dX8_isNode_1 (by decide) (by omega) (fun c_1 => ?_) (fun c_1 => ?_)
  · refine r_iconst (pc := 28) dX8_isNode_28 ?_
    refine r_goto (pc := 29) (tgt := 33) dX8_isNode_29 (by decide) ?_
    refine r_zret (pc := 33) hret dX8_isNode_33 rfl rfl rfl (by first | exact Or.inl rfl | exact Or.inr rfl | exact bI_01 | omega) ?_
    first | (rw [bI_t (Or.inl c_1)] at hQ; exact hQ) | (rw [bI_t (Or.inr (Or.inl c_9))] at hQ; exact hQ) | (rw [bI_t (Or.inr (Or.inr (Or.inl c_17)))] at hQ; exact hQ) | (rw [bI_t (Or.inr (Or.inr (Or.inr c_25)))] at hQ; exact hQ) | (rw [bI_f (fun z => z.elim c_1 (fun z => z.elim c_9 (fun z => z.elim c_17 c_25)))] at hQ; exact hQ)
  · refine r_aload_0 (pc := 4) dX8_isNode_4 ?_
    refine r_iload_1 (pc := 5) dX8_isNode_5 ?_
    refine k_VI1 (pc := 6) c_X8_isHall lk_X8_141 ⟨Nat.le_of_ble_eq_true rfl, Nat.le_of_ble_eq_true rfl⟩ ⟨rfl, rfl⟩ ⟨Nat.le_of_ble_eq_true rfl, Nat.le_of_ble_eq_true rfl⟩ (k := 8) rfl (by decide) (by assumption) dX8_isNode_6 (Nat.le_of_ble_eq_true rfl) ?_
    refine ⟨_, _, _, rfl, by assumption, by first | assumption | exact rfl, by omega, by omega, ?_⟩
    refine r_ifne_b (pc := 9) (tgt := 28) dX8_isNode_9 (by decide) (fun c_9 => ?_) (fun c_9 => ?_)
    · refine r_iconst (pc := 28) dX8_isNode_28 ?_
      refine r_goto (pc := 29) (tgt := 33) dX8_isNode_29 (by decide) ?_
      refine r_zret (pc := 33) hret dX8_isNode_33 rfl rfl rfl (by first | exact Or.inl rfl | exact Or.inr rfl | exact bI_01 | omega) ?_
      first | (rw [bI_t (Or.inl c_1)] at hQ; exact hQ) | (rw [bI_t (Or.inr (Or.inl c_9))] at hQ; exact hQ) | (rw [bI_t (Or.inr (Or.inr (Or.inl c_17)))] at hQ; exact hQ) | (rw [bI_t (Or.inr (Or.inr (Or.inr c_25)))] at hQ; exact hQ) | (rw [bI_f (fun z => z.elim c_1 (fun z => z.elim c_9 (fun z => z.elim c_17 c_25)))] at hQ; exact hQ)
    · refine r_aload_0 (pc := 12) dX8_isNode_12 ?_
      refine r_iload_1 (pc := 13) dX8_isNode_13 ?_
      refine k_VI1 (pc := 14) c_X8_isRack lk_X8_144 ⟨Nat.le_of_ble_eq_true rfl, Nat.le_of_ble_eq_true rfl⟩ ⟨rfl, rfl⟩ ⟨Nat.le_of_ble_eq_true rfl, Nat.le_of_ble_eq_true rfl⟩ (k := 8) rfl (by decide) (by assumption) dX8_isNode_14 (Nat.le_of_ble_eq_true rfl) ?_
      refine ⟨_, _, _, rfl, by assumption, by first | assumption | exact rfl, by omega, by omega, ?_⟩
      refine r_ifne_b (pc := 17) (tgt := 28) dX8_isNode_17 (by decide) (fun c_17 => ?_) (fun c_17 => ?_)
      · refine r_iconst (pc := 28) dX8_isNode_28 ?_
        refine r_goto (pc := 29) (tgt := 33) dX8_isNode_29 (by decide) ?_
        refine r_zret (pc := 33) hret dX8_isNode_33 rfl rfl rfl (by first | exact Or.inl rfl | exact Or.inr rfl | exact bI_01 | omega) ?_
        first | (rw [bI_t (Or.inl c_1)] at hQ; exact hQ) | (rw [bI_t (Or.inr (Or.inl c_9))] at hQ; exact hQ) | (rw [bI_t (Or.inr (Or.inr (Or.inl c_17)))] at hQ; exact hQ) | (rw [bI_t (Or.inr (Or.inr (Or.inr c_25)))] at hQ; exact hQ) | (rw [bI_f (fun z => z.elim c_1 (fun z => z.elim c_9 (fun z => z.elim c_17 c_25)))] at hQ; exact hQ)
      · refine r_aload_0 (pc := 20) dX8_isNode_20 ?_
        refine r_iload_1 (pc := 21) dX8_isNode_21 ?_
        refine k_VI1 (pc := 22) c_X8_isDisk lk_X8_147 ⟨Nat.le_of_ble_eq_true rfl, Nat.le_of_ble_eq_true rfl⟩ ⟨rfl, rfl⟩ ⟨Nat.le_of_ble_eq_true rfl, Nat.le_of_ble_eq_true rfl⟩ (k := 8) rfl (by decide) (by assumption) dX8_isNode_22 (Nat.le_of_ble_eq_true rfl) ?_
        refine ⟨_, _, _, rfl, by assumption, by first | assumption | exact rfl, by omega, by omega, ?_⟩
        refine r_ifeq_b (pc := 25) (tgt := 32) dX8_isNode_25 (by decide) (fun c_25 => ?_) (fun c_25 => ?_)
        · refine r_iconst (pc := 32) dX8_isNode_32 ?_
          refine r_zret (pc := 33) hret dX8_isNode_33 rfl rfl rfl (by first | exact Or.inl rfl | exact Or.inr rfl | exact bI_01 | omega) ?_
          first | (rw [bI_t (Or.inl c_1)] at hQ; exact hQ) | (rw [bI_t (Or.inr (Or.inl c_9))] at hQ; exact hQ) | (rw [bI_t (Or.inr (Or.inr (Or.inl c_17)))] at hQ; exact hQ) | (rw [bI_t (Or.inr (Or.inr (Or.inr c_25)))] at hQ; exact hQ) | (rw [bI_f (fun z => z.elim c_1 (fun z => z.elim c_9 (fun z => z.elim c_17 c_25)))] at hQ; exact hQ)
        · refine r_iconst (pc := 28) dX8_isNode_28 ?_
          refine r_goto (pc := 29) (tgt := 33) dX8_isNode_29 (by decide) ?_
          refine r_zret (pc := 33) hret dX8_isNode_33 rfl rfl rfl (by first | exact Or.inl rfl | exact Or.inr rfl | exact bI_01 | omega) ?_
          first | (rw [bI_t (Or.inl c_1)] at hQ; exact hQ) | (rw [bI_t (Or.inr (Or.inl c_9))] at hQ; exact hQ) | (rw [bI_t (Or.inr (Or.inr (Or.inl c_17)))] at hQ; exact hQ) | (rw [bI_t (Or.inr (Or.inr (Or.inr c_25)))] at hQ; exact hQ) | (rw [bI_f (fun z => z.elim c_1 (fun z => z.elim c_9 (fun z => z.elim c_17 c_25)))] at hQ; exact hQ)

theorem dX8_isBelow_0 : decode cX8_isBelow 0 = .ok (.iload_n 1, 1) := by decide +kernel
theorem dX8_isBelow_1 : decode cX8_isBelow 1 = .ok (.istore_n 3, 1) := by decide +kernel
theorem dX8_isBelow_2 : decode cX8_isBelow 2 = .ok (.iload_n 3, 1) := by decide +kernel
theorem dX8_isBelow_3 : decode cX8_isBelow 3 = .ok (.iload_n 2, 1) := by decide +kernel
theorem dX8_isBelow_4 : decode cX8_isBelow 4 = .ok (.if_icmp .eq 17, 3) := by decide +kernel
theorem dX8_isBelow_7 : decode cX8_isBelow 7 = .ok (.iload_n 3, 1) := by decide +kernel
theorem dX8_isBelow_8 : decode cX8_isBelow 8 = .ok (.ifCond .eq 13, 3) := by decide +kernel
theorem dX8_isBelow_11 : decode cX8_isBelow 11 = .ok (.aload_n 0, 1) := by decide +kernel
theorem dX8_isBelow_12 : decode cX8_isBelow 12 = .ok (.getfield 13, 3) := by decide +kernel
theorem dX8_isBelow_15 : decode cX8_isBelow 15 = .ok (.iload_n 3, 1) := by decide +kernel
theorem dX8_isBelow_16 : decode cX8_isBelow 16 = .ok (.iaload, 1) := by decide +kernel
theorem dX8_isBelow_17 : decode cX8_isBelow 17 = .ok (.istore_n 3, 1) := by decide +kernel
theorem dX8_isBelow_18 : decode cX8_isBelow 18 = .ok (.goto (-16), 3) := by decide +kernel
theorem dX8_isBelow_21 : decode cX8_isBelow 21 = .ok (.iload_n 3, 1) := by decide +kernel
theorem dX8_isBelow_22 : decode cX8_isBelow 22 = .ok (.iload_n 2, 1) := by decide +kernel
theorem dX8_isBelow_23 : decode cX8_isBelow 23 = .ok (.if_icmp .ne 7, 3) := by decide +kernel
theorem dX8_isBelow_26 : decode cX8_isBelow 26 = .ok (.iconst 1, 1) := by decide +kernel
theorem dX8_isBelow_27 : decode cX8_isBelow 27 = .ok (.goto 4, 3) := by decide +kernel
theorem dX8_isBelow_30 : decode cX8_isBelow 30 = .ok (.iconst 0, 1) := by decide +kernel
theorem dX8_isBelow_31 : decode cX8_isBelow 31 = .ok (.ireturn, 1) := by decide +kernel
set_option maxHeartbeats 4000000 in
set_option maxRecDepth 20000 in
theorem c_X8_isBelow : ConI mX8_isBelow (fun args N lay r h Q => ∃ b mp n a, args = [.ref b, vI n, vI a] ∧ MdAt lay r b ∧ h (b + 2) = mp ∧ TrM mp ∧ isNd mp n ∧ (-2147483648 ≤ a ∧ a < 2147483648) ∧ Q (bI (bel mp n a)) N lay r h) := by
  refine ConI.of (by decide) (by rintro _ N lay r h Q ⟨b, mp, n, a, rfl, hM, rfl, hT, hn, ha, hQ⟩; exact ⟨rfl, Nat.le_of_ble_eq_true rfl⟩) ?_
  rintro E _ N lay r h Q ⟨b, mp, n, a, rfl, hM, rfl, hT, hn, ha, hQ⟩ hret
  obtain ⟨ml0, ml1, ml2, ml3, ml4, ml5, ml6, ml7, ml8, ml9, ml10, ml11, ml12, ml13, ml14, ml15, ml16, ml17, ml18, ml19, ml20, mr1, mr2, mr3, mr4, mr5, mr6, mr7, mr8, mr9, mr10, mr11, mr12, mr13, mr14, mr15, mr16, mr17, mr18, mr19, mr20⟩ := id hM
  obtain ⟨t1, t2, t3, t4, t5, t6, t7⟩ := id hT
  show St E mX8_isBelow 0 [some (.ref b), some (vI n), some (vI a), none] [] (0, 0) N lay r h
  have at0 : ∀ x : Int, (x = 0) → Hid (a = x ↔ bel (h (b + 2)) n a) → St E mX8_isBelow 2 [some (.ref b), some (vI n), some (vI a), some (vI x)] [] (0, 0) N lay r h := by
    intro x hx hb
    refine r_iload_3 (pc := 2) dX8_isBelow_2 ?_
    refine r_iload_2 (pc := 3) dX8_isBelow_3 ?_
    refine r_icmp_eq (pc := 4) (tgt := 21) dX8_isBelow_4 (by decide) (by omega) (by omega) (fun c_4 => ?_) (fun c_4 => ?_)
    · refine r_iload_3 (pc := 21) dX8_isBelow_21 ?_
      refine r_iload_2 (pc := 22) dX8_isBelow_22 ?_
      refine r_icmp_ne (pc := 23) (tgt := 30) dX8_isBelow_23 (by decide) (by omega) (by omega) (fun c_23 => ?_) (fun c_23 => ?_)
      · refine r_iconst (pc := 30) dX8_isBelow_30 ?_
        refine r_zret (pc := 31) hret dX8_isBelow_31 rfl rfl rfl (by first | exact Or.inl rfl | exact Or.inr rfl | exact bI_01 | omega) ?_
        have hb2 := Hid.out hb
        first | exact absurd c_4 c_23 | exact absurd c_23 c_4 | (rw [bI_t (hb2.mp (c_4.symm))] at hQ; exact hQ) | (rw [bI_f (fun z => c_4 (hb2.mpr z).symm)] at hQ; exact hQ)
      · refine r_iconst (pc := 26) dX8_isBelow_26 ?_
        refine r_goto (pc := 27) (tgt := 31) dX8_isBelow_27 (by decide) ?_
        refine r_zret (pc := 31) hret dX8_isBelow_31 rfl rfl rfl (by first | exact Or.inl rfl | exact Or.inr rfl | exact bI_01 | omega) ?_
        have hb2 := Hid.out hb
        first | exact absurd c_4 c_23 | exact absurd c_23 c_4 | (rw [bI_t (hb2.mp (c_4.symm))] at hQ; exact hQ) | (rw [bI_f (fun z => c_4 (hb2.mpr z).symm)] at hQ; exact hQ)
    · refine r_iload_3 (pc := 7) dX8_isBelow_7 ?_
      refine r_if_eq (pc := 8) (tgt := 21) dX8_isBelow_8 (by decide) (by omega) (fun c_8 => ?_) (fun c_8 => ?_)
      · refine r_iload_3 (pc := 21) dX8_isBelow_21 ?_
        refine r_iload_2 (pc := 22) dX8_isBelow_22 ?_
        refine r_icmp_ne (pc := 23) (tgt := 30) dX8_isBelow_23 (by decide) (by omega) (by omega) (fun c_23 => ?_) (fun c_23 => ?_)
        · refine r_iconst (pc := 30) dX8_isBelow_30 ?_
          refine r_zret (pc := 31) hret dX8_isBelow_31 rfl rfl rfl (by first | exact Or.inl rfl | exact Or.inr rfl | exact bI_01 | omega) ?_
          have hb2 := Hid.out hb
          first | exact absurd c_4 c_23 | exact absurd c_23 c_4 | (rw [bI_t (hb2.mp (c_4.symm))] at hQ; exact hQ) | (rw [bI_f (fun z => c_4 (hb2.mpr z).symm)] at hQ; exact hQ)
        · refine r_iconst (pc := 26) dX8_isBelow_26 ?_
          refine r_goto (pc := 27) (tgt := 31) dX8_isBelow_27 (by decide) ?_
          refine r_zret (pc := 31) hret dX8_isBelow_31 rfl rfl rfl (by first | exact Or.inl rfl | exact Or.inr rfl | exact bI_01 | omega) ?_
          have hb2 := Hid.out hb
          first | exact absurd c_4 c_23 | exact absurd c_23 c_4 | (rw [bI_t (hb2.mp (c_4.symm))] at hQ; exact hQ) | (rw [bI_f (fun z => c_4 (hb2.mpr z).symm)] at hQ; exact hQ)
      · refine r_aload_0 (pc := 11) dX8_isBelow_11 ?_
        refine gf_X8_13 (pc := 12) rfl (by assumption) dX8_isBelow_12 (by assumption) ?_
        refine r_iload_3 (pc := 15) dX8_isBelow_15 ?_
        refine r_ialdE (pc := 16) (by assumption) (by first | assumption | exact rfl) dX8_isBelow_16 (by omega) (by omega) (fun i_16 => ?_)
        refine r_istore_3 (pc := 17) dX8_isBelow_17 rfl ?_
        refine r_goto (pc := 18) (tgt := 2) dX8_isBelow_18 (by decide) ?_
        exfalso
        omega
  have at1 : ∀ x : Int, (1 ≤ x ∧ x ≤ 3) → Hid ((a = x ∨ a = 0) ↔ bel (h (b + 2)) n a) → St E mX8_isBelow 2 [some (.ref b), some (vI n), some (vI a), some (vI x)] [] (0, 0) N lay r h := by
    intro x hx hb
    refine r_iload_3 (pc := 2) dX8_isBelow_2 ?_
    refine r_iload_2 (pc := 3) dX8_isBelow_3 ?_
    refine r_icmp_eq (pc := 4) (tgt := 21) dX8_isBelow_4 (by decide) (by omega) (by omega) (fun c_4 => ?_) (fun c_4 => ?_)
    · refine r_iload_3 (pc := 21) dX8_isBelow_21 ?_
      refine r_iload_2 (pc := 22) dX8_isBelow_22 ?_
      refine r_icmp_ne (pc := 23) (tgt := 30) dX8_isBelow_23 (by decide) (by omega) (by omega) (fun c_23 => ?_) (fun c_23 => ?_)
      · refine r_iconst (pc := 30) dX8_isBelow_30 ?_
        refine r_zret (pc := 31) hret dX8_isBelow_31 rfl rfl rfl (by first | exact Or.inl rfl | exact Or.inr rfl | exact bI_01 | omega) ?_
        have hb2 := Hid.out hb
        first | exact absurd c_4 c_23 | exact absurd c_23 c_4 | (rw [bI_t (hb2.mp (Or.inl c_4.symm))] at hQ; exact hQ) | (exfalso; omega)
      · refine r_iconst (pc := 26) dX8_isBelow_26 ?_
        refine r_goto (pc := 27) (tgt := 31) dX8_isBelow_27 (by decide) ?_
        refine r_zret (pc := 31) hret dX8_isBelow_31 rfl rfl rfl (by first | exact Or.inl rfl | exact Or.inr rfl | exact bI_01 | omega) ?_
        have hb2 := Hid.out hb
        first | exact absurd c_4 c_23 | exact absurd c_23 c_4 | (rw [bI_t (hb2.mp (Or.inl c_4.symm))] at hQ; exact hQ) | (exfalso; omega)
    · refine r_iload_3 (pc := 7) dX8_isBelow_7 ?_
      refine r_if_eq (pc := 8) (tgt := 21) dX8_isBelow_8 (by decide) (by omega) (fun c_8 => ?_) (fun c_8 => ?_)
      · refine r_iload_3 (pc := 21) dX8_isBelow_21 ?_
        refine r_iload_2 (pc := 22) dX8_isBelow_22 ?_
        refine r_icmp_ne (pc := 23) (tgt := 30) dX8_isBelow_23 (by decide) (by omega) (by omega) (fun c_23 => ?_) (fun c_23 => ?_)
        · refine r_iconst (pc := 30) dX8_isBelow_30 ?_
          refine r_zret (pc := 31) hret dX8_isBelow_31 rfl rfl rfl (by first | exact Or.inl rfl | exact Or.inr rfl | exact bI_01 | omega) ?_
          have hb2 := Hid.out hb
          first | exact absurd c_4 c_23 | exact absurd c_23 c_4 | (rw [bI_t (hb2.mp (Or.inl c_4.symm))] at hQ; exact hQ) | (exfalso; omega)
        · refine r_iconst (pc := 26) dX8_isBelow_26 ?_
          refine r_goto (pc := 27) (tgt := 31) dX8_isBelow_27 (by decide) ?_
          refine r_zret (pc := 31) hret dX8_isBelow_31 rfl rfl rfl (by first | exact Or.inl rfl | exact Or.inr rfl | exact bI_01 | omega) ?_
          have hb2 := Hid.out hb
          first | exact absurd c_4 c_23 | exact absurd c_23 c_4 | (rw [bI_t (hb2.mp (Or.inl c_4.symm))] at hQ; exact hQ) | (exfalso; omega)
      · refine r_aload_0 (pc := 11) dX8_isBelow_11 ?_
        refine gf_X8_13 (pc := 12) rfl (by assumption) dX8_isBelow_12 (by assumption) ?_
        refine r_iload_3 (pc := 15) dX8_isBelow_15 ?_
        refine r_ialdE (pc := 16) (by assumption) (by first | assumption | exact rfl) dX8_isBelow_16 (by omega) (by omega) (fun i_16 => ?_)
        refine r_istore_3 (pc := 17) dX8_isBelow_17 rfl ?_
        refine r_goto (pc := 18) (tgt := 2) dX8_isBelow_18 (by decide) ?_
        rw [t4 x (by omega) (by omega)]
        exact at0 0 rfl (Iff.trans ⟨fun z => Or.inr z, fun z => z.elim (fun q => absurd q.symm c_4) id⟩ hb)
  have at2 : ∀ x : Int, (4 ≤ x ∧ x ≤ 3 + h (b + 2) 129) → Hid ((a = x ∨ a = h (b + 2) x ∨ a = 0) ↔ bel (h (b + 2)) n a) → St E mX8_isBelow 2 [some (.ref b), some (vI n), some (vI a), some (vI x)] [] (0, 0) N lay r h := by
    intro x hx hb
    refine r_iload_3 (pc := 2) dX8_isBelow_2 ?_
    refine r_iload_2 (pc := 3) dX8_isBelow_3 ?_
    refine r_icmp_eq (pc := 4) (tgt := 21) dX8_isBelow_4 (by decide) (by omega) (by omega) (fun c_4 => ?_) (fun c_4 => ?_)
    · refine r_iload_3 (pc := 21) dX8_isBelow_21 ?_
      refine r_iload_2 (pc := 22) dX8_isBelow_22 ?_
      refine r_icmp_ne (pc := 23) (tgt := 30) dX8_isBelow_23 (by decide) (by omega) (by omega) (fun c_23 => ?_) (fun c_23 => ?_)
      · refine r_iconst (pc := 30) dX8_isBelow_30 ?_
        refine r_zret (pc := 31) hret dX8_isBelow_31 rfl rfl rfl (by first | exact Or.inl rfl | exact Or.inr rfl | exact bI_01 | omega) ?_
        have hb2 := Hid.out hb
        first | exact absurd c_4 c_23 | exact absurd c_23 c_4 | (rw [bI_t (hb2.mp (Or.inl c_4.symm))] at hQ; exact hQ) | (exfalso; omega)
      · refine r_iconst (pc := 26) dX8_isBelow_26 ?_
        refine r_goto (pc := 27) (tgt := 31) dX8_isBelow_27 (by decide) ?_
        refine r_zret (pc := 31) hret dX8_isBelow_31 rfl rfl rfl (by first | exact Or.inl rfl | exact Or.inr rfl | exact bI_01 | omega) ?_
        have hb2 := Hid.out hb
        first | exact absurd c_4 c_23 | exact absurd c_23 c_4 | (rw [bI_t (hb2.mp (Or.inl c_4.symm))] at hQ; exact hQ) | (exfalso; omega)
    · refine r_iload_3 (pc := 7) dX8_isBelow_7 ?_
      refine r_if_eq (pc := 8) (tgt := 21) dX8_isBelow_8 (by decide) (by omega) (fun c_8 => ?_) (fun c_8 => ?_)
      · refine r_iload_3 (pc := 21) dX8_isBelow_21 ?_
        refine r_iload_2 (pc := 22) dX8_isBelow_22 ?_
        refine r_icmp_ne (pc := 23) (tgt := 30) dX8_isBelow_23 (by decide) (by omega) (by omega) (fun c_23 => ?_) (fun c_23 => ?_)
        · refine r_iconst (pc := 30) dX8_isBelow_30 ?_
          refine r_zret (pc := 31) hret dX8_isBelow_31 rfl rfl rfl (by first | exact Or.inl rfl | exact Or.inr rfl | exact bI_01 | omega) ?_
          have hb2 := Hid.out hb
          first | exact absurd c_4 c_23 | exact absurd c_23 c_4 | (rw [bI_t (hb2.mp (Or.inl c_4.symm))] at hQ; exact hQ) | (exfalso; omega)
        · refine r_iconst (pc := 26) dX8_isBelow_26 ?_
          refine r_goto (pc := 27) (tgt := 31) dX8_isBelow_27 (by decide) ?_
          refine r_zret (pc := 31) hret dX8_isBelow_31 rfl rfl rfl (by first | exact Or.inl rfl | exact Or.inr rfl | exact bI_01 | omega) ?_
          have hb2 := Hid.out hb
          first | exact absurd c_4 c_23 | exact absurd c_23 c_4 | (rw [bI_t (hb2.mp (Or.inl c_4.symm))] at hQ; exact hQ) | (exfalso; omega)
      · refine r_aload_0 (pc := 11) dX8_isBelow_11 ?_
        refine gf_X8_13 (pc := 12) rfl (by assumption) dX8_isBelow_12 (by assumption) ?_
        refine r_iload_3 (pc := 15) dX8_isBelow_15 ?_
        refine r_ialdE (pc := 16) (by assumption) (by first | assumption | exact rfl) dX8_isBelow_16 (by omega) (by omega) (fun i_16 => ?_)
        refine r_istore_3 (pc := 17) dX8_isBelow_17 rfl ?_
        refine r_goto (pc := 18) (tgt := 2) dX8_isBelow_18 (by decide) ?_
        have q5 := t5 x (by omega) (by omega)
        exact at1 _ (by omega) (Iff.trans ⟨fun z => Or.inr z, fun z => z.elim (fun q => absurd q.symm c_4) id⟩ hb)
  have at3 : ∀ x : Int, (10 ≤ x ∧ x ≤ 9 + h (b + 2) 130) → Hid ((a = x ∨ a = h (b + 2) x ∨ a = h (b + 2) (h (b + 2) x) ∨ a = 0) ↔ bel (h (b + 2)) n a) → St E mX8_isBelow 2 [some (.ref b), some (vI n), some (vI a), some (vI x)] [] (0, 0) N lay r h := by
    intro x hx hb
    refine r_iload_3 (pc := 2) dX8_isBelow_2 ?_
    refine r_iload_2 (pc := 3) dX8_isBelow_3 ?_
    refine r_icmp_eq (pc := 4) (tgt := 21) dX8_isBelow_4 (by decide) (by omega) (by omega) (fun c_4 => ?_) (fun c_4 => ?_)
    · refine r_iload_3 (pc := 21) dX8_isBelow_21 ?_
      refine r_iload_2 (pc := 22) dX8_isBelow_22 ?_
      refine r_icmp_ne (pc := 23) (tgt := 30) dX8_isBelow_23 (by decide) (by omega) (by omega) (fun c_23 => ?_) (fun c_23 => ?_)
      · refine r_iconst (pc := 30) dX8_isBelow_30 ?_
        refine r_zret (pc := 31) hret dX8_isBelow_31 rfl rfl rfl (by first | exact Or.inl rfl | exact Or.inr rfl | exact bI_01 | omega) ?_
        have hb2 := Hid.out hb
        first | exact absurd c_4 c_23 | exact absurd c_23 c_4 | (rw [bI_t (hb2.mp (Or.inl c_4.symm))] at hQ; exact hQ) | (exfalso; omega)
      · refine r_iconst (pc := 26) dX8_isBelow_26 ?_
        refine r_goto (pc := 27) (tgt := 31) dX8_isBelow_27 (by decide) ?_
        refine r_zret (pc := 31) hret dX8_isBelow_31 rfl rfl rfl (by first | exact Or.inl rfl | exact Or.inr rfl | exact bI_01 | omega) ?_
        have hb2 := Hid.out hb
        first | exact absurd c_4 c_23 | exact absurd c_23 c_4 | (rw [bI_t (hb2.mp (Or.inl c_4.symm))] at hQ; exact hQ) | (exfalso; omega)
    · refine r_iload_3 (pc := 7) dX8_isBelow_7 ?_
      refine r_if_eq (pc := 8) (tgt := 21) dX8_isBelow_8 (by decide) (by omega) (fun c_8 => ?_) (fun c_8 => ?_)
      · refine r_iload_3 (pc := 21) dX8_isBelow_21 ?_
        refine r_iload_2 (pc := 22) dX8_isBelow_22 ?_
        refine r_icmp_ne (pc := 23) (tgt := 30) dX8_isBelow_23 (by decide) (by omega) (by omega) (fun c_23 => ?_) (fun c_23 => ?_)
        · refine r_iconst (pc := 30) dX8_isBelow_30 ?_
          refine r_zret (pc := 31) hret dX8_isBelow_31 rfl rfl rfl (by first | exact Or.inl rfl | exact Or.inr rfl | exact bI_01 | omega) ?_
          have hb2 := Hid.out hb
          first | exact absurd c_4 c_23 | exact absurd c_23 c_4 | (rw [bI_t (hb2.mp (Or.inl c_4.symm))] at hQ; exact hQ) | (exfalso; omega)
        · refine r_iconst (pc := 26) dX8_isBelow_26 ?_
          refine r_goto (pc := 27) (tgt := 31) dX8_isBelow_27 (by decide) ?_
          refine r_zret (pc := 31) hret dX8_isBelow_31 rfl rfl rfl (by first | exact Or.inl rfl | exact Or.inr rfl | exact bI_01 | omega) ?_
          have hb2 := Hid.out hb
          first | exact absurd c_4 c_23 | exact absurd c_23 c_4 | (rw [bI_t (hb2.mp (Or.inl c_4.symm))] at hQ; exact hQ) | (exfalso; omega)
      · refine r_aload_0 (pc := 11) dX8_isBelow_11 ?_
        refine gf_X8_13 (pc := 12) rfl (by assumption) dX8_isBelow_12 (by assumption) ?_
        refine r_iload_3 (pc := 15) dX8_isBelow_15 ?_
        refine r_ialdE (pc := 16) (by assumption) (by first | assumption | exact rfl) dX8_isBelow_16 (by omega) (by omega) (fun i_16 => ?_)
        refine r_istore_3 (pc := 17) dX8_isBelow_17 rfl ?_
        refine r_goto (pc := 18) (tgt := 2) dX8_isBelow_18 (by decide) ?_
        have q5 := t6 x (by omega) (by omega)
        exact at2 _ (by omega) (Iff.trans ⟨fun z => Or.inr z, fun z => z.elim (fun q => absurd q.symm c_4) id⟩ hb)
  refine r_iload_1 (pc := 0) dX8_isBelow_0 ?_
  refine r_istore_3 (pc := 1) dX8_isBelow_1 rfl ?_
  rcases hn with hn | hn | hn | hn
  · subst hn
    have q4 := t4 0 (by omega) (by omega)
    exact at0 0 rfl (by unfold Hid bel; rw [q4, q4]; omega)
  · have q4 := t4 n (by omega) (by omega)
    have q5 := t4 0 (by omega) (by omega)
    exact at1 n (by omega) (by unfold Hid bel; rw [q4, q5]; omega)
  · have q5 := t5 n (by omega) (by omega)
    have q4 := t4 (h (b + 2) n) (by omega) (by omega)
    exact at2 n (by omega) (by unfold Hid bel; rw [q4]; omega)
  · exact at3 n (by omega) (by unfold Hid bel; omega)

theorem dX8_weightOf_0 : decode cX8_weightOf 0 = .ok (.iconst 0, 1) := by decide +kernel
theorem dX8_weightOf_1 : decode cX8_weightOf 1 = .ok (.istore_n 2, 1) := by decide +kernel
theorem dX8_weightOf_2 : decode cX8_weightOf 2 = .ok (.bipush 10, 2) := by decide +kernel
theorem dX8_weightOf_4 : decode cX8_weightOf 4 = .ok (.istore_n 3, 1) := by decide +kernel
theorem dX8_weightOf_5 : decode cX8_weightOf 5 = .ok (.iload_n 3, 1) := by decide +kernel
theorem dX8_weightOf_6 : decode cX8_weightOf 6 = .ok (.bipush 10, 2) := by decide +kernel
theorem dX8_weightOf_8 : decode cX8_weightOf 8 = .ok (.aload_n 0, 1) := by decide +kernel
theorem dX8_weightOf_9 : decode cX8_weightOf 9 = .ok (.getfield 13, 3) := by decide +kernel
theorem dX8_weightOf_12 : decode cX8_weightOf 12 = .ok (.sipush 130, 3) := by decide +kernel
theorem dX8_weightOf_15 : decode cX8_weightOf 15 = .ok (.iaload, 1) := by decide +kernel
theorem dX8_weightOf_16 : decode cX8_weightOf 16 = .ok (.iadd, 1) := by decide +kernel
theorem dX8_weightOf_17 : decode cX8_weightOf 17 = .ok (.if_icmp .ge 30, 3) := by decide +kernel
theorem dX8_weightOf_20 : decode cX8_weightOf 20 = .ok (.aload_n 0, 1) := by decide +kernel
theorem dX8_weightOf_21 : decode cX8_weightOf 21 = .ok (.iload_n 3, 1) := by decide +kernel
theorem dX8_weightOf_22 : decode cX8_weightOf 22 = .ok (.iload_n 1, 1) := by decide +kernel
theorem dX8_weightOf_23 : decode cX8_weightOf 23 = .ok (.invokevirtual 150, 3) := by decide +kernel
theorem dX8_weightOf_26 : decode cX8_weightOf 26 = .ok (.ifCond .eq 15, 3) := by decide +kernel
theorem dX8_weightOf_29 : decode cX8_weightOf 29 = .ok (.iload_n 2, 1) := by decide +kernel
theorem dX8_weightOf_30 : decode cX8_weightOf 30 = .ok (.aload_n 0, 1) := by decide +kernel
theorem dX8_weightOf_31 : decode cX8_weightOf 31 = .ok (.getfield 13, 3) := by decide +kernel
theorem dX8_weightOf_34 : decode cX8_weightOf 34 = .ok (.bipush 22, 2) := by decide +kernel
theorem dX8_weightOf_36 : decode cX8_weightOf 36 = .ok (.iload_n 3, 1) := by decide +kernel
theorem dX8_weightOf_37 : decode cX8_weightOf 37 = .ok (.iadd, 1) := by decide +kernel
theorem dX8_weightOf_38 : decode cX8_weightOf 38 = .ok (.iaload, 1) := by decide +kernel
theorem dX8_weightOf_39 : decode cX8_weightOf 39 = .ok (.iadd, 1) := by decide +kernel
theorem dX8_weightOf_40 : decode cX8_weightOf 40 = .ok (.istore_n 2, 1) := by decide +kernel
theorem dX8_weightOf_41 : decode cX8_weightOf 41 = .ok (.iinc 3 1, 3) := by decide +kernel
theorem dX8_weightOf_44 : decode cX8_weightOf 44 = .ok (.goto (-39), 3) := by decide +kernel
theorem dX8_weightOf_47 : decode cX8_weightOf 47 = .ok (.iload_n 2, 1) := by decide +kernel
theorem dX8_weightOf_48 : decode cX8_weightOf 48 = .ok (.ireturn, 1) := by decide +kernel
set_option maxHeartbeats 4000000 in
set_option maxRecDepth 20000 in
theorem c_X8_weightOf : ConI mX8_weightOf (fun args N lay r h Q => ∃ b mp n, args = [.ref b, vI n] ∧ MdAt lay r b ∧ h (b + 2) = mp ∧ TrM mp ∧ (-2147483648 ≤ n ∧ n < 2147483648) ∧ Q (wt mp n) N lay r h) := by
  refine ConI.of (by decide) (by rintro _ N lay r h Q ⟨b, mp, n, rfl, hM, rfl, hT, hn, hQ⟩; exact ⟨rfl, Nat.le_of_ble_eq_true rfl⟩) ?_
  rintro E _ N lay r h Q ⟨b, mp, n, rfl, hM, rfl, hT, hn, hQ⟩ hret
  obtain ⟨ml0, ml1, ml2, ml3, ml4, ml5, ml6, ml7, ml8, ml9, ml10, ml11, ml12, ml13, ml14, ml15, ml16, ml17, ml18, ml19, ml20, mr1, mr2, mr3, mr4, mr5, mr6, mr7, mr8, mr9, mr10, mr11, mr12, mr13, mr14, mr15, mr16, mr17, mr18, mr19, mr20⟩ := id hM
  obtain ⟨t1, t2, t3, t4, t5, t6, t7⟩ := id hT
  show St E mX8_weightOf 0 [some (.ref b), some (vI n), none, none] [] (0, 0) N lay r h
  have lp : ∀ (n_ : Nat) (d : Int) (sm : Int), (22 - d).toNat = n_ → (10 ≤ d ∧ d ≤ 10 + h (b + 2) 130) → (sm = sW (h (b + 2)) n (d - 10).toNat) → St E mX8_weightOf 5 [some (.ref b), some (vI n), some (vI sm), some (vI d)] [] (0, 0) N lay r h := by
    intro n_
    induction n_ using Nat.strongRecOn with
    | ind n_ ih =>
      intro d sm hn_ hd hs
      have sr := sW_r hT n (d - 10).toNat (by omega)
      have e1 : sW (h (b + 2)) n ((d + 1) - 10).toNat = sW (h (b + 2)) n (d - 10).toNat + if bel (h (b + 2)) d n then h (b + 2) (22 + d) else 0 := by
        rw [show ((d + 1) - 10).toNat = (d - 10).toNat + 1 by omega]
        simp only [sW]
        rw [show 10 + (((d - 10).toNat : Nat) : Int) = d by omega]
      have q7 := t7 d
      refine r_iload_3 (pc := 5) dX8_weightOf_5 ?_
      refine r_bipush (pc := 6) dX8_weightOf_6 (by decide) ?_
      refine r_aload_0 (pc := 8) dX8_weightOf_8 ?_
      refine gf_X8_13 (pc := 9) rfl (by assumption) dX8_weightOf_9 (by assumption) ?_
      refine r_sipush (pc := 12) dX8_weightOf_12 (by decide) ?_
      refine r_ialdE (pc := 15) (by assumption) (by first | assumption | exact rfl) dX8_weightOf_15 (by omega) (by omega) (fun i_15 => ?_)
      refine r_iadd (pc := 16) dX8_weightOf_16 ?_
      refine r_icmp_ge (pc := 17) (tgt := 47) dX8_weightOf_17 (by decide) (by omega) (by omega) (fun c_17 => ?_) (fun c_17 => ?_)
      · refine r_iload_2 (pc := 47) dX8_weightOf_47 ?_
        refine r_iret (pc := 48) hret dX8_weightOf_48 rfl rfl rfl ?_
        have hd2 : d = 10 + h (b + 2) 130 := by omega
        unfold wt at hQ
        rw [hs, hd2, show (10 + h (b + 2) 130 - 10).toNat = (h (b + 2) 130).toNat by omega]
        exact hQ
      · refine r_aload_0 (pc := 20) dX8_weightOf_20 ?_
        refine r_iload_3 (pc := 21) dX8_weightOf_21 ?_
        refine r_iload_1 (pc := 22) dX8_weightOf_22 ?_
        refine k_VI2 (pc := 23) c_X8_isBelow lk_X8_150 ⟨Nat.le_of_ble_eq_true rfl, Nat.le_of_ble_eq_true rfl⟩ ⟨rfl, rfl⟩ ⟨Nat.le_of_ble_eq_true rfl, Nat.le_of_ble_eq_true rfl⟩ (k := 8) rfl (by decide) (by assumption) dX8_weightOf_23 (Nat.le_of_ble_eq_true rfl) ?_
        refine ⟨_, _, _, _, rfl, by assumption, by first | assumption | exact rfl, by assumption, by omega, by omega, ?_⟩
        refine r_ifeq_b (pc := 26) (tgt := 41) dX8_weightOf_26 (by decide) (fun c_26 => ?_) (fun c_26 => ?_)
        · refine r_iinc_3 (pc := 41) dX8_weightOf_41 rfl ?_
          refine r_goto (pc := 44) (tgt := 5) dX8_weightOf_44 (by decide) ?_
          exact ih _ (by omega) (d + 1) _ rfl (by omega) (by first | (rw [e1, if_pos c_26]; omega) | (rw [e1, if_neg c_26]; omega))
        · refine r_iload_2 (pc := 29) dX8_weightOf_29 ?_
          refine r_aload_0 (pc := 30) dX8_weightOf_30 ?_
          refine gf_X8_13 (pc := 31) rfl (by assumption) dX8_weightOf_31 (by assumption) ?_
          refine r_bipush (pc := 34) dX8_weightOf_34 (by decide) ?_
          refine r_iload_3 (pc := 36) dX8_weightOf_36 ?_
          refine r_iadd (pc := 37) dX8_weightOf_37 ?_
          refine r_ialdE (pc := 38) (by assumption) (by first | assumption | exact rfl) dX8_weightOf_38 (by omega) (by omega) (fun i_38 => ?_)
          refine r_iadd (pc := 39) dX8_weightOf_39 ?_
          refine r_istore_2 (pc := 40) dX8_weightOf_40 rfl ?_
          refine r_iinc_3 (pc := 41) dX8_weightOf_41 rfl ?_
          refine r_goto (pc := 44) (tgt := 5) dX8_weightOf_44 (by decide) ?_
          exact ih _ (by omega) (d + 1) _ rfl (by omega) (by first | (rw [e1, if_pos c_26]; omega) | (rw [e1, if_neg c_26]; omega))
  refine r_iconst (pc := 0) dX8_weightOf_0 ?_
  refine r_istore_2 (pc := 1) dX8_weightOf_1 rfl ?_
  refine r_bipush (pc := 2) dX8_weightOf_2 (by decide) ?_
  refine r_istore_3 (pc := 4) dX8_weightOf_4 rfl ?_
  exact lp _ 10 0 rfl (by omega) rfl

