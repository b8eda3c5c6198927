/-! CONSTRUCTORS: the plan; an array of plans -/
theorem TreeAt.r {lay lay' : LyT} {r r' : RfT} {t : Nat} (h : TreeAt lay r t) (e : r' t = r t) (e0 : lay' t = lay t) (e1 : lay' (t + 1) = lay (t + 1)) (e2 : lay' (t + 2) = lay (t + 2)) : TreeAt lay' r' t := by unfold TreeAt; rw [e, e0, e1, e2]; exact h
theorem DvAt.r {lay lay' : LyT} {r r' : RfT} {t : Nat} (h : DvAt lay r t) (e : r' t = r t) (e0 : lay' t = lay t) (e1 : lay' (t + 1) = lay (t + 1)) (e2 : lay' (t + 2) = lay (t + 2)) (e3 : lay' (t + 3) = lay (t + 3)) (e4 : lay' (t + 4) = lay (t + 4)) : DvAt lay' r' t := by unfold DvAt; rw [e, e0, e1, e2, e3, e4]; exact h
theorem dX3_init_0 : decode cX3_init 0 = .ok (.aload_n 0, 1) := by decide +kernel
theorem dX3_init_1 : decode cX3_init 1 = .ok (.invokespecial 3, 3) := by decide +kernel
theorem dX3_init_4 : decode cX3_init 4 = .ok (.aload_n 0, 1) := by decide +kernel
theorem dX3_init_5 : decode cX3_init 5 = .ok (.new 9, 3) := by decide +kernel
theorem dX3_init_8 : decode cX3_init 8 = .ok (.dup, 1) := by decide +kernel
theorem dX3_init_9 : decode cX3_init 9 = .ok (.invokespecial 11, 3) := by decide +kernel
theorem dX3_init_12 : decode cX3_init 12 = .ok (.putfield 12, 3) := by decide +kernel
theorem dX3_init_15 : decode cX3_init 15 = .ok (.aload_n 0, 1) := by decide +kernel
theorem dX3_init_16 : decode cX3_init 16 = .ok (.new 18, 3) := by decide +kernel
theorem dX3_init_19 : decode cX3_init 19 = .ok (.dup, 1) := by decide +kernel
theorem dX3_init_20 : decode cX3_init 20 = .ok (.invokespecial 20, 3) := by decide +kernel
theorem dX3_init_23 : decode cX3_init 23 = .ok (.putfield 21, 3) := by decide +kernel
theorem dX3_init_26 : decode cX3_init 26 = .ok (.aload_n 0, 1) := by decide +kernel
theorem dX3_init_27 : decode cX3_init 27 = .ok (.bipush 22, 2) := by decide +kernel
theorem dX3_init_29 : decode cX3_init 29 = .ok (.newarray .int, 2) := by decide +kernel
theorem dX3_init_31 : decode cX3_init 31 = .ok (.putfield 25, 3) := by decide +kernel
theorem dX3_init_34 : decode cX3_init 34 = .ok (.aload_n 0, 1) := by decide +kernel
theorem dX3_init_35 : decode cX3_init 35 = .ok (.bipush 22, 2) := by decide +kernel
theorem dX3_init_37 : decode cX3_init 37 = .ok (.newarray .int, 2) := by decide +kernel
theorem dX3_init_39 : decode cX3_init 39 = .ok (.putfield 29, 3) := by decide +kernel
theorem dX3_init_42 : decode cX3_init 42 = .ok (.aload_n 0, 1) := by decide +kernel
theorem dX3_init_43 : decode cX3_init 43 = .ok (.bipush 64, 2) := by decide +kernel
theorem dX3_init_45 : decode cX3_init 45 = .ok (.newarray .int, 2) := by decide +kernel
theorem dX3_init_47 : decode cX3_init 47 = .ok (.putfield 32, 3) := by decide +kernel
theorem dX3_init_50 : decode cX3_init 50 = .ok (.aload_n 0, 1) := by decide +kernel
theorem dX3_init_51 : decode cX3_init 51 = .ok (.bipush 64, 2) := by decide +kernel
theorem dX3_init_53 : decode cX3_init 53 = .ok (.newarray .int, 2) := by decide +kernel
theorem dX3_init_55 : decode cX3_init 55 = .ok (.putfield 35, 3) := by decide +kernel
theorem dX3_init_58 : decode cX3_init 58 = .ok (.aload_n 0, 1) := by decide +kernel
theorem dX3_init_59 : decode cX3_init 59 = .ok (.bipush 16, 2) := by decide +kernel
theorem dX3_init_61 : decode cX3_init 61 = .ok (.newarray .int, 2) := by decide +kernel
theorem dX3_init_63 : decode cX3_init 63 = .ok (.putfield 38, 3) := by decide +kernel
theorem dX3_init_66 : decode cX3_init 66 = .ok (.return_, 1) := by decide +kernel
set_option maxHeartbeats 4000000 in
set_option maxRecDepth 20000 in
theorem c_X3_init : ConV mX3_init (fun args N lay r h Q => ∃ (p : Nat), args = [.ref p] ∧ N = p + 1 ∧ lay p = (4, 0) ∧ h p = (fun _ => 0) ∧ ∀ (la : LyT) (ra : RfT) (ha : HpT), PlAt la ra p → (∀ x, x < p → la x = lay x ∧ ra x = r x ∧ ha x = h x) → (∀ x, p ≤ x → x < p + 14 → ha x = fun _ => 0) → Q (p + 14) la ra ha) := by
  refine ConV.of (by decide) (by rintro _ N lay r h Q ⟨p, rfl, rfl, hl0, h0, hQ⟩; exact ⟨rfl, Nat.le_of_ble_eq_true rfl⟩) ?_
  rintro E _ N lay r h Q ⟨p, rfl, rfl, hl0, h0, hQ⟩ hret
  have l0 : lay p = (4, 0) := hl0
  have hz : ∀ x, p ≤ x → x < p + 1 → h x = fun _ => 0 := fun x x0 x1 => by rw [show x = p by omega]; exact h0
  have fr : ∀ x, x < p → lay x = lay x ∧ r x = r x ∧ h x = h x := fun _ _ => ⟨rfl, rfl, rfl⟩
  show St E mX3_init 0 [some (.ref p)] [] (0, 0) (p + 1) lay r h
  refine r_aload_0 (pc := 0) dX3_init_0 ?_
  refine r_objInit (pc := 1) (inT 130 (by decide +kernel) rfl) dX3_init_1 (Nat.le_of_ble_eq_true rfl) (Nat.le_of_ble_eq_true rfl) ?_
  refine r_aload_0 (pc := 4) dX3_init_4 ?_
  refine nw_X6 (pc := 5) rfl dX3_init_5 (Nat.le_of_ble_eq_true rfl) (Nat.le_of_ble_eq_true rfl) ?_
  refine r_dupA (pc := 8) dX3_init_8 ?_
  refine rc_INV (pc := 9) c_X6_init lk_X3_11 ⟨(Nat.le_of_ble_eq_true rfl), (Nat.le_of_ble_eq_true rfl)⟩ ⟨(Nat.le_of_ble_eq_true rfl), (Nat.le_of_ble_eq_true rfl)⟩ dX3_init_9 (As := []) (rest := [.ref (p + 1), .ref p]) rfl rfl (Nat.le_of_ble_eq_true rfl) ?_
  refine ⟨(p + 1), rfl, rfl, lyp_s, hr_s, fun lb rb hb hXt fx zx => ?_⟩
  refine pf_X3_12 (pc := 12) rfl rfl (show lb p = (4, 0) from (fx p (by omega)).1.trans ((lyp_n (by omega)).trans l0)) dX3_init_12 ?_
  show St E mX3_init 15 [some (.ref p)] [] (3, 49) (p + 4) lb (rr rb p (rup (rb p) 0 (some (p + 1)))) hb
  have n_l0 : lb p = (4, 0) := (fx p (by omega)).1.trans ((lyp_n (by omega)).trans l0)
  have n_hTr : TreeAt lb (rr rb p (rup (rb p) 0 (some (p + 1)))) (p + 1) := hXt.r (rr_n (by omega)) rfl rfl rfl
  have n_r0 : (rr rb p (rup (rb p) 0 (some (p + 1)))) p 0 = some (p + 1) := by rw [rr_s]; rfl
  have n_hz : ∀ x, p ≤ x → x < p + 4 → hb x = fun _ => 0 := fun x x0 x1 => by
    by_cases e : x = p
    · rw [e, (fx p (by omega)).2.2, hr_n (by omega)]; exact hz p (by omega) (by omega)
    · exact zx x (by omega) (by omega)
  have n_fr : ∀ x, x < p → lb x = lay x ∧ (rr rb p (rup (rb p) 0 (some (p + 1)))) x = r x ∧ hb x = h x := fun x hx => by
    obtain ⟨z1, z2, z3⟩ := fx x (by omega)
    obtain ⟨y1, y2, y3⟩ := fr x hx
    refine ⟨?_, ?_, ?_⟩
    · exact (z1.trans (lyp_n (by omega))).trans y1
    · exact ((rr_n (by omega)).trans (z2.trans (rr_n (by omega)))).trans y2
    · exact (z3.trans (hr_n (by omega))).trans y3
  revert n_l0 n_hTr n_r0 n_hz n_fr
  clear l0 hz fr hXt fx zx
  generalize (rr rb p (rup (rb p) 0 (some (p + 1)))) = ra
  generalize lb = la
  generalize hb = ha
  intro l0 hTr r0 hz fr
  refine r_aload_0 (pc := 15) dX3_init_15 ?_
  refine nw_X1 (pc := 16) rfl dX3_init_16 (Nat.le_of_ble_eq_true rfl) (Nat.le_of_ble_eq_true rfl) ?_
  refine r_dupA (pc := 19) dX3_init_19 ?_
  refine rc_INV (pc := 20) c_X1_init lk_X3_20 ⟨(Nat.le_of_ble_eq_true rfl), (Nat.le_of_ble_eq_true rfl)⟩ ⟨(Nat.le_of_ble_eq_true rfl), (Nat.le_of_ble_eq_true rfl)⟩ dX3_init_20 (As := []) (rest := [.ref (p + 4), .ref p]) rfl rfl (Nat.le_of_ble_eq_true rfl) ?_
  refine ⟨(p + 4), rfl, rfl, lyp_s, hr_s, fun lb rb hb hXt fx zx => ?_⟩
  refine pf_X3_21 (pc := 23) rfl rfl (show lb p = (4, 0) from (fx p (by omega)).1.trans ((lyp_n (by omega)).trans l0)) dX3_init_23 ?_
  show St E mX3_init 26 [some (.ref p)] [] (8, 78) (p + 9) lb (rr rb p (rup (rb p) 1 (some (p + 4)))) hb
  have n_l0 : lb p = (4, 0) := (fx p (by omega)).1.trans ((lyp_n (by omega)).trans l0)
  have n_hTr : TreeAt lb (rr rb p (rup (rb p) 1 (some (p + 4)))) (p + 1) := hTr.r ((rr_n (by omega)).trans ((fx _ (by omega)).2.1.trans (rr_n (by omega)))) ((fx _ (by omega)).1.trans (lyp_n (by omega))) ((fx _ (by omega)).1.trans (lyp_n (by omega))) ((fx _ (by omega)).1.trans (lyp_n (by omega)))
  have n_r0 : (rr rb p (rup (rb p) 1 (some (p + 4)))) p 0 = some (p + 1) := by rw [rr_s, (show rb p = ra p from (fx p (by omega)).2.1.trans (rr_n (by omega))), rup_n (by decide)]; exact r0
  have n_hDv : DvAt lb (rr rb p (rup (rb p) 1 (some (p + 4)))) (p + 4) := hXt.r (rr_n (by omega)) rfl rfl rfl rfl rfl
  have n_r1 : (rr rb p (rup (rb p) 1 (some (p + 4)))) p 1 = some (p + 4) := by rw [rr_s, rup_s]
  have n_hz : ∀ x, p ≤ x → x < p + 9 → hb x = fun _ => 0 := fun x x0 x1 => by
    by_cases e : x < p + 4
    · rw [(fx x (by omega)).2.2, hr_n (by omega)]; exact hz x x0 e
    · exact zx x (by omega) (by omega)
  have n_fr : ∀ x, x < p → lb x = lay x ∧ (rr rb p (rup (rb p) 1 (some (p + 4)))) x = r x ∧ hb x = h x := fun x hx => by
    obtain ⟨z1, z2, z3⟩ := fx x (by omega)
    obtain ⟨y1, y2, y3⟩ := fr x hx
    refine ⟨?_, ?_, ?_⟩
    · exact (z1.trans (lyp_n (by omega))).trans y1
    · exact ((rr_n (by omega)).trans (z2.trans (rr_n (by omega)))).trans y2
    · exact (z3.trans (hr_n (by omega))).trans y3
  revert n_l0 n_hTr n_r0 n_hDv n_r1 n_hz n_fr
  clear l0 hTr r0 hz fr hXt fx zx
  clear ha ra la
  generalize (rr rb p (rup (rb p) 1 (some (p + 4)))) = ra
  generalize lb = la
  generalize hb = ha
  intro l0 hTr r0 hDv r1 hz fr
  refine r_aload_0 (pc := 26) dX3_init_26 ?_
  refine r_bipush (pc := 27) dX3_init_27 (by decide) ?_
  refine r_newI (pc := 29) (n := 22) rfl w_aI dX3_init_29 (Nat.le_of_ble_eq_true rfl) (Nat.le_of_ble_eq_true rfl) (Nat.le_of_ble_eq_true rfl) ?_
  refine pf_X3_25 (pc := 31) rfl rfl (show (lyp la (p + 9) (10, 22)) p = (4, 0) from (lyp_n (by omega)).trans l0) dX3_init_31 ?_
  show St E mX3_init 34 [some (.ref p)] [] (9, 100) (p + 10) (lyp la (p + 9) (10, 22)) (rr ra p (rup (ra p) 2 (some (p + 9)))) (hr ha (p + 9) (fun _ => 0))
  have n_l0 : (lyp la (p + 9) (10, 22)) p = (4, 0) := (lyp_n (by omega)).trans l0
  have n_hTr : TreeAt (lyp la (p + 9) (10, 22)) (rr ra p (rup (ra p) 2 (some (p + 9)))) (p + 1) := hTr.r (rr_n (by omega)) (lyp_n (by omega)) (lyp_n (by omega)) (lyp_n (by omega))
  have n_r0 : (rr ra p (rup (ra p) 2 (some (p + 9)))) p 0 = some (p + 1) := by rw [rr_s, rup_n (by decide)]; exact r0
  have n_hDv : DvAt (lyp la (p + 9) (10, 22)) (rr ra p (rup (ra p) 2 (some (p + 9)))) (p + 4) := hDv.r (rr_n (by omega)) (lyp_n (by omega)) (lyp_n (by omega)) (lyp_n (by omega)) (lyp_n (by omega)) (lyp_n (by omega))
  have n_r1 : (rr ra p (rup (ra p) 2 (some (p + 9)))) p 1 = some (p + 4) := by rw [rr_s, rup_n (by decide)]; exact r1
  have n_la9 : (lyp la (p + 9) (10, 22)) (p + 9) = (10, 22) := lyp_s
  have n_rf2 : (rr ra p (rup (ra p) 2 (some (p + 9)))) p 2 = some (p + 9) := by rw [rr_s, rup_s]
  have n_hz : ∀ x, p ≤ x → x < p + 10 → (hr ha (p + 9) (fun _ => 0)) x = fun _ => 0 := fun x x0 x1 => by
    by_cases e : x = p + 9
    · rw [e, hr_s]
    · rw [hr_n e]; exact hz x x0 (by omega)
  have n_fr : ∀ x, x < p → (lyp la (p + 9) (10, 22)) x = lay x ∧ (rr ra p (rup (ra p) 2 (some (p + 9)))) x = r x ∧ (hr ha (p + 9) (fun _ => 0)) x = h x := fun x x0 => by rw [lyp_n (by omega), rr_n (by omega), hr_n (by omega)]; exact fr x x0
  revert n_l0 n_hTr n_r0 n_hDv n_r1 n_la9 n_rf2 n_hz n_fr
  clear l0 hTr r0 hDv r1 hz fr
  generalize (lyp la (p + 9) (10, 22)) = la
  generalize (rr ra p (rup (ra p) 2 (some (p + 9)))) = ra
  generalize (hr ha (p + 9) (fun _ => 0)) = ha
  intro l0 hTr r0 hDv r1 la9 rf2 hz fr
  refine r_aload_0 (pc := 34) dX3_init_34 ?_
  refine r_bipush (pc := 35) dX3_init_35 (by decide) ?_
  refine r_newI (pc := 37) (n := 22) rfl w_aI dX3_init_37 (Nat.le_of_ble_eq_true rfl) (Nat.le_of_ble_eq_true rfl) (Nat.le_of_ble_eq_true rfl) ?_
  refine pf_X3_29 (pc := 39) rfl rfl (show (lyp la (p + 10) (10, 22)) p = (4, 0) from (lyp_n (by omega)).trans l0) dX3_init_39 ?_
  show St E mX3_init 42 [some (.ref p)] [] (10, 122) (p + 11) (lyp la (p + 10) (10, 22)) (rr ra p (rup (ra p) 3 (some (p + 10)))) (hr ha (p + 10) (fun _ => 0))
  have n_l0 : (lyp la (p + 10) (10, 22)) p = (4, 0) := (lyp_n (by omega)).trans l0
  have n_hTr : TreeAt (lyp la (p + 10) (10, 22)) (rr ra p (rup (ra p) 3 (some (p + 10)))) (p + 1) := hTr.r (rr_n (by omega)) (lyp_n (by omega)) (lyp_n (by omega)) (lyp_n (by omega))
  have n_r0 : (rr ra p (rup (ra p) 3 (some (p + 10)))) p 0 = some (p + 1) := by rw [rr_s, rup_n (by decide)]; exact r0
  have n_hDv : DvAt (lyp la (p + 10) (10, 22)) (rr ra p (rup (ra p) 3 (some (p + 10)))) (p + 4) := hDv.r (rr_n (by omega)) (lyp_n (by omega)) (lyp_n (by omega)) (lyp_n (by omega)) (lyp_n (by omega)) (lyp_n (by omega))
  have n_r1 : (rr ra p (rup (ra p) 3 (some (p + 10)))) p 1 = some (p + 4) := by rw [rr_s, rup_n (by decide)]; exact r1
  have n_la9 : (lyp la (p + 10) (10, 22)) (p + 9) = (10, 22) := (lyp_n (by omega)).trans la9
  have n_rf2 : (rr ra p (rup (ra p) 3 (some (p + 10)))) p 2 = some (p + 9) := by rw [rr_s, rup_n (by decide)]; exact rf2
  have n_la10 : (lyp la (p + 10) (10, 22)) (p + 10) = (10, 22) := lyp_s
  have n_rf3 : (rr ra p (rup (ra p) 3 (some (p + 10)))) p 3 = some (p + 10) := by rw [rr_s, rup_s]
  have n_hz : ∀ x, p ≤ x → x < p + 11 → (hr ha (p + 10) (fun _ => 0)) x = fun _ => 0 := fun x x0 x1 => by
    by_cases e : x = p + 10
    · rw [e, hr_s]
    · rw [hr_n e]; exact hz x x0 (by omega)
  have n_fr : ∀ x, x < p → (lyp la (p + 10) (10, 22)) x = lay x ∧ (rr ra p (rup (ra p) 3 (some (p + 10)))) x = r x ∧ (hr ha (p + 10) (fun _ => 0)) x = h x := fun x x0 => by rw [lyp_n (by omega), rr_n (by omega), hr_n (by omega)]; exact fr x x0
  revert n_l0 n_hTr n_r0 n_hDv n_r1 n_la9 n_rf2 n_la10 n_rf3 n_hz n_fr
  clear l0 hTr r0 hDv r1 la9 rf2 hz fr
  generalize (lyp la (p + 10) (10, 22)) = la
  generalize (rr ra p (rup (ra p) 3 (some (p + 10)))) = ra
  generalize (hr ha (p + 10) (fun _ => 0)) = ha
  intro l0 hTr r0 hDv r1 la9 rf2 la10 rf3 hz fr
  refine r_aload_0 (pc := 42) dX3_init_42 ?_
  refine r_bipush (pc := 43) dX3_init_43 (by decide) ?_
  refine r_newI (pc := 45) (n := 64) rfl w_aI dX3_init_45 (Nat.le_of_ble_eq_true rfl) (Nat.le_of_ble_eq_true rfl) (Nat.le_of_ble_eq_true rfl) ?_
  refine pf_X3_32 (pc := 47) rfl rfl (show (lyp la (p + 11) (10, 64)) p = (4, 0) from (lyp_n (by omega)).trans l0) dX3_init_47 ?_
  show St E mX3_init 50 [some (.ref p)] [] (11, 186) (p + 12) (lyp la (p + 11) (10, 64)) (rr ra p (rup (ra p) 9 (some (p + 11)))) (hr ha (p + 11) (fun _ => 0))
  have n_l0 : (lyp la (p + 11) (10, 64)) p = (4, 0) := (lyp_n (by omega)).trans l0
  have n_hTr : TreeAt (lyp la (p + 11) (10, 64)) (rr ra p (rup (ra p) 9 (some (p + 11)))) (p + 1) := hTr.r (rr_n (by omega)) (lyp_n (by omega)) (lyp_n (by omega)) (lyp_n (by omega))
  have n_r0 : (rr ra p (rup (ra p) 9 (some (p + 11)))) p 0 = some (p + 1) := by rw [rr_s, rup_n (by decide)]; exact r0
  have n_hDv : DvAt (lyp la (p + 11) (10, 64)) (rr ra p (rup (ra p) 9 (some (p + 11)))) (p + 4) := hDv.r (rr_n (by omega)) (lyp_n (by omega)) (lyp_n (by omega)) (lyp_n (by omega)) (lyp_n (by omega)) (lyp_n (by omega))
  have n_r1 : (rr ra p (rup (ra p) 9 (some (p + 11)))) p 1 = some (p + 4) := by rw [rr_s, rup_n (by decide)]; exact r1
  have n_la9 : (lyp la (p + 11) (10, 64)) (p + 9) = (10, 22) := (lyp_n (by omega)).trans la9
  have n_rf2 : (rr ra p (rup (ra p) 9 (some (p + 11)))) p 2 = some (p + 9) := by rw [rr_s, rup_n (by decide)]; exact rf2
  have n_la10 : (lyp la (p + 11) (10, 64)) (p + 10) = (10, 22) := (lyp_n (by omega)).trans la10
  have n_rf3 : (rr ra p (rup (ra p) 9 (some (p + 11)))) p 3 = some (p + 10) := by rw [rr_s, rup_n (by decide)]; exact rf3
  have n_la11 : (lyp la (p + 11) (10, 64)) (p + 11) = (10, 64) := lyp_s
  have n_rf9 : (rr ra p (rup (ra p) 9 (some (p + 11)))) p 9 = some (p + 11) := by rw [rr_s, rup_s]
  have n_hz : ∀ x, p ≤ x → x < p + 12 → (hr ha (p + 11) (fun _ => 0)) x = fun _ => 0 := fun x x0 x1 => by
    by_cases e : x = p + 11
    · rw [e, hr_s]
    · rw [hr_n e]; exact hz x x0 (by omega)
  have n_fr : ∀ x, x < p → (lyp la (p + 11) (10, 64)) x = lay x ∧ (rr ra p (rup (ra p) 9 (some (p + 11)))) x = r x ∧ (hr ha (p + 11) (fun _ => 0)) x = h x := fun x x0 => by rw [lyp_n (by omega), rr_n (by omega), hr_n (by omega)]; exact fr x x0
  revert n_l0 n_hTr n_r0 n_hDv n_r1 n_la9 n_rf2 n_la10 n_rf3 n_la11 n_rf9 n_hz n_fr
  clear l0 hTr r0 hDv r1 la9 rf2 la10 rf3 hz fr
  generalize (lyp la (p + 11) (10, 64)) = la
  generalize (rr ra p (rup (ra p) 9 (some (p + 11)))) = ra
  generalize (hr ha (p + 11) (fun _ => 0)) = ha
  intro l0 hTr r0 hDv r1 la9 rf2 la10 rf3 la11 rf9 hz fr
  refine r_aload_0 (pc := 50) dX3_init_50 ?_
  refine r_bipush (pc := 51) dX3_init_51 (by decide) ?_
  refine r_newI (pc := 53) (n := 64) rfl w_aI dX3_init_53 (Nat.le_of_ble_eq_true rfl) (Nat.le_of_ble_eq_true rfl) (Nat.le_of_ble_eq_true rfl) ?_
  refine pf_X3_35 (pc := 55) rfl rfl (show (lyp la (p + 12) (10, 64)) p = (4, 0) from (lyp_n (by omega)).trans l0) dX3_init_55 ?_
  show St E mX3_init 58 [some (.ref p)] [] (12, 250) (p + 13) (lyp la (p + 12) (10, 64)) (rr ra p (rup (ra p) 10 (some (p + 12)))) (hr ha (p + 12) (fun _ => 0))
  have n_l0 : (lyp la (p + 12) (10, 64)) p = (4, 0) := (lyp_n (by omega)).trans l0
  have n_hTr : TreeAt (lyp la (p + 12) (10, 64)) (rr ra p (rup (ra p) 10 (some (p + 12)))) (p + 1) := hTr.r (rr_n (by omega)) (lyp_n (by omega)) (lyp_n (by omega)) (lyp_n (by omega))
  have n_r0 : (rr ra p (rup (ra p) 10 (some (p + 12)))) p 0 = some (p + 1) := by rw [rr_s, rup_n (by decide)]; exact r0
  have n_hDv : DvAt (lyp la (p + 12) (10, 64)) (rr ra p (rup (ra p) 10 (some (p + 12)))) (p + 4) := hDv.r (rr_n (by omega)) (lyp_n (by omega)) (lyp_n (by omega)) (lyp_n (by omega)) (lyp_n (by omega)) (lyp_n (by omega))
  have n_r1 : (rr ra p (rup (ra p) 10 (some (p + 12)))) p 1 = some (p + 4) := by rw [rr_s, rup_n (by decide)]; exact r1
  have n_la9 : (lyp la (p + 12) (10, 64)) (p + 9) = (10, 22) := (lyp_n (by omega)).trans la9
  have n_rf2 : (rr ra p (rup (ra p) 10 (some (p + 12)))) p 2 = some (p + 9) := by rw [rr_s, rup_n (by decide)]; exact rf2
  have n_la10 : (lyp la (p + 12) (10, 64)) (p + 10) = (10, 22) := (lyp_n (by omega)).trans la10
  have n_rf3 : (rr ra p (rup (ra p) 10 (some (p + 12)))) p 3 = some (p + 10) := by rw [rr_s, rup_n (by decide)]; exact rf3
  have n_la11 : (lyp la (p + 12) (10, 64)) (p + 11) = (10, 64) := (lyp_n (by omega)).trans la11
  have n_rf9 : (rr ra p (rup (ra p) 10 (some (p + 12)))) p 9 = some (p + 11) := by rw [rr_s, rup_n (by decide)]; exact rf9
  have n_la12 : (lyp la (p + 12) (10, 64)) (p + 12) = (10, 64) := lyp_s
  have n_rf10 : (rr ra p (rup (ra p) 10 (some (p + 12)))) p 10 = some (p + 12) := by rw [rr_s, rup_s]
  have n_hz : ∀ x, p ≤ x → x < p + 13 → (hr ha (p + 12) (fun _ => 0)) x = fun _ => 0 := fun x x0 x1 => by
    by_cases e : x = p + 12
    · rw [e, hr_s]
    · rw [hr_n e]; exact hz x x0 (by omega)
  have n_fr : ∀ x, x < p → (lyp la (p + 12) (10, 64)) x = lay x ∧ (rr ra p (rup (ra p) 10 (some (p + 12)))) x = r x ∧ (hr ha (p + 12) (fun _ => 0)) x = h x := fun x x0 => by rw [lyp_n (by omega), rr_n (by omega), hr_n (by omega)]; exact fr x x0
  revert n_l0 n_hTr n_r0 n_hDv n_r1 n_la9 n_rf2 n_la10 n_rf3 n_la11 n_rf9 n_la12 n_rf10 n_hz n_fr
  clear l0 hTr r0 hDv r1 la9 rf2 la10 rf3 la11 rf9 hz fr
  generalize (lyp la (p + 12) (10, 64)) = la
  generalize (rr ra p (rup (ra p) 10 (some (p + 12)))) = ra
  generalize (hr ha (p + 12) (fun _ => 0)) = ha
  intro l0 hTr r0 hDv r1 la9 rf2 la10 rf3 la11 rf9 la12 rf10 hz fr
  refine r_aload_0 (pc := 58) dX3_init_58 ?_
  refine r_bipush (pc := 59) dX3_init_59 (by decide) ?_
  refine r_newI (pc := 61) (n := 16) rfl w_aI dX3_init_61 (Nat.le_of_ble_eq_true rfl) (Nat.le_of_ble_eq_true rfl) (Nat.le_of_ble_eq_true rfl) ?_
  refine pf_X3_38 (pc := 63) rfl rfl (show (lyp la (p + 13) (10, 16)) p = (4, 0) from (lyp_n (by omega)).trans l0) dX3_init_63 ?_
  show St E mX3_init 66 [some (.ref p)] [] (13, 266) (p + 14) (lyp la (p + 13) (10, 16)) (rr ra p (rup (ra p) 11 (some (p + 13)))) (hr ha (p + 13) (fun _ => 0))
  have n_l0 : (lyp la (p + 13) (10, 16)) p = (4, 0) := (lyp_n (by omega)).trans l0
  have n_hTr : TreeAt (lyp la (p + 13) (10, 16)) (rr ra p (rup (ra p) 11 (some (p + 13)))) (p + 1) := hTr.r (rr_n (by omega)) (lyp_n (by omega)) (lyp_n (by omega)) (lyp_n (by omega))
  have n_r0 : (rr ra p (rup (ra p) 11 (some (p + 13)))) p 0 = some (p + 1) := by rw [rr_s, rup_n (by decide)]; exact r0
  have n_hDv : DvAt (lyp la (p + 13) (10, 16)) (rr ra p (rup (ra p) 11 (some (p + 13)))) (p + 4) := hDv.r (rr_n (by omega)) (lyp_n (by omega)) (lyp_n (by omega)) (lyp_n (by omega)) (lyp_n (by omega)) (lyp_n (by omega))
  have n_r1 : (rr ra p (rup (ra p) 11 (some (p + 13)))) p 1 = some (p + 4) := by rw [rr_s, rup_n (by decide)]; exact r1
  have n_la9 : (lyp la (p + 13) (10, 16)) (p + 9) = (10, 22) := (lyp_n (by omega)).trans la9
  have n_rf2 : (rr ra p (rup (ra p) 11 (some (p + 13)))) p 2 = some (p + 9) := by rw [rr_s, rup_n (by decide)]; exact rf2
  have n_la10 : (lyp la (p + 13) (10, 16)) (p + 10) = (10, 22) := (lyp_n (by omega)).trans la10
  have n_rf3 : (rr ra p (rup (ra p) 11 (some (p + 13)))) p 3 = some (p + 10) := by rw [rr_s, rup_n (by decide)]; exact rf3
  have n_la11 : (lyp la (p + 13) (10, 16)) (p + 11) = (10, 64) := (lyp_n (by omega)).trans la11
  have n_rf9 : (rr ra p (rup (ra p) 11 (some (p + 13)))) p 9 = some (p + 11) := by rw [rr_s, rup_n (by decide)]; exact rf9
  have n_la12 : (lyp la (p + 13) (10, 16)) (p + 12) = (10, 64) := (lyp_n (by omega)).trans la12
  have n_rf10 : (rr ra p (rup (ra p) 11 (some (p + 13)))) p 10 = some (p + 12) := by rw [rr_s, rup_n (by decide)]; exact rf10
  have n_la13 : (lyp la (p + 13) (10, 16)) (p + 13) = (10, 16) := lyp_s
  have n_rf11 : (rr ra p (rup (ra p) 11 (some (p + 13)))) p 11 = some (p + 13) := by rw [rr_s, rup_s]
  have n_hz : ∀ x, p ≤ x → x < p + 14 → (hr ha (p + 13) (fun _ => 0)) x = fun _ => 0 := fun x x0 x1 => by
    by_cases e : x = p + 13
    · rw [e, hr_s]
    · rw [hr_n e]; exact hz x x0 (by omega)
  have n_fr : ∀ x, x < p → (lyp la (p + 13) (10, 16)) x = lay x ∧ (rr ra p (rup (ra p) 11 (some (p + 13)))) x = r x ∧ (hr ha (p + 13) (fun _ => 0)) x = h x := fun x x0 => by rw [lyp_n (by omega), rr_n (by omega), hr_n (by omega)]; exact fr x x0
  revert n_l0 n_hTr n_r0 n_hDv n_r1 n_la9 n_rf2 n_la10 n_rf3 n_la11 n_rf9 n_la12 n_rf10 n_la13 n_rf11 n_hz n_fr
  clear l0 hTr r0 hDv r1 la9 rf2 la10 rf3 la11 rf9 la12 rf10 hz fr
  generalize (lyp la (p + 13) (10, 16)) = la
  generalize (rr ra p (rup (ra p) 11 (some (p + 13)))) = ra
  generalize (hr ha (p + 13) (fun _ => 0)) = ha
  intro l0 hTr r0 hDv r1 la9 rf2 la10 rf3 la11 rf9 la12 rf10 la13 rf11 hz fr
  refine r_ret (pc := 66) hret dX3_init_66 rfl rfl rfl ?_
  obtain ⟨a1, a2, a3, a4, a5⟩ := hTr
  obtain ⟨b1, b2, b3, b4, b5, b6, b7, b8, b9⟩ := hDv
  exact hQ la ra ha ⟨l0, a1, a2, a3, b1, b2, b3, b4, b5, la9, la10, la11, la12, la13, r0, r1, rf2, rf3, rf9, rf10, rf11, a4, a5, b6, b7, b8, b9⟩ fr hz

section ROWS
variable {E : EnT} {M : MtT} {pc : Nat} {l : LcT} {st : List Value} {κ : Nat × Nat} {N : Nat} {lay : LyT} {r : RfT} {h : HpT}
theorem w_over : Cond.arrayOver (.object RX3) ∈ nwL := List.mem_filter.mpr ⟨List.mem_of_getElem? (i := 125) (by decide +kernel), rfl⟩
theorem w_clP : Cond.classLink RX7 23 RX3 ∈ lwT := inT 124 (by decide +kernel) rfl
theorem r_anew (hM : M.1.cls = RX7) (d : decode M.2.1 pc = .ok (.anewarray 23, 3)) (hc : κ.1 + 1 ≤ M.2.2.2.2.cells) (hsl : κ.2 + 5 ≤ M.2.2.2.2.slots)
    (kk : St E M (pc + 3) l (.ref N :: st) (κ.1 + 1, κ.2 + 5) (N + 1) (lyp lay N (13, 5)) (rr r N (fun _ => none)) h) : St E M pc l (vI 5 :: st) κ N lay r h := by
  obtain ⟨p, la, e, s, m, args, below, meth, c, D, cA, B, Z⟩ := E
  intro O ls H locs hl hn hw
  obtain ⟨hx, hb, hml, hown, hts, hK, hnw, hB, hnm⟩ := id O
  obtain ⟨hP, hzN, hly, hR, hNs, hS⟩ := id hw
  have hBN : B ≤ N := by omega
  refine W.anew hx hb hown (by rw [hM]; exact hts _ w_clP) (va_AO.use (hnw _ w_over)) rfl d rfl (n := Int32.ofInt 5) (by decide) (by decide) hc hsl fun cX kA comp f1 f2 f3 f4 => ?_
  have hcX : cX = cA 3 := by
    have h1 := (hK.2 3 (cA 3, .object RX3) rfl).2
    obtain ⟨kA2, comp2, g2, g3, g4, g1⟩ := h1
    rw [g1] at f1
    exact (Option.some.inj f1).symm
  subst hcX
  generalize hH1 : H.push ({ cls := cA 3, slots := Array.replicate (Int32.ofInt 5).toNatClampNeg .null, vm := .none } : Cell) = H1
  have z1 : H1.size = N + 1 := by rw [← hH1, Array.size_push, hzN]
  have e1 : H1[N]? = some (arrV (cA 3) 5 (fun _ => .null)) := by rw [← hH1, ← hzN, Array.getElem?_push_size]; exact congrArg some (arrV_new _ 5 _)
  have o1 : ∀ q : Nat, q < N → H1[q]? = H[q]? := fun q hq => by rw [← hH1, Array.getElem?_push, if_neg (by omega)]
  rw [hzN]
  refine kk O ls H1 locs hl hn ⟨P_new hP hBN o1 ?_ (fun a ha => ⟨lyp_n ha, rr_n ha, rfl⟩), z1, LyOk_new hly hBN, hR, by show N + 1 = s.heap.size + (κ.1 + 1); omega, ?_⟩
  · rw [cellE_q lyp_s, rr_s]
    show H1[N]? = some (vp_cell _ _)
    rw [vp_cell_q]
    exact e1
  · exact ⟨Nat.le_trans hS.1 (by omega), fun x h1 h2 => (o1 x (by have := hS.1; omega)).trans (hS.2.1 x h1 h2), hS.2.2⟩
end ROWS
