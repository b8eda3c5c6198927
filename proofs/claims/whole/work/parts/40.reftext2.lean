/-! THE REFERENCE: the text, items -/
def rdI (n : Int) (tx : Int → Int) (ch i : Int) (tl : Int → Int) : Int × (Int → Int) :=
  if ch = 104 then (if 3 < tl 128 + 1 then -1 else i, up tl 128 (tl 128 + 1))
  else if ch = 114 then (if tl 128 = 0 ∨ tl 129 = 6 then (-1, tl) else (i, up (up tl (4 + tl 129) (tl 128)) 129 (tl 129 + 1)))
  else if ch = 100 then rdD n tx i tl
  else if ch = 99 then rdR n tx i tl
  else if ch = 116 then (if nm n tx i 1 24 < 0 then -1 else nmE n tx i, up tl 134 (nm n tx i 1 24))
  else (-1, tl)
theorem rdI_h {n : Int} {tx : Int → Int} {ch i : Int} {tl : Int → Int} (h : ch = 104) : rdI n tx ch i tl = (if 3 < tl 128 + 1 then -1 else i, up tl 128 (tl 128 + 1)) := if_pos h
theorem rdI_r {n : Int} {tx : Int → Int} {ch i : Int} {tl : Int → Int} (h : ch = 114) : rdI n tx ch i tl = if tl 128 = 0 ∨ tl 129 = 6 then (-1, tl) else (i, up (up tl (4 + tl 129) (tl 128)) 129 (tl 129 + 1)) := (if_neg (by omega)).trans (if_pos h)
theorem rdI_d {n : Int} {tx : Int → Int} {ch i : Int} {tl : Int → Int} (h : ch = 100) : rdI n tx ch i tl = rdD n tx i tl := (if_neg (by omega)).trans ((if_neg (by omega)).trans (if_pos h))
theorem rdI_c {n : Int} {tx : Int → Int} {ch i : Int} {tl : Int → Int} (h : ch = 99) : rdI n tx ch i tl = rdR n tx i tl := (if_neg (by omega)).trans ((if_neg (by omega)).trans ((if_neg (by omega)).trans (if_pos h)))
theorem rdI_t {n : Int} {tx : Int → Int} {ch i : Int} {tl : Int → Int} (h : ch = 116) : rdI n tx ch i tl = (if nm n tx i 1 24 < 0 then -1 else nmE n tx i, up tl 134 (nm n tx i 1 24)) := (if_neg (by omega)).trans ((if_neg (by omega)).trans ((if_neg (by omega)).trans ((if_neg (by omega)).trans (if_pos h))))
theorem rdI_o {n : Int} {tx : Int → Int} {ch i : Int} {tl : Int → Int} (h : ch ≠ 104 ∧ ch ≠ 114 ∧ ch ≠ 100 ∧ ch ≠ 99 ∧ ch ≠ 116) : rdI n tx ch i tl = (-1, tl) := (if_neg h.1).trans ((if_neg h.2.1).trans ((if_neg h.2.2.1).trans ((if_neg h.2.2.2.1).trans (if_neg h.2.2.2.2))))
theorem rdI_b {n : Int} {tx : Int → Int} {ch i : Int} {tl : Int → Int} : (rdI n tx ch i tl).1 = -1 ∨ (i ≤ (rdI n tx ch i tl).1 ∧ (rdI n tx ch i tl).1 ≤ i + 8) := by
  have e1 := nmE_r (n := n) (tx := tx) (i := i)
  have e2 := nmE_r (n := n) (tx := tx) (i := nmE n tx i + 1)
  have e3 := nmE_r (n := n) (tx := tx) (i := nmE n tx (nmE n tx i + 1) + 1)
  by_cases c1 : ch = 104
  · rw [rdI_h c1]; dsimp only; split <;> omega
  · by_cases c2 : ch = 114
    · rw [rdI_r c2]; split <;> dsimp only <;> omega
    · by_cases c3 : ch = 100
      · rw [rdI_d c3]; unfold rdD; split <;> dsimp only <;> omega
      · by_cases c4 : ch = 99
        · rw [rdI_c c4]; unfold rdR; split <;> dsimp only <;> omega
        · by_cases c5 : ch = 116
          · rw [rdI_t c5]; dsimp only; split <;> omega
          · rw [rdI_o ⟨c1, c2, c3, c4, c5⟩]; exact Or.inl rfl
def TlI (tl : Int → Int) : Prop := TrM tl ∧ RlM tl ∧ (∀ j, 98 ≤ j → j < 110 → tl j = 0) ∧ tl 135 = 0
theorem rdDk_e {tl : Int → Int} {w c : Int} (h : 0 ≤ tl 130 ∧ tl 130 < 12) (hz : ∀ j, 98 ≤ j → j < 110 → tl j = 0) : rdDk tl w c = dkM tl (3 + tl 129) w c := by
  unfold rdDk dkM
  have e : up (up (up (up tl (10 + tl 130) (3 + tl 129)) (22 + (10 + tl 130)) w) (44 + (10 + tl 130)) (10 * c)) (66 + (10 + tl 130)) 16 (88 + (10 + tl 130)) = 0 := by
    rw [up_n (by omega), up_n (by omega), up_n (by omega), up_n (by omega)]; exact hz _ (by omega) (by omega)
  have e2 := up_id (f := up (up (up (up tl (10 + tl 130) (3 + tl 129)) (22 + (10 + tl 130)) w) (44 + (10 + tl 130)) (10 * c)) (66 + (10 + tl 130)) 16) (k := 88 + (10 + tl 130))
  rw [e] at e2
  rw [e2]
theorem TrM_hall {mp : Int → Int} (h : TrM mp) (h3 : mp 128 < 3) : TrM (up mp 128 (mp 128 + 1)) := by
  obtain ⟨t1, t2, t3, t4, t5, t6, t7⟩ := h
  have e : ∀ j, j ≠ 128 → up mp 128 (mp 128 + 1) j = mp j := fun j hj => up_n hj
  have e8 : up mp 128 (mp 128 + 1) 128 = mp 128 + 1 := up_s
  have e9 := e 129 (by omega)
  have e0 := e 130 (by omega)
  refine ⟨by rw [e8]; omega, by rw [e9]; exact t2, by rw [e0]; exact t3, fun n n0 n1 => by rw [e _ (by omega)]; exact t4 n n0 n1, fun n n0 n1 => ?_, fun n n0 n1 => ?_, fun n n0 n1 => ?_⟩
  · rw [e9] at n1
    have := t5 n n0 n1
    rw [e n (by omega), e8]; omega
  · rw [e0] at n1
    rw [e n (by omega), e9]; exact t6 n n0 n1
  · rw [e0] at n1
    rw [e _ (by omega)]; exact t7 n n0 n1
theorem RlM_tr {mp : Int → Int} {x : Int} (h : RlM mp) (hT : TrM mp) (hx : 1 ≤ x ∧ x ≤ 24) : RlM (up mp 134 x) := by
  obtain ⟨r1, r2, r3, r4, r5, r6, r7⟩ := h
  have t3 := hT.2.2.1
  have e : ∀ j, j ≠ 134 → up mp 134 x j = mp j := fun j hj => up_n hj
  refine ⟨by rw [e _ (by omega)]; exact r1, by rw [e _ (by omega)]; exact r2, by rw [e _ (by omega)]; exact r3, by rw [up_s]; exact hx, by rw [e _ (by omega)]; exact r5, fun n n0 n1 => ?_, fun n n0 n1 => ?_⟩
  · rw [e 130 (by omega)] at n1
    rw [e _ (by omega), e _ (by omega), e _ (by omega)]; exact r6 n n0 n1
  · rw [e 135 (by omega)] at n1
    rw [e _ (by omega), e _ (by omega), e _ (by omega), e _ (by omega)]; exact r7 n n0 n1
theorem rdI_I {n : Int} {tx : Int → Int} {ch i : Int} {tl : Int → Int} (h : TlI tl) (hi : 0 ≤ i) (h0 : 0 ≤ (rdI n tx ch i tl).1) : TlI (rdI n tx ch i tl).2 := by
  obtain ⟨hT, hR, hz, h5⟩ := h
  obtain ⟨t1, t2, t3, t4, t5, t6, t7⟩ := id hT
  by_cases c1 : ch = 104
  · rw [rdI_h c1] at h0 ⊢
    dsimp only at h0 ⊢
    have k3 : tl 128 < 3 := by split at h0 <;> omega
    exact ⟨TrM_hall hT k3, RlM_c hR hT (fun j hj => up_n (by omega)), fun j j0 j1 => by rw [up_n (by omega)]; exact hz j j0 j1, by rw [up_n (by omega)]; exact h5⟩
  · by_cases c2 : ch = 114
    · rw [rdI_r c2] at h0 ⊢
      by_cases k : tl 128 = 0 ∨ tl 129 = 6
      · rw [if_pos k] at h0; dsimp only at h0; omega
      · rw [if_neg k]
        dsimp only
        exact ⟨TrM_rack hT (by omega) (by omega), RlM_c hR hT (fun j hj => by rw [up_n (by omega), up_n (by omega)]), fun j j0 j1 => by rw [up_n (by omega), up_n (by omega)]; exact hz j j0 j1, by rw [up_n (by omega), up_n (by omega)]; exact h5⟩
    · by_cases c3 : ch = 100
      · rw [rdI_d c3] at h0 ⊢
        unfold rdD at h0 ⊢
        split
        · rename_i k
          obtain ⟨k1, k2, k3, k4, k5⟩ := k
          have w1 := nmb_r (n := n) (tx := tx) (i := i) (lo := 0) (hi := 40) (by omega)
          have w2 := nmb_r (n := n) (tx := tx) (i := nmE n tx i + 1) (lo := 0) (hi := 99) (by omega)
          dsimp only
          rw [rdDk_e (by omega) hz]
          refine ⟨TrM_disk hT (by omega) (by omega) (by omega), RlM_disk hR hT (by omega) (by omega), fun j j0 j1 => ?_, by rw [dkM_e t3 (by omega)]; exact h5⟩
          by_cases ej : j = 88 + (10 + tl 130)
          · rw [ej, dkM_5 t3]
          · rw [dkM_e t3 (by omega)]; exact hz j j0 j1
        · exact ⟨hT, hR, hz, h5⟩
      · by_cases c4 : ch = 99
        · rw [rdI_c c4] at h0 ⊢
          unfold rdR at h0 ⊢
          split
          · rename_i k
            obtain ⟨k1, k2, k3, k4, k5⟩ := k
            have w1 := nmb_r (n := n) (tx := tx) (i := i) (lo := 1) (hi := 4) (by omega)
            have w2 := nmb_r (n := n) (tx := tx) (i := nmE n tx i + 1) (lo := 1) (hi := 3) (by omega)
            have w3 := nmb_r (n := n) (tx := tx) (i := nmE n tx (nmE n tx i + 1) + 1) (lo := 0) (hi := 1) (by omega)
            dsimp only
            exact ⟨TrM_c hT (fun j hj => by rw [up_n (by omega), up_n (by omega), up_n (by omega)]), RlM_rule hR hT (by omega) (by omega) (by omega), fun j j0 j1 => by rw [up_n (by omega), up_n (by omega), up_n (by omega)]; exact hz j j0 j1, by rw [up_n (by omega), up_n (by omega), up_n (by omega)]; exact h5⟩
          · exact ⟨hT, hR, hz, h5⟩
        · by_cases c5 : ch = 116
          · rw [rdI_t c5] at h0 ⊢
            dsimp only at h0 ⊢
            have w1 := nmb_r (n := n) (tx := tx) (i := i) (lo := 1) (hi := 24) (by omega)
            have k3 : 0 ≤ nm n tx i 1 24 := by split at h0 <;> omega
            exact ⟨TrM_c hT (fun j hj => up_n (by omega)), RlM_tr hR hT (by omega), fun j j0 j1 => by rw [up_n (by omega)]; exact hz j j0 j1, by rw [up_n (by omega)]; exact h5⟩
          · rw [rdI_o ⟨c1, c2, c3, c4, c5⟩]; exact ⟨hT, hR, hz, h5⟩
def rds (n : Int) (tx : Int → Int) : Nat → Int → (Int → Int) → Int × (Int → Int)
  | 0, _, tl => (-4, tl)
  | f + 1, i, tl => if n ≤ i then (-4, tl) else if (rdI n tx (tx i) (i + 1) tl).1 < 0 ∨ ltr n tx (rdI n tx (tx i) (i + 1) tl).1 ≠ 59 then (i, (rdI n tx (tx i) (i + 1) tl).2) else rds n tx f ((rdI n tx (tx i) (i + 1) tl).1 + 1) (rdI n tx (tx i) (i + 1) tl).2
theorem TlI_0 {f : Int → Int} : TlI (bgn f) := by
  have e : ∀ j, 0 ≤ j → j < 136 → j ≠ 131 → j ≠ 132 → j ≠ 134 → bgn f j = 0 := by
    intro j j0 j1 j2 j3 j4
    unfold bgn
    rw [up_n j4, up_n j3, up_n j2]
    exact if_pos ⟨j0, j1⟩
  have e1 : bgn f 131 = 2 := by unfold bgn; rw [up_n (by omega), up_n (by omega), up_s]
  have e2 : bgn f 132 = 2 := by unfold bgn; rw [up_n (by omega), up_s]
  have e4 : bgn f 134 = 20 := by unfold bgn; rw [up_s]
  have e8 := e 128 (by omega) (by omega) (by omega) (by omega) (by omega)
  have e9 := e 129 (by omega) (by omega) (by omega) (by omega) (by omega)
  have e0 := e 130 (by omega) (by omega) (by omega) (by omega) (by omega)
  have e3 := e 133 (by omega) (by omega) (by omega) (by omega) (by omega)
  have e5 := e 135 (by omega) (by omega) (by omega) (by omega) (by omega)
  refine ⟨⟨by omega, by omega, by omega, fun n n0 n1 => e n n0 (by omega) (by omega) (by omega) (by omega), fun n n0 n1 => by omega, fun n n0 n1 => by omega, fun n n0 n1 => by omega⟩, ⟨by omega, by omega, by omega, by omega, by omega, fun n n0 n1 => by omega, fun n n0 n1 => by omega⟩, fun j j0 j1 => e j (by omega) (by omega) (by omega) (by omega) (by omega), e5⟩
theorem dX8_readsItem_0 : decode cX8_readsItem 0 = .ok (.iload_n 1, 1) := by decide +kernel
theorem dX8_readsItem_1 : decode cX8_readsItem 1 = .ok (.bipush 104, 2) := by decide +kernel
theorem dX8_readsItem_3 : decode cX8_readsItem 3 = .ok (.if_icmp .ne 33, 3) := by decide +kernel
theorem dX8_readsItem_6 : decode cX8_readsItem 6 = .ok (.aload_n 0, 1) := by decide +kernel
theorem dX8_readsItem_7 : decode cX8_readsItem 7 = .ok (.getfield 25, 3) := by decide +kernel
theorem dX8_readsItem_10 : decode cX8_readsItem 10 = .ok (.sipush 128, 3) := by decide +kernel
theorem dX8_readsItem_13 : decode cX8_readsItem 13 = .ok (.dup2, 1) := by decide +kernel
theorem dX8_readsItem_14 : decode cX8_readsItem 14 = .ok (.iaload, 1) := by decide +kernel
theorem dX8_readsItem_15 : decode cX8_readsItem 15 = .ok (.iconst 1, 1) := by decide +kernel
theorem dX8_readsItem_16 : decode cX8_readsItem 16 = .ok (.iadd, 1) := by decide +kernel
theorem dX8_readsItem_17 : decode cX8_readsItem 17 = .ok (.iastore, 1) := by decide +kernel
theorem dX8_readsItem_18 : decode cX8_readsItem 18 = .ok (.aload_n 0, 1) := by decide +kernel
theorem dX8_readsItem_19 : decode cX8_readsItem 19 = .ok (.getfield 25, 3) := by decide +kernel
theorem dX8_readsItem_22 : decode cX8_readsItem 22 = .ok (.sipush 128, 3) := by decide +kernel
theorem dX8_readsItem_25 : decode cX8_readsItem 25 = .ok (.iaload, 1) := by decide +kernel
theorem dX8_readsItem_26 : decode cX8_readsItem 26 = .ok (.iconst 3, 1) := by decide +kernel
theorem dX8_readsItem_27 : decode cX8_readsItem 27 = .ok (.if_icmp .le 7, 3) := by decide +kernel
theorem dX8_readsItem_30 : decode cX8_readsItem 30 = .ok (.iconst (-1), 1) := by decide +kernel
theorem dX8_readsItem_31 : decode cX8_readsItem 31 = .ok (.goto 4, 3) := by decide +kernel
theorem dX8_readsItem_34 : decode cX8_readsItem 34 = .ok (.iload_n 2, 1) := by decide +kernel
theorem dX8_readsItem_35 : decode cX8_readsItem 35 = .ok (.ireturn, 1) := by decide +kernel
theorem dX8_readsItem_36 : decode cX8_readsItem 36 = .ok (.iload_n 1, 1) := by decide +kernel
theorem dX8_readsItem_37 : decode cX8_readsItem 37 = .ok (.bipush 114, 2) := by decide +kernel
theorem dX8_readsItem_39 : decode cX8_readsItem 39 = .ok (.if_icmp .ne 66, 3) := by decide +kernel
theorem dX8_readsItem_42 : decode cX8_readsItem 42 = .ok (.aload_n 0, 1) := by decide +kernel
theorem dX8_readsItem_43 : decode cX8_readsItem 43 = .ok (.getfield 25, 3) := by decide +kernel
theorem dX8_readsItem_46 : decode cX8_readsItem 46 = .ok (.sipush 128, 3) := by decide +kernel
theorem dX8_readsItem_49 : decode cX8_readsItem 49 = .ok (.iaload, 1) := by decide +kernel
theorem dX8_readsItem_50 : decode cX8_readsItem 50 = .ok (.ifCond .eq 16, 3) := by decide +kernel
theorem dX8_readsItem_53 : decode cX8_readsItem 53 = .ok (.aload_n 0, 1) := by decide +kernel
theorem dX8_readsItem_54 : decode cX8_readsItem 54 = .ok (.getfield 25, 3) := by decide +kernel
theorem dX8_readsItem_57 : decode cX8_readsItem 57 = .ok (.sipush 129, 3) := by decide +kernel
theorem dX8_readsItem_60 : decode cX8_readsItem 60 = .ok (.iaload, 1) := by decide +kernel
theorem dX8_readsItem_61 : decode cX8_readsItem 61 = .ok (.bipush 6, 2) := by decide +kernel
theorem dX8_readsItem_63 : decode cX8_readsItem 63 = .ok (.if_icmp .ne 5, 3) := by decide +kernel
theorem dX8_readsItem_66 : decode cX8_readsItem 66 = .ok (.iconst (-1), 1) := by decide +kernel
theorem dX8_readsItem_67 : decode cX8_readsItem 67 = .ok (.ireturn, 1) := by decide +kernel
theorem dX8_readsItem_68 : decode cX8_readsItem 68 = .ok (.aload_n 0, 1) := by decide +kernel
theorem dX8_readsItem_69 : decode cX8_readsItem 69 = .ok (.getfield 25, 3) := by decide +kernel
theorem dX8_readsItem_72 : decode cX8_readsItem 72 = .ok (.iconst 4, 1) := by decide +kernel
theorem dX8_readsItem_73 : decode cX8_readsItem 73 = .ok (.aload_n 0, 1) := by decide +kernel
theorem dX8_readsItem_74 : decode cX8_readsItem 74 = .ok (.getfield 25, 3) := by decide +kernel
theorem dX8_readsItem_77 : decode cX8_readsItem 77 = .ok (.sipush 129, 3) := by decide +kernel
theorem dX8_readsItem_80 : decode cX8_readsItem 80 = .ok (.iaload, 1) := by decide +kernel
theorem dX8_readsItem_81 : decode cX8_readsItem 81 = .ok (.iadd, 1) := by decide +kernel
theorem dX8_readsItem_82 : decode cX8_readsItem 82 = .ok (.aload_n 0, 1) := by decide +kernel
theorem dX8_readsItem_83 : decode cX8_readsItem 83 = .ok (.getfield 25, 3) := by decide +kernel
theorem dX8_readsItem_86 : decode cX8_readsItem 86 = .ok (.sipush 128, 3) := by decide +kernel
theorem dX8_readsItem_89 : decode cX8_readsItem 89 = .ok (.iaload, 1) := by decide +kernel
theorem dX8_readsItem_90 : decode cX8_readsItem 90 = .ok (.iastore, 1) := by decide +kernel
theorem dX8_readsItem_91 : decode cX8_readsItem 91 = .ok (.aload_n 0, 1) := by decide +kernel
theorem dX8_readsItem_92 : decode cX8_readsItem 92 = .ok (.getfield 25, 3) := by decide +kernel
theorem dX8_readsItem_95 : decode cX8_readsItem 95 = .ok (.sipush 129, 3) := by decide +kernel
theorem dX8_readsItem_98 : decode cX8_readsItem 98 = .ok (.dup2, 1) := by decide +kernel
theorem dX8_readsItem_99 : decode cX8_readsItem 99 = .ok (.iaload, 1) := by decide +kernel
theorem dX8_readsItem_100 : decode cX8_readsItem 100 = .ok (.iconst 1, 1) := by decide +kernel
theorem dX8_readsItem_101 : decode cX8_readsItem 101 = .ok (.iadd, 1) := by decide +kernel
theorem dX8_readsItem_102 : decode cX8_readsItem 102 = .ok (.iastore, 1) := by decide +kernel
theorem dX8_readsItem_103 : decode cX8_readsItem 103 = .ok (.iload_n 2, 1) := by decide +kernel
theorem dX8_readsItem_104 : decode cX8_readsItem 104 = .ok (.ireturn, 1) := by decide +kernel
theorem dX8_readsItem_105 : decode cX8_readsItem 105 = .ok (.iload_n 1, 1) := by decide +kernel
theorem dX8_readsItem_106 : decode cX8_readsItem 106 = .ok (.bipush 100, 2) := by decide +kernel
theorem dX8_readsItem_108 : decode cX8_readsItem 108 = .ok (.if_icmp .ne 9, 3) := by decide +kernel
theorem dX8_readsItem_111 : decode cX8_readsItem 111 = .ok (.aload_n 0, 1) := by decide +kernel
theorem dX8_readsItem_112 : decode cX8_readsItem 112 = .ok (.iload_n 2, 1) := by decide +kernel
theorem dX8_readsItem_113 : decode cX8_readsItem 113 = .ok (.invokevirtual 102, 3) := by decide +kernel
theorem dX8_readsItem_116 : decode cX8_readsItem 116 = .ok (.ireturn, 1) := by decide +kernel
theorem dX8_readsItem_117 : decode cX8_readsItem 117 = .ok (.iload_n 1, 1) := by decide +kernel
theorem dX8_readsItem_118 : decode cX8_readsItem 118 = .ok (.bipush 99, 2) := by decide +kernel
theorem dX8_readsItem_120 : decode cX8_readsItem 120 = .ok (.if_icmp .ne 9, 3) := by decide +kernel
theorem dX8_readsItem_123 : decode cX8_readsItem 123 = .ok (.aload_n 0, 1) := by decide +kernel
theorem dX8_readsItem_124 : decode cX8_readsItem 124 = .ok (.iload_n 2, 1) := by decide +kernel
theorem dX8_readsItem_125 : decode cX8_readsItem 125 = .ok (.invokevirtual 105, 3) := by decide +kernel
theorem dX8_readsItem_128 : decode cX8_readsItem 128 = .ok (.ireturn, 1) := by decide +kernel
theorem dX8_readsItem_129 : decode cX8_readsItem 129 = .ok (.iload_n 1, 1) := by decide +kernel
theorem dX8_readsItem_130 : decode cX8_readsItem 130 = .ok (.bipush 116, 2) := by decide +kernel
theorem dX8_readsItem_132 : decode cX8_readsItem 132 = .ok (.if_icmp .ne 34, 3) := by decide +kernel
theorem dX8_readsItem_135 : decode cX8_readsItem 135 = .ok (.aload_n 0, 1) := by decide +kernel
theorem dX8_readsItem_136 : decode cX8_readsItem 136 = .ok (.iload_n 2, 1) := by decide +kernel
theorem dX8_readsItem_137 : decode cX8_readsItem 137 = .ok (.iconst 1, 1) := by decide +kernel
theorem dX8_readsItem_138 : decode cX8_readsItem 138 = .ok (.bipush 24, 2) := by decide +kernel
theorem dX8_readsItem_140 : decode cX8_readsItem 140 = .ok (.invokevirtual 99, 3) := by decide +kernel
theorem dX8_readsItem_143 : decode cX8_readsItem 143 = .ok (.istore_n 3, 1) := by decide +kernel
theorem dX8_readsItem_144 : decode cX8_readsItem 144 = .ok (.aload_n 0, 1) := by decide +kernel
theorem dX8_readsItem_145 : decode cX8_readsItem 145 = .ok (.getfield 25, 3) := by decide +kernel
theorem dX8_readsItem_148 : decode cX8_readsItem 148 = .ok (.sipush 134, 3) := by decide +kernel
theorem dX8_readsItem_151 : decode cX8_readsItem 151 = .ok (.iload_n 3, 1) := by decide +kernel
theorem dX8_readsItem_152 : decode cX8_readsItem 152 = .ok (.iastore, 1) := by decide +kernel
theorem dX8_readsItem_153 : decode cX8_readsItem 153 = .ok (.iload_n 3, 1) := by decide +kernel
theorem dX8_readsItem_154 : decode cX8_readsItem 154 = .ok (.ifCond .ge 7, 3) := by decide +kernel
theorem dX8_readsItem_157 : decode cX8_readsItem 157 = .ok (.iconst (-1), 1) := by decide +kernel
theorem dX8_readsItem_158 : decode cX8_readsItem 158 = .ok (.goto 7, 3) := by decide +kernel
theorem dX8_readsItem_161 : decode cX8_readsItem 161 = .ok (.aload_n 0, 1) := by decide +kernel
theorem dX8_readsItem_162 : decode cX8_readsItem 162 = .ok (.getfield 96, 3) := by decide +kernel
theorem dX8_readsItem_165 : decode cX8_readsItem 165 = .ok (.ireturn, 1) := by decide +kernel
theorem dX8_readsItem_166 : decode cX8_readsItem 166 = .ok (.iconst (-1), 1) := by decide +kernel
theorem dX8_readsItem_167 : decode cX8_readsItem 167 = .ok (.ireturn, 1) := by decide +kernel
set_option maxHeartbeats 4000000 in
set_option maxRecDepth 20000 in
theorem c_X8_readsItem : ConI mX8_readsItem (fun args N lay r h Q => ∃ (b : Nat) (n : Int) (tx : Int → Int) (ch i : Int) (tl : Int → Int), args = [.ref b, vI ch, vI i] ∧ MdAt lay r b ∧ h b 0 = n ∧ h (b + 1) = tx ∧ (0 ≤ n ∧ n ≤ 200) ∧ h (b + 6) = tl ∧ (0 ≤ tl 128 ∧ tl 128 ≤ 3) ∧ (0 ≤ tl 129 ∧ tl 129 ≤ 6) ∧ (0 ≤ tl 130 ∧ tl 130 ≤ 12) ∧ (-2147483648 ≤ ch ∧ ch < 2147483648) ∧ (0 ≤ i ∧ i < 800) ∧ ∀ h2, Fr h h2 (fun x => x = b ∨ x = b + 6) → h2 b = up (h b) 24 (h2 b 24) → h2 (b + 6) = (rdI n tx ch i tl).2 → Q (rdI n tx ch i tl).1 N lay r h2) := by
  refine ConI.of (by decide) (by rintro _ N lay r h Q ⟨b, n, tx, ch, i, tl, rfl, hM, hn, htx, hn2, htl, htl8, htl9, htl0, hch, hi_, hQ⟩; exact ⟨rfl, Nat.le_of_ble_eq_true rfl⟩) ?_
  rintro E _ N lay r h Q ⟨b, n, tx, ch, i, tl, rfl, hM, hn, htx, hn2, htl, htl8, htl9, htl0, hch, hi_, hQ⟩ hret
  obtain ⟨ml0, ml1, ml2, ml3, ml4, ml5, ml6, ml7, ml8, ml9, ml10, ml11, ml12, ml13, ml14, ml15, ml16, ml17, ml18, ml19, ml20, mr1, mr2, mr3, mr4, mr5, mr6, mr7, mr8, mr9, mr10, mr11, mr12, mr13, mr14, mr15, mr16, mr17, mr18, mr19, mr20⟩ := id hM
  show St E mX8_readsItem 0 [some (.ref b), some (vI ch), some (vI i), none] [] (0, 0) N lay r h
  refine r_iload_1 (pc := 0) dX8_readsItem_0 ?_
  refine r_bipush (pc := 1) dX8_readsItem_1 (by decide) ?_
  refine r_icmp_ne (pc := 3) (tgt := 36) dX8_readsItem_3 (by decide) (by omega) (by omega) (fun c_3 => ?_) (fun c_3 => ?_)
  · refine r_iload_1 (pc := 36) dX8_readsItem_36 ?_
    refine r_bipush (pc := 37) dX8_readsItem_37 (by decide) ?_
    refine r_icmp_ne (pc := 39) (tgt := 105) dX8_readsItem_39 (by decide) (by omega) (by omega) (fun c_39 => ?_) (fun c_39 => ?_)
    · refine r_iload_1 (pc := 105) dX8_readsItem_105 ?_
      refine r_bipush (pc := 106) dX8_readsItem_106 (by decide) ?_
      refine r_icmp_ne (pc := 108) (tgt := 117) dX8_readsItem_108 (by decide) (by omega) (by omega) (fun c_108 => ?_) (fun c_108 => ?_)
      · refine r_iload_1 (pc := 117) dX8_readsItem_117 ?_
        refine r_bipush (pc := 118) dX8_readsItem_118 (by decide) ?_
        refine r_icmp_ne (pc := 120) (tgt := 129) dX8_readsItem_120 (by decide) (by omega) (by omega) (fun c_120 => ?_) (fun c_120 => ?_)
        · refine r_iload_1 (pc := 129) dX8_readsItem_129 ?_
          refine r_bipush (pc := 130) dX8_readsItem_130 (by decide) ?_
          refine r_icmp_ne (pc := 132) (tgt := 166) dX8_readsItem_132 (by decide) (by omega) (by omega) (fun c_132 => ?_) (fun c_132 => ?_)
          · refine r_iconst (pc := 166) dX8_readsItem_166 ?_
            refine r_iret (pc := 167) hret dX8_readsItem_167 rfl rfl rfl ?_
            first
            | (have k9 : ch = 104 ∧ 3 < tl 128 + 1 := ⟨c_3, by omega⟩
               have e9 : rdI n tx ch i tl = (-1, (up tl 128 (tl 128 + 1))) := (rdI_h k9.1).trans (by rw [if_pos k9.2])
               have z := hQ (hr h (b + 6) (up tl 128 (tl 128 + 1))) (fun x hx => hr_n (by omega)) (by rw [hr_n (by omega)]; exact up_id.symm) (by rw [e9]; exact hr_s)
               rw [e9] at z
               exact z)
            | (have k9 : ch = 104 ∧ ¬ 3 < tl 128 + 1 := ⟨c_3, by omega⟩
               have e9 : rdI n tx ch i tl = (i, (up tl 128 (tl 128 + 1))) := (rdI_h k9.1).trans (by rw [if_neg k9.2])
               have z := hQ (hr h (b + 6) (up tl 128 (tl 128 + 1))) (fun x hx => hr_n (by omega)) (by rw [hr_n (by omega)]; exact up_id.symm) (by rw [e9]; exact hr_s)
               rw [e9] at z
               exact z)
            | (have k9 : ch = 114 ∧ tl 128 = 0 := ⟨c_39, c_50⟩
               have e9 : rdI n tx ch i tl = (-1, tl) := (rdI_r k9.1).trans (if_pos (Or.inl k9.2))
               have z := hQ h (fun x hx => rfl) (up_id.symm) (by rw [e9]; exact htl)
               rw [e9] at z
               exact z)
            | (have k9 : ch = 114 ∧ tl 129 = 6 := ⟨c_39, c_63⟩
               have e9 : rdI n tx ch i tl = (-1, tl) := (rdI_r k9.1).trans (if_pos (Or.inr k9.2))
               have z := hQ h (fun x hx => rfl) (up_id.symm) (by rw [e9]; exact htl)
               rw [e9] at z
               exact z)
            | (have k9 : ch = 114 ∧ ¬ (tl 128 = 0 ∨ tl 129 = 6) := ⟨c_39, by omega⟩
               have e9 : rdI n tx ch i tl = (i, (up (up tl (4 + tl 129) (tl 128)) 129 (tl 129 + 1))) := (rdI_r k9.1).trans (if_neg k9.2)
               have z := hQ (hr h (b + 6) (up (up tl (4 + tl 129) (tl 128)) 129 (tl 129 + 1))) (fun x hx => hr_n (by omega)) (by rw [hr_n (by omega)]; exact up_id.symm) (by rw [e9]; exact hr_s)
               rw [e9] at z
               exact z)
            | (have k9 : ch = 100 := c_108
               have e9 : rdI n tx ch i tl = rdD n tx i tl := rdI_d k9
               have z := hQ h_113 (fun x hx => f_113 x hx) (o_113) (by rw [e9]; exact t_113)
               rw [e9] at z
               exact z)
            | (have k9 : ch = 99 := c_120
               have e9 : rdI n tx ch i tl = rdR n tx i tl := rdI_c k9
               have z := hQ h_125 (fun x hx => f_125 x hx) (o_125) (by rw [e9]; exact t_125)
               rw [e9] at z
               exact z)
            | (have k9 : ch = 116 ∧ nm n tx i 1 24 < 0 := ⟨c_132, c_154⟩
               have e9 : rdI n tx ch i tl = (-1, (up tl 134 (nm n tx i 1 24))) := (rdI_t k9.1).trans (by rw [if_pos k9.2])
               have z := hQ (hr h_140 (b + 6) (up tl 134 (nm n tx i 1 24))) (fun x hx => (hr_n (by omega)).trans (f_140 x (by omega))) (by rw [hr_n (by omega)]; exact o_140) (by rw [e9]; exact hr_s)
               rw [e9] at z
               exact z)
            | (have k9 : ch = 116 ∧ ¬ nm n tx i 1 24 < 0 := ⟨c_132, by omega⟩
               have e9 : rdI n tx ch i tl = (nmE n tx i, (up tl 134 (nm n tx i 1 24))) := (rdI_t k9.1).trans (by rw [if_neg k9.2])
               have z := hQ (hr h_140 (b + 6) (up tl 134 (nm n tx i 1 24))) (fun x hx => (hr_n (by omega)).trans (f_140 x (by omega))) (by rw [hr_n (by omega)]; exact o_140) (by rw [e9]; exact hr_s)
               rw [e9] at z
               exact z)
            | (have k9 : ch ≠ 104 ∧ ch ≠ 114 ∧ ch ≠ 100 ∧ ch ≠ 99 ∧ ch ≠ 116 := ⟨c_3, c_39, c_108, c_120, c_132⟩
               have e9 : rdI n tx ch i tl = (-1, tl) := rdI_o k9
               have z := hQ h (fun x hx => rfl) (up_id.symm) (by rw [e9]; exact htl)
               rw [e9] at z
               exact z)
            
          · refine r_aload_0 (pc := 135) dX8_readsItem_135 ?_
            refine r_iload_2 (pc := 136) dX8_readsItem_136 ?_
            refine r_iconst (pc := 137) dX8_readsItem_137 ?_
            refine r_bipush (pc := 138) dX8_readsItem_138 (by decide) ?_
            refine k_VI3 (pc := 140) c_X8_number lk_X8_99 ⟨Nat.le_of_ble_eq_true rfl, Nat.le_of_ble_eq_true rfl⟩ ⟨rfl, rfl⟩ ⟨Nat.le_of_ble_eq_true rfl, Nat.le_of_ble_eq_true rfl⟩ (k := 8) rfl (by decide) (by assumption) dX8_readsItem_140 (Nat.le_of_ble_eq_true rfl) ?_
            refine ⟨_, _, _, _, _, _, rfl, by assumption, by first | assumption | exact rfl, by first | assumption | exact rfl, by omega, by omega, by omega, by omega, fun h_140 f_140 o_140 e_140 => ?_⟩
            have l_140 : h_140 b 0 = n := by rw [o_140, up_n (by omega)]; assumption
            have x_140 : h_140 (b + 1) = tx := (f_140 _ (by omega)).trans (by assumption)
            have t_140 : h_140 (b + 6) = tl := (f_140 _ (by omega)).trans htl
            have nr := nmb_r (n := n) (tx := tx) (i := i) (lo := 1) (hi := 24) (by omega)
            have er := nmE_r (n := n) (tx := tx) (i := i)
            refine r_istore_3 (pc := 143) dX8_readsItem_143 rfl ?_
            refine r_aload_0 (pc := 144) dX8_readsItem_144 ?_
            refine gf_X8_25 (pc := 145) rfl (by assumption) dX8_readsItem_145 (by assumption) ?_
            refine r_sipush (pc := 148) dX8_readsItem_148 (by decide) ?_
            refine r_iload_3 (pc := 151) dX8_readsItem_151 ?_
            refine r_iastE (pc := 152) (by assumption) (by first | assumption | exact rfl) dX8_readsItem_152 (by omega) (by omega) (by omega) ?_
            refine r_iload_3 (pc := 153) dX8_readsItem_153 ?_
            refine r_if_ge (pc := 154) (tgt := 161) dX8_readsItem_154 (by decide) (by omega) (fun c_154 => ?_) (fun c_154 => ?_)
            · refine r_aload_0 (pc := 161) dX8_readsItem_161 ?_
              refine gf_X8_96 (pc := 162) rfl (by assumption) dX8_readsItem_162 (fun i_162 => ?_)
              try rw [hr_n (show b ≠ b + 6 by omega), e_140 c_154]
              refine r_iret (pc := 165) hret dX8_readsItem_165 rfl rfl rfl ?_
              first
              | (have k9 : ch = 104 ∧ 3 < tl 128 + 1 := ⟨c_3, by omega⟩
                 have e9 : rdI n tx ch i tl = (-1, (up tl 128 (tl 128 + 1))) := (rdI_h k9.1).trans (by rw [if_pos k9.2])
                 have z := hQ (hr h (b + 6) (up tl 128 (tl 128 + 1))) (fun x hx => hr_n (by omega)) (by rw [hr_n (by omega)]; exact up_id.symm) (by rw [e9]; exact hr_s)
                 rw [e9] at z
                 exact z)
              | (have k9 : ch = 104 ∧ ¬ 3 < tl 128 + 1 := ⟨c_3, by omega⟩
                 have e9 : rdI n tx ch i tl = (i, (up tl 128 (tl 128 + 1))) := (rdI_h k9.1).trans (by rw [if_neg k9.2])
                 have z := hQ (hr h (b + 6) (up tl 128 (tl 128 + 1))) (fun x hx => hr_n (by omega)) (by rw [hr_n (by omega)]; exact up_id.symm) (by rw [e9]; exact hr_s)
                 rw [e9] at z
                 exact z)
              | (have k9 : ch = 114 ∧ tl 128 = 0 := ⟨c_39, c_50⟩
                 have e9 : rdI n tx ch i tl = (-1, tl) := (rdI_r k9.1).trans (if_pos (Or.inl k9.2))
                 have z := hQ h (fun x hx => rfl) (up_id.symm) (by rw [e9]; exact htl)
                 rw [e9] at z
                 exact z)
              | (have k9 : ch = 114 ∧ tl 129 = 6 := ⟨c_39, c_63⟩
                 have e9 : rdI n tx ch i tl = (-1, tl) := (rdI_r k9.1).trans (if_pos (Or.inr k9.2))
                 have z := hQ h (fun x hx => rfl) (up_id.symm) (by rw [e9]; exact htl)
                 rw [e9] at z
                 exact z)
              | (have k9 : ch = 114 ∧ ¬ (tl 128 = 0 ∨ tl 129 = 6) := ⟨c_39, by omega⟩
                 have e9 : rdI n tx ch i tl = (i, (up (up tl (4 + tl 129) (tl 128)) 129 (tl 129 + 1))) := (rdI_r k9.1).trans (if_neg k9.2)
                 have z := hQ (hr h (b + 6) (up (up tl (4 + tl 129) (tl 128)) 129 (tl 129 + 1))) (fun x hx => hr_n (by omega)) (by rw [hr_n (by omega)]; exact up_id.symm) (by rw [e9]; exact hr_s)
                 rw [e9] at z
                 exact z)
              | (have k9 : ch = 100 := c_108
                 have e9 : rdI n tx ch i tl = rdD n tx i tl := rdI_d k9
                 have z := hQ h_113 (fun x hx => f_113 x hx) (o_113) (by rw [e9]; exact t_113)
                 rw [e9] at z
                 exact z)
              | (have k9 : ch = 99 := c_120
                 have e9 : rdI n tx ch i tl = rdR n tx i tl := rdI_c k9
                 have z := hQ h_125 (fun x hx => f_125 x hx) (o_125) (by rw [e9]; exact t_125)
                 rw [e9] at z
                 exact z)
              | (have k9 : ch = 116 ∧ nm n tx i 1 24 < 0 := ⟨c_132, c_154⟩
                 have e9 : rdI n tx ch i tl = (-1, (up tl 134 (nm n tx i 1 24))) := (rdI_t k9.1).trans (by rw [if_pos k9.2])
                 have z := hQ (hr h_140 (b + 6) (up tl 134 (nm n tx i 1 24))) (fun x hx => (hr_n (by omega)).trans (f_140 x (by omega))) (by rw [hr_n (by omega)]; exact o_140) (by rw [e9]; exact hr_s)
                 rw [e9] at z
                 exact z)
              | (have k9 : ch = 116 ∧ ¬ nm n tx i 1 24 < 0 := ⟨c_132, by omega⟩
                 have e9 : rdI n tx ch i tl = (nmE n tx i, (up tl 134 (nm n tx i 1 24))) := (rdI_t k9.1).trans (by rw [if_neg k9.2])
                 have z := hQ (hr h_140 (b + 6) (up tl 134 (nm n tx i 1 24))) (fun x hx => (hr_n (by omega)).trans (f_140 x (by omega))) (by rw [hr_n (by omega)]; exact o_140) (by rw [e9]; exact hr_s)
                 rw [e9] at z
                 exact z)
              | (have k9 : ch ≠ 104 ∧ ch ≠ 114 ∧ ch ≠ 100 ∧ ch ≠ 99 ∧ ch ≠ 116 := ⟨c_3, c_39, c_108, c_120, c_132⟩
                 have e9 : rdI n tx ch i tl = (-1, tl) := rdI_o k9
                 have z := hQ h (fun x hx => rfl) (up_id.symm) (by rw [e9]; exact htl)
                 rw [e9] at z
                 exact z)
              
            · refine r_iconst (pc := 157) dX8_readsItem_157 ?_
              refine r_goto (pc := 158) (tgt := 165) dX8_readsItem_158 (by decide) ?_
              try rw [hr_n (show b ≠ b + 6 by omega), e_140 c_154]
              refine r_iret (pc := 165) hret dX8_readsItem_165 rfl rfl rfl ?_
              first
              | (have k9 : ch = 104 ∧ 3 < tl 128 + 1 := ⟨c_3, by omega⟩
                 have e9 : rdI n tx ch i tl = (-1, (up tl 128 (tl 128 + 1))) := (rdI_h k9.1).trans (by rw [if_pos k9.2])
                 have z := hQ (hr h (b + 6) (up tl 128 (tl 128 + 1))) (fun x hx => hr_n (by omega)) (by rw [hr_n (by omega)]; exact up_id.symm) (by rw [e9]; exact hr_s)
                 rw [e9] at z
                 exact z)
              | (have k9 : ch = 104 ∧ ¬ 3 < tl 128 + 1 := ⟨c_3, by omega⟩
                 have e9 : rdI n tx ch i tl = (i, (up tl 128 (tl 128 + 1))) := (rdI_h k9.1).trans (by rw [if_neg k9.2])
                 have z := hQ (hr h (b + 6) (up tl 128 (tl 128 + 1))) (fun x hx => hr_n (by omega)) (by rw [hr_n (by omega)]; exact up_id.symm) (by rw [e9]; exact hr_s)
                 rw [e9] at z
                 exact z)
              | (have k9 : ch = 114 ∧ tl 128 = 0 := ⟨c_39, c_50⟩
                 have e9 : rdI n tx ch i tl = (-1, tl) := (rdI_r k9.1).trans (if_pos (Or.inl k9.2))
                 have z := hQ h (fun x hx => rfl) (up_id.symm) (by rw [e9]; exact htl)
                 rw [e9] at z
                 exact z)
              | (have k9 : ch = 114 ∧ tl 129 = 6 := ⟨c_39, c_63⟩
                 have e9 : rdI n tx ch i tl = (-1, tl) := (rdI_r k9.1).trans (if_pos (Or.inr k9.2))
                 have z := hQ h (fun x hx => rfl) (up_id.symm) (by rw [e9]; exact htl)
                 rw [e9] at z
                 exact z)
              | (have k9 : ch = 114 ∧ ¬ (tl 128 = 0 ∨ tl 129 = 6) := ⟨c_39, by omega⟩
                 have e9 : rdI n tx ch i tl = (i, (up (up tl (4 + tl 129) (tl 128)) 129 (tl 129 + 1))) := (rdI_r k9.1).trans (if_neg k9.2)
                 have z := hQ (hr h (b + 6) (up (up tl (4 + tl 129) (tl 128)) 129 (tl 129 + 1))) (fun x hx => hr_n (by omega)) (by rw [hr_n (by omega)]; exact up_id.symm) (by rw [e9]; exact hr_s)
                 rw [e9] at z
                 exact z)
              | (have k9 : ch = 100 := c_108
                 have e9 : rdI n tx ch i tl = rdD n tx i tl := rdI_d k9
                 have z := hQ h_113 (fun x hx => f_113 x hx) (o_113) (by rw [e9]; exact t_113)
                 rw [e9] at z
                 exact z)
              | (have k9 : ch = 99 := c_120
                 have e9 : rdI n tx ch i tl = rdR n tx i tl := rdI_c k9
                 have z := hQ h_125 (fun x hx => f_125 x hx) (o_125) (by rw [e9]; exact t_125)
                 rw [e9] at z
                 exact z)
              | (have k9 : ch = 116 ∧ nm n tx i 1 24 < 0 := ⟨c_132, c_154⟩
                 have e9 : rdI n tx ch i tl = (-1, (up tl 134 (nm n tx i 1 24))) := (rdI_t k9.1).trans (by rw [if_pos k9.2])
                 have z := hQ (hr h_140 (b + 6) (up tl 134 (nm n tx i 1 24))) (fun x hx => (hr_n (by omega)).trans (f_140 x (by omega))) (by rw [hr_n (by omega)]; exact o_140) (by rw [e9]; exact hr_s)
                 rw [e9] at z
                 exact z)
              | (have k9 : ch = 116 ∧ ¬ nm n tx i 1 24 < 0 := ⟨c_132, by omega⟩
                 have e9 : rdI n tx ch i tl = (nmE n tx i, (up tl 134 (nm n tx i 1 24))) := (rdI_t k9.1).trans (by rw [if_neg k9.2])
                 have z := hQ (hr h_140 (b + 6) (up tl 134 (nm n tx i 1 24))) (fun x hx => (hr_n (by omega)).trans (f_140 x (by omega))) (by rw [hr_n (by omega)]; exact o_140) (by rw [e9]; exact hr_s)
                 rw [e9] at z
                 exact z)
              | (have k9 : ch ≠ 104 ∧ ch ≠ 114 ∧ ch ≠ 100 ∧ ch ≠ 99 ∧ ch ≠ 116 := ⟨c_3, c_39, c_108, c_120, c_132⟩
                 have e9 : rdI n tx ch i tl = (-1, tl) := rdI_o k9
                 have z := hQ h (fun x hx => rfl) (up_id.symm) (by rw [e9]; exact htl)
                 rw [e9] at z
                 exact z)
              
        · refine r_aload_0 (pc := 123) dX8_readsItem_123 ?_
          refine r_iload_2 (pc := 124) dX8_readsItem_124 ?_
          refine k_VI1 (pc := 125) c_X8_readsRule lk_X8_105 ⟨Nat.le_of_ble_eq_true rfl, Nat.le_of_ble_eq_true rfl⟩ ⟨rfl, rfl⟩ ⟨Nat.le_of_ble_eq_true rfl, Nat.le_of_ble_eq_true rfl⟩ (k := 8) rfl (by decide) (by assumption) dX8_readsItem_125 (Nat.le_of_ble_eq_true rfl) ?_
          refine ⟨_, _, _, _, _, rfl, by assumption, by first | assumption | exact rfl, by first | assumption | exact rfl, by omega, by first | assumption | exact rfl, by omega, by omega, by omega, by omega, fun h_125 f_125 o_125 t_125 => ?_⟩
          refine r_iret (pc := 128) hret dX8_readsItem_128 rfl rfl rfl ?_
          first
          | (have k9 : ch = 104 ∧ 3 < tl 128 + 1 := ⟨c_3, by omega⟩
             have e9 : rdI n tx ch i tl = (-1, (up tl 128 (tl 128 + 1))) := (rdI_h k9.1).trans (by rw [if_pos k9.2])
             have z := hQ (hr h (b + 6) (up tl 128 (tl 128 + 1))) (fun x hx => hr_n (by omega)) (by rw [hr_n (by omega)]; exact up_id.symm) (by rw [e9]; exact hr_s)
             rw [e9] at z
             exact z)
          | (have k9 : ch = 104 ∧ ¬ 3 < tl 128 + 1 := ⟨c_3, by omega⟩
             have e9 : rdI n tx ch i tl = (i, (up tl 128 (tl 128 + 1))) := (rdI_h k9.1).trans (by rw [if_neg k9.2])
             have z := hQ (hr h (b + 6) (up tl 128 (tl 128 + 1))) (fun x hx => hr_n (by omega)) (by rw [hr_n (by omega)]; exact up_id.symm) (by rw [e9]; exact hr_s)
             rw [e9] at z
             exact z)
          | (have k9 : ch = 114 ∧ tl 128 = 0 := ⟨c_39, c_50⟩
             have e9 : rdI n tx ch i tl = (-1, tl) := (rdI_r k9.1).trans (if_pos (Or.inl k9.2))
             have z := hQ h (fun x hx => rfl) (up_id.symm) (by rw [e9]; exact htl)
             rw [e9] at z
             exact z)
          | (have k9 : ch = 114 ∧ tl 129 = 6 := ⟨c_39, c_63⟩
             have e9 : rdI n tx ch i tl = (-1, tl) := (rdI_r k9.1).trans (if_pos (Or.inr k9.2))
             have z := hQ h (fun x hx => rfl) (up_id.symm) (by rw [e9]; exact htl)
             rw [e9] at z
             exact z)
          | (have k9 : ch = 114 ∧ ¬ (tl 128 = 0 ∨ tl 129 = 6) := ⟨c_39, by omega⟩
             have e9 : rdI n tx ch i tl = (i, (up (up tl (4 + tl 129) (tl 128)) 129 (tl 129 + 1))) := (rdI_r k9.1).trans (if_neg k9.2)
             have z := hQ (hr h (b + 6) (up (up tl (4 + tl 129) (tl 128)) 129 (tl 129 + 1))) (fun x hx => hr_n (by omega)) (by rw [hr_n (by omega)]; exact up_id.symm) (by rw [e9]; exact hr_s)
             rw [e9] at z
             exact z)
          | (have k9 : ch = 100 := c_108
             have e9 : rdI n tx ch i tl = rdD n tx i tl := rdI_d k9
             have z := hQ h_113 (fun x hx => f_113 x hx) (o_113) (by rw [e9]; exact t_113)
             rw [e9] at z
             exact z)
          | (have k9 : ch = 99 := c_120
             have e9 : rdI n tx ch i tl = rdR n tx i tl := rdI_c k9
             have z := hQ h_125 (fun x hx => f_125 x hx) (o_125) (by rw [e9]; exact t_125)
             rw [e9] at z
             exact z)
          | (have k9 : ch = 116 ∧ nm n tx i 1 24 < 0 := ⟨c_132, c_154⟩
             have e9 : rdI n tx ch i tl = (-1, (up tl 134 (nm n tx i 1 24))) := (rdI_t k9.1).trans (by rw [if_pos k9.2])
             have z := hQ (hr h_140 (b + 6) (up tl 134 (nm n tx i 1 24))) (fun x hx => (hr_n (by omega)).trans (f_140 x (by omega))) (by rw [hr_n (by omega)]; exact o_140) (by rw [e9]; exact hr_s)
             rw [e9] at z
             exact z)
          | (have k9 : ch = 116 ∧ ¬ nm n tx i 1 24 < 0 := ⟨c_132, by omega⟩
             have e9 : rdI n tx ch i tl = (nmE n tx i, (up tl 134 (nm n tx i 1 24))) := (rdI_t k9.1).trans (by rw [if_neg k9.2])
             have z := hQ (hr h_140 (b + 6) (up tl 134 (nm n tx i 1 24))) (fun x hx => (hr_n (by omega)).trans (f_140 x (by omega))) (by rw [hr_n (by omega)]; exact o_140) (by rw [e9]; exact hr_s)
             rw [e9] at z
             exact z)
          | (have k9 : ch ≠ 104 ∧ ch ≠ 114 ∧ ch ≠ 100 ∧ ch ≠ 99 ∧ ch ≠ 116 := ⟨c_3, c_39, c_108, c_120, c_132⟩
             have e9 : rdI n tx ch i tl = (-1, tl) := rdI_o k9
             have z := hQ h (fun x hx => rfl) (up_id.symm) (by rw [e9]; exact htl)
             rw [e9] at z
             exact z)
          
      · refine r_aload_0 (pc := 111) dX8_readsItem_111 ?_
        refine r_iload_2 (pc := 112) dX8_readsItem_112 ?_
        refine k_VI1 (pc := 113) c_X8_readsDisk lk_X8_102 ⟨Nat.le_of_ble_eq_true rfl, Nat.le_of_ble_eq_true rfl⟩ ⟨rfl, rfl⟩ ⟨Nat.le_of_ble_eq_true rfl, Nat.le_of_ble_eq_true rfl⟩ (k := 8) rfl (by decide) (by assumption) dX8_readsItem_113 (Nat.le_of_ble_eq_true rfl) ?_
        refine ⟨_, _, _, _, _, rfl, by assumption, by first | assumption | exact rfl, by first | assumption | exact rfl, by omega, by first | assumption | exact rfl, by omega, by omega, by omega, by omega, fun h_113 f_113 o_113 t_113 => ?_⟩
        refine r_iret (pc := 116) hret dX8_readsItem_116 rfl rfl rfl ?_
        first
        | (have k9 : ch = 104 ∧ 3 < tl 128 + 1 := ⟨c_3, by omega⟩
           have e9 : rdI n tx ch i tl = (-1, (up tl 128 (tl 128 + 1))) := (rdI_h k9.1).trans (by rw [if_pos k9.2])
           have z := hQ (hr h (b + 6) (up tl 128 (tl 128 + 1))) (fun x hx => hr_n (by omega)) (by rw [hr_n (by omega)]; exact up_id.symm) (by rw [e9]; exact hr_s)
           rw [e9] at z
           exact z)
        | (have k9 : ch = 104 ∧ ¬ 3 < tl 128 + 1 := ⟨c_3, by omega⟩
           have e9 : rdI n tx ch i tl = (i, (up tl 128 (tl 128 + 1))) := (rdI_h k9.1).trans (by rw [if_neg k9.2])
           have z := hQ (hr h (b + 6) (up tl 128 (tl 128 + 1))) (fun x hx => hr_n (by omega)) (by rw [hr_n (by omega)]; exact up_id.symm) (by rw [e9]; exact hr_s)
           rw [e9] at z
           exact z)
        | (have k9 : ch = 114 ∧ tl 128 = 0 := ⟨c_39, c_50⟩
           have e9 : rdI n tx ch i tl = (-1, tl) := (rdI_r k9.1).trans (if_pos (Or.inl k9.2))
           have z := hQ h (fun x hx => rfl) (up_id.symm) (by rw [e9]; exact htl)
           rw [e9] at z
           exact z)
        | (have k9 : ch = 114 ∧ tl 129 = 6 := ⟨c_39, c_63⟩
           have e9 : rdI n tx ch i tl = (-1, tl) := (rdI_r k9.1).trans (if_pos (Or.inr k9.2))
           have z := hQ h (fun x hx => rfl) (up_id.symm) (by rw [e9]; exact htl)
           rw [e9] at z
           exact z)
        | (have k9 : ch = 114 ∧ ¬ (tl 128 = 0 ∨ tl 129 = 6) := ⟨c_39, by omega⟩
           have e9 : rdI n tx ch i tl = (i, (up (up tl (4 + tl 129) (tl 128)) 129 (tl 129 + 1))) := (rdI_r k9.1).trans (if_neg k9.2)
           have z := hQ (hr h (b + 6) (up (up tl (4 + tl 129) (tl 128)) 129 (tl 129 + 1))) (fun x hx => hr_n (by omega)) (by rw [hr_n (by omega)]; exact up_id.symm) (by rw [e9]; exact hr_s)
           rw [e9] at z
           exact z)
        | (have k9 : ch = 100 := c_108
           have e9 : rdI n tx ch i tl = rdD n tx i tl := rdI_d k9
           have z := hQ h_113 (fun x hx => f_113 x hx) (o_113) (by rw [e9]; exact t_113)
           rw [e9] at z
           exact z)
        | (have k9 : ch = 99 := c_120
           have e9 : rdI n tx ch i tl = rdR n tx i tl := rdI_c k9
           have z := hQ h_125 (fun x hx => f_125 x hx) (o_125) (by rw [e9]; exact t_125)
           rw [e9] at z
           exact z)
        | (have k9 : ch = 116 ∧ nm n tx i 1 24 < 0 := ⟨c_132, c_154⟩
           have e9 : rdI n tx ch i tl = (-1, (up tl 134 (nm n tx i 1 24))) := (rdI_t k9.1).trans (by rw [if_pos k9.2])
           have z := hQ (hr h_140 (b + 6) (up tl 134 (nm n tx i 1 24))) (fun x hx => (hr_n (by omega)).trans (f_140 x (by omega))) (by rw [hr_n (by omega)]; exact o_140) (by rw [e9]; exact hr_s)
           rw [e9] at z
           exact z)
        | (have k9 : ch = 116 ∧ ¬ nm n tx i 1 24 < 0 := ⟨c_132, by omega⟩
           have e9 : rdI n tx ch i tl = (nmE n tx i, (up tl 134 (nm n tx i 1 24))) := (rdI_t k9.1).trans (by rw [if_neg k9.2])
           have z := hQ (hr h_140 (b + 6) (up tl 134 (nm n tx i 1 24))) (fun x hx => (hr_n (by omega)).trans (f_140 x (by omega))) (by rw [hr_n (by omega)]; exact o_140) (by rw [e9]; exact hr_s)
           rw [e9] at z
           exact z)
        | (have k9 : ch ≠ 104 ∧ ch ≠ 114 ∧ ch ≠ 100 ∧ ch ≠ 99 ∧ ch ≠ 116 := ⟨c_3, c_39, c_108, c_120, c_132⟩
           have e9 : rdI n tx ch i tl = (-1, tl) := rdI_o k9
           have z := hQ h (fun x hx => rfl) (up_id.symm) (by rw [e9]; exact htl)
           rw [e9] at z
           exact z)
        
    · refine r_aload_0 (pc := 42) dX8_readsItem_42 ?_
      refine gf_X8_25 (pc := 43) rfl (by assumption) dX8_readsItem_43 (by assumption) ?_
      refine r_sipush (pc := 46) dX8_readsItem_46 (by decide) ?_
      refine r_ialdE (pc := 49) (by assumption) (by first | assumption | exact rfl) dX8_readsItem_49 (by omega) (by omega) (fun i_49 => ?_)
      refine r_if_eq (pc := 50) (tgt := 66) dX8_readsItem_50 (by decide) (by omega) (fun c_50 => ?_) (fun c_50 => ?_)
      · refine r_iconst (pc := 66) dX8_readsItem_66 ?_
        refine r_iret (pc := 67) hret dX8_readsItem_67 rfl rfl rfl ?_
        first
        | (have k9 : ch = 104 ∧ 3 < tl 128 + 1 := ⟨c_3, by omega⟩
           have e9 : rdI n tx ch i tl = (-1, (up tl 128 (tl 128 + 1))) := (rdI_h k9.1).trans (by rw [if_pos k9.2])
           have z := hQ (hr h (b + 6) (up tl 128 (tl 128 + 1))) (fun x hx => hr_n (by omega)) (by rw [hr_n (by omega)]; exact up_id.symm) (by rw [e9]; exact hr_s)
           rw [e9] at z
           exact z)
        | (have k9 : ch = 104 ∧ ¬ 3 < tl 128 + 1 := ⟨c_3, by omega⟩
           have e9 : rdI n tx ch i tl = (i, (up tl 128 (tl 128 + 1))) := (rdI_h k9.1).trans (by rw [if_neg k9.2])
           have z := hQ (hr h (b + 6) (up tl 128 (tl 128 + 1))) (fun x hx => hr_n (by omega)) (by rw [hr_n (by omega)]; exact up_id.symm) (by rw [e9]; exact hr_s)
           rw [e9] at z
           exact z)
        | (have k9 : ch = 114 ∧ tl 128 = 0 := ⟨c_39, c_50⟩
           have e9 : rdI n tx ch i tl = (-1, tl) := (rdI_r k9.1).trans (if_pos (Or.inl k9.2))
           have z := hQ h (fun x hx => rfl) (up_id.symm) (by rw [e9]; exact htl)
           rw [e9] at z
           exact z)
        | (have k9 : ch = 114 ∧ tl 129 = 6 := ⟨c_39, c_63⟩
           have e9 : rdI n tx ch i tl = (-1, tl) := (rdI_r k9.1).trans (if_pos (Or.inr k9.2))
           have z := hQ h (fun x hx => rfl) (up_id.symm) (by rw [e9]; exact htl)
           rw [e9] at z
           exact z)
        | (have k9 : ch = 114 ∧ ¬ (tl 128 = 0 ∨ tl 129 = 6) := ⟨c_39, by omega⟩
           have e9 : rdI n tx ch i tl = (i, (up (up tl (4 + tl 129) (tl 128)) 129 (tl 129 + 1))) := (rdI_r k9.1).trans (if_neg k9.2)
           have z := hQ (hr h (b + 6) (up (up tl (4 + tl 129) (tl 128)) 129 (tl 129 + 1))) (fun x hx => hr_n (by omega)) (by rw [hr_n (by omega)]; exact up_id.symm) (by rw [e9]; exact hr_s)
           rw [e9] at z
           exact z)
        | (have k9 : ch = 100 := c_108
           have e9 : rdI n tx ch i tl = rdD n tx i tl := rdI_d k9
           have z := hQ h_113 (fun x hx => f_113 x hx) (o_113) (by rw [e9]; exact t_113)
           rw [e9] at z
           exact z)
        | (have k9 : ch = 99 := c_120
           have e9 : rdI n tx ch i tl = rdR n tx i tl := rdI_c k9
           have z := hQ h_125 (fun x hx => f_125 x hx) (o_125) (by rw [e9]; exact t_125)
           rw [e9] at z
           exact z)
        | (have k9 : ch = 116 ∧ nm n tx i 1 24 < 0 := ⟨c_132, c_154⟩
           have e9 : rdI n tx ch i tl = (-1, (up tl 134 (nm n tx i 1 24))) := (rdI_t k9.1).trans (by rw [if_pos k9.2])
           have z := hQ (hr h_140 (b + 6) (up tl 134 (nm n tx i 1 24))) (fun x hx => (hr_n (by omega)).trans (f_140 x (by omega))) (by rw [hr_n (by omega)]; exact o_140) (by rw [e9]; exact hr_s)
           rw [e9] at z
           exact z)
        | (have k9 : ch = 116 ∧ ¬ nm n tx i 1 24 < 0 := ⟨c_132, by omega⟩
           have e9 : rdI n tx ch i tl = (nmE n tx i, (up tl 134 (nm n tx i 1 24))) := (rdI_t k9.1).trans (by rw [if_neg k9.2])
           have z := hQ (hr h_140 (b + 6) (up tl 134 (nm n tx i 1 24))) (fun x hx => (hr_n (by omega)).trans (f_140 x (by omega))) (by rw [hr_n (by omega)]; exact o_140) (by rw [e9]; exact hr_s)
           rw [e9] at z
           exact z)
        | (have k9 : ch ≠ 104 ∧ ch ≠ 114 ∧ ch ≠ 100 ∧ ch ≠ 99 ∧ ch ≠ 116 := ⟨c_3, c_39, c_108, c_120, c_132⟩
           have e9 : rdI n tx ch i tl = (-1, tl) := rdI_o k9
           have z := hQ h (fun x hx => rfl) (up_id.symm) (by rw [e9]; exact htl)
           rw [e9] at z
           exact z)
        
      · refine r_aload_0 (pc := 53) dX8_readsItem_53 ?_
        refine gf_X8_25 (pc := 54) rfl (by assumption) dX8_readsItem_54 (by assumption) ?_
        refine r_sipush (pc := 57) dX8_readsItem_57 (by decide) ?_
        refine r_ialdE (pc := 60) (by assumption) (by first | assumption | exact rfl) dX8_readsItem_60 (by omega) (by omega) (fun i_60 => ?_)
        refine r_bipush (pc := 61) dX8_readsItem_61 (by decide) ?_
        refine r_icmp_ne (pc := 63) (tgt := 68) dX8_readsItem_63 (by decide) (by omega) (by omega) (fun c_63 => ?_) (fun c_63 => ?_)
        · refine r_aload_0 (pc := 68) dX8_readsItem_68 ?_
          refine gf_X8_25 (pc := 69) rfl (by assumption) dX8_readsItem_69 (by assumption) ?_
          refine r_iconst (pc := 72) dX8_readsItem_72 ?_
          refine r_aload_0 (pc := 73) dX8_readsItem_73 ?_
          refine gf_X8_25 (pc := 74) rfl (by assumption) dX8_readsItem_74 (by assumption) ?_
          refine r_sipush (pc := 77) dX8_readsItem_77 (by decide) ?_
          refine r_ialdE (pc := 80) (by assumption) (by first | assumption | exact rfl) dX8_readsItem_80 (by omega) (by omega) (fun i_80 => ?_)
          refine r_iadd (pc := 81) dX8_readsItem_81 ?_
          refine r_aload_0 (pc := 82) dX8_readsItem_82 ?_
          refine gf_X8_25 (pc := 83) rfl (by assumption) dX8_readsItem_83 (by assumption) ?_
          refine r_sipush (pc := 86) dX8_readsItem_86 (by decide) ?_
          refine r_ialdE (pc := 89) (by assumption) (by first | assumption | exact rfl) dX8_readsItem_89 (by omega) (by omega) (fun i_89 => ?_)
          refine r_iastE (pc := 90) (by assumption) (by first | assumption | exact rfl) dX8_readsItem_90 (by omega) (by omega) (by omega) ?_
          refine r_aload_0 (pc := 91) dX8_readsItem_91 ?_
          refine gf_X8_25 (pc := 92) rfl (by assumption) dX8_readsItem_92 (by assumption) ?_
          refine r_sipush (pc := 95) dX8_readsItem_95 (by decide) ?_
          refine r_dup2 (pc := 98) dX8_readsItem_98 ?_
          refine r_ialdE (pc := 99) (by assumption) hr_s dX8_readsItem_99 (by omega) (by omega) (fun i_99 => ?_)
          rw [up_n (show (129 : Int) ≠ 4 + tl 129 by omega)]
          refine r_iconst (pc := 100) dX8_readsItem_100 ?_
          refine r_iadd (pc := 101) dX8_readsItem_101 ?_
          refine r_iastE (pc := 102) (by assumption) hr_s dX8_readsItem_102 (by omega) (by omega) (by omega) ?_
          rw [hr_hr]
          refine r_iload_2 (pc := 103) dX8_readsItem_103 ?_
          refine r_iret (pc := 104) hret dX8_readsItem_104 rfl rfl rfl ?_
          first
          | (have k9 : ch = 104 ∧ 3 < tl 128 + 1 := ⟨c_3, by omega⟩
             have e9 : rdI n tx ch i tl = (-1, (up tl 128 (tl 128 + 1))) := (rdI_h k9.1).trans (by rw [if_pos k9.2])
             have z := hQ (hr h (b + 6) (up tl 128 (tl 128 + 1))) (fun x hx => hr_n (by omega)) (by rw [hr_n (by omega)]; exact up_id.symm) (by rw [e9]; exact hr_s)
             rw [e9] at z
             exact z)
          | (have k9 : ch = 104 ∧ ¬ 3 < tl 128 + 1 := ⟨c_3, by omega⟩
             have e9 : rdI n tx ch i tl = (i, (up tl 128 (tl 128 + 1))) := (rdI_h k9.1).trans (by rw [if_neg k9.2])
             have z := hQ (hr h (b + 6) (up tl 128 (tl 128 + 1))) (fun x hx => hr_n (by omega)) (by rw [hr_n (by omega)]; exact up_id.symm) (by rw [e9]; exact hr_s)
             rw [e9] at z
             exact z)
          | (have k9 : ch = 114 ∧ tl 128 = 0 := ⟨c_39, c_50⟩
             have e9 : rdI n tx ch i tl = (-1, tl) := (rdI_r k9.1).trans (if_pos (Or.inl k9.2))
             have z := hQ h (fun x hx => rfl) (up_id.symm) (by rw [e9]; exact htl)
             rw [e9] at z
             exact z)
          | (have k9 : ch = 114 ∧ tl 129 = 6 := ⟨c_39, c_63⟩
             have e9 : rdI n tx ch i tl = (-1, tl) := (rdI_r k9.1).trans (if_pos (Or.inr k9.2))
             have z := hQ h (fun x hx => rfl) (up_id.symm) (by rw [e9]; exact htl)
             rw [e9] at z
             exact z)
          | (have k9 : ch = 114 ∧ ¬ (tl 128 = 0 ∨ tl 129 = 6) := ⟨c_39, by omega⟩
             have e9 : rdI n tx ch i tl = (i, (up (up tl (4 + tl 129) (tl 128)) 129 (tl 129 + 1))) := (rdI_r k9.1).trans (if_neg k9.2)
             have z := hQ (hr h (b + 6) (up (up tl (4 + tl 129) (tl 128)) 129 (tl 129 + 1))) (fun x hx => hr_n (by omega)) (by rw [hr_n (by omega)]; exact up_id.symm) (by rw [e9]; exact hr_s)
             rw [e9] at z
             exact z)
          | (have k9 : ch = 100 := c_108
             have e9 : rdI n tx ch i tl = rdD n tx i tl := rdI_d k9
             have z := hQ h_113 (fun x hx => f_113 x hx) (o_113) (by rw [e9]; exact t_113)
             rw [e9] at z
             exact z)
          | (have k9 : ch = 99 := c_120
             have e9 : rdI n tx ch i tl = rdR n tx i tl := rdI_c k9
             have z := hQ h_125 (fun x hx => f_125 x hx) (o_125) (by rw [e9]; exact t_125)
             rw [e9] at z
             exact z)
          | (have k9 : ch = 116 ∧ nm n tx i 1 24 < 0 := ⟨c_132, c_154⟩
             have e9 : rdI n tx ch i tl = (-1, (up tl 134 (nm n tx i 1 24))) := (rdI_t k9.1).trans (by rw [if_pos k9.2])
             have z := hQ (hr h_140 (b + 6) (up tl 134 (nm n tx i 1 24))) (fun x hx => (hr_n (by omega)).trans (f_140 x (by omega))) (by rw [hr_n (by omega)]; exact o_140) (by rw [e9]; exact hr_s)
             rw [e9] at z
             exact z)
          | (have k9 : ch = 116 ∧ ¬ nm n tx i 1 24 < 0 := ⟨c_132, by omega⟩
             have e9 : rdI n tx ch i tl = (nmE n tx i, (up tl 134 (nm n tx i 1 24))) := (rdI_t k9.1).trans (by rw [if_neg k9.2])
             have z := hQ (hr h_140 (b + 6) (up tl 134 (nm n tx i 1 24))) (fun x hx => (hr_n (by omega)).trans (f_140 x (by omega))) (by rw [hr_n (by omega)]; exact o_140) (by rw [e9]; exact hr_s)
             rw [e9] at z
             exact z)
          | (have k9 : ch ≠ 104 ∧ ch ≠ 114 ∧ ch ≠ 100 ∧ ch ≠ 99 ∧ ch ≠ 116 := ⟨c_3, c_39, c_108, c_120, c_132⟩
             have e9 : rdI n tx ch i tl = (-1, tl) := rdI_o k9
             have z := hQ h (fun x hx => rfl) (up_id.symm) (by rw [e9]; exact htl)
             rw [e9] at z
             exact z)
          
        · refine r_iconst (pc := 66) dX8_readsItem_66 ?_
          refine r_iret (pc := 67) hret dX8_readsItem_67 rfl rfl rfl ?_
          first
          | (have k9 : ch = 104 ∧ 3 < tl 128 + 1 := ⟨c_3, by omega⟩
             have e9 : rdI n tx ch i tl = (-1, (up tl 128 (tl 128 + 1))) := (rdI_h k9.1).trans (by rw [if_pos k9.2])
             have z := hQ (hr h (b + 6) (up tl 128 (tl 128 + 1))) (fun x hx => hr_n (by omega)) (by rw [hr_n (by omega)]; exact up_id.symm) (by rw [e9]; exact hr_s)
             rw [e9] at z
             exact z)
          | (have k9 : ch = 104 ∧ ¬ 3 < tl 128 + 1 := ⟨c_3, by omega⟩
             have e9 : rdI n tx ch i tl = (i, (up tl 128 (tl 128 + 1))) := (rdI_h k9.1).trans (by rw [if_neg k9.2])
             have z := hQ (hr h (b + 6) (up tl 128 (tl 128 + 1))) (fun x hx => hr_n (by omega)) (by rw [hr_n (by omega)]; exact up_id.symm) (by rw [e9]; exact hr_s)
             rw [e9] at z
             exact z)
          | (have k9 : ch = 114 ∧ tl 128 = 0 := ⟨c_39, c_50⟩
             have e9 : rdI n tx ch i tl = (-1, tl) := (rdI_r k9.1).trans (if_pos (Or.inl k9.2))
             have z := hQ h (fun x hx => rfl) (up_id.symm) (by rw [e9]; exact htl)
             rw [e9] at z
             exact z)
          | (have k9 : ch = 114 ∧ tl 129 = 6 := ⟨c_39, c_63⟩
             have e9 : rdI n tx ch i tl = (-1, tl) := (rdI_r k9.1).trans (if_pos (Or.inr k9.2))
             have z := hQ h (fun x hx => rfl) (up_id.symm) (by rw [e9]; exact htl)
             rw [e9] at z
             exact z)
          | (have k9 : ch = 114 ∧ ¬ (tl 128 = 0 ∨ tl 129 = 6) := ⟨c_39, by omega⟩
             have e9 : rdI n tx ch i tl = (i, (up (up tl (4 + tl 129) (tl 128)) 129 (tl 129 + 1))) := (rdI_r k9.1).trans (if_neg k9.2)
             have z := hQ (hr h (b + 6) (up (up tl (4 + tl 129) (tl 128)) 129 (tl 129 + 1))) (fun x hx => hr_n (by omega)) (by rw [hr_n (by omega)]; exact up_id.symm) (by rw [e9]; exact hr_s)
             rw [e9] at z
             exact z)
          | (have k9 : ch = 100 := c_108
             have e9 : rdI n tx ch i tl = rdD n tx i tl := rdI_d k9
             have z := hQ h_113 (fun x hx => f_113 x hx) (o_113) (by rw [e9]; exact t_113)
             rw [e9] at z
             exact z)
          | (have k9 : ch = 99 := c_120
             have e9 : rdI n tx ch i tl = rdR n tx i tl := rdI_c k9
             have z := hQ h_125 (fun x hx => f_125 x hx) (o_125) (by rw [e9]; exact t_125)
             rw [e9] at z
             exact z)
          | (have k9 : ch = 116 ∧ nm n tx i 1 24 < 0 := ⟨c_132, c_154⟩
             have e9 : rdI n tx ch i tl = (-1, (up tl 134 (nm n tx i 1 24))) := (rdI_t k9.1).trans (by rw [if_pos k9.2])
             have z := hQ (hr h_140 (b + 6) (up tl 134 (nm n tx i 1 24))) (fun x hx => (hr_n (by omega)).trans (f_140 x (by omega))) (by rw [hr_n (by omega)]; exact o_140) (by rw [e9]; exact hr_s)
             rw [e9] at z
             exact z)
          | (have k9 : ch = 116 ∧ ¬ nm n tx i 1 24 < 0 := ⟨c_132, by omega⟩
             have e9 : rdI n tx ch i tl = (nmE n tx i, (up tl 134 (nm n tx i 1 24))) := (rdI_t k9.1).trans (by rw [if_neg k9.2])
             have z := hQ (hr h_140 (b + 6) (up tl 134 (nm n tx i 1 24))) (fun x hx => (hr_n (by omega)).trans (f_140 x (by omega))) (by rw [hr_n (by omega)]; exact o_140) (by rw [e9]; exact hr_s)
             rw [e9] at z
             exact z)
          | (have k9 : ch ≠ 104 ∧ ch ≠ 114 ∧ ch ≠ 100 ∧ ch ≠ 99 ∧ ch ≠ 116 := ⟨c_3, c_39, c_108, c_120, c_132⟩
             have e9 : rdI n tx ch i tl = (-1, tl) := rdI_o k9
             have z := hQ h (fun x hx => rfl) (up_id.symm) (by rw [e9]; exact htl)
             rw [e9] at z
             exact z)
          
  · refine r_aload_0 (pc := 6) dX8_readsItem_6 ?_
    refine gf_X8_25 (pc := 7) rfl (by assumption) dX8_readsItem_7 (by assumption) ?_
    refine r_sipush (pc := 10) dX8_readsItem_10 (by decide) ?_
    refine r_dup2 (pc := 13) dX8_readsItem_13 ?_
    refine r_ialdE (pc := 14) (by assumption) (by first | assumption | exact rfl) dX8_readsItem_14 (by omega) (by omega) (fun i_14 => ?_)
    refine r_iconst (pc := 15) dX8_readsItem_15 ?_
    refine r_iadd (pc := 16) dX8_readsItem_16 ?_
    refine r_iastE (pc := 17) (by assumption) (by first | assumption | exact rfl) dX8_readsItem_17 (by omega) (by omega) (by omega) ?_
    refine r_aload_0 (pc := 18) dX8_readsItem_18 ?_
    refine gf_X8_25 (pc := 19) rfl (by assumption) dX8_readsItem_19 (by assumption) ?_
    refine r_sipush (pc := 22) dX8_readsItem_22 (by decide) ?_
    refine r_ialdE (pc := 25) (by assumption) hr_s dX8_readsItem_25 (by omega) (by omega) (fun i_25 => ?_)
    rw [up_s]
    refine r_iconst (pc := 26) dX8_readsItem_26 ?_
    refine r_icmp_le (pc := 27) (tgt := 34) dX8_readsItem_27 (by decide) (by omega) (by omega) (fun c_27 => ?_) (fun c_27 => ?_)
    · refine r_iload_2 (pc := 34) dX8_readsItem_34 ?_
      refine r_iret (pc := 35) hret dX8_readsItem_35 rfl rfl rfl ?_
      first
      | (have k9 : ch = 104 ∧ 3 < tl 128 + 1 := ⟨c_3, by omega⟩
         have e9 : rdI n tx ch i tl = (-1, (up tl 128 (tl 128 + 1))) := (rdI_h k9.1).trans (by rw [if_pos k9.2])
         have z := hQ (hr h (b + 6) (up tl 128 (tl 128 + 1))) (fun x hx => hr_n (by omega)) (by rw [hr_n (by omega)]; exact up_id.symm) (by rw [e9]; exact hr_s)
         rw [e9] at z
         exact z)
      | (have k9 : ch = 104 ∧ ¬ 3 < tl 128 + 1 := ⟨c_3, by omega⟩
         have e9 : rdI n tx ch i tl = (i, (up tl 128 (tl 128 + 1))) := (rdI_h k9.1).trans (by rw [if_neg k9.2])
         have z := hQ (hr h (b + 6) (up tl 128 (tl 128 + 1))) (fun x hx => hr_n (by omega)) (by rw [hr_n (by omega)]; exact up_id.symm) (by rw [e9]; exact hr_s)
         rw [e9] at z
         exact z)
      | (have k9 : ch = 114 ∧ tl 128 = 0 := ⟨c_39, c_50⟩
         have e9 : rdI n tx ch i tl = (-1, tl) := (rdI_r k9.1).trans (if_pos (Or.inl k9.2))
         have z := hQ h (fun x hx => rfl) (up_id.symm) (by rw [e9]; exact htl)
         rw [e9] at z
         exact z)
      | (have k9 : ch = 114 ∧ tl 129 = 6 := ⟨c_39, c_63⟩
         have e9 : rdI n tx ch i tl = (-1, tl) := (rdI_r k9.1).trans (if_pos (Or.inr k9.2))
         have z := hQ h (fun x hx => rfl) (up_id.symm) (by rw [e9]; exact htl)
         rw [e9] at z
         exact z)
      | (have k9 : ch = 114 ∧ ¬ (tl 128 = 0 ∨ tl 129 = 6) := ⟨c_39, by omega⟩
         have e9 : rdI n tx ch i tl = (i, (up (up tl (4 + tl 129) (tl 128)) 129 (tl 129 + 1))) := (rdI_r k9.1).trans (if_neg k9.2)
         have z := hQ (hr h (b + 6) (up (up tl (4 + tl 129) (tl 128)) 129 (tl 129 + 1))) (fun x hx => hr_n (by omega)) (by rw [hr_n (by omega)]; exact up_id.symm) (by rw [e9]; exact hr_s)
         rw [e9] at z
         exact z)
      | (have k9 : ch = 100 := c_108
         have e9 : rdI n tx ch i tl = rdD n tx i tl := rdI_d k9
         have z := hQ h_113 (fun x hx => f_113 x hx) (o_113) (by rw [e9]; exact t_113)
         rw [e9] at z
         exact z)
      | (have k9 : ch = 99 := c_120
         have e9 : rdI n tx ch i tl = rdR n tx i tl := rdI_c k9
         have z := hQ h_125 (fun x hx => f_125 x hx) (o_125) (by rw [e9]; exact t_125)
         rw [e9] at z
         exact z)
      | (have k9 : ch = 116 ∧ nm n tx i 1 24 < 0 := ⟨c_132, c_154⟩
         have e9 : rdI n tx ch i tl = (-1, (up tl 134 (nm n tx i 1 24))) := (rdI_t k9.1).trans (by rw [if_pos k9.2])
         have z := hQ (hr h_140 (b + 6) (up tl 134 (nm n tx i 1 24))) (fun x hx => (hr_n (by omega)).trans (f_140 x (by omega))) (by rw [hr_n (by omega)]; exact o_140) (by rw [e9]; exact hr_s)
         rw [e9] at z
         exact z)
      | (have k9 : ch = 116 ∧ ¬ nm n tx i 1 24 < 0 := ⟨c_132, by omega⟩
         have e9 : rdI n tx ch i tl = (nmE n tx i, (up tl 134 (nm n tx i 1 24))) := (rdI_t k9.1).trans (by rw [if_neg k9.2])
         have z := hQ (hr h_140 (b + 6) (up tl 134 (nm n tx i 1 24))) (fun x hx => (hr_n (by omega)).trans (f_140 x (by omega))) (by rw [hr_n (by omega)]; exact o_140) (by rw [e9]; exact hr_s)
         rw [e9] at z
         exact z)
      | (have k9 : ch ≠ 104 ∧ ch ≠ 114 ∧ ch ≠ 100 ∧ ch ≠ 99 ∧ ch ≠ 116 := ⟨c_3, c_39, c_108, c_120, c_132⟩
         have e9 : rdI n tx ch i tl = (-1, tl) := rdI_o k9
         have z := hQ h (fun x hx => rfl) (up_id.symm) (by rw [e9]; exact htl)
         rw [e9] at z
         exact z)
      
    · refine r_iconst (pc := 30) dX8_readsItem_30 ?_
      refine r_goto (pc := 31) (tgt := 35) dX8_readsItem_31 (by decide) ?_
      refine r_iret (pc := 35) hret dX8_readsItem_35 rfl rfl rfl ?_
      first
      | (have k9 : ch = 104 ∧ 3 < tl 128 + 1 := ⟨c_3, by omega⟩
         have e9 : rdI n tx ch i tl = (-1, (up tl 128 (tl 128 + 1))) := (rdI_h k9.1).trans (by rw [if_pos k9.2])
         have z := hQ (hr h (b + 6) (up tl 128 (tl 128 + 1))) (fun x hx => hr_n (by omega)) (by rw [hr_n (by omega)]; exact up_id.symm) (by rw [e9]; exact hr_s)
         rw [e9] at z
         exact z)
      | (have k9 : ch = 104 ∧ ¬ 3 < tl 128 + 1 := ⟨c_3, by omega⟩
         have e9 : rdI n tx ch i tl = (i, (up tl 128 (tl 128 + 1))) := (rdI_h k9.1).trans (by rw [if_neg k9.2])
         have z := hQ (hr h (b + 6) (up tl 128 (tl 128 + 1))) (fun x hx => hr_n (by omega)) (by rw [hr_n (by omega)]; exact up_id.symm) (by rw [e9]; exact hr_s)
         rw [e9] at z
         exact z)
      | (have k9 : ch = 114 ∧ tl 128 = 0 := ⟨c_39, c_50⟩
         have e9 : rdI n tx ch i tl = (-1, tl) := (rdI_r k9.1).trans (if_pos (Or.inl k9.2))
         have z := hQ h (fun x hx => rfl) (up_id.symm) (by rw [e9]; exact htl)
         rw [e9] at z
         exact z)
      | (have k9 : ch = 114 ∧ tl 129 = 6 := ⟨c_39, c_63⟩
         have e9 : rdI n tx ch i tl = (-1, tl) := (rdI_r k9.1).trans (if_pos (Or.inr k9.2))
         have z := hQ h (fun x hx => rfl) (up_id.symm) (by rw [e9]; exact htl)
         rw [e9] at z
         exact z)
      | (have k9 : ch = 114 ∧ ¬ (tl 128 = 0 ∨ tl 129 = 6) := ⟨c_39, by omega⟩
         have e9 : rdI n tx ch i tl = (i, (up (up tl (4 + tl 129) (tl 128)) 129 (tl 129 + 1))) := (rdI_r k9.1).trans (if_neg k9.2)
         have z := hQ (hr h (b + 6) (up (up tl (4 + tl 129) (tl 128)) 129 (tl 129 + 1))) (fun x hx => hr_n (by omega)) (by rw [hr_n (by omega)]; exact up_id.symm) (by rw [e9]; exact hr_s)
         rw [e9] at z
         exact z)
      | (have k9 : ch = 100 := c_108
         have e9 : rdI n tx ch i tl = rdD n tx i tl := rdI_d k9
         have z := hQ h_113 (fun x hx => f_113 x hx) (o_113) (by rw [e9]; exact t_113)
         rw [e9] at z
         exact z)
      | (have k9 : ch = 99 := c_120
         have e9 : rdI n tx ch i tl = rdR n tx i tl := rdI_c k9
         have z := hQ h_125 (fun x hx => f_125 x hx) (o_125) (by rw [e9]; exact t_125)
         rw [e9] at z
         exact z)
      | (have k9 : ch = 116 ∧ nm n tx i 1 24 < 0 := ⟨c_132, c_154⟩
         have e9 : rdI n tx ch i tl = (-1, (up tl 134 (nm n tx i 1 24))) := (rdI_t k9.1).trans (by rw [if_pos k9.2])
         have z := hQ (hr h_140 (b + 6) (up tl 134 (nm n tx i 1 24))) (fun x hx => (hr_n (by omega)).trans (f_140 x (by omega))) (by rw [hr_n (by omega)]; exact o_140) (by rw [e9]; exact hr_s)
         rw [e9] at z
         exact z)
      | (have k9 : ch = 116 ∧ ¬ nm n tx i 1 24 < 0 := ⟨c_132, by omega⟩
         have e9 : rdI n tx ch i tl = (nmE n tx i, (up tl 134 (nm n tx i 1 24))) := (rdI_t k9.1).trans (by rw [if_neg k9.2])
         have z := hQ (hr h_140 (b + 6) (up tl 134 (nm n tx i 1 24))) (fun x hx => (hr_n (by omega)).trans (f_140 x (by omega))) (by rw [hr_n (by omega)]; exact o_140) (by rw [e9]; exact hr_s)
         rw [e9] at z
         exact z)
      | (have k9 : ch ≠ 104 ∧ ch ≠ 114 ∧ ch ≠ 100 ∧ ch ≠ 99 ∧ ch ≠ 116 := ⟨c_3, c_39, c_108, c_120, c_132⟩
         have e9 : rdI n tx ch i tl = (-1, tl) := rdI_o k9
         have z := hQ h (fun x hx => rfl) (up_id.symm) (by rw [e9]; exact htl)
         rw [e9] at z
         exact z)
      

theorem dX8_reads_0 : decode cX8_reads 0 = .ok (.aload_n 0, 1) := by decide +kernel
theorem dX8_reads_1 : decode cX8_reads 1 = .ok (.aload_n 0, 1) := by decide +kernel
theorem dX8_reads_2 : decode cX8_reads 2 = .ok (.getfield 25, 3) := by decide +kernel
theorem dX8_reads_5 : decode cX8_reads 5 = .ok (.invokevirtual 78, 3) := by decide +kernel
theorem dX8_reads_8 : decode cX8_reads 8 = .ok (.iconst 0, 1) := by decide +kernel
theorem dX8_reads_9 : decode cX8_reads 9 = .ok (.istore_n 1, 1) := by decide +kernel
theorem dX8_reads_10 : decode cX8_reads 10 = .ok (.iload_n 1, 1) := by decide +kernel
theorem dX8_reads_11 : decode cX8_reads 11 = .ok (.aload_n 0, 1) := by decide +kernel
theorem dX8_reads_12 : decode cX8_reads 12 = .ok (.getfield 85, 3) := by decide +kernel
theorem dX8_reads_15 : decode cX8_reads 15 = .ok (.if_icmp .ge 40, 3) := by decide +kernel
theorem dX8_reads_18 : decode cX8_reads 18 = .ok (.aload_n 0, 1) := by decide +kernel
theorem dX8_reads_19 : decode cX8_reads 19 = .ok (.aload_n 0, 1) := by decide +kernel
theorem dX8_reads_20 : decode cX8_reads 20 = .ok (.getfield 7, 3) := by decide +kernel
theorem dX8_reads_23 : decode cX8_reads 23 = .ok (.iload_n 1, 1) := by decide +kernel
theorem dX8_reads_24 : decode cX8_reads 24 = .ok (.iaload, 1) := by decide +kernel
theorem dX8_reads_25 : decode cX8_reads 25 = .ok (.iload_n 1, 1) := by decide +kernel
theorem dX8_reads_26 : decode cX8_reads 26 = .ok (.iconst 1, 1) := by decide +kernel
theorem dX8_reads_27 : decode cX8_reads 27 = .ok (.iadd, 1) := by decide +kernel
theorem dX8_reads_28 : decode cX8_reads 28 = .ok (.invokevirtual 108, 3) := by decide +kernel
theorem dX8_reads_31 : decode cX8_reads 31 = .ok (.istore_n 2, 1) := by decide +kernel
theorem dX8_reads_32 : decode cX8_reads 32 = .ok (.iload_n 2, 1) := by decide +kernel
theorem dX8_reads_33 : decode cX8_reads 33 = .ok (.ifCond .lt 13, 3) := by decide +kernel
theorem dX8_reads_36 : decode cX8_reads 36 = .ok (.aload_n 0, 1) := by decide +kernel
theorem dX8_reads_37 : decode cX8_reads 37 = .ok (.iload_n 2, 1) := by decide +kernel
theorem dX8_reads_38 : decode cX8_reads 38 = .ok (.invokevirtual 89, 3) := by decide +kernel
theorem dX8_reads_41 : decode cX8_reads 41 = .ok (.bipush 59, 2) := by decide +kernel
theorem dX8_reads_43 : decode cX8_reads 43 = .ok (.if_icmp .eq 5, 3) := by decide +kernel
theorem dX8_reads_46 : decode cX8_reads 46 = .ok (.iload_n 1, 1) := by decide +kernel
theorem dX8_reads_47 : decode cX8_reads 47 = .ok (.ireturn, 1) := by decide +kernel
theorem dX8_reads_48 : decode cX8_reads 48 = .ok (.iload_n 2, 1) := by decide +kernel
theorem dX8_reads_49 : decode cX8_reads 49 = .ok (.iconst 1, 1) := by decide +kernel
theorem dX8_reads_50 : decode cX8_reads 50 = .ok (.iadd, 1) := by decide +kernel
theorem dX8_reads_51 : decode cX8_reads 51 = .ok (.istore_n 1, 1) := by decide +kernel
theorem dX8_reads_52 : decode cX8_reads 52 = .ok (.goto (-42), 3) := by decide +kernel
theorem dX8_reads_55 : decode cX8_reads 55 = .ok (.bipush (-4), 2) := by decide +kernel
theorem dX8_reads_57 : decode cX8_reads 57 = .ok (.ireturn, 1) := by decide +kernel
set_option maxHeartbeats 4000000 in
set_option maxRecDepth 20000 in
theorem c_X8_reads : ConI mX8_reads (fun args N lay r h Q => ∃ (b : Nat) (n : Int) (tx : Int → Int), args = [.ref b] ∧ MdAt lay r b ∧ h b 0 = n ∧ h (b + 1) = tx ∧ (0 ≤ n ∧ n ≤ 200) ∧ ∀ h2, Fr h h2 (fun x => x = b ∨ x = b + 6) → h2 b = up (h b) 24 (h2 b 24) → h2 (b + 6) = (rds n tx 201 0 (bgn (h (b + 6)))).2 → ((rds n tx 201 0 (bgn (h (b + 6)))).1 = -4 → TlI (rds n tx 201 0 (bgn (h (b + 6)))).2) → ((rds n tx 201 0 (bgn (h (b + 6)))).1 = -4 ∨ (0 ≤ (rds n tx 201 0 (bgn (h (b + 6)))).1 ∧ (rds n tx 201 0 (bgn (h (b + 6)))).1 ≤ 200)) → Q (rds n tx 201 0 (bgn (h (b + 6)))).1 N lay r h2) := by
  refine ConI.of (by decide) (by rintro _ N lay r h Q ⟨b, n, tx, rfl, hM, hn, htx, hn2, hQ⟩; exact ⟨rfl, Nat.le_of_ble_eq_true rfl⟩) ?_
  rintro E _ N lay r h Q ⟨b, n, tx, rfl, hM, hn, htx, hn2, hQ⟩ hret
  obtain ⟨ml0, ml1, ml2, ml3, ml4, ml5, ml6, ml7, ml8, ml9, ml10, ml11, ml12, ml13, ml14, ml15, ml16, ml17, ml18, ml19, ml20, mr1, mr2, mr3, mr4, mr5, mr6, mr7, mr8, mr9, mr10, mr11, mr12, mr13, mr14, mr15, mr16, mr17, mr18, mr19, mr20⟩ := id hM
  show St E mX8_reads 0 [some (.ref b), none, none] [] (0, 0) N lay r h
  have lp : ∀ (n_ : Nat) (i : Int) (tl : Int → Int) (f : Nat) (hk : HpT) (x2 : Option Value), (n - i).toNat = n_ → (0 ≤ i ∧ i ≤ n) → (Fr h hk (fun x => x = b ∨ x = b + 6)) → (hk b = up (h b) 24 (hk b 24)) → (hk (b + 6) = tl) → (TlI tl) → (rds n tx f i tl = (rds n tx 201 0 (bgn (h (b + 6))))) → (n - i < f) → St E mX8_reads 10 [some (.ref b), some (vI i), x2] [] (0, 0) N lay r hk := by
    intro  n_
    induction n_ using Nat.strongRecOn with
    | ind n_ ih =>
      intro i tl f hk x2 hn_ hi hf hb htl hI hR hfu
      have l_k : hk b 0 = n := by rw [hb, up_n (by omega)]; exact hn
      have x_k : hk (b + 1) = tx := (hf _ (by omega)).trans htx
      obtain ⟨f, rfl⟩ : ∃ g, f = g + 1 := ⟨f - 1, by omega⟩
      have htl8 := hI.1.1
      have htl9 := hI.1.2.1
      have htl0 := hI.1.2.2.1
      have rb := rdI_b (n := n) (tx := tx) (ch := tx i) (i := i + 1) (tl := tl)
      refine r_iload_1 (pc := 10) dX8_reads_10 ?_
      refine r_aload_0 (pc := 11) dX8_reads_11 ?_
      refine gf_X8_85 (pc := 12) rfl (by assumption) dX8_reads_12 (fun i_12 => ?_)
      rw [l_k]
      refine r_icmp_ge (pc := 15) (tgt := 55) dX8_reads_15 (by decide) (by omega) (by omega) (fun c_15 => ?_) (fun c_15 => ?_)
      · refine r_bipush (pc := 55) dX8_reads_55 (by decide) ?_
        refine r_iret (pc := 57) hret dX8_reads_57 rfl rfl rfl ?_
        first
        | (have k9 : n ≤ i := c_15
           have e9 : rds n tx (f + 1) i tl = (-4, tl) := if_pos k9
           rw [e9] at hR
           rw [← hR] at hQ
           exact hQ hk hf hb htl (fun _ => hI) (Or.inl rfl))
        | (have k9 : (rdI n tx (tx i) (i + 1) tl).1 < 0 := c_33
           have e9 : rds n tx (f + 1) i tl = (i, (rdI n tx (tx i) (i + 1) tl).2) := (if_neg (by omega)).trans (if_pos (Or.inl k9))
           rw [e9] at hR
           rw [← hR] at hQ
           exact hQ h_28 (fun x hx => (f_28 x hx).trans (hf x hx)) (by rw [hb, up_up] at o_28; exact o_28) t_28 (fun z => by dsimp only at z; omega) (Or.inr (by dsimp only; omega)))
        | (have k9 : ltr n tx (rdI n tx (tx i) (i + 1) tl).1 ≠ 59 := c_43
           have e9 : rds n tx (f + 1) i tl = (i, (rdI n tx (tx i) (i + 1) tl).2) := (if_neg (by omega)).trans (if_pos (Or.inr k9))
           rw [e9] at hR
           rw [← hR] at hQ
           exact hQ h_28 (fun x hx => (f_28 x hx).trans (hf x hx)) (by rw [hb, up_up] at o_28; exact o_28) t_28 (fun z => by dsimp only at z; omega) (Or.inr (by dsimp only; omega)))
      · refine r_aload_0 (pc := 18) dX8_reads_18 ?_
        refine r_aload_0 (pc := 19) dX8_reads_19 ?_
        refine gf_X8_7 (pc := 20) rfl (by assumption) dX8_reads_20 (by assumption) ?_
        refine r_iload_1 (pc := 23) dX8_reads_23 ?_
        refine r_ialdE (pc := 24) (by assumption) (by first | assumption | exact rfl) dX8_reads_24 (by omega) (by omega) (fun i_24 => ?_)
        refine r_iload_1 (pc := 25) dX8_reads_25 ?_
        refine r_iconst (pc := 26) dX8_reads_26 ?_
        refine r_iadd (pc := 27) dX8_reads_27 ?_
        refine k_VI2 (pc := 28) c_X8_readsItem lk_X8_108 ⟨Nat.le_of_ble_eq_true rfl, Nat.le_of_ble_eq_true rfl⟩ ⟨rfl, rfl⟩ ⟨Nat.le_of_ble_eq_true rfl, Nat.le_of_ble_eq_true rfl⟩ (k := 8) rfl (by decide) (by assumption) dX8_reads_28 (Nat.le_of_ble_eq_true rfl) ?_
        refine ⟨_, _, _, _, _, _, rfl, by assumption, by first | assumption | exact rfl, by first | assumption | exact rfl, by omega, by first | assumption | exact rfl, by omega, by omega, by omega, by omega, by omega, fun h_28 f_28 o_28 t_28 => ?_⟩
        have l_28 : h_28 b 0 = n := by rw [o_28, up_n (by omega)]; exact l_k
        have x_28 : h_28 (b + 1) = tx := (f_28 _ (by omega)).trans x_k
        refine r_istore_2 (pc := 31) dX8_reads_31 rfl ?_
        refine r_iload_2 (pc := 32) dX8_reads_32 ?_
        refine r_if_lt (pc := 33) (tgt := 46) dX8_reads_33 (by decide) (by omega) (fun c_33 => ?_) (fun c_33 => ?_)
        · refine r_iload_1 (pc := 46) dX8_reads_46 ?_
          refine r_iret (pc := 47) hret dX8_reads_47 rfl rfl rfl ?_
          first
          | (have k9 : n ≤ i := c_15
             have e9 : rds n tx (f + 1) i tl = (-4, tl) := if_pos k9
             rw [e9] at hR
             rw [← hR] at hQ
             exact hQ hk hf hb htl (fun _ => hI) (Or.inl rfl))
          | (have k9 : (rdI n tx (tx i) (i + 1) tl).1 < 0 := c_33
             have e9 : rds n tx (f + 1) i tl = (i, (rdI n tx (tx i) (i + 1) tl).2) := (if_neg (by omega)).trans (if_pos (Or.inl k9))
             rw [e9] at hR
             rw [← hR] at hQ
             exact hQ h_28 (fun x hx => (f_28 x hx).trans (hf x hx)) (by rw [hb, up_up] at o_28; exact o_28) t_28 (fun z => by dsimp only at z; omega) (Or.inr (by dsimp only; omega)))
          | (have k9 : ltr n tx (rdI n tx (tx i) (i + 1) tl).1 ≠ 59 := c_43
             have e9 : rds n tx (f + 1) i tl = (i, (rdI n tx (tx i) (i + 1) tl).2) := (if_neg (by omega)).trans (if_pos (Or.inr k9))
             rw [e9] at hR
             rw [← hR] at hQ
             exact hQ h_28 (fun x hx => (f_28 x hx).trans (hf x hx)) (by rw [hb, up_up] at o_28; exact o_28) t_28 (fun z => by dsimp only at z; omega) (Or.inr (by dsimp only; omega)))
        · refine r_aload_0 (pc := 36) dX8_reads_36 ?_
          refine r_iload_2 (pc := 37) dX8_reads_37 ?_
          refine k_VI1 (pc := 38) c_X8_letterAt lk_X8_89 ⟨Nat.le_of_ble_eq_true rfl, Nat.le_of_ble_eq_true rfl⟩ ⟨rfl, rfl⟩ ⟨Nat.le_of_ble_eq_true rfl, Nat.le_of_ble_eq_true rfl⟩ (k := 8) rfl (by decide) (by assumption) dX8_reads_38 (Nat.le_of_ble_eq_true rfl) ?_
          refine ⟨_, _, _, _, rfl, by assumption, by first | assumption | exact rfl, by first | assumption | exact rfl, by omega, by omega, fun i_38 => ?_⟩
          refine r_bipush (pc := 41) dX8_reads_41 (by decide) ?_
          refine r_icmp_eq (pc := 43) (tgt := 48) dX8_reads_43 (by decide) (by omega) (by omega) (fun c_43 => ?_) (fun c_43 => ?_)
          · refine r_iload_2 (pc := 48) dX8_reads_48 ?_
            refine r_iconst (pc := 49) dX8_reads_49 ?_
            refine r_iadd (pc := 50) dX8_reads_50 ?_
            refine r_istore_1 (pc := 51) dX8_reads_51 rfl ?_
            refine r_goto (pc := 52) (tgt := 10) dX8_reads_52 (by decide) ?_
            have e9 : rds n tx (f + 1) i tl = rds n tx f ((rdI n tx (tx i) (i + 1) tl).1 + 1) (rdI n tx (tx i) (i + 1) tl).2 := (if_neg (by omega)).trans (if_neg (fun z => by rcases z with z | z; omega; exact z c_43))
            rw [e9] at hR
            have e7 : (rdI n tx (tx i) (i + 1) tl).1 < n := by
              have c43 := c_43
              unfold ltr at c43
              split at c43 <;> omega
            exact ih _ (by omega) _ _ f h_28 _ rfl (by omega) (fun x hx => (f_28 x hx).trans (hf x hx)) (by rw [hb, up_up] at o_28; exact o_28) t_28 (rdI_I hI (by omega) c_33) hR (by omega)
          · refine r_iload_1 (pc := 46) dX8_reads_46 ?_
            refine r_iret (pc := 47) hret dX8_reads_47 rfl rfl rfl ?_
            first
            | (have k9 : n ≤ i := c_15
               have e9 : rds n tx (f + 1) i tl = (-4, tl) := if_pos k9
               rw [e9] at hR
               rw [← hR] at hQ
               exact hQ hk hf hb htl (fun _ => hI) (Or.inl rfl))
            | (have k9 : (rdI n tx (tx i) (i + 1) tl).1 < 0 := c_33
               have e9 : rds n tx (f + 1) i tl = (i, (rdI n tx (tx i) (i + 1) tl).2) := (if_neg (by omega)).trans (if_pos (Or.inl k9))
               rw [e9] at hR
               rw [← hR] at hQ
               exact hQ h_28 (fun x hx => (f_28 x hx).trans (hf x hx)) (by rw [hb, up_up] at o_28; exact o_28) t_28 (fun z => by dsimp only at z; omega) (Or.inr (by dsimp only; omega)))
            | (have k9 : ltr n tx (rdI n tx (tx i) (i + 1) tl).1 ≠ 59 := c_43
               have e9 : rds n tx (f + 1) i tl = (i, (rdI n tx (tx i) (i + 1) tl).2) := (if_neg (by omega)).trans (if_pos (Or.inr k9))
               rw [e9] at hR
               rw [← hR] at hQ
               exact hQ h_28 (fun x hx => (f_28 x hx).trans (hf x hx)) (by rw [hb, up_up] at o_28; exact o_28) t_28 (fun z => by dsimp only at z; omega) (Or.inr (by dsimp only; omega)))
  refine r_aload_0 (pc := 0) dX8_reads_0 ?_
  refine r_aload_0 (pc := 1) dX8_reads_1 ?_
  refine gf_X8_25 (pc := 2) rfl (by assumption) dX8_reads_2 (by assumption) ?_
  refine k_VV1 (pc := 5) c_X8_begins lk_X8_78 ⟨Nat.le_of_ble_eq_true rfl, Nat.le_of_ble_eq_true rfl⟩ ⟨rfl, rfl⟩ ⟨Nat.le_of_ble_eq_true rfl, Nat.le_of_ble_eq_true rfl⟩ (k := 8) rfl (by decide) (by assumption) dX8_reads_5 (Nat.le_of_ble_eq_true rfl) ?_
  refine ⟨_, _, rfl, by assumption, ?_⟩
  refine r_iconst (pc := 8) dX8_reads_8 ?_
  refine r_istore_1 (pc := 9) dX8_reads_9 rfl ?_
  exact lp _ 0 _ 201 _ _ rfl (by omega) (fun x hx => hr_n (by omega)) (by rw [hr_n (by omega)]; exact up_id.symm) hr_s TlI_0 rfl (by omega)

theorem dX8_fault_0 : decode cX8_fault 0 = .ok (.aload_n 0, 1) := by decide +kernel
theorem dX8_fault_1 : decode cX8_fault 1 = .ok (.invokevirtual 112, 3) := by decide +kernel
theorem dX8_fault_4 : decode cX8_fault 4 = .ok (.ireturn, 1) := by decide +kernel
set_option maxHeartbeats 4000000 in
set_option maxRecDepth 20000 in
theorem c_X8_fault : ConI mX8_fault (fun args N lay r h Q => ∃ (b : Nat) (n : Int) (tx : Int → Int), args = [.ref b] ∧ MdAt lay r b ∧ h b 0 = n ∧ h (b + 1) = tx ∧ (0 ≤ n ∧ n ≤ 200) ∧ ∀ h2, Fr h h2 (fun x => x = b ∨ x = b + 6) → h2 b = up (h b) 24 (h2 b 24) → Q (rds n tx 201 0 (bgn (h (b + 6)))).1 N lay r h2) := by
  refine ConI.of (by decide) (by rintro _ N lay r h Q ⟨b, n, tx, rfl, hM, hn, htx, hn2, hQ⟩; exact ⟨rfl, Nat.le_of_ble_eq_true rfl⟩) ?_
  rintro E _ N lay r h Q ⟨b, n, tx, rfl, hM, hn, htx, hn2, hQ⟩ hret
  obtain ⟨ml0, ml1, ml2, ml3, ml4, ml5, ml6, ml7, ml8, ml9, ml10, ml11, ml12, ml13, ml14, ml15, ml16, ml17, ml18, ml19, ml20, mr1, mr2, mr3, mr4, mr5, mr6, mr7, mr8, mr9, mr10, mr11, mr12, mr13, mr14, mr15, mr16, mr17, mr18, mr19, mr20⟩ := id hM
  show St E mX8_fault 0 [some (.ref b)] [] (0, 0) N lay r h
  refine r_aload_0 (pc := 0) dX8_fault_0 ?_
  refine k_VI0 (pc := 1) c_X8_reads lk_X8_112 ⟨Nat.le_of_ble_eq_true rfl, Nat.le_of_ble_eq_true rfl⟩ ⟨rfl, rfl⟩ ⟨Nat.le_of_ble_eq_true rfl, Nat.le_of_ble_eq_true rfl⟩ (k := 8) rfl (by decide) (by assumption) dX8_fault_1 (Nat.le_of_ble_eq_true rfl) ?_
  refine ⟨_, _, _, rfl, by assumption, by first | assumption | exact rfl, by first | assumption | exact rfl, by omega, fun h_1 f_1 o_1 t_1 v_1 b_1 => ?_⟩
  refine r_iret (pc := 4) hret dX8_fault_4 rfl rfl rfl ?_
  exact hQ h_1 f_1 o_1

