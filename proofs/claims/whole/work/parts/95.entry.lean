/-! THE ENTRY: what is known there -/
theorem en_K {args : Array Value} {s : State} (hts : ∀ w ∈ lw_tbl, w.before args s = true) : ∃ (D : va_G) (cA : Nat → ClassId), va_K D cls9 (tyA cA) s := by
  have ht : ∀ w ∈ lwT, w.before args s = true := fun w hw => hts w (List.mem_filter.mp hw).1
  obtain ⟨c0, i0, k0⟩ := u_known (n := 3) ht inT_X0 (ht _ (inT 249 (by decide +kernel) rfl))
  obtain ⟨c1, i1, k1⟩ := u_known (n := 5) ht inT_X1 (ht _ (inT 164 (by decide +kernel) rfl))
  obtain ⟨c2, i2, k2⟩ := u_known (n := 4) ht inT_X2 (ht _ (inT 268 (by decide +kernel) rfl))
  obtain ⟨c3, i3, k3⟩ := u_known (n := 12) ht inT_X3 (ht _ (inT 126 (by decide +kernel) rfl))
  obtain ⟨c4, i4, k4⟩ := u_known (n := 1) ht inT_X4 (ht _ (inT 115 (by decide +kernel) rfl))
  obtain ⟨c5, i5, k5⟩ := u_known (n := 4) ht inT_X5 (ht _ (inT 93 (by decide +kernel) rfl))
  obtain ⟨c6, i6, k6⟩ := u_known (n := 5) ht inT_X6 (ht _ (inT 132 (by decide +kernel) rfl))
  obtain ⟨c7, i7, k7⟩ := u_known (n := 9) ht inT_X7 (ht _ (inT 85 (by decide +kernel) rfl))
  obtain ⟨c8, i8, k8⟩ := u_known (n := 25) ht inT_X8 (ht _ (inT 911 (by decide +kernel) rfl))
  obtain ⟨a0, ka0, co0, f0, g0, e0⟩ := Cond.arrayClass_spec (ht _ (inT 113 (w := .arrayClass .int) (by decide +kernel) rfl))
  obtain ⟨a1, ka1, co1, f1, g1, e1⟩ := Cond.arrayClass_spec (ht _ (inT 112 (w := .arrayClass .char) (by decide +kernel) rfl))
  obtain ⟨a2, ka2, co2, f2, g2, e2⟩ := Cond.arrayClass_spec (ht _ (inT 287 (w := .arrayClass .boolean) (by decide +kernel) rfl))
  obtain ⟨co3, a3, ka3, b1, b2, b3, b4, b5⟩ := Cond.arrayOver_spec (hts (.arrayOver (.object RX3)) (List.mem_of_getElem? (i := 125) (by decide +kernel)))
  refine ⟨(fun k => [c0, c1, c2, c3, c4, c5, c6, c7, c8].getD k c0, fun k => [i0, i1, i2, i3, i4, i5, i6, i7, i8].getD k i0), fun k => [a0, a1, a2, a3].getD k a0, ?_, ?_⟩
  · intro k q hq
    match k, hq with
    | 0, hq => cases hq; exact k0
    | 1, hq => cases hq; exact k1
    | 2, hq => cases hq; exact k2
    | 3, hq => cases hq; exact k3
    | 4, hq => cases hq; exact k4
    | 5, hq => cases hq; exact k5
    | 6, hq => cases hq; exact k6
    | 7, hq => cases hq; exact k7
    | 8, hq => cases hq; exact k8
    | k + 9, hq => exact absurd hq (by simp)
  · intro k q hq
    match k, hq with
    | 0, hq => cases hq; exact ⟨fun n z => ⟨fun k h => (by cases h), ka0, g0, co0, e0⟩, f0⟩
    | 1, hq => cases hq; exact ⟨fun n z => ⟨fun k h => (by cases h), ka1, g1, co1, e1⟩, f1⟩
    | 2, hq => cases hq; exact ⟨fun n z => ⟨fun k h => (by cases h), ka2, g2, co2, e2⟩, f2⟩
    | 3, hq => cases hq; exact ⟨fun n z => ⟨fun k h => (by cases h), ka3, b3, co3, b4⟩, ⟨ka3, co3, b3, b4, b1, b5⟩⟩
    | k + 4, hq => exact absurd hq (by simp)
theorem en_N {args : Array Value} {s : State} (hts : ∀ w ∈ lw_tbl, w.before args s = true) : ∀ w ∈ nwL, va_Nw w s := by
  intro w hw
  obtain ⟨h1, h2⟩ := List.mem_filter.mp hw
  have h3 := hts w h1
  unfold isNst at h2
  split at h2
  · exact h3
  · exact h3
  · exact absurd h2 (by decide)
theorem en_el : ∀ j, j < 72 → Cond.eq (.elem (Term.field (.string "StrawMap" 54) "java/lang/String" "value" "[B") (.int (Int32.ofNat j))) (.int (txB.getD j 0)) ∈ flatC (Jvm.Cond.and given_1 narrow_1) := by decide +kernel
theorem en_S {args : Array Value} {s : State} (hts : ∀ w ∈ lw_tbl, w.before args s = true) (hg : (Jvm.Cond.and given_1 narrow_1).before args s = true) : ∃ a v, Sx s.heap.size a v s := by
  have ht : ∀ w ∈ lwT, w.before args s = true := fun w hw => hts w (List.mem_filter.mp hw).1
  have hs := flat_of_before _ hg
  have hA : ∀ a : Nat, a < s.heap.size → ¬ (fun q => s.heap.size ≤ q) a := fun a h z => by
    have z : s.heap.size ≤ a := z
    omega
  obtain ⟨a, c, cA, kA, q1, q2, q3, q4, q5, q6, -⟩ := Cond.exactly_spec (args := args) (first := s) (o := none) (s := s) (idx := []) (t := .string "StrawMap" 54) (cls := "java/lang/String") (hs _ (by decide +kernel))
  obtain ⟨v, hv, hT⟩ := va_Tof (args := args) (s := s) (tm := (Term.field (.string "StrawMap" 54) "java/lang/String" "value" "[B")) (ty := .byte) (N := 72) (f := fun j => .int (txB.getD j 0)) (A := fun q => s.heap.size ≤ q) (by decide) (hs _ (by decide +kernel)) (va_eqt (hs (Cond.eq (.length (Term.field (.string "StrawMap" 54) "java/lang/String" "value" "[B")) (.int 72)) (by decide +kernel))) (fun j hj => va_eqt (hs _ (en_el j hj))) hA
  refine ⟨a, v, vk_R.of (hts _ (List.mem_of_getElem? (i := 288) (by decide +kernel))) q1, ⟨cA, q3, q5, by rw [q6]; exact q2, hA a (Array.getElem?_eq_some_iff.mp q3).1⟩, vk_OFof q1 (va_eqt (hs (Cond.eq (.field (.string "StrawMap" 54) "java/lang/String" "coder" "B") (.int 0)) (by decide +kernel))) hA, vk_OFof q1 hv hA, hT, ?_, ?_⟩
  · exact va_Zof (hts _ (List.mem_of_getElem? (i := 298) (by decide +kernel))) (ht _ (inT 76 (by decide +kernel) rfl)) (va_eqi (hs (Cond.eq (.static "java/lang/String" "COMPACT_STRINGS" "Z") (.int 1)) (by decide +kernel))) hA
  · exact va_Zqof (hts _ (List.mem_of_getElem? (i := 314) (by decide +kernel))) (ht _ (inT 78 (by decide +kernel) rfl)) (hs (Cond.isRef (.static "jdk/internal/util/Preconditions" "SIOOBE_FORMATTER" "Ljava/util/function/BiFunction;")) (by decide +kernel)) hA
theorem CI.lr {lay lay' : LyT} {r r' : RfT} {h : HpT} {c : Nat} {q : Int → Nat} {n : Int} {tx : Int → Int} {ep : Int} {km : Int → Int → Int} {mp F : Int → Int} {ux : Int} {sz ho : Int → Int} {sn : Int} {row : Int → Int} (hI : CI lay r h c q n tx ep km mp F ux sz ho sn row) (e : ∀ x, c ≤ x → x < c + 101 → lay' x = lay x ∧ r' x = r x) : CI lay' r' h c q n tx ep km mp F ux sz ho sn row := by
  obtain ⟨⟨c0, c6, cr, d1, d2, d3, d4, d5, d6⟩, ⟨l1, l2, l3, l4, l5⟩, hI⟩ := hI
  have sm : ∀ k x : Nat, c ≤ x → x + k ≤ c + 101 → Sm k x lay lay' r r' := fun k x h1 h2 y y0 y1 => e y (by omega) (by omega)
  exact ⟨⟨(e c (by omega) (by omega)).1.trans c0, (e _ (by omega) (by omega)).1.trans c6, by rw [(e c (by omega) (by omega)).2]; exact cr, d1.m (sm _ _ (by omega) (by omega)), d2.m (sm _ _ (by omega) (by omega)), d3.m (sm _ _ (by omega) (by omega)), d4.m (sm _ _ (by omega) (by omega)), d5.m (sm _ _ (by omega) (by omega)), d6.m (sm _ _ (by omega) (by omega))⟩, ⟨by rw [(e c (by omega) (by omega)).2]; exact l1, fun i i0 i1 => by rw [(e _ (by omega) (by omega)).2]; exact l2 i i0 i1, fun i i0 i1 => (l3 i i0 i1).m (sm _ _ (by have := l4 i i0 i1; omega) (by have := l4 i i0 i1; omega)), l4, l5⟩, hI⟩
theorem m0_Z : Z136 (m0d 9) := fun j hj => by
  unfold m0d m0r m0b bgn cpR
  rw [if_neg (by omega), if_neg (by omega), if_neg (by omega), if_neg (by omega), if_neg (by omega), up_n (by omega), up_n (by omega), up_n (by omega), up_n (by omega), up_n (by omega), up_n (by omega), up_n (by omega), if_neg hj]
/-- both are made: they say one state -/
theorem LI_0 {la lb : LyT} {ra rb : RfT} {ha hb : HpT} {c b : Nat} (hcb : b = c + 101) (hCI : ∀ (tx row : Int → Int), CI la ra ha c (fun i => c + 31 + 14 * i.toNat) 0 tx 1 (fun _ => m0d 9) (m0d 9) (plr (m0d 9)) (iSl 1 9 - 1) (fun _ => 0) (pb (plr (m0d 9))) 0 row) (hMd : MdAt lb rb b) (fr : ∀ x, x < b → lb x = la x ∧ rb x = ra x ∧ hb x = ha x) (hWa : WaT (hb (b + 7))) (h2 : hb (b + 2) = m0d 9) (h0 : hb b = up (up (up (fun _ => 0) 5 1) 17 (iSl 1 9 - 1)) 19 0) (h4 : ∀ q, 0 ≤ q → q < 5 → hb (b + 4) q = if q = 1 then 1 else 0) (h3 : hb (b + 3) = kpR (fun _ => 0) (m0d 9) 1 136) (h12 : ∀ j, 0 ≤ j → j < 64 → hb (b + 12) j = plc (m0d 9) (j / 4) (j % 4)) (h14 : ∀ q, 0 ≤ q → q < 16 → hb (b + 14) q = pb (hb (b + 12)) q) (h15 : ∀ q, 0 ≤ q → q < 16 → hb (b + 15) q = 0) : LI lb c b 0 rb hb := by
  refine ⟨fun i => c + 31 + 14 * i.toNat, 0, hb (b + 1), 1, fun _ => m0d 9, m0d 9, hb (b + 12), iSl 1 9 - 1, hb (b + 15), hb (b + 14), 0, hb (b + 17), ?_, ?_, by omega⟩
  · exact (((hCI (hb (b + 1)) (hb (b + 17))).lr (fun x x0 x1 => ⟨(fr x (by omega)).1, (fr x (by omega)).2.1⟩)).fr (fun x x0 x1 => (fr x (by omega)).2.2)).cv (fun j j0 j1 => h12 j j0 j1) (fun j j0 j1 => h15 j j0 j1) (fun j j0 j1 => (h14 j j0 j1).trans (pb_c ⟨j0, j1⟩ (fun x x0 x1 => h12 x x0 x1)))
  · refine ⟨hMd, ⟨by rw [h0]; rfl, by rw [h0]; rfl, by rw [h0]; rfl, by rw [h0]; rfl⟩, ⟨rfl, h2, rfl, rfl, rfl, rfl⟩, hWa, m0_Z, fun i i0 i1 i2 => ?_, fun x x0 x1 => ?_⟩
    · refine (cpR_m m0_Z _ (fun j j0 j1 => ?_)).symm
      rw [h3, show i = 0 by omega]
      show kpR (fun _ => 0) (m0d 9) 1 136 (136 * 1 + j) = _
      unfold kpR
      rw [if_pos (by omega)]
      congr 1
      omega
    · rw [h4 x x0 x1]
      rcases (show x = 0 ∨ x = 1 ∨ x = 2 ∨ x = 3 ∨ x = 4 by omega) with rfl | rfl | rfl | rfl | rfl <;> rfl
