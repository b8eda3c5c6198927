/-! THE CLASS'S CONSTRUCTOR -/
theorem dX7_init_0 : decode cX7_init 0 = .ok (.aload_n 0, 1) := by decide +kernel
theorem dX7_init_1 : decode cX7_init 1 = .ok (.invokespecial 1, 3) := by decide +kernel
theorem dX7_init_4 : decode cX7_init 4 = .ok (.aload_n 0, 1) := by decide +kernel
theorem dX7_init_5 : decode cX7_init 5 = .ok (.new 7, 3) := by decide +kernel
theorem dX7_init_8 : decode cX7_init 8 = .ok (.dup, 1) := by decide +kernel
theorem dX7_init_9 : decode cX7_init 9 = .ok (.invokespecial 9, 3) := by decide +kernel
theorem dX7_init_12 : decode cX7_init 12 = .ok (.putfield 10, 3) := by decide +kernel
theorem dX7_init_15 : decode cX7_init 15 = .ok (.aload_n 0, 1) := by decide +kernel
theorem dX7_init_16 : decode cX7_init 16 = .ok (.new 16, 3) := by decide +kernel
theorem dX7_init_19 : decode cX7_init 19 = .ok (.dup, 1) := by decide +kernel
theorem dX7_init_20 : decode cX7_init 20 = .ok (.invokespecial 18, 3) := by decide +kernel
theorem dX7_init_23 : decode cX7_init 23 = .ok (.putfield 19, 3) := by decide +kernel
theorem dX7_init_26 : decode cX7_init 26 = .ok (.aload_n 0, 1) := by decide +kernel
theorem dX7_init_27 : decode cX7_init 27 = .ok (.iconst 5, 1) := by decide +kernel
theorem dX7_init_28 : decode cX7_init 28 = .ok (.anewarray 23, 3) := by decide +kernel
theorem dX7_init_31 : decode cX7_init 31 = .ok (.putfield 25, 3) := by decide +kernel
theorem dX7_init_34 : decode cX7_init 34 = .ok (.aload_n 0, 1) := by decide +kernel
theorem dX7_init_35 : decode cX7_init 35 = .ok (.new 23, 3) := by decide +kernel
theorem dX7_init_38 : decode cX7_init 38 = .ok (.dup, 1) := by decide +kernel
theorem dX7_init_39 : decode cX7_init 39 = .ok (.invokespecial 29, 3) := by decide +kernel
theorem dX7_init_42 : decode cX7_init 42 = .ok (.putfield 30, 3) := by decide +kernel
theorem dX7_init_45 : decode cX7_init 45 = .ok (.aload_n 0, 1) := by decide +kernel
theorem dX7_init_46 : decode cX7_init 46 = .ok (.new 34, 3) := by decide +kernel
theorem dX7_init_49 : decode cX7_init 49 = .ok (.dup, 1) := by decide +kernel
theorem dX7_init_50 : decode cX7_init 50 = .ok (.invokespecial 36, 3) := by decide +kernel
theorem dX7_init_53 : decode cX7_init 53 = .ok (.putfield 37, 3) := by decide +kernel
theorem dX7_init_56 : decode cX7_init 56 = .ok (.aload_n 0, 1) := by decide +kernel
theorem dX7_init_57 : decode cX7_init 57 = .ok (.new 34, 3) := by decide +kernel
theorem dX7_init_60 : decode cX7_init 60 = .ok (.dup, 1) := by decide +kernel
theorem dX7_init_61 : decode cX7_init 61 = .ok (.invokespecial 36, 3) := by decide +kernel
theorem dX7_init_64 : decode cX7_init 64 = .ok (.putfield 41, 3) := by decide +kernel
theorem dX7_init_67 : decode cX7_init 67 = .ok (.aload_n 0, 1) := by decide +kernel
theorem dX7_init_68 : decode cX7_init 68 = .ok (.new 44, 3) := by decide +kernel
theorem dX7_init_71 : decode cX7_init 71 = .ok (.dup, 1) := by decide +kernel
theorem dX7_init_72 : decode cX7_init 72 = .ok (.invokespecial 46, 3) := by decide +kernel
theorem dX7_init_75 : decode cX7_init 75 = .ok (.putfield 47, 3) := by decide +kernel
theorem dX7_init_78 : decode cX7_init 78 = .ok (.iconst 0, 1) := by decide +kernel
theorem dX7_init_79 : decode cX7_init 79 = .ok (.istore_n 1, 1) := by decide +kernel
theorem dX7_init_80 : decode cX7_init 80 = .ok (.iload_n 1, 1) := by decide +kernel
theorem dX7_init_81 : decode cX7_init 81 = .ok (.iconst 5, 1) := by decide +kernel
theorem dX7_init_82 : decode cX7_init 82 = .ok (.if_icmp .ge 22, 3) := by decide +kernel
theorem dX7_init_85 : decode cX7_init 85 = .ok (.aload_n 0, 1) := by decide +kernel
theorem dX7_init_86 : decode cX7_init 86 = .ok (.getfield 25, 3) := by decide +kernel
theorem dX7_init_89 : decode cX7_init 89 = .ok (.iload_n 1, 1) := by decide +kernel
theorem dX7_init_90 : decode cX7_init 90 = .ok (.new 23, 3) := by decide +kernel
theorem dX7_init_93 : decode cX7_init 93 = .ok (.dup, 1) := by decide +kernel
theorem dX7_init_94 : decode cX7_init 94 = .ok (.invokespecial 29, 3) := by decide +kernel
theorem dX7_init_97 : decode cX7_init 97 = .ok (.aastore, 1) := by decide +kernel
theorem dX7_init_98 : decode cX7_init 98 = .ok (.iinc 1 1, 3) := by decide +kernel
theorem dX7_init_101 : decode cX7_init 101 = .ok (.goto (-21), 3) := by decide +kernel
theorem dX7_init_104 : decode cX7_init 104 = .ok (.aload_n 0, 1) := by decide +kernel
theorem dX7_init_105 : decode cX7_init 105 = .ok (.aload_n 0, 1) := by decide +kernel
theorem dX7_init_106 : decode cX7_init 106 = .ok (.getfield 25, 3) := by decide +kernel
theorem dX7_init_109 : decode cX7_init 109 = .ok (.iconst 0, 1) := by decide +kernel
theorem dX7_init_110 : decode cX7_init 110 = .ok (.aaload, 1) := by decide +kernel
theorem dX7_init_111 : decode cX7_init 111 = .ok (.putfield 51, 3) := by decide +kernel
theorem dX7_init_114 : decode cX7_init 114 = .ok (.iconst 0, 1) := by decide +kernel
theorem dX7_init_115 : decode cX7_init 115 = .ok (.istore_n 1, 1) := by decide +kernel
theorem dX7_init_116 : decode cX7_init 116 = .ok (.iload_n 1, 1) := by decide +kernel
theorem dX7_init_117 : decode cX7_init 117 = .ok (.ldc 54, 2) := by decide +kernel
theorem dX7_init_119 : decode cX7_init 119 = .ok (.invokevirtual 56, 3) := by decide +kernel
theorem dX7_init_122 : decode cX7_init 122 = .ok (.if_icmp .ge 22, 3) := by decide +kernel
theorem dX7_init_125 : decode cX7_init 125 = .ok (.aload_n 0, 1) := by decide +kernel
theorem dX7_init_126 : decode cX7_init 126 = .ok (.getfield 10, 3) := by decide +kernel
theorem dX7_init_129 : decode cX7_init 129 = .ok (.ldc 54, 2) := by decide +kernel
theorem dX7_init_131 : decode cX7_init 131 = .ok (.iload_n 1, 1) := by decide +kernel
theorem dX7_init_132 : decode cX7_init 132 = .ok (.invokevirtual 62, 3) := by decide +kernel
theorem dX7_init_135 : decode cX7_init 135 = .ok (.invokevirtual 66, 3) := by decide +kernel
theorem dX7_init_138 : decode cX7_init 138 = .ok (.iinc 1 1, 3) := by decide +kernel
theorem dX7_init_141 : decode cX7_init 141 = .ok (.goto (-25), 3) := by decide +kernel
theorem dX7_init_144 : decode cX7_init 144 = .ok (.aload_n 0, 1) := by decide +kernel
theorem dX7_init_145 : decode cX7_init 145 = .ok (.getfield 10, 3) := by decide +kernel
theorem dX7_init_148 : decode cX7_init 148 = .ok (.aload_n 0, 1) := by decide +kernel
theorem dX7_init_149 : decode cX7_init 149 = .ok (.getfield 30, 3) := by decide +kernel
theorem dX7_init_152 : decode cX7_init 152 = .ok (.invokevirtual 70, 3) := by decide +kernel
theorem dX7_init_155 : decode cX7_init 155 = .ok (.pop, 1) := by decide +kernel
theorem dX7_init_156 : decode cX7_init 156 = .ok (.aload_n 0, 1) := by decide +kernel
theorem dX7_init_157 : decode cX7_init 157 = .ok (.getfield 30, 3) := by decide +kernel
theorem dX7_init_160 : decode cX7_init 160 = .ok (.aload_n 0, 1) := by decide +kernel
theorem dX7_init_161 : decode cX7_init 161 = .ok (.getfield 19, 3) := by decide +kernel
theorem dX7_init_164 : decode cX7_init 164 = .ok (.invokevirtual 74, 3) := by decide +kernel
theorem dX7_init_167 : decode cX7_init 167 = .ok (.aload_n 0, 1) := by decide +kernel
theorem dX7_init_168 : decode cX7_init 168 = .ok (.invokevirtual 78, 3) := by decide +kernel
theorem dX7_init_171 : decode cX7_init 171 = .ok (.aload_n 0, 1) := by decide +kernel
theorem dX7_init_172 : decode cX7_init 172 = .ok (.getfield 10, 3) := by decide +kernel
theorem dX7_init_175 : decode cX7_init 175 = .ok (.iconst 0, 1) := by decide +kernel
theorem dX7_init_176 : decode cX7_init 176 = .ok (.putfield 81, 3) := by decide +kernel
theorem dX7_init_179 : decode cX7_init 179 = .ok (.return_, 1) := by decide +kernel
theorem t_rds1 : (rds 72 txc 201 0 (bgn (fun _ => 0))).1 = -4 := by decide +kernel
theorem t_rds2 : ∀ j, 0 ≤ j → j < 136 → m0d 9 j = (rds 72 txc 201 0 (bgn (fun _ => 0))).2 j := by
  have : (List.range 136).all (fun j => decide (m0d 9 (j : Nat) = (rds 72 txc 201 0 (bgn (fun _ => 0))).2 (j : Nat))) = true := by decide +kernel
  intro j j0 j1
  have := of_decide_eq_true (List.all_eq_true.mp this j.toNat (List.mem_range.mpr (by omega)))
  rw [show ((j.toNat : Nat) : Int) = j by omega] at this
  exact this
/-- rows that stay -/
def Sm (n x : Nat) (la la' : LyT) (ra ra' : RfT) : Prop := ∀ y, x ≤ y → y < x + n → la' y = la y ∧ ra' y = ra y
theorem TxAt.m {la la' : LyT} {ra ra' : RfT} {x : Nat} (h : TxAt la ra x) (s : Sm 3 x la la' ra ra') : TxAt la' ra' x := by
  unfold TxAt; rw [(s x (by omega) (by omega)).1, (s (x + 1) (by omega) (by omega)).1, (s (x + 2) (by omega) (by omega)).1, (s x (by omega) (by omega)).2]; exact h
theorem StAt.m {la la' : LyT} {ra ra' : RfT} {x : Nat} (h : StAt la ra x) (s : Sm 2 x la la' ra ra') : StAt la' ra' x := by
  unfold StAt; rw [(s x (by omega) (by omega)).1, (s (x + 1) (by omega) (by omega)).1, (s x (by omega) (by omega)).2]; exact h
theorem DaAt.m {la la' : LyT} {ra ra' : RfT} {x : Nat} (h : DaAt la ra x) (s : Sm 3 x la la' ra ra') : DaAt la' ra' x := by
  unfold DaAt; rw [(s x (by omega) (by omega)).1, (s (x + 1) (by omega) (by omega)).1, (s (x + 2) (by omega) (by omega)).1, (s x (by omega) (by omega)).2]; exact h
theorem ObAt.m {la la' : LyT} {ra ra' : RfT} {x : Nat} (h : ObAt la ra x) (s : Sm 4 x la la' ra ra') : ObAt la' ra' x := by
  unfold ObAt; rw [(s x (by omega) (by omega)).1, (s (x + 1) (by omega) (by omega)).1, (s (x + 2) (by omega) (by omega)).1, (s (x + 3) (by omega) (by omega)).1, (s x (by omega) (by omega)).2]; exact h
theorem PlAt.m {la la' : LyT} {ra ra' : RfT} {x : Nat} (h : PlAt la ra x) (s : Sm 14 x la la' ra ra') : PlAt la' ra' x := by
  unfold PlAt; rw [(s x (by omega) (by omega)).1, (s (x + 1) (by omega) (by omega)).1, (s (x + 2) (by omega) (by omega)).1, (s (x + 3) (by omega) (by omega)).1, (s (x + 4) (by omega) (by omega)).1, (s (x + 5) (by omega) (by omega)).1, (s (x + 6) (by omega) (by omega)).1, (s (x + 7) (by omega) (by omega)).1, (s (x + 8) (by omega) (by omega)).1, (s (x + 9) (by omega) (by omega)).1, (s (x + 10) (by omega) (by omega)).1, (s (x + 11) (by omega) (by omega)).1, (s (x + 12) (by omega) (by omega)).1, (s (x + 13) (by omega) (by omega)).1, (s x (by omega) (by omega)).2, (s (x + 1) (by omega) (by omega)).2, (s (x + 4) (by omega) (by omega)).2]; exact h
/-- a new part of c, at P, in field f -/
def NewP (c P n : Nat) (f : Int) (la la' : LyT) (ra ra' : RfT) (ha ha' : HpT) : Prop := (∀ x, x < P → la' x = la x) ∧ (∀ x, x < P → x ≠ c → ra' x = ra x) ∧ ra' c = rup (ra c) f (some P) ∧ (∀ x, x < P → ha' x = ha x) ∧ (∀ x, P ≤ x → x < n → x ≠ c + 6 → ha' x = fun _ => 0)
theorem NewP.of {c P n : Nat} {f : Int} {q : Nat × Nat} {g : Int → Option Nat} {la lb : LyT} {ra rb : RfT} {ha hb : HpT} (hc : c < P) (fx : ∀ x, x < P → lb x = lyp la P q x ∧ rb x = rr ra P g x ∧ hb x = hr ha P (fun _ => 0) x) (zx : ∀ x, P ≤ x → x < n → hb x = fun _ => 0) : NewP c P n f la lb ra (rr rb c (rup (rb c) f (some P))) ha hb := by
  refine ⟨fun x hx => (fx x hx).1.trans (lyp_n (by omega)), fun x hx hn => (rr_n hn).trans ((fx x hx).2.1.trans (rr_n (by omega))), ?_, fun x hx => (fx x hx).2.2.trans (hr_n (by omega)), fun x x0 x1 _ => zx x x0 x1⟩
  rw [rr_s, (fx c hc).2.1, rr_n (by omega)]
theorem NewP.sm {c P n k x : Nat} {f : Int} {la lb : LyT} {ra rb : RfT} {ha hb : HpT} (s : NewP c P n f la lb ra rb ha hb) (h1 : c < x) (h2 : x + k ≤ P) : Sm k x la lb ra rb := fun y y0 y1 => ⟨s.1 y (by omega), s.2.1 y (by omega) (by omega)⟩
theorem NewP.rf {c P n b : Nat} {f g : Int} {la lb : LyT} {ra rb : RfT} {ha hb : HpT} (s : NewP c P n f la lb ra rb ha hb) (hn : g ≠ f) (h : ra c g = some b) : rb c g = some b := by
  rw [s.2.2.1, rup_n hn]; exact h
theorem NewP.rs {c P n : Nat} {f : Int} {la lb : LyT} {ra rb : RfT} {ha hb : HpT} (s : NewP c P n f la lb ra rb ha hb) : rb c f = some P := by
  rw [s.2.2.1, rup_s]
theorem NewP.z {c P n : Nat} {f : Int} {la lb : LyT} {ra rb : RfT} {ha hb : HpT} (s : NewP c P n f la lb ra rb ha hb) (h : ∀ x, c ≤ x → x < P → x ≠ c + 6 → ha x = fun _ => 0) : ∀ x, c ≤ x → x < n → x ≠ c + 6 → hb x = fun _ => 0 := fun x x0 x1 x6 => by
  by_cases e : x < P
  · exact (s.2.2.2.1 x e).trans (h x x0 e x6)
  · exact s.2.2.2.2 x (by omega) x1 x6
theorem NewP.f {c P n : Nat} {f : Int} {lay la lb : LyT} {r ra rb : RfT} {h ha hb : HpT} (s : NewP c P n f la lb ra rb ha hb) (hc : c < P) (fr : ∀ x, x < c → la x = lay x ∧ ra x = r x ∧ ha x = h x) : ∀ x, x < c → lb x = lay x ∧ rb x = r x ∧ hb x = h x := fun x hx => by
  obtain ⟨a, b, d⟩ := fr x hx
  exact ⟨(s.1 x (by omega)).trans a, (s.2.1 x (by omega) (by omega)).trans b, (s.2.2.2.1 x (by omega)).trans d⟩
/-- the plans made so far -/
def I7 (lay la : LyT) (r ra : RfT) (h ha : HpT) (c k : Nat) : Prop := CAt la ra c ∧ (∀ i : Nat, i < k → ra (c + 6) (i : Int) = some (c + 31 + 14 * i)) ∧ (∀ i : Nat, i < k → PlAt la ra (c + 31 + 14 * i)) ∧ (∀ x, c ≤ x → x < c + 31 + 14 * k → x ≠ c + 6 → ha x = fun _ => 0) ∧ ∀ x, x < c → la x = lay x ∧ ra x = r x ∧ ha x = h x
set_option maxHeartbeats 4000000 in
set_option maxRecDepth 20000 in
theorem x7_end {E : EnT} {c N : Nat} {la : LyT} {ra : RfT} {ha : HpT} {Q : PstV} {N0 : Nat} (hN : N = N0 + 100) (hret : RetV E mX7_init N0 Q) (hC : CAt la ra c) (hLt : LtAt la ra c (fun i => c + 31 + 14 * i.toNat)) (hct : CT ha (c + 1) 72 txc) (hsk : StK (ha (c + 4 + 1))) (hQ : ∀ h2, (∀ x, x < c → h2 x = ha x) → (∀ tx row, CI la ra h2 c (fun i => c + 31 + 14 * i.toNat) 0 tx 1 (fun _ => m0d 9) (m0d 9) (plr (m0d 9)) (iSl 1 9 - 1) (fun _ => 0) (pb (plr (m0d 9))) 0 row) → Q N la ra h2) : St E mX7_init 144 [some (.ref c), some (vI 72)] [] (100, 10421) N la ra ha := by
  obtain ⟨cl0, cl6, ⟨cr0, cr1, cr2, cr3, cr4, cr5, cr6⟩, cT, cS, cP, cD, cE, cO⟩ := id hC
  refine r_aload_0 (pc := 144) dX7_init_144 ?_
  refine gf_X7_10 (pc := 145) rfl cl0 dX7_init_145 cr0 ?_
  refine r_aload_0 (pc := 148) dX7_init_148 ?_
  refine gf_X7_30 (pc := 149) rfl cl0 dX7_init_149 cr3 ?_
  refine k_VI1 (pc := 152) c_X5_readInto lk_X7_70 ⟨(Nat.le_of_ble_eq_true rfl), (Nat.le_of_ble_eq_true rfl)⟩ ⟨rfl, rfl⟩ ⟨(Nat.le_of_ble_eq_true rfl), (Nat.le_of_ble_eq_true rfl)⟩ (k := 5) rfl (by decide) cT.1 dX7_init_152 (Nat.le_of_ble_eq_true rfl) ?_
  refine ⟨_, 72, txc, _, fun _ => 0, rfl, cT, hct, fun j j0 j1 => ?_, cP, by omega, fun h1 f1 o1 a1 => ?_⟩
  · have z := txc_ok j.toNat (by omega)
    rw [show ((j.toNat : Nat) : Int) = j by omega] at z
    omega
  rw [t_rds1]
  obtain ⟨t1, t2, t3⟩ := a1 t_rds1
  have T1 : PTr h1 (c + 7) (m0d 9) := t2.cg (fun j j0 j1 => t_rds2 j (by omega) (by omega)) t1.1
  have L1 : PRl h1 (c + 7) (m0d 9) := t3.cg (fun j j0 j1 j2 j3 => t_rds2 j (by omega) (by omega)) t1.1.2.2.1 t1.2.1.2.2.2.2.1
  have SK1 : StK (h1 (c + 4 + 1)) := by rw [f1 _ (by omega)]; exact hsk
  clear t1 t2 t3 a1
  refine r_popI (pc := 155) dX7_init_155 ?_
  refine r_aload_0 (pc := 156) dX7_init_156 ?_
  refine gf_X7_30 (pc := 157) rfl cl0 dX7_init_157 cr3 ?_
  refine r_aload_0 (pc := 160) dX7_init_160 ?_
  refine gf_X7_19 (pc := 161) rfl cl0 dX7_init_161 cr1 ?_
  refine k_VV1 (pc := 164) c_X3_settleAll lk_X7_74 ⟨(Nat.le_of_ble_eq_true rfl), (Nat.le_of_ble_eq_true rfl)⟩ ⟨rfl, rfl⟩ ⟨(Nat.le_of_ble_eq_true rfl), (Nat.le_of_ble_eq_true rfl)⟩ (k := 3) rfl (by decide) cP.1 dX7_init_164 (Nat.le_of_ble_eq_true rfl) ?_
  refine ⟨_, m0d 9, _, rfl, cP, cS, by omega, m0_T, m0_R, T1, L1, SK1, fun h2 f2 t2 w2 l2 s2 k2 => ?_⟩
  refine r_aload_0 (pc := 167) dX7_init_167 ?_
  refine k_VV0 (pc := 168) c_X7_beginWithTrial lk_X7_78 ⟨(Nat.le_of_ble_eq_true rfl), (Nat.le_of_ble_eq_true rfl)⟩ ⟨rfl, rfl⟩ ⟨(Nat.le_of_ble_eq_true rfl), (Nat.le_of_ble_eq_true rfl)⟩ (k := 7) rfl (by decide) cl0 dX7_init_168 (Nat.le_of_ble_eq_true rfl) ?_
  refine ⟨_, fun i => c + 31 + 14 * i.toNat, m0d 9, rfl, hC, hLt, ⟨m0_T, m0_R, t2, w2, l2, s2⟩, fun h3 f3 a3 b3 d3 e3 => ?_⟩
  refine r_aload_0 (pc := 171) dX7_init_171 ?_
  refine gf_X7_10 (pc := 172) rfl cl0 dX7_init_172 cr0 ?_
  refine r_iconst (pc := 175) dX7_init_175 ?_
  refine pf_X7_81 (pc := 176) rfl cT.1 dX7_init_176 (by omega) ?_
  refine r_ret (pc := 179) hret dX7_init_179 rfl rfl hN ?_
  have q0 : (fun i : Int => c + 31 + 14 * i.toNat) 0 = c + 31 := rfl
  rw [q0] at f3 a3
  have e130 : m0d 9 130 = 9 := by decide
  rw [e130] at d3
  refine hQ _ (fun x hx => by rw [hr_n (by omega), f3 x (by omega), f2 x (by omega)]; exact f1 x (by omega)) (fun tx row => ⟨hC, hLt, ⟨⟨by rw [hr_s, up_s], by omega, fun j j0 j1 => by omega⟩, fun j j0 j1 => by omega⟩, by rw [hr_n (by omega), f3 _ (by omega)]; exact k2, ⟨by rw [hr_n (by omega), b3, up_s], by omega, by omega⟩, fun i i0 i1 i2 => ?_, ⟨rfl, by omega⟩, fun _ _ _ => rfl, ⟨⟨?_, ?_, ?_⟩, ⟨(show Ms (iSl 1 9 - 1) by unfold Ms; decide +kernel), fun g g0 g1 => pb_12 ((FdI_plr m0_T m0_R).g g0 g1)⟩, fun g g0 g1 => ⟨Int.le_refl 0, (show (0 : Int) ≤ 9999 by decide)⟩⟩, ⟨⟨by rw [hr_n (by omega), e3, up_s], fun i i0 i1 => by omega⟩, ⟨by omega, fun i i0 i1 => by omega⟩⟩⟩)
  · rw [show i = 0 by omega]
    exact a3.of (fun x x0 x1 => hr_n (by have := q0; omega))
  · rw [hr_n (by omega)]; exact d3.1
  · intro g g0 g1; rw [hr_n (by omega)]; exact d3.2.1 g g0 g1
  · intro g g0 g1; rw [hr_n (by omega)]; exact d3.2.2 g g0 g1
set_option maxHeartbeats 4000000 in
set_option maxRecDepth 20000 in
theorem x7_txt {E : EnT} {c a v N : Nat} {la : LyT} {ra : RfT} {ha : HpT} {Q : PstV} {N0 : Nat} (hN : N = N0 + 100) (hSx : SxE E a v) (hret : RetV E mX7_init N0 Q) (hC : CAt la ra c) (hLt : LtAt la ra c (fun i => c + 31 + 14 * i.toNat)) : ∀ (n_ : Nat) (i : Int) (ha : HpT), (72 - i).toNat = n_ → (0 ≤ i ∧ i ≤ 72) → CT ha (c + 1) i txc → StK (ha (c + 4 + 1)) → (∀ h2, (∀ x, x < c → h2 x = ha x) → (∀ tx row, CI la ra h2 c (fun i => c + 31 + 14 * i.toNat) 0 tx 1 (fun _ => m0d 9) (m0d 9) (plr (m0d 9)) (iSl 1 9 - 1) (fun _ => 0) (pb (plr (m0d 9))) 0 row) → Q N la ra h2) → St E mX7_init 116 [some (.ref c), some (vI i)] [] (100, 10421) N la ra ha := by
  obtain ⟨cl0, cl6, ⟨cr0, cr1, cr2, cr3, cr4, cr5, cr6⟩, cT, cS, cP, cD, cE, cO⟩ := id hC
  intro n_
  induction n_ using Nat.strongRecOn with
  | ind n_ ih =>
    intro i ha hn_ hi hct hsk hQ
    refine r_iload_1 (pc := 116) dX7_init_116 ?_
    refine r_ldcS (pc := 117) hSx rfl dX7_init_117 ?_
    refine xc_VI (pc := 119) x_J0_length_8abf5 hSx (As := []) (rest := [vI i]) lx_len rfl ⟨(Nat.le_of_ble_eq_true rfl), (Nat.le_of_ble_eq_true rfl)⟩ ⟨(Nat.le_of_ble_eq_true rfl), (Nat.le_of_ble_eq_true rfl)⟩ dX7_init_119 rfl rfl (Nat.le_of_ble_eq_true rfl) ?_
    refine ⟨rfl, ?_⟩
    refine r_icmp_ge (pc := 122) (tgt := 144) dX7_init_122 (by decide) (by omega) (by omega) (fun z => ?_) (fun z => ?_)
    · have e : i = 72 := by omega
      subst e
      exact x7_end hN hret hC hLt hct hsk hQ
    · have z9 := txc_ok i.toNat (by omega)
      rw [show ((i.toNat : Nat) : Int) = i by omega] at z9
      refine r_aload_0 (pc := 125) dX7_init_125 ?_
      refine gf_X7_10 (pc := 126) rfl cl0 dX7_init_126 cr0 ?_
      refine r_ldcS (pc := 129) hSx rfl dX7_init_129 ?_
      refine r_iload_1 (pc := 131) dX7_init_131 ?_
      refine xc_VI (pc := 132) x_J0_charAt_5068e hSx (As := [vI i]) (rest := [.ref (c + 1)]) lx_chr rfl ⟨(Nat.le_of_ble_eq_true rfl), (Nat.le_of_ble_eq_true rfl)⟩ ⟨(Nat.le_of_ble_eq_true rfl), (Nat.le_of_ble_eq_true rfl)⟩ dX7_init_132 rfl rfl (Nat.le_of_ble_eq_true rfl) ?_
      refine ⟨i, rfl, by omega, ?_⟩
      refine k_VV1 (pc := 135) c_X5_append lk_X7_66 ⟨(Nat.le_of_ble_eq_true rfl), (Nat.le_of_ble_eq_true rfl)⟩ ⟨rfl, rfl⟩ ⟨(Nat.le_of_ble_eq_true rfl), (Nat.le_of_ble_eq_true rfl)⟩ (k := 5) rfl (by decide) cT.1 dX7_init_135 (Nat.le_of_ble_eq_true rfl) ?_
      refine ⟨_, _, rfl, cT, by rw [hct.1]; omega, by omega, ?_⟩
      refine r_iinc_1 (pc := 138) dX7_init_138 rfl ?_
      refine r_goto (pc := 141) (tgt := 116) dX7_init_141 (by decide) ?_
      refine ih _ (by omega) (i + 1) _ rfl (by omega) ⟨?_, by omega, fun j j0 j1 => ?_⟩ ?_ (fun h2 f2 => hQ h2 (fun x hx => by rw [f2 x hx, hr_n (by omega), hr_n (by omega)]))
      · rw [hr_s, up_s, hct.1]
      · rw [hr_n (by omega), hr_s, hct.1]
        by_cases e : j = i
        · rw [e, up_s]
        · rw [up_n e]; exact hct.2.2 j j0 (by omega)
      · rw [hr_n (by omega), hr_n (by omega)]; exact hsk
set_option maxHeartbeats 4000000 in
set_option maxRecDepth 20000 in
theorem x7_prs {E : EnT} {c a v N : Nat} {la : LyT} {ra : RfT} {ha : HpT} {Q : PstV} {lay : LyT} {r : RfT} {h : HpT} {N0 : Nat} (hN : N = N0 + 100) (hSx : SxE E a v) (hret : RetV E mX7_init N0 Q) (hI : I7 lay la r ra h ha c 5) (hQ : ∀ la ra ha, (∀ tx row, CI la ra ha c (fun i => c + 31 + 14 * i.toNat) 0 tx 1 (fun _ => m0d 9) (m0d 9) (plr (m0d 9)) (iSl 1 9 - 1) (fun _ => 0) (pb (plr (m0d 9))) 0 row) → (∀ x, x < c → la x = lay x ∧ ra x = r x ∧ ha x = h x) → Q N la ra ha) : St E mX7_init 104 [some (.ref c), some (vI 5)] [] (100, 10421) N la ra ha := by
  obtain ⟨hC, hp, hP, hz, fr⟩ := hI
  obtain ⟨cl0, cl6, ⟨cr0, cr1, cr2, cr3, cr4, cr5, cr6⟩, cT, cS, cP, cD, cE, cO⟩ := id hC
  refine r_aload_0 (pc := 104) dX7_init_104 ?_
  refine r_aload_0 (pc := 105) dX7_init_105 ?_
  refine gf_X7_25 (pc := 106) rfl cl0 dX7_init_106 cr2 ?_
  refine r_iconst (pc := 109) dX7_init_109 ?_
  refine r_aald (pc := 110) cl6 dX7_init_110 (by omega) (by omega) (hp 0 (by omega)) ?_
  refine pf_X7_51 (pc := 111) rfl cl0 dX7_init_111 ?_
  refine r_iconst (pc := 114) dX7_init_114 ?_
  refine r_istore_1 (pc := 115) dX7_init_115 rfl ?_
  have hC2 : CAt la (rr ra c (rup (ra c) 7 (some (c + 31 + 14 * 0)))) c := hC.r (fun x hx => rr_n (by omega)) (fun j hj => by rw [rr_s, rup_n hj])
  have hL2 : LtAt la (rr ra c (rup (ra c) 7 (some (c + 31 + 14 * 0)))) c (fun i => c + 31 + 14 * i.toNat) := by
    refine ⟨by rw [rr_s, rup_s]; rfl, fun i i0 i1 => ?_, fun i i0 i1 => ?_, fun i i0 i1 => (show c + 31 ≤ c + 31 + 14 * i.toNat ∧ c + 31 + 14 * i.toNat + 14 ≤ c + 101 by omega), fun i j i0 i1 j0 j1 hij => (show c + 31 + 14 * i.toNat + 14 ≤ c + 31 + 14 * j.toNat ∨ c + 31 + 14 * j.toNat + 14 ≤ c + 31 + 14 * i.toNat by omega)⟩
    · rw [rr_n (by omega)]
      have := hp i.toNat (by omega)
      rw [show ((i.toNat : Nat) : Int) = i by omega] at this
      exact this
    · exact (hP i.toNat (by omega)).r (rr_n (by omega)) (rr_n (by omega)) (rr_n (by omega))
  refine x7_txt (a := a) (v := v) (ha := ha) hN hSx hret hC2 hL2 _ 0 ha rfl (by omega) ⟨by rw [hz _ (by omega) (by omega) (by omega)], by omega, fun j j0 j1 => by omega⟩ ?_ (fun h2 f2 k2 => hQ _ _ _ k2 (fun x hx => ?_))
  · intro g n t _ _ _ _ _ _
    rw [hz _ (by omega) (by omega) (by omega)]
    exact Or.inl rfl
  · obtain ⟨a1, a2, a3⟩ := fr x hx
    exact ⟨a1, (rr_n (by omega)).trans a2, (f2 x hx).trans a3⟩
set_option maxHeartbeats 4000000 in
set_option maxRecDepth 20000 in
theorem x7_pln {E : EnT} {c : Nat} {la : LyT} {ra : RfT} {ha : HpT} {lay : LyT} {r : RfT} {h : HpT} {k : Nat} (hk : k < 5) (hI : I7 lay la r ra h ha c k) (K : ∀ la ra ha, I7 lay la r ra h ha c (k + 1) → St E mX7_init 80 [some (.ref c), some (vI ((k + 1 : Nat) : Int))] [] (30 + 14 * (k + 1), 9031 + 278 * (k + 1)) (c + 31 + 14 * (k + 1)) la ra ha) : St E mX7_init 80 [some (.ref c), some (vI (k : Int))] [] (30 + 14 * k, 9031 + 278 * k) (c + 31 + 14 * k) la ra ha := by
  obtain ⟨hC, hp, hP, hz, fr⟩ := hI
  obtain ⟨cl0, cl6, ⟨cr0, cr1, cr2, cr3, cr4, cr5, cr6⟩, cT, cS, cP, cD, cE, cO⟩ := id hC
  obtain ⟨P, hPe⟩ : ∃ P, c + 31 + 14 * k = P := ⟨_, rfl⟩
  refine r_iload_1 (pc := 80) dX7_init_80 ?_
  refine r_iconst (pc := 81) dX7_init_81 ?_
  refine r_icmp_ge (pc := 82) (tgt := 104) dX7_init_82 (by decide) (by omega) (by omega) (fun z => by omega) (fun z => ?_)
  refine r_aload_0 (pc := 85) dX7_init_85 ?_
  refine gf_X7_25 (pc := 86) rfl cl0 dX7_init_86 cr2 ?_
  refine r_iload_1 (pc := 89) dX7_init_89 ?_
  rw [hPe]
  refine nw_X3 (pc := 90) rfl dX7_init_90 (show 30 + 14 * k + 1 ≤ 100 by omega) (show 9031 + 278 * k + 12 ≤ 10421 by omega) ?_
  refine r_dupA (pc := 93) dX7_init_93 ?_
  refine rc_INV (pc := 94) c_X3_init lk_X7_29 ⟨(Nat.le_of_ble_eq_true rfl), (Nat.le_of_ble_eq_true rfl)⟩ ⟨show 30 + 14 * k + 1 + 13 ≤ 100 by omega, show 9031 + 278 * k + 12 + 266 ≤ 10421 by omega⟩ dX7_init_94 (As := []) (rest := [.ref P, vI (k : Int), .ref (c + 6)]) rfl rfl (Nat.le_of_ble_eq_true rfl) ?_
  refine ⟨P, rfl, rfl, lyp_s, hr_s, fun lb rb hb hX fx zx => ?_⟩
  have g : ∀ x, x < P → lb x = la x ∧ rb x = ra x ∧ hb x = ha x := fun x hx => ⟨(fx x hx).1.trans (lyp_n (by omega)), (fx x hx).2.1.trans (rr_n (by omega)), (fx x hx).2.2.trans (hr_n (by omega))⟩
  refine r_aast (pc := 97) (show lb (c + 6) = (13, 5) from (g _ (by omega)).1.trans cl6) hX.1 dX7_init_97 (by omega) (by omega) ?_
  refine r_iinc_1 (pc := 98) dX7_init_98 rfl ?_
  refine r_goto (pc := 101) (tgt := 80) dX7_init_101 (by decide) ?_
  have e6 : rb (c + 6) = ra (c + 6) := (g _ (by omega)).2.1
  have sm : ∀ (n x : Nat), (c + 6 < x ∨ x + n ≤ c + 6) → x + n ≤ P → Sm n x la lb ra (rr rb (c + 6) (rup (rb (c + 6)) (k : Int) (some P))) := fun n x h1 h2 y y0 y1 => ⟨(g y (by omega)).1, (rr_n (by omega)).trans (g y (by omega)).2.1⟩
  have rc : rr rb (c + 6) (rup (rb (c + 6)) (k : Int) (some P)) c = ra c := (rr_n (by omega)).trans (g c (by omega)).2.1
  have hC2 : CAt lb (rr rb (c + 6) (rup (rb (c + 6)) (k : Int) (some P))) c := ⟨(g c (by omega)).1.trans cl0, (g _ (by omega)).1.trans cl6, by rw [rc]; exact ⟨cr0, cr1, cr2, cr3, cr4, cr5, cr6⟩, cT.m (sm _ _ (by omega) (by omega)), cS.m (sm _ _ (by omega) (by omega)), cP.m (sm _ _ (by omega) (by omega)), cD.m (sm _ _ (by omega) (by omega)), cE.m (sm _ _ (by omega) (by omega)), cO.m (sm _ _ (by omega) (by omega))⟩
  have hI2 : I7 lay lb r (rr rb (c + 6) (rup (rb (c + 6)) (k : Int) (some P))) h hb c (k + 1) := by
    refine ⟨hC2, fun i hi => ?_, fun i hi => ?_, fun x x0 x1 x6 => ?_, fun x hx => ?_⟩
    · rw [rr_s]
      by_cases e : i = k
      · rw [e, rup_s, hPe]
      · rw [rup_n (by omega), e6]; exact hp i (by omega)
    · by_cases e : i = k
      · rw [e, hPe]; exact hX.r (rr_n (by omega)) (rr_n (by omega)) (rr_n (by omega))
      · exact (hP i (by omega)).m (sm _ _ (by omega) (by omega))
    · by_cases e : x < P
      · exact (g x e).2.2.trans (hz x x0 (by omega) x6)
      · exact zx x (by omega) (by omega)
    · obtain ⟨a1, a2, a3⟩ := fr x hx
      exact ⟨(g x (by omega)).1.trans a1, ((rr_n (by omega)).trans (g x (by omega)).2.1).trans a2, (g x (by omega)).2.2.trans a3⟩
  have K2 := K lb _ hb hI2
  rw [show c + 31 + 14 * (k + 1) = P + 14 by omega] at K2
  exact K2
set_option maxHeartbeats 4000000 in
set_option maxRecDepth 20000 in
theorem x7_head {E : EnT} {c : Nat} {lay : LyT} {r : RfT} {h : HpT} (hl0 : lay c = (8, 0)) (h0 : h c = (fun _ => 0)) (K : ∀ la ra ha, I7 lay la r ra h ha c 0 → St E mX7_init 80 [some (.ref c), some (vI 0)] [] (30, 9031) (c + 31) la ra ha) : St E mX7_init 0 [some (.ref c), none] [] (0, 0) (c + 1) lay r h := by
  refine r_aload_0 (pc := 0) dX7_init_0 ?_
  refine r_objInit (pc := 1) (inT 89 (by decide +kernel) rfl) dX7_init_1 (Nat.le_of_ble_eq_true rfl) (Nat.le_of_ble_eq_true rfl) ?_
  have hz : ∀ x, c ≤ x → x < c + 1 → x ≠ c + 6 → h x = fun _ => 0 := fun x x0 x1 _ => by rw [show x = c by omega]; exact h0
  have fr : ∀ x, x < c → lay x = lay x ∧ r x = r x ∧ h x = h x := fun _ _ => ⟨rfl, rfl, rfl⟩
  have l0 := hl0
  refine r_aload_0 (pc := 4) dX7_init_4 ?_
  refine nw_X5 (pc := 5) rfl dX7_init_5 (Nat.le_of_ble_eq_true rfl) (Nat.le_of_ble_eq_true rfl) ?_
  refine r_dupA (pc := 8) dX7_init_8 ?_
  refine rc_INV (pc := 9) c_X5_init lk_X7_9 ⟨(Nat.le_of_ble_eq_true rfl), (Nat.le_of_ble_eq_true rfl)⟩ ⟨(Nat.le_of_ble_eq_true rfl), (Nat.le_of_ble_eq_true rfl)⟩ dX7_init_9 (As := []) (rest := [.ref (c + 1), .ref c]) rfl rfl (Nat.le_of_ble_eq_true rfl) ?_
  refine ⟨c + 1, rfl, rfl, lyp_s, hr_s, fun lb rb hb hX fx zx => ?_⟩
  refine pf_X7_10 (pc := 12) rfl rfl (show lb c = (8, 0) from (fx c (by omega)).1.trans ((lyp_n (by omega)).trans l0)) dX7_init_12 ?_
  have s0 : NewP c (c + 1) (c + 4) 0 lay lb r (rr rb c (rup (rb c) 0 (some (c + 1)))) h hb := NewP.of (by omega) fx zx
  show St E mX7_init 15 [some (.ref c), none] [] (3, 207) (c + 4) lb (rr rb c (rup (rb c) 0 (some (c + 1)))) hb
  have n_l0 : lb c = (8, 0) := (s0.1 c (by omega)).trans l0
  have n_f0 : (rr rb c (rup (rb c) 0 (some (c + 1)))) c 0 = some (c + 1) := s0.rs
  have n_hT : TxAt lb (rr rb c (rup (rb c) 0 (some (c + 1)))) (c + 1) := hX.r (rr_n (by omega))
  have n_hz : ∀ x, c ≤ x → x < c + 4 → x ≠ c + 6 → hb x = fun _ => 0 := s0.z hz
  have n_fr : ∀ x, x < c → lb x = lay x ∧ (rr rb c (rup (rb c) 0 (some (c + 1)))) x = r x ∧ hb x = h x := s0.f (by omega) fr
  revert n_l0 n_f0 n_hT n_hz n_fr
  clear l0 hz fr s0 hX fx zx
  generalize (rr rb c (rup (rb c) 0 (some (c + 1)))) = ra0
  generalize lb = la0
  generalize hb = ha0
  intro l0 f0 hT hz fr
  refine r_aload_0 (pc := 15) dX7_init_15 ?_
  refine nw_X4 (pc := 16) rfl dX7_init_16 (Nat.le_of_ble_eq_true rfl) (Nat.le_of_ble_eq_true rfl) ?_
  refine r_dupA (pc := 19) dX7_init_19 ?_
  refine rc_INV (pc := 20) c_X4_init lk_X7_18 ⟨(Nat.le_of_ble_eq_true rfl), (Nat.le_of_ble_eq_true rfl)⟩ ⟨(Nat.le_of_ble_eq_true rfl), (Nat.le_of_ble_eq_true rfl)⟩ dX7_init_20 (As := []) (rest := [.ref (c + 4), .ref c]) rfl rfl (Nat.le_of_ble_eq_true rfl) ?_
  refine ⟨c + 4, rfl, rfl, lyp_s, hr_s, fun lb rb hb hX fx zx => ?_⟩
  refine pf_X7_19 (pc := 23) rfl rfl (show lb c = (8, 0) from (fx c (by omega)).1.trans ((lyp_n (by omega)).trans l0)) dX7_init_23 ?_
  have s1 : NewP c (c + 4) (c + 6) 1 la0 lb ra0 (rr rb c (rup (rb c) 1 (some (c + 4)))) ha0 hb := NewP.of (by omega) fx zx
  show St E mX7_init 26 [some (.ref c), none] [] (5, 8656) (c + 6) lb (rr rb c (rup (rb c) 1 (some (c + 4)))) hb
  have n_l0 : lb c = (8, 0) := (s1.1 c (by omega)).trans l0
  have n_hT : TxAt lb (rr rb c (rup (rb c) 1 (some (c + 4)))) (c + 1) := hT.m (s1.sm (by omega) (by omega))
  have n_f0 : (rr rb c (rup (rb c) 1 (some (c + 4)))) c 0 = some (c + 1) := s1.rf (by decide) f0
  have n_f1 : (rr rb c (rup (rb c) 1 (some (c + 4)))) c 1 = some (c + 4) := s1.rs
  have n_hS : StAt lb (rr rb c (rup (rb c) 1 (some (c + 4)))) (c + 4) := hX.r (rr_n (by omega))
  have n_hz : ∀ x, c ≤ x → x < c + 6 → x ≠ c + 6 → hb x = fun _ => 0 := s1.z hz
  have n_fr : ∀ x, x < c → lb x = lay x ∧ (rr rb c (rup (rb c) 1 (some (c + 4)))) x = r x ∧ hb x = h x := s1.f (by omega) fr
  revert n_l0 n_hT n_f0 n_f1 n_hS n_hz n_fr
  clear l0 hT f0 hz fr s1 hX fx zx
  generalize (rr rb c (rup (rb c) 1 (some (c + 4)))) = ra1
  generalize lb = la1
  generalize hb = ha1
  intro l0 hT f0 f1 hS hz fr
  refine r_aload_0 (pc := 26) dX7_init_26 ?_
  refine r_iconst (pc := 27) dX7_init_27 ?_
  refine r_anew (pc := 28) rfl dX7_init_28 (Nat.le_of_ble_eq_true rfl) (Nat.le_of_ble_eq_true rfl) ?_
  refine pf_X7_25 (pc := 31) rfl rfl (show lyp la1 (c + 6) (13, 5) c = (8, 0) from (lyp_n (by omega)).trans l0) dX7_init_31 ?_
  have s2 : NewP c (c + 6) (c + 7) 2 la1 (lyp la1 (c + 6) (13, 5)) ra1 (rr (rr ra1 (c + 6) (fun _ => none)) c (rup ((rr ra1 (c + 6) (fun _ => none)) c) 2 (some (c + 6)))) ha1 ha1 := by
    refine ⟨fun x hx => lyp_n (by omega), fun x hx hn => (rr_n hn).trans (rr_n (by omega)), by rw [rr_s, rr_n (by omega)], fun _ _ => rfl, fun x x0 x1 x6 => absurd (show x = c + 6 by omega) x6⟩
  show St E mX7_init 34 [some (.ref c), none] [] (6, 8661) (c + 7) (lyp la1 (c + 6) (13, 5)) (rr (rr ra1 (c + 6) (fun _ => none)) c (rup ((rr ra1 (c + 6) (fun _ => none)) c) 2 (some (c + 6)))) ha1
  have n_l0 : (lyp la1 (c + 6) (13, 5)) c = (8, 0) := (s2.1 c (by omega)).trans l0
  have n_hT : TxAt (lyp la1 (c + 6) (13, 5)) (rr (rr ra1 (c + 6) (fun _ => none)) c (rup ((rr ra1 (c + 6) (fun _ => none)) c) 2 (some (c + 6)))) (c + 1) := hT.m (s2.sm (by omega) (by omega))
  have n_hS : StAt (lyp la1 (c + 6) (13, 5)) (rr (rr ra1 (c + 6) (fun _ => none)) c (rup ((rr ra1 (c + 6) (fun _ => none)) c) 2 (some (c + 6)))) (c + 4) := hS.m (s2.sm (by omega) (by omega))
  have n_f0 : (rr (rr ra1 (c + 6) (fun _ => none)) c (rup ((rr ra1 (c + 6) (fun _ => none)) c) 2 (some (c + 6)))) c 0 = some (c + 1) := s2.rf (by decide) f0
  have n_f1 : (rr (rr ra1 (c + 6) (fun _ => none)) c (rup ((rr ra1 (c + 6) (fun _ => none)) c) 2 (some (c + 6)))) c 1 = some (c + 4) := s2.rf (by decide) f1
  have n_f2 : (rr (rr ra1 (c + 6) (fun _ => none)) c (rup ((rr ra1 (c + 6) (fun _ => none)) c) 2 (some (c + 6)))) c 2 = some (c + 6) := s2.rs
  have n_l6 : (lyp la1 (c + 6) (13, 5)) (c + 6) = (13, 5) := lyp_s
  have n_hz : ∀ x, c ≤ x → x < c + 7 → x ≠ c + 6 → ha1 x = fun _ => 0 := s2.z hz
  have n_fr : ∀ x, x < c → (lyp la1 (c + 6) (13, 5)) x = lay x ∧ (rr (rr ra1 (c + 6) (fun _ => none)) c (rup ((rr ra1 (c + 6) (fun _ => none)) c) 2 (some (c + 6)))) x = r x ∧ ha1 x = h x := s2.f (by omega) fr
  revert n_l0 n_hT n_hS n_f0 n_f1 n_f2 n_l6 n_hz n_fr
  clear l0 hT hS f0 f1 hz fr s2
  generalize (rr (rr ra1 (c + 6) (fun _ => none)) c (rup ((rr ra1 (c + 6) (fun _ => none)) c) 2 (some (c + 6)))) = ra2
  generalize (lyp la1 (c + 6) (13, 5)) = la2
  intro l0 hT hS f0 f1 f2 l6 hz fr
  refine r_aload_0 (pc := 34) dX7_init_34 ?_
  refine nw_X3 (pc := 35) rfl dX7_init_35 (Nat.le_of_ble_eq_true rfl) (Nat.le_of_ble_eq_true rfl) ?_
  refine r_dupA (pc := 38) dX7_init_38 ?_
  refine rc_INV (pc := 39) c_X3_init lk_X7_29 ⟨(Nat.le_of_ble_eq_true rfl), (Nat.le_of_ble_eq_true rfl)⟩ ⟨(Nat.le_of_ble_eq_true rfl), (Nat.le_of_ble_eq_true rfl)⟩ dX7_init_39 (As := []) (rest := [.ref (c + 7), .ref c]) rfl rfl (Nat.le_of_ble_eq_true rfl) ?_
  refine ⟨c + 7, rfl, rfl, lyp_s, hr_s, fun lb rb hb hX fx zx => ?_⟩
  refine pf_X7_30 (pc := 42) rfl rfl (show lb c = (8, 0) from (fx c (by omega)).1.trans ((lyp_n (by omega)).trans l0)) dX7_init_42 ?_
  have s3 : NewP c (c + 7) (c + 21) 3 la2 lb ra2 (rr rb c (rup (rb c) 3 (some (c + 7)))) ha1 hb := NewP.of (by omega) fx zx
  show St E mX7_init 45 [some (.ref c), none] [] (20, 8939) (c + 21) lb (rr rb c (rup (rb c) 3 (some (c + 7)))) hb
  have n_l0 : lb c = (8, 0) := (s3.1 c (by omega)).trans l0
  have n_hT : TxAt lb (rr rb c (rup (rb c) 3 (some (c + 7)))) (c + 1) := hT.m (s3.sm (by omega) (by omega))
  have n_hS : StAt lb (rr rb c (rup (rb c) 3 (some (c + 7)))) (c + 4) := hS.m (s3.sm (by omega) (by omega))
  have n_l6 : lb (c + 6) = (13, 5) := (s3.1 _ (by omega)).trans l6
  have n_f0 : (rr rb c (rup (rb c) 3 (some (c + 7)))) c 0 = some (c + 1) := s3.rf (by decide) f0
  have n_f1 : (rr rb c (rup (rb c) 3 (some (c + 7)))) c 1 = some (c + 4) := s3.rf (by decide) f1
  have n_f2 : (rr rb c (rup (rb c) 3 (some (c + 7)))) c 2 = some (c + 6) := s3.rf (by decide) f2
  have n_f3 : (rr rb c (rup (rb c) 3 (some (c + 7)))) c 3 = some (c + 7) := s3.rs
  have n_hP : PlAt lb (rr rb c (rup (rb c) 3 (some (c + 7)))) (c + 7) := hX.r (rr_n (by omega)) (rr_n (by omega)) (rr_n (by omega))
  have n_hz : ∀ x, c ≤ x → x < c + 21 → x ≠ c + 6 → hb x = fun _ => 0 := s3.z hz
  have n_fr : ∀ x, x < c → lb x = lay x ∧ (rr rb c (rup (rb c) 3 (some (c + 7)))) x = r x ∧ hb x = h x := s3.f (by omega) fr
  revert n_l0 n_hT n_hS n_l6 n_f0 n_f1 n_f2 n_f3 n_hP n_hz n_fr
  clear l0 hT hS l6 f0 f1 f2 hz fr s3 hX fx zx
  generalize (rr rb c (rup (rb c) 3 (some (c + 7)))) = ra3
  generalize lb = la3
  generalize hb = ha3
  intro l0 hT hS l6 f0 f1 f2 f3 hP hz fr
  refine r_aload_0 (pc := 45) dX7_init_45 ?_
  refine nw_X0 (pc := 46) rfl dX7_init_46 (Nat.le_of_ble_eq_true rfl) (Nat.le_of_ble_eq_true rfl) ?_
  refine r_dupA (pc := 49) dX7_init_49 ?_
  refine rc_INV (pc := 50) c_X0_init lk_X7_36 ⟨(Nat.le_of_ble_eq_true rfl), (Nat.le_of_ble_eq_true rfl)⟩ ⟨(Nat.le_of_ble_eq_true rfl), (Nat.le_of_ble_eq_true rfl)⟩ dX7_init_50 (As := []) (rest := [.ref (c + 21), .ref c]) rfl rfl (Nat.le_of_ble_eq_true rfl) ?_
  refine ⟨c + 21, rfl, rfl, lyp_s, hr_s, fun lb rb hb hX fx zx => ?_⟩
  refine pf_X7_37 (pc := 53) rfl rfl (show lb c = (8, 0) from (fx c (by omega)).1.trans ((lyp_n (by omega)).trans l0)) dX7_init_53 ?_
  have s4 : NewP c (c + 21) (c + 24) 4 la3 lb ra3 (rr rb c (rup (rb c) 4 (some (c + 21)))) ha3 hb := NewP.of (by omega) fx zx
  show St E mX7_init 56 [some (.ref c), none] [] (23, 8974) (c + 24) lb (rr rb c (rup (rb c) 4 (some (c + 21)))) hb
  have n_l0 : lb c = (8, 0) := (s4.1 c (by omega)).trans l0
  have n_hT : TxAt lb (rr rb c (rup (rb c) 4 (some (c + 21)))) (c + 1) := hT.m (s4.sm (by omega) (by omega))
  have n_hS : StAt lb (rr rb c (rup (rb c) 4 (some (c + 21)))) (c + 4) := hS.m (s4.sm (by omega) (by omega))
  have n_l6 : lb (c + 6) = (13, 5) := (s4.1 _ (by omega)).trans l6
  have n_hP : PlAt lb (rr rb c (rup (rb c) 4 (some (c + 21)))) (c + 7) := hP.m (s4.sm (by omega) (by omega))
  have n_f0 : (rr rb c (rup (rb c) 4 (some (c + 21)))) c 0 = some (c + 1) := s4.rf (by decide) f0
  have n_f1 : (rr rb c (rup (rb c) 4 (some (c + 21)))) c 1 = some (c + 4) := s4.rf (by decide) f1
  have n_f2 : (rr rb c (rup (rb c) 4 (some (c + 21)))) c 2 = some (c + 6) := s4.rf (by decide) f2
  have n_f3 : (rr rb c (rup (rb c) 4 (some (c + 21)))) c 3 = some (c + 7) := s4.rf (by decide) f3
  have n_f4 : (rr rb c (rup (rb c) 4 (some (c + 21)))) c 4 = some (c + 21) := s4.rs
  have n_hD : DaAt lb (rr rb c (rup (rb c) 4 (some (c + 21)))) (c + 21) := hX.r (rr_n (by omega))
  have n_hz : ∀ x, c ≤ x → x < c + 24 → x ≠ c + 6 → hb x = fun _ => 0 := s4.z hz
  have n_fr : ∀ x, x < c → lb x = lay x ∧ (rr rb c (rup (rb c) 4 (some (c + 21)))) x = r x ∧ hb x = h x := s4.f (by omega) fr
  revert n_l0 n_hT n_hS n_l6 n_hP n_f0 n_f1 n_f2 n_f3 n_f4 n_hD n_hz n_fr
  clear l0 hT hS l6 hP f0 f1 f2 f3 hz fr s4 hX fx zx
  generalize (rr rb c (rup (rb c) 4 (some (c + 21)))) = ra4
  generalize lb = la4
  generalize hb = ha4
  intro l0 hT hS l6 hP f0 f1 f2 f3 f4 hD hz fr
  refine r_aload_0 (pc := 56) dX7_init_56 ?_
  refine nw_X0 (pc := 57) rfl dX7_init_57 (Nat.le_of_ble_eq_true rfl) (Nat.le_of_ble_eq_true rfl) ?_
  refine r_dupA (pc := 60) dX7_init_60 ?_
  refine rc_INV (pc := 61) c_X0_init lk_X7_36 ⟨(Nat.le_of_ble_eq_true rfl), (Nat.le_of_ble_eq_true rfl)⟩ ⟨(Nat.le_of_ble_eq_true rfl), (Nat.le_of_ble_eq_true rfl)⟩ dX7_init_61 (As := []) (rest := [.ref (c + 24), .ref c]) rfl rfl (Nat.le_of_ble_eq_true rfl) ?_
  refine ⟨c + 24, rfl, rfl, lyp_s, hr_s, fun lb rb hb hX fx zx => ?_⟩
  refine pf_X7_41 (pc := 64) rfl rfl (show lb c = (8, 0) from (fx c (by omega)).1.trans ((lyp_n (by omega)).trans l0)) dX7_init_64 ?_
  have s5 : NewP c (c + 24) (c + 27) 5 la4 lb ra4 (rr rb c (rup (rb c) 5 (some (c + 24)))) ha4 hb := NewP.of (by omega) fx zx
  show St E mX7_init 67 [some (.ref c), none] [] (26, 9009) (c + 27) lb (rr rb c (rup (rb c) 5 (some (c + 24)))) hb
  have n_l0 : lb c = (8, 0) := (s5.1 c (by omega)).trans l0
  have n_hT : TxAt lb (rr rb c (rup (rb c) 5 (some (c + 24)))) (c + 1) := hT.m (s5.sm (by omega) (by omega))
  have n_hS : StAt lb (rr rb c (rup (rb c) 5 (some (c + 24)))) (c + 4) := hS.m (s5.sm (by omega) (by omega))
  have n_l6 : lb (c + 6) = (13, 5) := (s5.1 _ (by omega)).trans l6
  have n_hP : PlAt lb (rr rb c (rup (rb c) 5 (some (c + 24)))) (c + 7) := hP.m (s5.sm (by omega) (by omega))
  have n_hD : DaAt lb (rr rb c (rup (rb c) 5 (some (c + 24)))) (c + 21) := hD.m (s5.sm (by omega) (by omega))
  have n_f0 : (rr rb c (rup (rb c) 5 (some (c + 24)))) c 0 = some (c + 1) := s5.rf (by decide) f0
  have n_f1 : (rr rb c (rup (rb c) 5 (some (c + 24)))) c 1 = some (c + 4) := s5.rf (by decide) f1
  have n_f2 : (rr rb c (rup (rb c) 5 (some (c + 24)))) c 2 = some (c + 6) := s5.rf (by decide) f2
  have n_f3 : (rr rb c (rup (rb c) 5 (some (c + 24)))) c 3 = some (c + 7) := s5.rf (by decide) f3
  have n_f4 : (rr rb c (rup (rb c) 5 (some (c + 24)))) c 4 = some (c + 21) := s5.rf (by decide) f4
  have n_f5 : (rr rb c (rup (rb c) 5 (some (c + 24)))) c 5 = some (c + 24) := s5.rs
  have n_hE : DaAt lb (rr rb c (rup (rb c) 5 (some (c + 24)))) (c + 24) := hX.r (rr_n (by omega))
  have n_hz : ∀ x, c ≤ x → x < c + 27 → x ≠ c + 6 → hb x = fun _ => 0 := s5.z hz
  have n_fr : ∀ x, x < c → lb x = lay x ∧ (rr rb c (rup (rb c) 5 (some (c + 24)))) x = r x ∧ hb x = h x := s5.f (by omega) fr
  revert n_l0 n_hT n_hS n_l6 n_hP n_hD n_f0 n_f1 n_f2 n_f3 n_f4 n_f5 n_hE n_hz n_fr
  clear l0 hT hS l6 hP hD f0 f1 f2 f3 f4 hz fr s5 hX fx zx
  generalize (rr rb c (rup (rb c) 5 (some (c + 24)))) = ra5
  generalize lb = la5
  generalize hb = ha5
  intro l0 hT hS l6 hP hD f0 f1 f2 f3 f4 f5 hE hz fr
  refine r_aload_0 (pc := 67) dX7_init_67 ?_
  refine nw_X2 (pc := 68) rfl dX7_init_68 (Nat.le_of_ble_eq_true rfl) (Nat.le_of_ble_eq_true rfl) ?_
  refine r_dupA (pc := 71) dX7_init_71 ?_
  refine rc_INV (pc := 72) c_X2_init lk_X7_46 ⟨(Nat.le_of_ble_eq_true rfl), (Nat.le_of_ble_eq_true rfl)⟩ ⟨(Nat.le_of_ble_eq_true rfl), (Nat.le_of_ble_eq_true rfl)⟩ dX7_init_72 (As := []) (rest := [.ref (c + 27), .ref c]) rfl rfl (Nat.le_of_ble_eq_true rfl) ?_
  refine ⟨c + 27, rfl, rfl, lyp_s, hr_s, fun lb rb hb hX fx zx => ?_⟩
  refine pf_X7_47 (pc := 75) rfl rfl (show lb c = (8, 0) from (fx c (by omega)).1.trans ((lyp_n (by omega)).trans l0)) dX7_init_75 ?_
  have s6 : NewP c (c + 27) (c + 31) 6 la5 lb ra5 (rr rb c (rup (rb c) 6 (some (c + 27)))) ha5 hb := NewP.of (by omega) fx zx
  show St E mX7_init 78 [some (.ref c), none] [] (30, 9031) (c + 31) lb (rr rb c (rup (rb c) 6 (some (c + 27)))) hb
  have n_l0 : lb c = (8, 0) := (s6.1 c (by omega)).trans l0
  have n_hT : TxAt lb (rr rb c (rup (rb c) 6 (some (c + 27)))) (c + 1) := hT.m (s6.sm (by omega) (by omega))
  have n_hS : StAt lb (rr rb c (rup (rb c) 6 (some (c + 27)))) (c + 4) := hS.m (s6.sm (by omega) (by omega))
  have n_l6 : lb (c + 6) = (13, 5) := (s6.1 _ (by omega)).trans l6
  have n_hP : PlAt lb (rr rb c (rup (rb c) 6 (some (c + 27)))) (c + 7) := hP.m (s6.sm (by omega) (by omega))
  have n_hD : DaAt lb (rr rb c (rup (rb c) 6 (some (c + 27)))) (c + 21) := hD.m (s6.sm (by omega) (by omega))
  have n_hE : DaAt lb (rr rb c (rup (rb c) 6 (some (c + 27)))) (c + 24) := hE.m (s6.sm (by omega) (by omega))
  have n_f0 : (rr rb c (rup (rb c) 6 (some (c + 27)))) c 0 = some (c + 1) := s6.rf (by decide) f0
  have n_f1 : (rr rb c (rup (rb c) 6 (some (c + 27)))) c 1 = some (c + 4) := s6.rf (by decide) f1
  have n_f2 : (rr rb c (rup (rb c) 6 (some (c + 27)))) c 2 = some (c + 6) := s6.rf (by decide) f2
  have n_f3 : (rr rb c (rup (rb c) 6 (some (c + 27)))) c 3 = some (c + 7) := s6.rf (by decide) f3
  have n_f4 : (rr rb c (rup (rb c) 6 (some (c + 27)))) c 4 = some (c + 21) := s6.rf (by decide) f4
  have n_f5 : (rr rb c (rup (rb c) 6 (some (c + 27)))) c 5 = some (c + 24) := s6.rf (by decide) f5
  have n_f6 : (rr rb c (rup (rb c) 6 (some (c + 27)))) c 6 = some (c + 27) := s6.rs
  have n_hO : ObAt lb (rr rb c (rup (rb c) 6 (some (c + 27)))) (c + 27) := hX.r (rr_n (by omega))
  have n_hz : ∀ x, c ≤ x → x < c + 31 → x ≠ c + 6 → hb x = fun _ => 0 := s6.z hz
  have n_fr : ∀ x, x < c → lb x = lay x ∧ (rr rb c (rup (rb c) 6 (some (c + 27)))) x = r x ∧ hb x = h x := s6.f (by omega) fr
  revert n_l0 n_hT n_hS n_l6 n_hP n_hD n_hE n_f0 n_f1 n_f2 n_f3 n_f4 n_f5 n_f6 n_hO n_hz n_fr
  clear l0 hT hS l6 hP hD hE f0 f1 f2 f3 f4 f5 hz fr s6 hX fx zx
  generalize (rr rb c (rup (rb c) 6 (some (c + 27)))) = ra6
  generalize lb = la6
  generalize hb = ha6
  intro l0 hT hS l6 hP hD hE f0 f1 f2 f3 f4 f5 f6 hO hz fr
  refine r_iconst (pc := 78) dX7_init_78 ?_
  refine r_istore_1 (pc := 79) dX7_init_79 rfl ?_
  exact K la6 ra6 ha6 ⟨⟨l0, l6, ⟨f0, f1, f2, f3, f4, f5, f6⟩, hT, hS, hP, hD, hE, hO⟩, fun i hi => absurd hi (by omega), fun i hi => absurd hi (by omega), hz, fr⟩
theorem x_X7_init : ConXV mX7_init (fun a v args N lay r h Q => ∃ (c : Nat), args = [.ref c] ∧ N = c + 1 ∧ lay c = (8, 0) ∧ h c = (fun _ => 0) ∧ ∀ (la : LyT) (ra : RfT) (ha : HpT), (∀ (tx row : Int → Int), CI la ra ha c (fun i => c + 31 + 14 * i.toNat) 0 tx 1 (fun _ => m0d 9) (m0d 9) (plr (m0d 9)) (iSl 1 9 - 1) (fun _ => 0) (pb (plr (m0d 9))) 0 row) → (∀ x, x < c → la x = lay x ∧ ra x = r x ∧ ha x = h x) → Q (c + 101) la ra ha) := by
  refine ConXV.of (by decide) (by rintro a v _ N lay r h Q ⟨c, rfl, rfl, hl0, h0, hQ⟩; exact ⟨rfl, Nat.le_of_ble_eq_true rfl⟩) ?_
  rintro E a v _ N lay r h Q ⟨c, rfl, rfl, hl0, h0, hQ⟩ hSx hret
  show St E mX7_init 0 [some (.ref c), none] [] (0, 0) (c + 1) lay r h
  refine x7_head hl0 h0 (fun la0 ra0 ha0 i0 => ?_)
  refine x7_pln (k := 0) (by omega) i0 (fun la1 ra1 ha1 i1 => ?_)
  refine x7_pln (k := 1) (by omega) i1 (fun la2 ra2 ha2 i2 => ?_)
  refine x7_pln (k := 2) (by omega) i2 (fun la3 ra3 ha3 i3 => ?_)
  refine x7_pln (k := 3) (by omega) i3 (fun la4 ra4 ha4 i4 => ?_)
  refine x7_pln (k := 4) (by omega) i4 (fun la5 ra5 ha5 i5 => ?_)
  show St E mX7_init 80 [some (.ref c), some (vI 5)] [] (100, 10421) (c + 101) la5 ra5 ha5
  refine r_iload_1 (pc := 80) dX7_init_80 ?_
  refine r_iconst (pc := 81) dX7_init_81 ?_
  refine r_icmp_ge (pc := 82) (tgt := 104) dX7_init_82 (by decide) (by omega) (by omega) (fun z => ?_) (fun z => by omega)
  exact x7_prs (by omega) hSx hret i5 hQ
