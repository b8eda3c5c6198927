/-! THE TEXT of the class: what an item does to a plan -/
theorem PRl.cg {h : HpT} {p : Nat} {mp mp' : Int → Int} (hL : PRl h p mp) (e : ∀ j, 44 ≤ j → j < 136 → j ≠ 128 → j ≠ 129 → mp' j = mp j) (t3 : 0 ≤ mp 130 ∧ mp 130 ≤ 12) (r5 : 0 ≤ mp 135 ∧ mp 135 ≤ 6) : PRl h p mp' := by
  obtain ⟨⟨rl5, rl6, rl7, rl8⟩, rfu, rca, rre, rnu, rdv⟩ := hL
  have e0 := e 130 (by omega) (by omega) (by omega) (by omega)
  have e5 := e 135 (by omega) (by omega) (by omega) (by omega)
  refine ⟨⟨by rw [e 131 (by omega) (by omega) (by omega) (by omega)]; exact rl5, by rw [e 132 (by omega) (by omega) (by omega) (by omega)]; exact rl6, by rw [e 133 (by omega) (by omega) (by omega) (by omega)]; exact rl7, by rw [e 134 (by omega) (by omega) (by omega) (by omega)]; exact rl8⟩, ⟨rfu.1, fun k => ?_⟩, fun d d0 d1 => ?_, fun d d0 d1 => ?_, by rw [e5]; exact rnu, fun i i0 i1 => ?_⟩
  · rw [rfu.2 k, e0]
    by_cases z : (k : Int) < mp 130
    · rw [e (88 + (10 + (k : Int))) (by omega) (by omega) (by omega) (by omega)]
    · rw [decide_eq_false (fun y => z y.1), decide_eq_false (fun y => z y.1)]
  · rw [e0] at d1
    rw [e _ (by omega) (by omega) (by omega) (by omega)]; exact rca d d0 d1
  · rw [e0] at d1
    rw [e _ (by omega) (by omega) (by omega) (by omega)]; exact rre d d0 d1
  · rw [e5] at i1
    rw [e _ (by omega) (by omega) (by omega) (by omega), e _ (by omega) (by omega) (by omega) (by omega), e _ (by omega) (by omega) (by omega) (by omega)]; exact rdv i i0 i1
theorem PTr.cg {h : HpT} {p : Nat} {mp mp' : Int → Int} (hN : PTr h p mp) (e : ∀ j, 0 ≤ j → j < 44 ∨ (128 ≤ j ∧ j ≤ 130) → mp' j = mp j) (hT : TrM mp) : PTr h p mp' := by
  obtain ⟨⟨n0, n1, n2⟩, up1, up2, uw, u0, uh⟩ := hN
  obtain ⟨t1, t2, t3, t4, t5, t6, t7⟩ := hT
  have e8 := e 128 (by omega) (by omega)
  have e9 := e 129 (by omega) (by omega)
  have e0 := e 130 (by omega) (by omega)
  refine ⟨⟨by rw [e8]; exact n0, by rw [e9]; exact n1, by rw [e0]; exact n2⟩, fun n q0 q1 => ?_, fun n q0 q1 => ?_, fun n q0 q1 => ?_, u0, fun n q0 q1 => uh n q0 (by omega)⟩
  · rw [e _ (by omega) (by omega)]; exact up1 n q0 (by omega)
  · rw [e _ (by omega) (by omega)]; exact up2 n q0 (by omega)
  · rw [e _ (by omega) (by omega)]; exact uw n q0 (by omega)
theorem PTr_hall {h : HpT} {p : Nat} {mp : Int → Int} (hT : TrM mp) (hN : PTr h p mp) (h3 : mp 128 < 3) : PTr (hr (hr h (p + 2) (up (h (p + 2)) (1 + h (p + 1) 0) 0)) (p + 1) (up (h (p + 1)) 0 (h (p + 1) 0 + 1))) p (up mp 128 (mp 128 + 1)) := by
  obtain ⟨⟨n0, n1, n2⟩, up1, up2, uw, u0, uh⟩ := hN
  obtain ⟨t1, t2, t3, t4, t5, t6, t7⟩ := hT
  have e : ∀ j, j ≠ 128 → up mp 128 (mp 128 + 1) j = mp j := fun j hj => up_n hj
  have e8 : up mp 128 (mp 128 + 1) 128 = mp 128 + 1 := up_s
  have e9 := e 129 (by omega)
  have e0 := e 130 (by omega)
  refine ⟨⟨by rw [hr_s, up_s, up_s, n0], by rw [hr_s, up_n (by omega), e9]; exact n1, by rw [hr_s, up_n (by omega), e0]; exact n2⟩, fun n q0 q1 => ?_, fun n q0 q1 => ?_, fun n q0 q1 => ?_, ?_, fun n q0 q1 => ?_⟩
  · rw [hr_n (by omega), hr_s, up_n (by omega), e _ (by omega)]; exact up1 n q0 (by omega)
  · rw [hr_n (by omega), hr_s, up_n (by omega), e _ (by omega)]; exact up2 n q0 (by omega)
  · rw [hr_n (by omega), hr_n (by omega), e _ (by omega)]; exact uw n q0 (by omega)
  · rw [hr_n (by omega), hr_s, up_n (by omega)]; exact u0
  · rw [hr_n (by omega), hr_s]
    by_cases z : n = 1 + h (p + 1) 0
    · rw [z, up_s]
    · rw [up_n z]; exact uh n q0 (by omega)
theorem PRl.tr2 {h : HpT} {p : Nat} {mp F G : Int → Int} (hL : PRl h p mp) : PRl (hr (hr h (p + 2) F) (p + 1) G) p mp := hL.of ((hr_n (by omega)).trans (hr_n (by omega))) ((hr_n (by omega)).trans (hr_n (by omega))) ((hr_n (by omega)).trans (hr_n (by omega))) ((hr_n (by omega)).trans (hr_n (by omega))) ((hr_n (by omega)).trans (hr_n (by omega))) ((hr_n (by omega)).trans (hr_n (by omega))) ((hr_n (by omega)).trans (hr_n (by omega)))
theorem PTr_rack {h : HpT} {p : Nat} {mp : Int → Int} {x x' : Int} (hT : TrM mp) (hN : PTr h p mp) (h3 : mp 129 < 6) (hx : x' = x) : PTr (hr (hr h (p + 2) (up (h (p + 2)) (4 + h (p + 1) 1) x')) (p + 1) (up (h (p + 1)) 1 (h (p + 1) 1 + 1))) p (up (up mp (4 + mp 129) x) 129 (mp 129 + 1)) := by
  subst hx
  obtain ⟨⟨n0, n1, n2⟩, up1, up2, uw, u0, uh⟩ := hN
  obtain ⟨t1, t2, t3, t4, t5, t6, t7⟩ := hT
  have e : ∀ j, j ≠ 129 → j ≠ 4 + mp 129 → up (up mp (4 + mp 129) x') 129 (mp 129 + 1) j = mp j := fun j hj hk => by rw [up_n hj, up_n hk]
  have e8 := e 128 (by omega) (by omega)
  have e9 : up (up mp (4 + mp 129) x') 129 (mp 129 + 1) 129 = mp 129 + 1 := up_s
  have e0 := e 130 (by omega) (by omega)
  have e4 : up (up mp (4 + mp 129) x') 129 (mp 129 + 1) (4 + mp 129) = x' := by rw [up_n (by omega), up_s]
  refine ⟨⟨by rw [hr_s, up_n (by omega), e8]; exact n0, by rw [hr_s, up_s, e9, n1], by rw [hr_s, up_n (by omega), e0]; exact n2⟩, fun n q0 q1 => ?_, fun n q0 q1 => ?_, fun n q0 q1 => ?_, ?_, fun n q0 q1 => ?_⟩
  · rw [hr_n (by omega), hr_s]
    by_cases z : n = 4 + mp 129
    · rw [z, e4, n1, up_s]
    · rw [up_n (by omega), e _ (by omega) z]; exact up1 n q0 (by omega)
  · rw [hr_n (by omega), hr_s, up_n (by omega), e _ (by omega) (by omega)]; exact up2 n q0 (by omega)
  · rw [hr_n (by omega), hr_n (by omega), e _ (by omega) (by omega)]; exact uw n q0 (by omega)
  · rw [hr_n (by omega), hr_s, up_n (by omega)]; exact u0
  · rw [hr_n (by omega), hr_s, up_n (by omega)]; exact uh n q0 (by omega)
theorem PRl_rule {h : HpT} {p : Nat} {mp : Int → Int} {x y z : Int} (hL : PRl h p mp) (t3 : 0 ≤ mp 130 ∧ mp 130 ≤ 12) (r5 : 0 ≤ mp 135 ∧ mp 135 ≤ 6) : PRl (hr h p (up (up (up (h p) 5 x) 6 y) 7 z)) p (up (up (up mp 131 x) 132 y) 133 z) := by
  obtain ⟨⟨rl5, rl6, rl7, rl8⟩, rfu, rca, rre, rnu, rdv⟩ := hL
  have e : ∀ j, j ≠ 131 → j ≠ 132 → j ≠ 133 → up (up (up mp 131 x) 132 y) 133 z j = mp j := fun j h1 h2 h3 => by rw [up_n h3, up_n h2, up_n h1]
  have e0 := e 130 (by omega) (by omega) (by omega)
  have e5 := e 135 (by omega) (by omega) (by omega)
  refine ⟨⟨?_, ?_, ?_, ?_⟩, ⟨?_, fun k => ?_⟩, fun d d0 d1 => ?_, fun d d0 d1 => ?_, ?_, fun i i0 i1 => ?_⟩
  · rw [hr_s]; rfl
  · rw [hr_s]; rfl
  · rw [hr_s]; rfl
  · rw [hr_s, up_n (by omega), up_n (by omega), up_n (by omega), e 134 (by omega) (by omega) (by omega)]; exact rl8
  · rw [hr_s, up_n (by omega), up_n (by omega), up_n (by omega)]; exact rfu.1
  · rw [hr_s, up_n (by omega), up_n (by omega), up_n (by omega), rfu.2 k, e0]
    by_cases z : (k : Int) < mp 130
    · rw [e (88 + (10 + (k : Int))) (by omega) (by omega) (by omega)]
    · rw [decide_eq_false (fun y => z y.1), decide_eq_false (fun y => z y.1)]
  · rw [e0] at d1
    rw [hr_n (by omega), e _ (by omega) (by omega) (by omega)]; exact rca d d0 d1
  · rw [e0] at d1
    rw [hr_n (by omega), e _ (by omega) (by omega) (by omega)]; exact rre d d0 d1
  · rw [e5, hr_n (by omega)]; exact rnu
  · rw [e5] at i1
    rw [hr_n (by omega), hr_n (by omega), hr_n (by omega), e _ (by omega) (by omega) (by omega), e _ (by omega) (by omega) (by omega), e _ (by omega) (by omega) (by omega)]; exact rdv i i0 i1
theorem PRl_tries {h : HpT} {p : Nat} {mp : Int → Int} {x : Int} (hL : PRl h p mp) (t3 : 0 ≤ mp 130 ∧ mp 130 ≤ 12) (r5 : 0 ≤ mp 135 ∧ mp 135 ≤ 6) : PRl (hr h p (up (h p) 8 x)) p (up mp 134 x) := by
  obtain ⟨⟨rl5, rl6, rl7, rl8⟩, rfu, rca, rre, rnu, rdv⟩ := hL
  have e : ∀ j, j ≠ 134 → up mp 134 x j = mp j := fun j h1 => up_n h1
  have e0 := e 130 (by omega)
  have e5 := e 135 (by omega)
  refine ⟨⟨?_, ?_, ?_, ?_⟩, ⟨?_, fun k => ?_⟩, fun d d0 d1 => ?_, fun d d0 d1 => ?_, ?_, fun i i0 i1 => ?_⟩
  · rw [hr_s, up_n (by omega), e _ (by omega)]; exact rl5
  · rw [hr_s, up_n (by omega), e _ (by omega)]; exact rl6
  · rw [hr_s, up_n (by omega), e _ (by omega)]; exact rl7
  · rw [hr_s]; rfl
  · rw [hr_s, up_n (by omega)]; exact rfu.1
  · rw [hr_s, up_n (by omega), rfu.2 k, e0]
    by_cases z : (k : Int) < mp 130
    · rw [e (88 + (10 + (k : Int))) (by omega)]
    · rw [decide_eq_false (fun y => z y.1), decide_eq_false (fun y => z y.1)]
  · rw [e0] at d1
    rw [hr_n (by omega), e _ (by omega)]; exact rca d d0 d1
  · rw [e0] at d1
    rw [hr_n (by omega), e _ (by omega)]; exact rre d d0 d1
  · rw [e5, hr_n (by omega)]; exact rnu
  · rw [e5] at i1
    rw [hr_n (by omega), hr_n (by omega), hr_n (by omega), e _ (by omega), e _ (by omega), e _ (by omega)]; exact rdv i i0 i1
theorem DkX_rd {tl : Int → Int} {w c : Int} (h : 0 ≤ tl 130 ∧ tl 130 < 12) (hz : ∀ j, 98 ≤ j → j < 110 → tl j = 0) : DkX tl (rdDk tl w c) (3 + tl 129) w (10 * c) := by
  unfold rdDk
  refine ⟨?_, ?_, ?_, ?_, ?_, ?_, fun j j0 j1 h1 h2 h3 h4 h5 h6 => ?_⟩
  · rw [up_n (by omega), up_n (by omega), up_n (by omega), up_n (by omega), up_s]
  · rw [up_n (by omega), up_n (by omega), up_n (by omega), up_s]
  · rw [up_n (by omega), up_n (by omega), up_s]
  · rw [up_n (by omega), up_s]
  · rw [up_n (by omega), up_n (by omega), up_n (by omega), up_n (by omega), up_n (by omega), hz _ (by omega) (by omega)]; decide
  · rw [up_s]
  · rw [up_n h1, up_n h5, up_n h4, up_n h3, up_n h2]
/-- whether an item may be applied, and what becomes of the map -/
def okA (ch : Int) (f tl : Int → Int) : Prop := (ch = 104 ∧ tl 128 < 3) ∨ (ch = 114 ∧ tl 129 < 6 ∧ 1 ≤ tl 128) ∨ (ch = 100 ∧ (0 ≤ f 0 ∧ f 0 ≤ 40) ∧ tl 130 < 12 ∧ 1 ≤ tl 129) ∨ (ch = 99 ∧ (1 ≤ f 0 ∧ f 0 ≤ 4) ∧ (1 ≤ f 1 ∧ f 1 ≤ 3) ∧ (0 ≤ f 2 ∧ f 2 ≤ 1)) ∨ (ch = 116 ∧ 1 ≤ f 0 ∧ f 0 ≤ 24)
def nwA (ch : Int) (f tl : Int → Int) : Int → Int := if ch = 104 then up tl 128 (tl 128 + 1) else if ch = 114 then up (up tl (4 + tl 129) (tl 128)) 129 (tl 129 + 1) else if ch = 100 then rdDk tl (f 0) (f 1) else if ch = 99 then up (up (up tl 131 (f 0)) 132 (f 1)) 133 (f 2) else up tl 134 (f 0)
theorem dX5_apply_0 : decode cX5_apply 0 = .ok (.iload_n 1, 1) := by decide +kernel
theorem dX5_apply_1 : decode cX5_apply 1 = .ok (.lookupswitch 213 #[(99, 126), (100, 78), (104, 51), (114, 59), (116, 176)], 51) := by decide +kernel
theorem dX5_apply_52 : decode cX5_apply 52 = .ok (.aload_n 2, 1) := by decide +kernel
theorem dX5_apply_53 : decode cX5_apply 53 = .ok (.getfield 59, 3) := by decide +kernel
theorem dX5_apply_56 : decode cX5_apply 56 = .ok (.invokevirtual 63, 3) := by decide +kernel
theorem dX5_apply_59 : decode cX5_apply 59 = .ok (.ireturn, 1) := by decide +kernel
theorem dX5_apply_60 : decode cX5_apply 60 = .ok (.aload_n 2, 1) := by decide +kernel
theorem dX5_apply_61 : decode cX5_apply 61 = .ok (.getfield 59, 3) := by decide +kernel
theorem dX5_apply_64 : decode cX5_apply 64 = .ok (.iconst 1, 1) := by decide +kernel
theorem dX5_apply_65 : decode cX5_apply 65 = .ok (.aload_n 2, 1) := by decide +kernel
theorem dX5_apply_66 : decode cX5_apply 66 = .ok (.getfield 59, 3) := by decide +kernel
theorem dX5_apply_69 : decode cX5_apply 69 = .ok (.getfield 68, 3) := by decide +kernel
theorem dX5_apply_72 : decode cX5_apply 72 = .ok (.iadd, 1) := by decide +kernel
theorem dX5_apply_73 : decode cX5_apply 73 = .ok (.iconst 1, 1) := by decide +kernel
theorem dX5_apply_74 : decode cX5_apply 74 = .ok (.isub, 1) := by decide +kernel
theorem dX5_apply_75 : decode cX5_apply 75 = .ok (.invokevirtual 71, 3) := by decide +kernel
theorem dX5_apply_78 : decode cX5_apply 78 = .ok (.ireturn, 1) := by decide +kernel
theorem dX5_apply_79 : decode cX5_apply 79 = .ok (.aload_n 0, 1) := by decide +kernel
theorem dX5_apply_80 : decode cX5_apply 80 = .ok (.getfield 15, 3) := by decide +kernel
theorem dX5_apply_83 : decode cX5_apply 83 = .ok (.iconst 0, 1) := by decide +kernel
theorem dX5_apply_84 : decode cX5_apply 84 = .ok (.iaload, 1) := by decide +kernel
theorem dX5_apply_85 : decode cX5_apply 85 = .ok (.invokestatic 74, 3) := by decide +kernel
theorem dX5_apply_88 : decode cX5_apply 88 = .ok (.ifCond .eq 37, 3) := by decide +kernel
theorem dX5_apply_91 : decode cX5_apply 91 = .ok (.aload_n 2, 1) := by decide +kernel
theorem dX5_apply_92 : decode cX5_apply 92 = .ok (.iconst 4, 1) := by decide +kernel
theorem dX5_apply_93 : decode cX5_apply 93 = .ok (.aload_n 2, 1) := by decide +kernel
theorem dX5_apply_94 : decode cX5_apply 94 = .ok (.getfield 59, 3) := by decide +kernel
theorem dX5_apply_97 : decode cX5_apply 97 = .ok (.getfield 77, 3) := by decide +kernel
theorem dX5_apply_100 : decode cX5_apply 100 = .ok (.iadd, 1) := by decide +kernel
theorem dX5_apply_101 : decode cX5_apply 101 = .ok (.iconst 1, 1) := by decide +kernel
theorem dX5_apply_102 : decode cX5_apply 102 = .ok (.isub, 1) := by decide +kernel
theorem dX5_apply_103 : decode cX5_apply 103 = .ok (.aload_n 0, 1) := by decide +kernel
theorem dX5_apply_104 : decode cX5_apply 104 = .ok (.getfield 15, 3) := by decide +kernel
theorem dX5_apply_107 : decode cX5_apply 107 = .ok (.iconst 0, 1) := by decide +kernel
theorem dX5_apply_108 : decode cX5_apply 108 = .ok (.iaload, 1) := by decide +kernel
theorem dX5_apply_109 : decode cX5_apply 109 = .ok (.aload_n 0, 1) := by decide +kernel
theorem dX5_apply_110 : decode cX5_apply 110 = .ok (.getfield 15, 3) := by decide +kernel
theorem dX5_apply_113 : decode cX5_apply 113 = .ok (.iconst 1, 1) := by decide +kernel
theorem dX5_apply_114 : decode cX5_apply 114 = .ok (.iaload, 1) := by decide +kernel
theorem dX5_apply_115 : decode cX5_apply 115 = .ok (.invokevirtual 80, 3) := by decide +kernel
theorem dX5_apply_118 : decode cX5_apply 118 = .ok (.ifCond .eq 7, 3) := by decide +kernel
theorem dX5_apply_121 : decode cX5_apply 121 = .ok (.iconst 1, 1) := by decide +kernel
theorem dX5_apply_122 : decode cX5_apply 122 = .ok (.goto 4, 3) := by decide +kernel
theorem dX5_apply_125 : decode cX5_apply 125 = .ok (.iconst 0, 1) := by decide +kernel
theorem dX5_apply_126 : decode cX5_apply 126 = .ok (.ireturn, 1) := by decide +kernel
theorem dX5_apply_127 : decode cX5_apply 127 = .ok (.aload_n 0, 1) := by decide +kernel
theorem dX5_apply_128 : decode cX5_apply 128 = .ok (.getfield 15, 3) := by decide +kernel
theorem dX5_apply_131 : decode cX5_apply 131 = .ok (.iconst 0, 1) := by decide +kernel
theorem dX5_apply_132 : decode cX5_apply 132 = .ok (.iaload, 1) := by decide +kernel
theorem dX5_apply_133 : decode cX5_apply 133 = .ok (.aload_n 0, 1) := by decide +kernel
theorem dX5_apply_134 : decode cX5_apply 134 = .ok (.getfield 15, 3) := by decide +kernel
theorem dX5_apply_137 : decode cX5_apply 137 = .ok (.iconst 1, 1) := by decide +kernel
theorem dX5_apply_138 : decode cX5_apply 138 = .ok (.iaload, 1) := by decide +kernel
theorem dX5_apply_139 : decode cX5_apply 139 = .ok (.aload_n 0, 1) := by decide +kernel
theorem dX5_apply_140 : decode cX5_apply 140 = .ok (.getfield 15, 3) := by decide +kernel
theorem dX5_apply_143 : decode cX5_apply 143 = .ok (.iconst 2, 1) := by decide +kernel
theorem dX5_apply_144 : decode cX5_apply 144 = .ok (.iaload, 1) := by decide +kernel
theorem dX5_apply_145 : decode cX5_apply 145 = .ok (.invokestatic 84, 3) := by decide +kernel
theorem dX5_apply_148 : decode cX5_apply 148 = .ok (.ifCond .ne 5, 3) := by decide +kernel
theorem dX5_apply_151 : decode cX5_apply 151 = .ok (.iconst 0, 1) := by decide +kernel
theorem dX5_apply_152 : decode cX5_apply 152 = .ok (.ireturn, 1) := by decide +kernel
theorem dX5_apply_153 : decode cX5_apply 153 = .ok (.aload_n 2, 1) := by decide +kernel
theorem dX5_apply_154 : decode cX5_apply 154 = .ok (.aload_n 0, 1) := by decide +kernel
theorem dX5_apply_155 : decode cX5_apply 155 = .ok (.getfield 15, 3) := by decide +kernel
theorem dX5_apply_158 : decode cX5_apply 158 = .ok (.iconst 0, 1) := by decide +kernel
theorem dX5_apply_159 : decode cX5_apply 159 = .ok (.iaload, 1) := by decide +kernel
theorem dX5_apply_160 : decode cX5_apply 160 = .ok (.aload_n 0, 1) := by decide +kernel
theorem dX5_apply_161 : decode cX5_apply 161 = .ok (.getfield 15, 3) := by decide +kernel
theorem dX5_apply_164 : decode cX5_apply 164 = .ok (.iconst 1, 1) := by decide +kernel
theorem dX5_apply_165 : decode cX5_apply 165 = .ok (.iaload, 1) := by decide +kernel
theorem dX5_apply_166 : decode cX5_apply 166 = .ok (.aload_n 0, 1) := by decide +kernel
theorem dX5_apply_167 : decode cX5_apply 167 = .ok (.getfield 15, 3) := by decide +kernel
theorem dX5_apply_170 : decode cX5_apply 170 = .ok (.iconst 2, 1) := by decide +kernel
theorem dX5_apply_171 : decode cX5_apply 171 = .ok (.iaload, 1) := by decide +kernel
theorem dX5_apply_172 : decode cX5_apply 172 = .ok (.invokevirtual 87, 3) := by decide +kernel
theorem dX5_apply_175 : decode cX5_apply 175 = .ok (.iconst 1, 1) := by decide +kernel
theorem dX5_apply_176 : decode cX5_apply 176 = .ok (.ireturn, 1) := by decide +kernel
theorem dX5_apply_177 : decode cX5_apply 177 = .ok (.aload_n 2, 1) := by decide +kernel
theorem dX5_apply_178 : decode cX5_apply 178 = .ok (.aload_n 0, 1) := by decide +kernel
theorem dX5_apply_179 : decode cX5_apply 179 = .ok (.getfield 15, 3) := by decide +kernel
theorem dX5_apply_182 : decode cX5_apply 182 = .ok (.iconst 0, 1) := by decide +kernel
theorem dX5_apply_183 : decode cX5_apply 183 = .ok (.iaload, 1) := by decide +kernel
theorem dX5_apply_184 : decode cX5_apply 184 = .ok (.putfield 91, 3) := by decide +kernel
theorem dX5_apply_187 : decode cX5_apply 187 = .ok (.aload_n 0, 1) := by decide +kernel
theorem dX5_apply_188 : decode cX5_apply 188 = .ok (.getfield 15, 3) := by decide +kernel
theorem dX5_apply_191 : decode cX5_apply 191 = .ok (.iconst 0, 1) := by decide +kernel
theorem dX5_apply_192 : decode cX5_apply 192 = .ok (.iaload, 1) := by decide +kernel
theorem dX5_apply_193 : decode cX5_apply 193 = .ok (.iconst 1, 1) := by decide +kernel
theorem dX5_apply_194 : decode cX5_apply 194 = .ok (.if_icmp .lt 18, 3) := by decide +kernel
theorem dX5_apply_197 : decode cX5_apply 197 = .ok (.aload_n 0, 1) := by decide +kernel
theorem dX5_apply_198 : decode cX5_apply 198 = .ok (.getfield 15, 3) := by decide +kernel
theorem dX5_apply_201 : decode cX5_apply 201 = .ok (.iconst 0, 1) := by decide +kernel
theorem dX5_apply_202 : decode cX5_apply 202 = .ok (.iaload, 1) := by decide +kernel
theorem dX5_apply_203 : decode cX5_apply 203 = .ok (.bipush 24, 2) := by decide +kernel
theorem dX5_apply_205 : decode cX5_apply 205 = .ok (.if_icmp .gt 7, 3) := by decide +kernel
theorem dX5_apply_208 : decode cX5_apply 208 = .ok (.iconst 1, 1) := by decide +kernel
theorem dX5_apply_209 : decode cX5_apply 209 = .ok (.goto 4, 3) := by decide +kernel
theorem dX5_apply_212 : decode cX5_apply 212 = .ok (.iconst 0, 1) := by decide +kernel
theorem dX5_apply_213 : decode cX5_apply 213 = .ok (.ireturn, 1) := by decide +kernel
theorem dX5_apply_214 : decode cX5_apply 214 = .ok (.iconst 0, 1) := by decide +kernel
theorem dX5_apply_215 : decode cX5_apply 215 = .ok (.ireturn, 1) := by decide +kernel
set_option maxHeartbeats 4000000 in
set_option maxRecDepth 20000 in
theorem c_X5_apply : ConI mX5_apply (fun args N lay r h Q => ∃ (x p : Nat) (tl f : Int → Int) (ch : Int), args = [.ref x, vI ch, .ref p] ∧ TxAt lay r x ∧ PlAt lay r p ∧ (x + 3 ≤ p ∨ p + 14 ≤ x) ∧ TlI tl ∧ PTr h p tl ∧ PRl h p tl ∧ h (x + 2) = f ∧ (0 ≤ ch ∧ ch < 65536) ∧ (ch = 100 → 0 ≤ f 1 ∧ f 1 ≤ 99) ∧ (¬ okA ch f tl → ∀ h2, Fr h h2 (fun y => y = p ∨ y = p + 1 ∨ y = p + 2 ∨ y = p + 3 ∨ y = p + 9 ∨ y = p + 10) → Q 0 N lay r h2) ∧ (okA ch f tl → ∀ h2, Fr h h2 (fun y => y = p ∨ y = p + 1 ∨ y = p + 2 ∨ y = p + 3 ∨ y = p + 9 ∨ y = p + 10) → PTr h2 p (nwA ch f tl) → PRl h2 p (nwA ch f tl) → Q 1 N lay r h2)) := by
  refine ConI.of (by decide) (by rintro _ N lay r h Q ⟨x, p, tl, f, ch, rfl, hX, hA, hD, hI, hN, hL, hf, hc, hf1, hB, hQ⟩; exact ⟨rfl, Nat.le_of_ble_eq_true rfl⟩) ?_
  rintro E _ N lay r h Q ⟨x, p, tl, f, ch, rfl, hX, hA, hD, hI, hN, hL, hf, hc, hf1, hB, hQ⟩ hret
  obtain ⟨xl0, xl1, xl2, xr1, xr3⟩ := id hX
  obtain ⟨pl0, pl1, pl2, pl3, pl4, pl5, pl6, pl7, pl8, pl9, pl10, pl11, pl12, pl13, pr0, pr1, pr2, pr3, pr9, pr10, pr11, qr3, qr4, vr1, vr2, vr3, vr4⟩ := id hA
  obtain ⟨hT, hR, hz, h5⟩ := id hI
  obtain ⟨t1, t2, t3, t4, t5, t6, t7⟩ := id hT
  obtain ⟨⟨n0, n1, n2⟩, up1, up2, uw, u0, uh⟩ := id hN
  have r5 := hR.2.2.2.2.1
  show St E mX5_apply 0 [some (.ref x), some (vI ch), some (.ref p)] [] (0, 0) N lay r h
  refine r_iload_1 (pc := 0) dX5_apply_0 ?_
  rcases (show ch = 104 ∨ ch = 114 ∨ ch = 100 ∨ ch = 99 ∨ ch = 116 ∨ (ch ≠ 104 ∧ ch ≠ 114 ∧ ch ≠ 100 ∧ ch ≠ 99 ∧ ch ≠ 116) by omega) with rfl | rfl | rfl | rfl | rfl | hch
  · refine r_lookup (pc := 1) (off := 51) (tgt := 52) dX5_apply_1 (by omega) (by decide) rfl (by decide) ?_
    refine r_aload_2 (pc := 52) dX5_apply_52 ?_
    refine gf_X5_59 (pc := 53) rfl (by assumption) dX5_apply_53 (by assumption) ?_
    refine k_VI0 (pc := 56) c_X6_addHall lk_X5_63 ⟨Nat.le_of_ble_eq_true rfl, Nat.le_of_ble_eq_true rfl⟩ ⟨rfl, rfl⟩ ⟨Nat.le_of_ble_eq_true rfl, Nat.le_of_ble_eq_true rfl⟩ (k := 6) rfl (by decide) (by assumption) dX5_apply_56 (Nat.le_of_ble_eq_true rfl) ?_
    refine ⟨_, rfl, hA.tr, by omega, by omega, by omega, fun g_56 => ?_, fun g_56 => ?_⟩
    all_goals refine r_zret (pc := 59) hret dX5_apply_59 rfl rfl rfl (by first | exact Or.inl rfl | exact Or.inr rfl) ?_
    · exact hB (by unfold okA; omega) h (fun _ _ => rfl)
    · have q9 := PTr_hall hT hN (by omega)
      refine hQ (by unfold okA; omega) _ (fun y hy => ?_) q9 (hL.tr2.cg (fun j j0 j1 j2 j3 => (show up tl 128 (tl 128 + 1) j = tl j from up_n j2)) t3 r5)
      rw [hr_n (by omega), hr_n (by omega)]
  · refine r_lookup (pc := 1) (off := 59) (tgt := 60) dX5_apply_1 (by omega) (by decide) rfl (by decide) ?_
    refine r_aload_2 (pc := 60) dX5_apply_60 ?_
    refine gf_X5_59 (pc := 61) rfl (by assumption) dX5_apply_61 (by assumption) ?_
    refine r_iconst (pc := 64) dX5_apply_64 ?_
    refine r_aload_2 (pc := 65) dX5_apply_65 ?_
    refine gf_X5_59 (pc := 66) rfl (by assumption) dX5_apply_66 (by assumption) ?_
    refine gf_X5_68 (pc := 69) rfl (by assumption) dX5_apply_69 (fun i_69 => ?_)
    refine r_iadd (pc := 72) dX5_apply_72 ?_
    refine r_iconst (pc := 73) dX5_apply_73 ?_
    refine r_isub (pc := 74) dX5_apply_74 ?_
    refine k_VI1 (pc := 75) c_X6_addRack lk_X5_71 ⟨Nat.le_of_ble_eq_true rfl, Nat.le_of_ble_eq_true rfl⟩ ⟨rfl, rfl⟩ ⟨Nat.le_of_ble_eq_true rfl, Nat.le_of_ble_eq_true rfl⟩ (k := 6) rfl (by decide) (by assumption) dX5_apply_75 (Nat.le_of_ble_eq_true rfl) ?_
    refine ⟨_, _, rfl, hA.tr, by omega, by omega, by omega, by omega, fun g_75 => ?_, fun g_75 => ?_⟩
    all_goals refine r_zret (pc := 78) hret dX5_apply_78 rfl rfl rfl (by first | exact Or.inl rfl | exact Or.inr rfl) ?_
    · exact hB (by unfold okA; omega) h (fun _ _ => rfl)
    · have q9 := PTr_rack (x := tl 128) (x' := 1 + h (p + 1) 0 - 1) hT hN (by omega) (by omega)
      refine hQ (by unfold okA; omega) _ (fun y hy => ?_) q9 (hL.tr2.cg (fun j j0 j1 j2 j3 => by show up (up tl (4 + tl 129) (tl 128)) 129 (tl 129 + 1) j = tl j; rw [up_n j3, up_n (by omega)]) t3 r5)
      rw [hr_n (by omega), hr_n (by omega)]
  · refine r_lookup (pc := 1) (off := 78) (tgt := 79) dX5_apply_1 (by omega) (by decide) rfl (by decide) ?_
    refine r_aload_0 (pc := 79) dX5_apply_79 ?_
    refine gf_X5_15 (pc := 80) rfl (by assumption) dX5_apply_80 (by assumption) ?_
    refine r_iconst (pc := 83) dX5_apply_83 ?_
    refine r_ialdE (pc := 84) (by assumption) (by first | assumption | exact rfl) dX5_apply_84 (by omega) (by omega) (fun i_84 => ?_)
    refine k_SNI1 (pc := 85) c_X7_isWeight lk_X5_74 ⟨Nat.le_of_ble_eq_true rfl, Nat.le_of_ble_eq_true rfl⟩ ⟨rfl, rfl⟩ ⟨Nat.le_of_ble_eq_true rfl, Nat.le_of_ble_eq_true rfl⟩ dX5_apply_85 (Nat.le_of_ble_eq_true rfl) ?_
    refine ⟨_, rfl, by omega, ?_⟩
    skip
    refine r_ifeq_b (pc := 88) (tgt := 125) dX5_apply_88 (by decide) (fun c_88 => ?_) (fun c_88 => ?_)
    · refine r_iconst (pc := 125) dX5_apply_125 ?_
      refine r_zret (pc := 126) hret dX5_apply_126 rfl rfl rfl (by first | exact Or.inl rfl | exact Or.inr rfl | exact bI_01 | omega) ?_
      exact hB (by unfold okA; omega) h (fun _ _ => rfl)
    · refine r_aload_2 (pc := 91) dX5_apply_91 ?_
      refine r_iconst (pc := 92) dX5_apply_92 ?_
      refine r_aload_2 (pc := 93) dX5_apply_93 ?_
      refine gf_X5_59 (pc := 94) rfl (by assumption) dX5_apply_94 (by assumption) ?_
      refine gf_X5_77 (pc := 97) rfl (by assumption) dX5_apply_97 (fun i_97 => ?_)
      refine r_iadd (pc := 100) dX5_apply_100 ?_
      refine r_iconst (pc := 101) dX5_apply_101 ?_
      refine r_isub (pc := 102) dX5_apply_102 ?_
      refine r_aload_0 (pc := 103) dX5_apply_103 ?_
      refine gf_X5_15 (pc := 104) rfl (by assumption) dX5_apply_104 (by assumption) ?_
      refine r_iconst (pc := 107) dX5_apply_107 ?_
      refine r_ialdE (pc := 108) (by assumption) (by first | assumption | exact rfl) dX5_apply_108 (by omega) (by omega) (fun i_108 => ?_)
      refine r_aload_0 (pc := 109) dX5_apply_109 ?_
      refine gf_X5_15 (pc := 110) rfl (by assumption) dX5_apply_110 (by assumption) ?_
      refine r_iconst (pc := 113) dX5_apply_113 ?_
      refine r_ialdE (pc := 114) (by assumption) (by first | assumption | exact rfl) dX5_apply_114 (by omega) (by omega) (fun i_114 => ?_)
      refine k_VI3 (pc := 115) c_X3_addDisk lk_X5_80 ⟨Nat.le_of_ble_eq_true rfl, Nat.le_of_ble_eq_true rfl⟩ ⟨rfl, rfl⟩ ⟨Nat.le_of_ble_eq_true rfl, Nat.le_of_ble_eq_true rfl⟩ (k := 3) rfl (by decide) (by assumption) dX5_apply_115 (Nat.le_of_ble_eq_true rfl) ?_
      refine ⟨_, _, _, _, _, rfl, by assumption, by assumption, by assumption, by assumption, by assumption, by omega, by omega, by omega, fun g_115 => ?_, fun g_115 h_115 f_115 a_115 => ?_⟩
      · refine r_ifeq_T (pc := 118) (tgt := 125) dX5_apply_118 (by decide) (by decide) ?_
        refine r_iconst (pc := 125) dX5_apply_125 ?_
        refine r_zret (pc := 126) hret dX5_apply_126 rfl rfl rfl (by first | exact Or.inl rfl | exact Or.inr rfl | exact bI_01 | omega) ?_
        exact hB (by unfold okA; omega) h (fun _ _ => rfl)
      · refine r_ifeq_F (pc := 118) (tgt := 125) dX5_apply_118 (by decide) (by decide) ?_
        refine r_iconst (pc := 121) dX5_apply_121 ?_
        refine r_goto (pc := 122) (tgt := 126) dX5_apply_122 (by decide) ?_
        refine r_zret (pc := 126) hret dX5_apply_126 rfl rfl rfl (by first | exact Or.inl rfl | exact Or.inr rfl | exact bI_01 | omega) ?_
        have q9 := a_115 (rdDk tl (f 0) (f 1)) (by rw [show 4 + h (p + 1) 1 - 1 = 3 + tl 129 by omega]; exact DkX_rd (by omega) hz)
        exact hQ (by unfold okA; omega) h_115 (fun y hy => f_115 y (by omega)) q9.1 q9.2
  · refine r_lookup (pc := 1) (off := 126) (tgt := 127) dX5_apply_1 (by omega) (by decide) rfl (by decide) ?_
    refine r_aload_0 (pc := 127) dX5_apply_127 ?_
    refine gf_X5_15 (pc := 128) rfl (by assumption) dX5_apply_128 (by assumption) ?_
    refine r_iconst (pc := 131) dX5_apply_131 ?_
    refine r_ialdE (pc := 132) (by assumption) (by first | assumption | exact rfl) dX5_apply_132 (by omega) (by omega) (fun i_132 => ?_)
    refine r_aload_0 (pc := 133) dX5_apply_133 ?_
    refine gf_X5_15 (pc := 134) rfl (by assumption) dX5_apply_134 (by assumption) ?_
    refine r_iconst (pc := 137) dX5_apply_137 ?_
    refine r_ialdE (pc := 138) (by assumption) (by first | assumption | exact rfl) dX5_apply_138 (by omega) (by omega) (fun i_138 => ?_)
    refine r_aload_0 (pc := 139) dX5_apply_139 ?_
    refine gf_X5_15 (pc := 140) rfl (by assumption) dX5_apply_140 (by assumption) ?_
    refine r_iconst (pc := 143) dX5_apply_143 ?_
    refine r_ialdE (pc := 144) (by assumption) (by first | assumption | exact rfl) dX5_apply_144 (by omega) (by omega) (fun i_144 => ?_)
    refine k_SI3 (pc := 145) c_X3_isRule lk_X5_84 ⟨Nat.le_of_ble_eq_true rfl, Nat.le_of_ble_eq_true rfl⟩ ⟨rfl, rfl⟩ ⟨Nat.le_of_ble_eq_true rfl, Nat.le_of_ble_eq_true rfl⟩ dX5_apply_145 (Nat.le_of_ble_eq_true rfl) ?_
    refine ⟨_, _, _, rfl, by omega, by omega, by omega, ?_⟩
    refine r_ifne_b (pc := 148) (tgt := 153) dX5_apply_148 (by decide) (fun c_148 => ?_) (fun c_148 => ?_)
    · refine r_aload_2 (pc := 153) dX5_apply_153 ?_
      refine r_aload_0 (pc := 154) dX5_apply_154 ?_
      refine gf_X5_15 (pc := 155) rfl (by assumption) dX5_apply_155 (by assumption) ?_
      refine r_iconst (pc := 158) dX5_apply_158 ?_
      refine r_ialdE (pc := 159) (by assumption) (by first | assumption | exact rfl) dX5_apply_159 (by omega) (by omega) (fun i_159 => ?_)
      refine r_aload_0 (pc := 160) dX5_apply_160 ?_
      refine gf_X5_15 (pc := 161) rfl (by assumption) dX5_apply_161 (by assumption) ?_
      refine r_iconst (pc := 164) dX5_apply_164 ?_
      refine r_ialdE (pc := 165) (by assumption) (by first | assumption | exact rfl) dX5_apply_165 (by omega) (by omega) (fun i_165 => ?_)
      refine r_aload_0 (pc := 166) dX5_apply_166 ?_
      refine gf_X5_15 (pc := 167) rfl (by assumption) dX5_apply_167 (by assumption) ?_
      refine r_iconst (pc := 170) dX5_apply_170 ?_
      refine r_ialdE (pc := 171) (by assumption) (by first | assumption | exact rfl) dX5_apply_171 (by omega) (by omega) (fun i_171 => ?_)
      refine k_VV3 (pc := 172) c_X3_setRule lk_X5_87 ⟨Nat.le_of_ble_eq_true rfl, Nat.le_of_ble_eq_true rfl⟩ ⟨rfl, rfl⟩ ⟨Nat.le_of_ble_eq_true rfl, Nat.le_of_ble_eq_true rfl⟩ (k := 3) rfl (by decide) (by assumption) dX5_apply_172 (Nat.le_of_ble_eq_true rfl) ?_
      refine ⟨_, _, _, _, _, rfl, by assumption, by omega, by omega, by omega, ?_⟩
      refine r_iconst (pc := 175) dX5_apply_175 ?_
      refine r_zret (pc := 176) hret dX5_apply_176 rfl rfl rfl (by first | exact Or.inl rfl | exact Or.inr rfl | exact bI_01 | omega) ?_
      first
      | (have k9 : (1 ≤ f 0 ∧ f 0 ≤ 4) ∧ (1 ≤ f 1 ∧ f 1 ≤ 3) ∧ (0 ≤ f 2 ∧ f 2 ≤ 1) := c_148
         exact hQ (Or.inr (Or.inr (Or.inr (Or.inl ⟨rfl, k9⟩)))) _ (fun y hy => hr_n (by omega)) ((hN.of (hr_n (by omega)) (hr_n (by omega)) (hr_n (by omega)) : PTr _ p tl).cg (fun j j0 j1 => by show up (up (up tl 131 (f 0)) 132 (f 1)) 133 (f 2) j = tl j; rw [up_n (by omega), up_n (by omega), up_n (by omega)]) hT) (PRl_rule hL t3 r5))
      | (have k9 : ¬ ((1 ≤ f 0 ∧ f 0 ≤ 4) ∧ (1 ≤ f 1 ∧ f 1 ≤ 3) ∧ (0 ≤ f 2 ∧ f 2 ≤ 1)) := c_148
         exact hB (by unfold okA; omega) h (fun _ _ => rfl))
    · refine r_iconst (pc := 151) dX5_apply_151 ?_
      refine r_zret (pc := 152) hret dX5_apply_152 rfl rfl rfl (by first | exact Or.inl rfl | exact Or.inr rfl | exact bI_01 | omega) ?_
      first
      | (have k9 : (1 ≤ f 0 ∧ f 0 ≤ 4) ∧ (1 ≤ f 1 ∧ f 1 ≤ 3) ∧ (0 ≤ f 2 ∧ f 2 ≤ 1) := c_148
         exact hQ (Or.inr (Or.inr (Or.inr (Or.inl ⟨rfl, k9⟩)))) _ (fun y hy => hr_n (by omega)) ((hN.of (hr_n (by omega)) (hr_n (by omega)) (hr_n (by omega)) : PTr _ p tl).cg (fun j j0 j1 => by show up (up (up tl 131 (f 0)) 132 (f 1)) 133 (f 2) j = tl j; rw [up_n (by omega), up_n (by omega), up_n (by omega)]) hT) (PRl_rule hL t3 r5))
      | (have k9 : ¬ ((1 ≤ f 0 ∧ f 0 ≤ 4) ∧ (1 ≤ f 1 ∧ f 1 ≤ 3) ∧ (0 ≤ f 2 ∧ f 2 ≤ 1)) := c_148
         exact hB (by unfold okA; omega) h (fun _ _ => rfl))
  · refine r_lookup (pc := 1) (off := 176) (tgt := 177) dX5_apply_1 (by omega) (by decide) rfl (by decide) ?_
    refine r_aload_2 (pc := 177) dX5_apply_177 ?_
    refine r_aload_0 (pc := 178) dX5_apply_178 ?_
    refine gf_X5_15 (pc := 179) rfl (by assumption) dX5_apply_179 (by assumption) ?_
    refine r_iconst (pc := 182) dX5_apply_182 ?_
    refine r_ialdE (pc := 183) (by assumption) (by first | assumption | exact (hr_n (by omega)).trans (by assumption)) dX5_apply_183 (by omega) (by omega) (fun i_183 => ?_)
    refine pf_X5_91 (pc := 184) rfl (by assumption) dX5_apply_184 (by omega) ?_
    refine r_aload_0 (pc := 187) dX5_apply_187 ?_
    refine gf_X5_15 (pc := 188) rfl (by assumption) dX5_apply_188 (by assumption) ?_
    refine r_iconst (pc := 191) dX5_apply_191 ?_
    refine r_ialdE (pc := 192) (by assumption) (by first | assumption | exact (hr_n (by omega)).trans (by assumption)) dX5_apply_192 (by omega) (by omega) (fun i_192 => ?_)
    refine r_iconst (pc := 193) dX5_apply_193 ?_
    refine r_icmp_lt (pc := 194) (tgt := 212) dX5_apply_194 (by decide) (by omega) (by omega) (fun c_194 => ?_) (fun c_194 => ?_)
    · refine r_iconst (pc := 212) dX5_apply_212 ?_
      refine r_zret (pc := 213) hret dX5_apply_213 rfl rfl rfl (by first | exact Or.inl rfl | exact Or.inr rfl | exact bI_01 | omega) ?_
      first
      | (have k9 : 1 ≤ f 0 ∧ f 0 ≤ 24 := ⟨by omega, by omega⟩
         exact hQ (by unfold okA; omega) _ (fun y hy => hr_n (by omega)) ((hN.of (hr_n (by omega)) (hr_n (by omega)) (hr_n (by omega)) : PTr _ p tl).cg (fun j j0 j1 => by show up tl 134 (f 0) j = tl j; rw [up_n (by omega)]) hT) (PRl_tries hL t3 r5))
      | (exact hB (by unfold okA; omega) _ (fun y hy => hr_n (by omega)))
    · refine r_aload_0 (pc := 197) dX5_apply_197 ?_
      refine gf_X5_15 (pc := 198) rfl (by assumption) dX5_apply_198 (by assumption) ?_
      refine r_iconst (pc := 201) dX5_apply_201 ?_
      refine r_ialdE (pc := 202) (by assumption) (by first | assumption | exact (hr_n (by omega)).trans (by assumption)) dX5_apply_202 (by omega) (by omega) (fun i_202 => ?_)
      refine r_bipush (pc := 203) dX5_apply_203 (by decide) ?_
      refine r_icmp_gt (pc := 205) (tgt := 212) dX5_apply_205 (by decide) (by omega) (by omega) (fun c_205 => ?_) (fun c_205 => ?_)
      · refine r_iconst (pc := 212) dX5_apply_212 ?_
        refine r_zret (pc := 213) hret dX5_apply_213 rfl rfl rfl (by first | exact Or.inl rfl | exact Or.inr rfl | exact bI_01 | omega) ?_
        first
        | (have k9 : 1 ≤ f 0 ∧ f 0 ≤ 24 := ⟨by omega, by omega⟩
           exact hQ (by unfold okA; omega) _ (fun y hy => hr_n (by omega)) ((hN.of (hr_n (by omega)) (hr_n (by omega)) (hr_n (by omega)) : PTr _ p tl).cg (fun j j0 j1 => by show up tl 134 (f 0) j = tl j; rw [up_n (by omega)]) hT) (PRl_tries hL t3 r5))
        | (exact hB (by unfold okA; omega) _ (fun y hy => hr_n (by omega)))
      · refine r_iconst (pc := 208) dX5_apply_208 ?_
        refine r_goto (pc := 209) (tgt := 213) dX5_apply_209 (by decide) ?_
        refine r_zret (pc := 213) hret dX5_apply_213 rfl rfl rfl (by first | exact Or.inl rfl | exact Or.inr rfl | exact bI_01 | omega) ?_
        first
        | (have k9 : 1 ≤ f 0 ∧ f 0 ≤ 24 := ⟨by omega, by omega⟩
           exact hQ (by unfold okA; omega) _ (fun y hy => hr_n (by omega)) ((hN.of (hr_n (by omega)) (hr_n (by omega)) (hr_n (by omega)) : PTr _ p tl).cg (fun j j0 j1 => by show up tl 134 (f 0) j = tl j; rw [up_n (by omega)]) hT) (PRl_tries hL t3 r5))
        | (exact hB (by unfold okA; omega) _ (fun y hy => hr_n (by omega)))
  · refine r_lookup (pc := 1) (off := 213) (tgt := 214) dX5_apply_1 (by omega) (by decide) (by rw [show (#[(99, 126), (100, 78), (104, 51), (114, 59), (116, 176)] : Array (Int × Int)).toList = [(99, 126), (100, 78), (104, 51), (114, 59), (116, 176)] from rfl, Op.lookupswitch.offset_cons, if_neg (by omega), Op.lookupswitch.offset_cons, if_neg (by omega), Op.lookupswitch.offset_cons, if_neg (by omega), Op.lookupswitch.offset_cons, if_neg (by omega), Op.lookupswitch.offset_cons, if_neg (by omega)]; rfl) (by decide) ?_
    refine r_iconst (pc := 214) dX5_apply_214 ?_
    refine r_zret (pc := 215) hret dX5_apply_215 rfl rfl rfl (by first | exact Or.inl rfl | exact Or.inr rfl | exact bI_01 | omega) ?_
    exact hB (by unfold okA; omega) h (fun _ _ => rfl)

