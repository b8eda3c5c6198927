/-! PLANS: a group settled, all groups settled -/
theorem sm4 (F : Int → Int) : sm F 4 = F 0 + F 1 + F 2 + F 3 := by
  show 0 + F (0 : Nat) + F (1 : Nat) + F (2 : Nat) + F (3 : Nat) = _
  simp
theorem sm4_up {co : Int → Int} {c0 d : Int} (h0 : 0 ≤ c0 ∧ c0 < 4) (h1 : co c0 < 0) (h2 : 0 ≤ d) : sm (fun c => bI (0 ≤ up co c0 d c)) 4 = sm (fun c => bI (0 ≤ co c)) 4 + 1 := by
  rw [sm4, sm4]
  have e0 : bI (0 ≤ co c0) = 0 := bI_f (by omega)
  have e1 : bI (0 ≤ up co c0 d c0) = 1 := bI_t (by rw [up_s]; exact h2)
  rcases (show c0 = 0 ∨ c0 = 1 ∨ c0 = 2 ∨ c0 = 3 by omega) with rfl | rfl | rfl | rfl
  · rw [e1, e0, up_n (by omega), up_n (by omega), up_n (by omega)]; omega
  · rw [e1, e0, up_n (by omega), up_n (by omega), up_n (by omega)]; omega
  · rw [e1, e0, up_n (by omega), up_n (by omega), up_n (by omega)]; omega
  · rw [e1, e0, up_n (by omega), up_n (by omega), up_n (by omega)]; omega
theorem bI_1 {c : Prop} [Decidable c] (h : bI c = 1) : c := by
  unfold bI at h
  split at h
  · assumption
  · cases h
theorem sm4_full {co : Int → Int} {n : Int} (hn : 1 ≤ n ∧ n ≤ 4) (h0 : ∀ c, n ≤ c → co c < 0) (h1 : n ≤ sm (fun c => bI (0 ≤ co c)) 4) : ∀ c, 0 ≤ c → c < n → 0 ≤ co c := by
  rw [sm4] at h1
  have r0 := bI_r (c := 0 ≤ co 0)
  have r1 := bI_r (c := 0 ≤ co 1)
  have r2 := bI_r (c := 0 ≤ co 2)
  have r3 := bI_r (c := 0 ≤ co 3)
  have z : ∀ c, n ≤ c → bI (0 ≤ co c) = 0 := fun c hc => bI_f (by have := h0 c hc; omega)
  have z1 := z 1
  have z2 := z 2
  have z3 := z 3
  intro c c0 c1
  apply bI_1
  rcases (show c = 0 ∨ c = 1 ∨ c = 2 ∨ c = 3 by omega) with rfl | rfl | rfl | rfl
  · rcases (show n = 1 ∨ n = 2 ∨ n = 3 ∨ n = 4 by omega) with rfl | rfl | rfl | rfl <;> omega
  · rcases (show n = 2 ∨ n = 3 ∨ n = 4 by omega) with rfl | rfl | rfl <;> omega
  · rcases (show n = 3 ∨ n = 4 by omega) with rfl | rfl <;> omega
  · omega
theorem pst_cnt {mp : Int → Int} (hT : TrM mp) (hR : RlM mp) (g : Int) : ∀ T : Nat, T ≤ 24 → (pst mp g T).2.2 = sm (fun c => bI (0 ≤ (pst mp g T).1 c)) 4
  | 0, _ => by rw [sm4]; rfl
  | T + 1, h => by
    have ih := pst_cnt hT hR g T (by omega)
    obtain ⟨i1, i2, i3, i4, i5, i6⟩ := pst_I hT hR g T (by omega)
    have r1 := hR.1
    show (pstep mp g T (pst mp g T)).2.2 = sm (fun c => bI (0 ≤ (pstep mp g T (pst mp g T)).1 c)) 4
    unfold pstep
    split
    · rename_i hc
      obtain ⟨c1, c2, c3⟩ := pcd_iff.mp hc
      have p0 : 0 ≤ pat mp T (pst mp g T) ∧ pat mp T (pst mp g T) < mp 131 := by
        unfold pat
        split
        · exact ⟨Int.emod_nonneg _ (by omega), Int.emod_lt_of_pos _ (by omega)⟩
        · rcases c1 with c1 | c1
          · omega
          · omega
      dsimp only
      rw [sm4_up (by omega) c2 (tk_iff.mp c3).1, ih]
    · exact ih
theorem pst_le {mp : Int → Int} (hT : TrM mp) (hR : RlM mp) (g : Int) (T : Nat) (h : T ≤ 24) : 0 ≤ (pst mp g T).2.2 ∧ (pst mp g T).2.2 ≤ 4 := by
  rw [pst_cnt hT hR g T h]
  have := sm_r (f := fun c => bI (0 ≤ (pst mp g T).1 c)) (c := 1) (n := 4) (fun k _ => bI_r)
  omega
theorem pst_stop {mp : Int → Int} (hT : TrM mp) (hR : RlM mp) (g : Int) {t : Nat} (h : mp 131 ≤ (pst mp g t).2.2) : ∀ n : Nat, t + n ≤ 24 → pst mp g (t + n) = pst mp g t
  | 0, _ => rfl
  | n + 1, hn => by
    have ih := pst_stop hT hR g h n (by omega)
    obtain ⟨i1, i2, i3, i4, i5, i6⟩ := pst_I hT hR g t (by omega)
    have r1 := hR.1
    show pstep mp g (t + n) (pst mp g (t + n)) = _
    rw [ih]
    unfold pstep
    rw [if_neg]
    intro z
    obtain ⟨c1, c2, c3⟩ := pcd_iff.mp z
    by_cases e : mp 133 = 1
    · have hf := sm4_full (co := (pst mp g t).1) r1 (fun c hc => by rw [i4 c hc]; omega) (by rw [← pst_cnt hT hR g t (by omega)]; exact h)
      have := hf (((t + n : Nat) : Int) % mp 131) (Int.emod_nonneg _ (by omega)) (Int.emod_lt_of_pos _ (by omega))
      unfold pat at c2
      rw [if_pos e] at c2
      omega
    · rcases c1 with c1 | c1
      · exact e c1
      · omega
theorem iO_0 {z : Int} (h : -2147483648 ≤ z ∧ z < 2147483648) : iO z 0 = z := by
  unfold iO
  rw [show Int32.ofInt 0 = 0 from rfl, Int32.or_zero]
  exact i32_toInt h
theorem apL_4 {mp co : Int → Int} {d : Int} (h : CoI mp co) : apL mp co d (-4) = apt mp co d (-1) := by
  have e : apL mp co d (-4) = true ↔ apt mp co d (-1) = true := by
    rw [apL_iff, apt_iff]
    constructor
    · intro q c c0 c1
      rcases q c c0 c1 with y | y | y
      · exact Or.inr (Or.inl y)
      · exact Or.inr (Or.inl (by omega))
      · exact Or.inr (Or.inr y)
    · intro q c c0 c1
      rcases q c c0 c1 with y | y | y
      · omega
      · exact Or.inl y
      · exact Or.inr (Or.inr y)
  cases h1 : apL mp co d (-4) <;> cases h2 : apt mp co d (-1) <;> simp_all
theorem plr_g {mp : Int → Int} {g c : Int} (hc : 0 ≤ c ∧ c < 4) : plr mp (4 * g + c) = plc mp g c := by
  unfold plr
  rw [show (4 * g + c) / 4 = g by omega, show (4 * g + c) % 4 = c by omega]
theorem dX3_settleGroup_0 : decode cX3_settleGroup 0 = .ok (.iconst 4, 1) := by decide +kernel
theorem dX3_settleGroup_1 : decode cX3_settleGroup 1 = .ok (.iload_n 2, 1) := by decide +kernel
theorem dX3_settleGroup_2 : decode cX3_settleGroup 2 = .ok (.imul, 1) := by decide +kernel
theorem dX3_settleGroup_3 : decode cX3_settleGroup 3 = .ok (.istore_n 3, 1) := by decide +kernel
theorem dX3_settleGroup_4 : decode cX3_settleGroup 4 = .ok (.iconst 0, 1) := by decide +kernel
theorem dX3_settleGroup_5 : decode cX3_settleGroup 5 = .ok (.istore 4, 2) := by decide +kernel
theorem dX3_settleGroup_7 : decode cX3_settleGroup 7 = .ok (.iload 4, 2) := by decide +kernel
theorem dX3_settleGroup_9 : decode cX3_settleGroup 9 = .ok (.iconst 4, 1) := by decide +kernel
theorem dX3_settleGroup_10 : decode cX3_settleGroup 10 = .ok (.if_icmp .ge 31, 3) := by decide +kernel
theorem dX3_settleGroup_13 : decode cX3_settleGroup 13 = .ok (.aload_n 0, 1) := by decide +kernel
theorem dX3_settleGroup_14 : decode cX3_settleGroup 14 = .ok (.getfield 32, 3) := by decide +kernel
theorem dX3_settleGroup_17 : decode cX3_settleGroup 17 = .ok (.iload_n 3, 1) := by decide +kernel
theorem dX3_settleGroup_18 : decode cX3_settleGroup 18 = .ok (.iload 4, 2) := by decide +kernel
theorem dX3_settleGroup_20 : decode cX3_settleGroup 20 = .ok (.iadd, 1) := by decide +kernel
theorem dX3_settleGroup_21 : decode cX3_settleGroup 21 = .ok (.bipush (-4), 2) := by decide +kernel
theorem dX3_settleGroup_23 : decode cX3_settleGroup 23 = .ok (.iastore, 1) := by decide +kernel
theorem dX3_settleGroup_24 : decode cX3_settleGroup 24 = .ok (.aload_n 0, 1) := by decide +kernel
theorem dX3_settleGroup_25 : decode cX3_settleGroup 25 = .ok (.getfield 35, 3) := by decide +kernel
theorem dX3_settleGroup_28 : decode cX3_settleGroup 28 = .ok (.iload_n 3, 1) := by decide +kernel
theorem dX3_settleGroup_29 : decode cX3_settleGroup 29 = .ok (.iload 4, 2) := by decide +kernel
theorem dX3_settleGroup_31 : decode cX3_settleGroup 31 = .ok (.iadd, 1) := by decide +kernel
theorem dX3_settleGroup_32 : decode cX3_settleGroup 32 = .ok (.bipush (-4), 2) := by decide +kernel
theorem dX3_settleGroup_34 : decode cX3_settleGroup 34 = .ok (.iastore, 1) := by decide +kernel
theorem dX3_settleGroup_35 : decode cX3_settleGroup 35 = .ok (.iinc 4 1, 3) := by decide +kernel
theorem dX3_settleGroup_38 : decode cX3_settleGroup 38 = .ok (.goto (-31), 3) := by decide +kernel
theorem dX3_settleGroup_41 : decode cX3_settleGroup 41 = .ok (.iconst 0, 1) := by decide +kernel
theorem dX3_settleGroup_42 : decode cX3_settleGroup 42 = .ok (.istore 4, 2) := by decide +kernel
theorem dX3_settleGroup_44 : decode cX3_settleGroup 44 = .ok (.iconst 0, 1) := by decide +kernel
theorem dX3_settleGroup_45 : decode cX3_settleGroup 45 = .ok (.istore 5, 2) := by decide +kernel
theorem dX3_settleGroup_47 : decode cX3_settleGroup 47 = .ok (.iload 5, 2) := by decide +kernel
theorem dX3_settleGroup_49 : decode cX3_settleGroup 49 = .ok (.aload_n 0, 1) := by decide +kernel
theorem dX3_settleGroup_50 : decode cX3_settleGroup 50 = .ok (.getfield 55, 3) := by decide +kernel
theorem dX3_settleGroup_53 : decode cX3_settleGroup 53 = .ok (.if_icmp .ge 122, 3) := by decide +kernel
theorem dX3_settleGroup_56 : decode cX3_settleGroup 56 = .ok (.iload 4, 2) := by decide +kernel
theorem dX3_settleGroup_58 : decode cX3_settleGroup 58 = .ok (.aload_n 0, 1) := by decide +kernel
theorem dX3_settleGroup_59 : decode cX3_settleGroup 59 = .ok (.getfield 71, 3) := by decide +kernel
theorem dX3_settleGroup_62 : decode cX3_settleGroup 62 = .ok (.if_icmp .ge 113, 3) := by decide +kernel
theorem dX3_settleGroup_65 : decode cX3_settleGroup 65 = .ok (.iload_n 3, 1) := by decide +kernel
theorem dX3_settleGroup_66 : decode cX3_settleGroup 66 = .ok (.aload_n 0, 1) := by decide +kernel
theorem dX3_settleGroup_67 : decode cX3_settleGroup 67 = .ok (.getfield 77, 3) := by decide +kernel
theorem dX3_settleGroup_70 : decode cX3_settleGroup 70 = .ok (.iconst 1, 1) := by decide +kernel
theorem dX3_settleGroup_71 : decode cX3_settleGroup 71 = .ok (.if_icmp .ne 13, 3) := by decide +kernel
theorem dX3_settleGroup_74 : decode cX3_settleGroup 74 = .ok (.iload 5, 2) := by decide +kernel
theorem dX3_settleGroup_76 : decode cX3_settleGroup 76 = .ok (.aload_n 0, 1) := by decide +kernel
theorem dX3_settleGroup_77 : decode cX3_settleGroup 77 = .ok (.getfield 71, 3) := by decide +kernel
theorem dX3_settleGroup_80 : decode cX3_settleGroup 80 = .ok (.irem, 1) := by decide +kernel
theorem dX3_settleGroup_81 : decode cX3_settleGroup 81 = .ok (.goto 5, 3) := by decide +kernel
theorem dX3_settleGroup_84 : decode cX3_settleGroup 84 = .ok (.iload 4, 2) := by decide +kernel
theorem dX3_settleGroup_86 : decode cX3_settleGroup 86 = .ok (.iadd, 1) := by decide +kernel
theorem dX3_settleGroup_87 : decode cX3_settleGroup 87 = .ok (.istore 6, 2) := by decide +kernel
theorem dX3_settleGroup_89 : decode cX3_settleGroup 89 = .ok (.aload_n 0, 1) := by decide +kernel
theorem dX3_settleGroup_90 : decode cX3_settleGroup 90 = .ok (.getfield 32, 3) := by decide +kernel
theorem dX3_settleGroup_93 : decode cX3_settleGroup 93 = .ok (.iload 6, 2) := by decide +kernel
theorem dX3_settleGroup_95 : decode cX3_settleGroup 95 = .ok (.iaload, 1) := by decide +kernel
theorem dX3_settleGroup_96 : decode cX3_settleGroup 96 = .ok (.bipush (-4), 2) := by decide +kernel
theorem dX3_settleGroup_98 : decode cX3_settleGroup 98 = .ok (.if_icmp .ne 17, 3) := by decide +kernel
theorem dX3_settleGroup_101 : decode cX3_settleGroup 101 = .ok (.aload_n 0, 1) := by decide +kernel
theorem dX3_settleGroup_102 : decode cX3_settleGroup 102 = .ok (.getfield 12, 3) := by decide +kernel
theorem dX3_settleGroup_105 : decode cX3_settleGroup 105 = .ok (.aload_n 1, 1) := by decide +kernel
theorem dX3_settleGroup_106 : decode cX3_settleGroup 106 = .ok (.iload_n 2, 1) := by decide +kernel
theorem dX3_settleGroup_107 : decode cX3_settleGroup 107 = .ok (.iload 5, 2) := by decide +kernel
theorem dX3_settleGroup_109 : decode cX3_settleGroup 109 = .ok (.invokevirtual 99, 3) := by decide +kernel
theorem dX3_settleGroup_112 : decode cX3_settleGroup 112 = .ok (.goto 5, 3) := by decide +kernel
theorem dX3_settleGroup_115 : decode cX3_settleGroup 115 = .ok (.bipush (-4), 2) := by decide +kernel
theorem dX3_settleGroup_117 : decode cX3_settleGroup 117 = .ok (.istore 7, 2) := by decide +kernel
theorem dX3_settleGroup_119 : decode cX3_settleGroup 119 = .ok (.iload 7, 2) := by decide +kernel
theorem dX3_settleGroup_121 : decode cX3_settleGroup 121 = .ok (.bipush (-4), 2) := by decide +kernel
theorem dX3_settleGroup_123 : decode cX3_settleGroup 123 = .ok (.if_icmp .eq 46, 3) := by decide +kernel
theorem dX3_settleGroup_126 : decode cX3_settleGroup 126 = .ok (.aload_n 0, 1) := by decide +kernel
theorem dX3_settleGroup_127 : decode cX3_settleGroup 127 = .ok (.iload_n 2, 1) := by decide +kernel
theorem dX3_settleGroup_128 : decode cX3_settleGroup 128 = .ok (.iload 7, 2) := by decide +kernel
theorem dX3_settleGroup_130 : decode cX3_settleGroup 130 = .ok (.invokevirtual 103, 3) := by decide +kernel
theorem dX3_settleGroup_133 : decode cX3_settleGroup 133 = .ok (.ifCond .eq 36, 3) := by decide +kernel
theorem dX3_settleGroup_136 : decode cX3_settleGroup 136 = .ok (.aload_n 0, 1) := by decide +kernel
theorem dX3_settleGroup_137 : decode cX3_settleGroup 137 = .ok (.iload_n 3, 1) := by decide +kernel
theorem dX3_settleGroup_138 : decode cX3_settleGroup 138 = .ok (.iload 7, 2) := by decide +kernel
theorem dX3_settleGroup_140 : decode cX3_settleGroup 140 = .ok (.bipush (-4), 2) := by decide +kernel
theorem dX3_settleGroup_142 : decode cX3_settleGroup 142 = .ok (.invokevirtual 106, 3) := by decide +kernel
theorem dX3_settleGroup_145 : decode cX3_settleGroup 145 = .ok (.ifCond .eq 24, 3) := by decide +kernel
theorem dX3_settleGroup_148 : decode cX3_settleGroup 148 = .ok (.aload_n 0, 1) := by decide +kernel
theorem dX3_settleGroup_149 : decode cX3_settleGroup 149 = .ok (.getfield 32, 3) := by decide +kernel
theorem dX3_settleGroup_152 : decode cX3_settleGroup 152 = .ok (.iload 6, 2) := by decide +kernel
theorem dX3_settleGroup_154 : decode cX3_settleGroup 154 = .ok (.iload 7, 2) := by decide +kernel
theorem dX3_settleGroup_156 : decode cX3_settleGroup 156 = .ok (.iastore, 1) := by decide +kernel
theorem dX3_settleGroup_157 : decode cX3_settleGroup 157 = .ok (.aload_n 0, 1) := by decide +kernel
theorem dX3_settleGroup_158 : decode cX3_settleGroup 158 = .ok (.getfield 35, 3) := by decide +kernel
theorem dX3_settleGroup_161 : decode cX3_settleGroup 161 = .ok (.iload 6, 2) := by decide +kernel
theorem dX3_settleGroup_163 : decode cX3_settleGroup 163 = .ok (.iload 5, 2) := by decide +kernel
theorem dX3_settleGroup_165 : decode cX3_settleGroup 165 = .ok (.iastore, 1) := by decide +kernel
theorem dX3_settleGroup_166 : decode cX3_settleGroup 166 = .ok (.iinc 4 1, 3) := by decide +kernel
theorem dX3_settleGroup_169 : decode cX3_settleGroup 169 = .ok (.iinc 5 1, 3) := by decide +kernel
theorem dX3_settleGroup_172 : decode cX3_settleGroup 172 = .ok (.goto (-125), 3) := by decide +kernel
theorem dX3_settleGroup_175 : decode cX3_settleGroup 175 = .ok (.aload_n 0, 1) := by decide +kernel
theorem dX3_settleGroup_176 : decode cX3_settleGroup 176 = .ok (.iload_n 2, 1) := by decide +kernel
theorem dX3_settleGroup_177 : decode cX3_settleGroup 177 = .ok (.invokevirtual 110, 3) := by decide +kernel
theorem dX3_settleGroup_180 : decode cX3_settleGroup 180 = .ok (.aload_n 0, 1) := by decide +kernel
theorem dX3_settleGroup_181 : decode cX3_settleGroup 181 = .ok (.getfield 38, 3) := by decide +kernel
theorem dX3_settleGroup_184 : decode cX3_settleGroup 184 = .ok (.iload_n 2, 1) := by decide +kernel
theorem dX3_settleGroup_185 : decode cX3_settleGroup 185 = .ok (.iconst 0, 1) := by decide +kernel
theorem dX3_settleGroup_186 : decode cX3_settleGroup 186 = .ok (.iastore, 1) := by decide +kernel
theorem dX3_settleGroup_187 : decode cX3_settleGroup 187 = .ok (.iconst 0, 1) := by decide +kernel
theorem dX3_settleGroup_188 : decode cX3_settleGroup 188 = .ok (.istore 5, 2) := by decide +kernel
theorem dX3_settleGroup_190 : decode cX3_settleGroup 190 = .ok (.iload 5, 2) := by decide +kernel
theorem dX3_settleGroup_192 : decode cX3_settleGroup 192 = .ok (.iconst 4, 1) := by decide +kernel
theorem dX3_settleGroup_193 : decode cX3_settleGroup 193 = .ok (.if_icmp .ge 48, 3) := by decide +kernel
theorem dX3_settleGroup_196 : decode cX3_settleGroup 196 = .ok (.aload_n 0, 1) := by decide +kernel
theorem dX3_settleGroup_197 : decode cX3_settleGroup 197 = .ok (.getfield 38, 3) := by decide +kernel
theorem dX3_settleGroup_200 : decode cX3_settleGroup 200 = .ok (.iload_n 2, 1) := by decide +kernel
theorem dX3_settleGroup_201 : decode cX3_settleGroup 201 = .ok (.dup2, 1) := by decide +kernel
theorem dX3_settleGroup_202 : decode cX3_settleGroup 202 = .ok (.iaload, 1) := by decide +kernel
theorem dX3_settleGroup_203 : decode cX3_settleGroup 203 = .ok (.aload_n 0, 1) := by decide +kernel
theorem dX3_settleGroup_204 : decode cX3_settleGroup 204 = .ok (.getfield 32, 3) := by decide +kernel
theorem dX3_settleGroup_207 : decode cX3_settleGroup 207 = .ok (.iload_n 3, 1) := by decide +kernel
theorem dX3_settleGroup_208 : decode cX3_settleGroup 208 = .ok (.iload 5, 2) := by decide +kernel
theorem dX3_settleGroup_210 : decode cX3_settleGroup 210 = .ok (.iadd, 1) := by decide +kernel
theorem dX3_settleGroup_211 : decode cX3_settleGroup 211 = .ok (.iaload, 1) := by decide +kernel
theorem dX3_settleGroup_212 : decode cX3_settleGroup 212 = .ok (.bipush (-4), 2) := by decide +kernel
theorem dX3_settleGroup_214 : decode cX3_settleGroup 214 = .ok (.if_icmp .ne 7, 3) := by decide +kernel
theorem dX3_settleGroup_217 : decode cX3_settleGroup 217 = .ok (.iconst 0, 1) := by decide +kernel
theorem dX3_settleGroup_218 : decode cX3_settleGroup 218 = .ok (.goto 15, 3) := by decide +kernel
theorem dX3_settleGroup_221 : decode cX3_settleGroup 221 = .ok (.aload_n 0, 1) := by decide +kernel
theorem dX3_settleGroup_222 : decode cX3_settleGroup 222 = .ok (.getfield 32, 3) := by decide +kernel
theorem dX3_settleGroup_225 : decode cX3_settleGroup 225 = .ok (.iload_n 3, 1) := by decide +kernel
theorem dX3_settleGroup_226 : decode cX3_settleGroup 226 = .ok (.iload 5, 2) := by decide +kernel
theorem dX3_settleGroup_228 : decode cX3_settleGroup 228 = .ok (.iadd, 1) := by decide +kernel
theorem dX3_settleGroup_229 : decode cX3_settleGroup 229 = .ok (.iaload, 1) := by decide +kernel
theorem dX3_settleGroup_230 : decode cX3_settleGroup 230 = .ok (.invokestatic 88, 3) := by decide +kernel
theorem dX3_settleGroup_233 : decode cX3_settleGroup 233 = .ok (.ior, 1) := by decide +kernel
theorem dX3_settleGroup_234 : decode cX3_settleGroup 234 = .ok (.iastore, 1) := by decide +kernel
theorem dX3_settleGroup_235 : decode cX3_settleGroup 235 = .ok (.iinc 5 1, 3) := by decide +kernel
theorem dX3_settleGroup_238 : decode cX3_settleGroup 238 = .ok (.goto (-48), 3) := by decide +kernel
theorem dX3_settleGroup_241 : decode cX3_settleGroup 241 = .ok (.return_, 1) := by decide +kernel
set_option maxHeartbeats 4000000 in
set_option maxRecDepth 20000 in
theorem c_X3_settleGroup : ConV mX3_settleGroup (fun args N lay r h Q => ∃ (p : Nat) (mp : Int → Int) (s : Nat) (g : Int), args = [.ref p, .ref s, vI g] ∧ PlAt lay r p ∧ StAt lay r s ∧ (s + 2 ≤ p ∨ p + 14 ≤ s) ∧ TrM mp ∧ RlM mp ∧ PTr h p mp ∧ PRl h p mp ∧ PWt h p mp ∧ StK (h (s + 1)) ∧ (0 ≤ g ∧ g < 16) ∧ ∀ h2, Fr h h2 (fun x => x = p + 8 ∨ x = p + 11 ∨ x = p + 12 ∨ x = p + 13 ∨ x = s + 1) → StK (h2 (s + 1)) → (∀ c, 0 ≤ c → c < 4 → h2 (p + 11) (4 * g + c) = plc mp g c) → (∀ c, 0 ≤ c → c < 4 → h2 (p + 12) (4 * g + c) = trs mp g c) → h2 (p + 13) g = pb (plr mp) g → (∀ j, ¬ (4 * g ≤ j ∧ j < 4 * g + 4) → h2 (p + 11) j = h (p + 11) j ∧ h2 (p + 12) j = h (p + 12) j) → (∀ q, q ≠ g → h2 (p + 13) q = h (p + 13) q) → (∀ j, 0 ≤ j → j < mp 135 → h2 (p + 8) j = if mp (110 + 3 * j) = g then std mp g j.toNat else h (p + 8) j) → Q N lay r h2) := by
  refine ConV.of (by decide) (by rintro _ N lay r h Q ⟨p, mp, s, g, rfl, hA, hS, hP, hT, hR, hN, hL, hW, hK, hg, hQ⟩; exact ⟨rfl, Nat.le_of_ble_eq_true rfl⟩) ?_
  rintro E _ N lay r h Q ⟨p, mp, s, g, rfl, hA, hS, hP, hT, hR, hN, hL, hW, hK, hg, hQ⟩ hret
  obtain ⟨pl0, pl1, pl2, pl3, pl4, pl5, pl6, pl7, pl8, pl9, pl10, pl11, pl12, pl13, pr0, pr1, pr2, pr3, pr9, pr10, pr11, qr3, qr4, vr1, vr2, vr3, vr4⟩ := id hA
  obtain ⟨sl0, sl1, sr0⟩ := id hS
  obtain ⟨⟨rl5, rl6, rl7, rl8⟩, rfu, rca, rre, rnu, rdv⟩ := id hL
  obtain ⟨r1, r2, r3, r4, r5, r6, r7⟩ := id hR
  have t3 := hT.2.2.1
  show St E mX3_settleGroup 0 [some (.ref p), some (.ref s), some (vI g), none, none, none, none, none] [] (0, 0) N lay r h
  have lp3 : ∀ (hb : HpT) (x4 : Int) (x6 : Option Value) (x7 : Option Value) (hf : Fr h hb (fun x => x = p + 8 ∨ x = p + 11 ∨ x = p + 12 ∨ x = s + 1)) (hk3 : StK (hb (s + 1))) (hcp : ∀ c, 0 ≤ c → c < 4 → hb (p + 11) (4 * g + c) = plr mp (4 * g + c)) (htr : ∀ c, 0 ≤ c → c < 4 → hb (p + 12) (4 * g + c) = trs mp g c) (hou : ∀ j, ¬ (4 * g ≤ j ∧ j < 4 * g + 4) → hb (p + 11) j = h (p + 11) j ∧ hb (p + 12) j = h (p + 12) j) (hwk : ∀ j, 0 ≤ j → j < mp 135 → hb (p + 8) j = if mp (110 + 3 * j) = g then std mp g j.toNat else h (p + 8) j) (n_ : Nat) (c : Int) (z : Int), (4 - c).toNat = n_ → (0 ≤ c ∧ c ≤ 4) → (z = pbk (plr mp) g c.toNat) → St E mX3_settleGroup 190 [some (.ref p), some (.ref s), some (vI g), some (vI (4 * g)), some (vI x4), some (vI c), x6, x7] [] (0, 0) N lay r (hr hb (p + 13) (up (hb (p + 13)) g z)) := by
    intro hb x4 x6 x7 hf hk3 hcp htr hou hwk n_
    induction n_ using Nat.strongRecOn with
    | ind n_ ih =>
      intro c z hn_ hc hz
      obtain ⟨k, rfl⟩ : ∃ k : Nat, c = k := ⟨c.toNat, by omega⟩
      rw [show ((k : Int)).toNat = k by omega] at hz
      have e1 : pbk (plr mp) g (k + 1) = if 0 ≤ plr mp (4 * g + (k : Int)) then iO (pbk (plr mp) g k) (iSl 1 (plr mp (4 * g + (k : Int)) - 10)) else pbk (plr mp) g k := rfl
      have zr := pbk_r (plr mp) g k
      rw [← hz] at zr
      have pr := plr_r hT hR (4 * g + (k : Int))
      have hcp9 := hcp k
      refine r_iload_5 (pc := 190) dX3_settleGroup_190 ?_
      refine r_iconst (pc := 192) dX3_settleGroup_192 ?_
      refine r_icmp_ge (pc := 193) (tgt := 241) dX3_settleGroup_193 (by decide) (by omega) (by omega) (fun c_193 => ?_) (fun c_193 => ?_)
      · refine r_ret (pc := 241) hret dX3_settleGroup_241 rfl rfl rfl ?_
        have hk4 : k = 4 := by omega
        subst hk4
        refine hQ _ (fun x hx => ?_) ?_ (fun c c0 c1 => ?_) (fun c c0 c1 => ?_) ?_ (fun j hj => ?_) (fun q hq => ?_) (fun j j0 j1 => ?_)
        · rw [hr_n (by omega)]; exact hf x (by omega)
        · rw [hr_n (by omega)]; exact hk3
        · rw [hr_n (by omega), hcp c c0 c1, plr_g ⟨c0, c1⟩]
        · rw [hr_n (by omega)]; exact htr c c0 c1
        · rw [hr_s, up_s]; exact hz
        · rw [hr_n (by omega), hr_n (by omega)]; exact hou j hj
        · rw [hr_s, up_n hq, hf _ (by omega)]
        · rw [hr_n (by omega)]; exact hwk j j0 j1
      · refine r_aload_0 (pc := 196) dX3_settleGroup_196 ?_
        refine gf_X3_38 (pc := 197) rfl (by assumption) dX3_settleGroup_197 (by assumption) ?_
        refine r_iload_2 (pc := 200) dX3_settleGroup_200 ?_
        refine r_dup2 (pc := 201) dX3_settleGroup_201 ?_
        refine r_ialdE (pc := 202) (by assumption) (by first | assumption | exact hr_s | exact hr_n (by omega) | exact rfl) dX3_settleGroup_202 (by omega) (by omega) (fun i_202 => ?_)
        rw [up_s] at i_202 ⊢
        refine r_aload_0 (pc := 203) dX3_settleGroup_203 ?_
        refine gf_X3_32 (pc := 204) rfl (by assumption) dX3_settleGroup_204 (by assumption) ?_
        refine r_iload_3 (pc := 207) dX3_settleGroup_207 ?_
        refine r_iload_5 (pc := 208) dX3_settleGroup_208 ?_
        refine r_iadd (pc := 210) dX3_settleGroup_210 ?_
        refine r_ialdE (pc := 211) (by assumption) (by first | assumption | exact hr_s | exact hr_n (by omega) | exact rfl) dX3_settleGroup_211 (by omega) (by omega) (fun i_211 => ?_)
        rw [hcp9 (by omega) (by omega)] at i_211 ⊢
        refine r_bipush (pc := 212) dX3_settleGroup_212 (by decide) ?_
        refine r_icmp_ne (pc := 214) (tgt := 221) dX3_settleGroup_214 (by decide) (by omega) (by omega) (fun c_214 => ?_) (fun c_214 => ?_)
        · refine r_aload_0 (pc := 221) dX3_settleGroup_221 ?_
          refine gf_X3_32 (pc := 222) rfl (by assumption) dX3_settleGroup_222 (by assumption) ?_
          refine r_iload_3 (pc := 225) dX3_settleGroup_225 ?_
          refine r_iload_5 (pc := 226) dX3_settleGroup_226 ?_
          refine r_iadd (pc := 228) dX3_settleGroup_228 ?_
          refine r_ialdE (pc := 229) (by assumption) (by first | assumption | exact hr_s | exact hr_n (by omega) | exact rfl) dX3_settleGroup_229 (by omega) (by omega) (fun i_229 => ?_)
          rw [hcp9 (by omega) (by omega)] at i_229 ⊢
          refine k_SNI1 (pc := 230) c_X7_bitOf lk_X3_88 ⟨Nat.le_of_ble_eq_true rfl, Nat.le_of_ble_eq_true rfl⟩ ⟨rfl, rfl⟩ ⟨Nat.le_of_ble_eq_true rfl, Nat.le_of_ble_eq_true rfl⟩ dX3_settleGroup_230 (Nat.le_of_ble_eq_true rfl) ?_
          refine ⟨_, rfl, fun i_230 => ?_⟩
          refine r_ior (pc := 233) dX3_settleGroup_233 (fun i_233 => ?_)
          refine r_iastE (pc := 234) (by assumption) (by first | assumption | exact hr_s | exact hr_n (by omega) | exact rfl) dX3_settleGroup_234 (by omega) (by omega) (by omega) ?_
          rw [hr_hr, up_up]
          refine r_iinc_5 (pc := 235) dX3_settleGroup_235 rfl ?_
          refine r_goto (pc := 238) (tgt := 190) dX3_settleGroup_238 (by decide) ?_
          first
          | (have k9 : plr mp (4 * g + (k : Int)) = -4 := c_214
             refine ih _ (by omega) ((k : Int) + 1) _ rfl (by omega) ?_
             rw [show ((k : Int) + 1).toNat = k + 1 by omega, e1, if_neg (by omega), iO_0 zr]
             exact hz)
          | (have k9 : ¬ plr mp (4 * g + (k : Int)) = -4 := c_214
             refine ih _ (by omega) ((k : Int) + 1) _ rfl (by omega) ?_
             rw [show ((k : Int) + 1).toNat = k + 1 by omega, e1, if_pos (by omega), hz])
        · refine r_iconst (pc := 217) dX3_settleGroup_217 ?_
          refine r_goto (pc := 218) (tgt := 233) dX3_settleGroup_218 (by decide) ?_
          refine r_ior (pc := 233) dX3_settleGroup_233 (fun i_233 => ?_)
          refine r_iastE (pc := 234) (by assumption) (by first | assumption | exact hr_s | exact hr_n (by omega) | exact rfl) dX3_settleGroup_234 (by omega) (by omega) (by omega) ?_
          rw [hr_hr, up_up]
          refine r_iinc_5 (pc := 235) dX3_settleGroup_235 rfl ?_
          refine r_goto (pc := 238) (tgt := 190) dX3_settleGroup_238 (by decide) ?_
          first
          | (have k9 : plr mp (4 * g + (k : Int)) = -4 := c_214
             refine ih _ (by omega) ((k : Int) + 1) _ rfl (by omega) ?_
             rw [show ((k : Int) + 1).toNat = k + 1 by omega, e1, if_neg (by omega), iO_0 zr]
             exact hz)
          | (have k9 : ¬ plr mp (4 * g + (k : Int)) = -4 := c_214
             refine ih _ (by omega) ((k : Int) + 1) _ rfl (by omega) ?_
             rw [show ((k : Int) + 1).toNat = k + 1 by omega, e1, if_pos (by omega), hz])
  have K175 : ∀ (hk : HpT) (x4 : Int) (x5 x6 x7 : Option Value), Fr h hk (fun x => x = p + 11 ∨ x = p + 12 ∨ x = s + 1) → StK (hk (s + 1)) → (∀ c, 0 ≤ c → c < 4 → hk (p + 11) (4 * g + c) = co0 mp g c) → (∀ c, 0 ≤ c → c < 4 → hk (p + 12) (4 * g + c) = trs mp g c) → (∀ j, ¬ (4 * g ≤ j ∧ j < 4 * g + 4) → hk (p + 11) j = h (p + 11) j ∧ hk (p + 12) j = h (p + 12) j) → St E mX3_settleGroup 175 [some (.ref p), some (.ref s), some (vI g), some (vI (4 * g)), some (vI x4), x5, x6, x7] [] (0, 0) N lay r hk := by
    intro hk x4 x5 x6 x7 hf hk3 hcp htr hou
    have TR : PTr hk p mp := hN.of (hf _ (by omega)) (hf _ (by omega)) (hf _ (by omega))
    have RL : PRl hk p mp := hL.of (hf _ (by omega)) (hf _ (by omega)) (hf _ (by omega)) (hf _ (by omega)) (hf _ (by omega)) (hf _ (by omega)) (hf _ (by omega))
    have WT : PWt hk p mp := hW.of (hf _ (by omega))
    have cI := co0_I hT hR g
    have cD : Dst mp (co0 mp g) := pst_D g (mp 134).toNat
    refine r_aload_0 (pc := 175) dX3_settleGroup_175 ?_
    refine r_iload_2 (pc := 176) dX3_settleGroup_176 ?_
    refine k_VV1 (pc := 177) c_X3_applyDiversions lk_X3_110 ⟨Nat.le_of_ble_eq_true rfl, Nat.le_of_ble_eq_true rfl⟩ ⟨rfl, rfl⟩ ⟨Nat.le_of_ble_eq_true rfl, Nat.le_of_ble_eq_true rfl⟩ (k := 3) rfl (by decide) (by assumption) dX3_settleGroup_177 (Nat.le_of_ble_eq_true rfl) ?_
    refine ⟨_, mp, _, _, rfl, by assumption, by assumption, by assumption, by assumption, by assumption, by assumption, by assumption, by omega, by assumption, fun h_177 f_177 a_177 b_177 d_177 => ?_⟩
    refine r_aload_0 (pc := 180) dX3_settleGroup_180 ?_
    refine gf_X3_38 (pc := 181) rfl (by assumption) dX3_settleGroup_181 (by assumption) ?_
    refine r_iload_2 (pc := 184) dX3_settleGroup_184 ?_
    refine r_iconst (pc := 185) dX3_settleGroup_185 ?_
    refine r_iastE (pc := 186) (by assumption) (by first | assumption | exact hr_s | exact hr_n (by omega) | exact rfl) dX3_settleGroup_186 (by omega) (by omega) (by omega) ?_
    refine r_iconst (pc := 187) dX3_settleGroup_187 ?_
    refine r_istore_5 (pc := 188) dX3_settleGroup_188 rfl ?_
    refine lp3 h_177 x4 x6 x7 (fun x hx => (f_177 x (by omega)).trans (hf x (by omega))) (by rw [f_177 _ (by omega)]; exact hk3) (fun c c0 c1 => ?_) (fun c c0 c1 => ?_) (fun j hj => ?_) (fun j j0 j1 => ?_) _ 0 0 rfl (by omega) rfl
    · rw [a_177 c c0 c1, plr_g ⟨c0, c1⟩]; rfl
    · rw [f_177 _ (by omega)]; exact htr c c0 c1
    · rw [b_177 j hj, f_177 _ (by omega)]; exact hou j hj
    · rw [d_177 j j0 j1, hf _ (by omega)]
      by_cases e : mp (110 + 3 * j) = g
      · rw [if_pos e, if_pos e]
        unfold std
        rw [show ((j.toNat : Nat) : Int) = j by omega]
      · rw [if_neg e, if_neg e]
  have step : ∀ (k : Nat) (hk : HpT) (x7 : Option Value), (k : Int) < mp 134 → (pst mp g k).2.2 < mp 131 → Fr h hk (fun x => x = p + 11 ∨ x = p + 12 ∨ x = s + 1) → StK (hk (s + 1)) → (∀ c, 0 ≤ c → c < 4 → hk (p + 11) (4 * g + c) = (pst mp g k).1 c) → (∀ c, 0 ≤ c → c < 4 → hk (p + 12) (4 * g + c) = (pst mp g k).2.1 c) → (∀ j, ¬ (4 * g ≤ j ∧ j < 4 * g + 4) → hk (p + 11) j = h (p + 11) j ∧ hk (p + 12) j = h (p + 12) j) →
      (∀ (h3 : HpT) (x6 x7 : Option Value), Fr h h3 (fun x => x = p + 11 ∨ x = p + 12 ∨ x = s + 1) → StK (h3 (s + 1)) → (∀ c, 0 ≤ c → c < 4 → h3 (p + 11) (4 * g + c) = (pst mp g (k + 1)).1 c) → (∀ c, 0 ≤ c → c < 4 → h3 (p + 12) (4 * g + c) = (pst mp g (k + 1)).2.1 c) → (∀ j, ¬ (4 * g ≤ j ∧ j < 4 * g + 4) → h3 (p + 11) j = h (p + 11) j ∧ h3 (p + 12) j = h (p + 12) j) → St E mX3_settleGroup 47 [some (.ref p), some (.ref s), some (vI g), some (vI (4 * g)), some (vI (pst mp g (k + 1)).2.2), some (vI ((k : Int) + 1)), x6, x7] [] (0, 0) N lay r h3) →
      St E mX3_settleGroup 89 [some (.ref p), some (.ref s), some (vI g), some (vI (4 * g)), some (vI (pst mp g k).2.2), some (vI k), some (vI (4 * g + pat mp k (pst mp g k))), x7] [] (0, 0) N lay r hk := by
    intro k hk x7 hkt hkc hf hk3 hcp htr hou K
    have TR : PTr hk p mp := hN.of (hf _ (by omega)) (hf _ (by omega)) (hf _ (by omega))
    have RL : PRl hk p mp := hL.of (hf _ (by omega)) (hf _ (by omega)) (hf _ (by omega)) (hf _ (by omega)) (hf _ (by omega)) (hf _ (by omega)) (hf _ (by omega))
    have WT : PWt hk p mp := hW.of (hf _ (by omega))
    obtain ⟨i1, i2, i3, i4, i5, i6⟩ := pst_I hT hR g k (by omega)
    have e1 : pst mp g (k + 1) = pstep mp g k (pst mp g k) := rfl
    have cI : CoI mp (pst mp g k).1 := i1
    have pl := pst_le hT hR g k (by omega)
    have dk := try_dk hT g k
    have a4 := apL_4 (d := tryS mp g k) cI
    have pr : 0 ≤ pat mp k (pst mp g k) ∧ pat mp k (pst mp g k) < mp 131 := by
      unfold pat
      split
      · exact ⟨Int.emod_nonneg _ (by omega), Int.emod_lt_of_pos _ (by omega)⟩
      · exact ⟨i2, hkc⟩
    have hpc : mp 133 = 1 ∨ (pst mp g k).2.2 < mp 131 := Or.inr hkc
    generalize hpa : pat mp k (pst mp g k) = a at pr ⊢
    have ca := hcp a pr.1 (by omega)
    have ia := i1 a
    refine r_aload_0 (pc := 89) dX3_settleGroup_89 ?_
    refine gf_X3_32 (pc := 90) rfl (by assumption) dX3_settleGroup_90 (by assumption) ?_
    refine r_iload_6 (pc := 93) dX3_settleGroup_93 ?_
    refine r_ialdE (pc := 95) (by assumption) (by first | assumption | exact rfl) dX3_settleGroup_95 (by omega) (by omega) (fun i_95 => ?_)
    rw [ca] at i_95 ⊢
    refine r_bipush (pc := 96) dX3_settleGroup_96 (by decide) ?_
    refine r_icmp_ne (pc := 98) (tgt := 115) dX3_settleGroup_98 (by decide) (by omega) (by omega) (fun c_98 => ?_) (fun c_98 => ?_)
    · refine r_bipush (pc := 115) dX3_settleGroup_115 (by decide) ?_
      refine r_istore_7 (pc := 117) dX3_settleGroup_117 rfl ?_
      refine r_iload_7 (pc := 119) dX3_settleGroup_119 ?_
      refine r_bipush (pc := 121) dX3_settleGroup_121 (by decide) ?_
      refine r_icmp_eq (pc := 123) (tgt := 169) dX3_settleGroup_123 (by decide) (by omega) (by omega) (fun c_123 => ?_) (fun c_123 => absurd rfl c_123)
      refine r_iinc_5 (pc := 169) dX3_settleGroup_169 rfl ?_
      refine r_goto (pc := 172) (tgt := 47) dX3_settleGroup_172 (by decide) ?_
      first
      | (have k9 : ¬ (pst mp g k).1 a = -4 := c_98
         have e9 : ¬ pcd mp g k (pst mp g k) = true := fun z => by
           have z2 := (pcd_iff.mp z).2.1
           rw [hpa] at z2
           omega
         have e8 : pst mp g (k + 1) = pst mp g k := by rw [e1]; exact if_neg e9
         rw [e8] at K
         exact K hk _ _ hf hk3 hcp htr hou)
      | (have k9 : tryS mp g k = -4 := c_123
         have e9 : ¬ pcd mp g k (pst mp g k) = true := fun z => by
           have z2 := (tk_iff.mp (pcd_iff.mp z).2.2).1
           omega
         have e8 : pst mp g (k + 1) = pst mp g k := by rw [e1]; exact if_neg e9
         rw [e8] at K
         exact K (hr hk (s + 1) f_109) _ _ (fun x hx => by rw [hr_n (by omega)]; exact hf x hx) (by rw [hr_s]; exact k_109) (fun c c0 c1 => by rw [hr_n (by omega)]; exact hcp c c0 c1) (fun c c0 c1 => by rw [hr_n (by omega)]; exact htr c c0 c1) (fun j hj => by rw [hr_n (by omega), hr_n (by omega)]; exact hou j hj))
      | (have k9 : ¬ mb mp g (tryS mp g k) = true := c_133
         have e9 : ¬ pcd mp g k (pst mp g k) = true := fun z => k9 (tk_iff.mp (pcd_iff.mp z).2.2).2.1
         have e8 : pst mp g (k + 1) = pst mp g k := by rw [e1]; exact if_neg e9
         rw [e8] at K
         exact K (hr hk (s + 1) f_109) _ _ (fun x hx => by rw [hr_n (by omega)]; exact hf x hx) (by rw [hr_s]; exact k_109) (fun c c0 c1 => by rw [hr_n (by omega)]; exact hcp c c0 c1) (fun c c0 c1 => by rw [hr_n (by omega)]; exact htr c c0 c1) (fun j hj => by rw [hr_n (by omega), hr_n (by omega)]; exact hou j hj))
      | (have k9 : ¬ apL mp (pst mp g k).1 (tryS mp g k) (-4) = true := c_145
         rw [a4] at k9
         have e9 : ¬ pcd mp g k (pst mp g k) = true := fun z => k9 (tk_iff.mp (pcd_iff.mp z).2.2).2.2
         have e8 : pst mp g (k + 1) = pst mp g k := by rw [e1]; exact if_neg e9
         rw [e8] at K
         exact K (hr hk (s + 1) f_109) _ _ (fun x hx => by rw [hr_n (by omega)]; exact hf x hx) (by rw [hr_s]; exact k_109) (fun c c0 c1 => by rw [hr_n (by omega)]; exact hcp c c0 c1) (fun c c0 c1 => by rw [hr_n (by omega)]; exact htr c c0 c1) (fun j hj => by rw [hr_n (by omega), hr_n (by omega)]; exact hou j hj))
      | (have k9 : apL mp (pst mp g k).1 (tryS mp g k) (-4) = true := c_145
         rw [a4] at k9
         have e9 : pcd mp g k (pst mp g k) = true := pcd_iff.mpr ⟨hpc, by rw [hpa]; omega, tk_iff.mpr ⟨by omega, c_133, k9⟩⟩
         have e8 : pst mp g (k + 1) = (up (pst mp g k).1 a (tryS mp g k), up (pst mp g k).2.1 a k, (pst mp g k).2.2 + 1) := by
           rw [e1]
           unfold pstep
           rw [if_pos e9, hpa]
         rw [e8] at K
         refine K _ _ _ (fun x hx => by rw [hr_n (by omega), hr_n (by omega), hr_n (by omega)]; exact hf x hx) (by rw [hr_n (by omega), hr_n (by omega), hr_s]; exact k_109) (fun c c0 c1 => ?_) (fun c c0 c1 => ?_) (fun j hj => ?_)
         · rw [hr_n (by omega), hr_s]
           dsimp only
           by_cases e : c = a
           · rw [e, up_s, up_s]
           · rw [up_n e, up_n (by omega)]; exact hcp c c0 c1
         · rw [hr_s]
           dsimp only
           by_cases e : c = a
           · rw [e, up_s, up_s]
           · rw [up_n e, up_n (by omega)]; exact htr c c0 c1
         · rw [hr_n (by omega), hr_s, up_n (by omega), hr_s, up_n (by omega)]; exact hou j hj)
    · refine r_aload_0 (pc := 101) dX3_settleGroup_101 ?_
      refine gf_X3_12 (pc := 102) rfl (by assumption) dX3_settleGroup_102 (by assumption) ?_
      refine r_aload_1 (pc := 105) dX3_settleGroup_105 ?_
      refine r_iload_2 (pc := 106) dX3_settleGroup_106 ?_
      refine r_iload_5 (pc := 107) dX3_settleGroup_107 ?_
      refine k_VI3 (pc := 109) c_X6_diskOfTry lk_X3_99 ⟨Nat.le_of_ble_eq_true rfl, Nat.le_of_ble_eq_true rfl⟩ ⟨rfl, rfl⟩ ⟨Nat.le_of_ble_eq_true rfl, Nat.le_of_ble_eq_true rfl⟩ (k := 6) rfl (by decide) (by assumption) dX3_settleGroup_109 (Nat.le_of_ble_eq_true rfl) ?_
      refine ⟨_, _, _, _, _, rfl, hA, hS, hP, hT, TR, WT, hk3, by omega, by omega, fun f_109 k_109 => ?_⟩
      refine r_goto (pc := 112) (tgt := 117) dX3_settleGroup_112 (by decide) ?_
      refine r_istore_7 (pc := 117) dX3_settleGroup_117 rfl ?_
      refine r_iload_7 (pc := 119) dX3_settleGroup_119 ?_
      refine r_bipush (pc := 121) dX3_settleGroup_121 (by decide) ?_
      refine r_icmp_eq (pc := 123) (tgt := 169) dX3_settleGroup_123 (by decide) (by omega) (by omega) (fun c_123 => ?_) (fun c_123 => ?_)
      · refine r_iinc_5 (pc := 169) dX3_settleGroup_169 rfl ?_
        refine r_goto (pc := 172) (tgt := 47) dX3_settleGroup_172 (by decide) ?_
        first
        | (have k9 : ¬ (pst mp g k).1 a = -4 := c_98
           have e9 : ¬ pcd mp g k (pst mp g k) = true := fun z => by
             have z2 := (pcd_iff.mp z).2.1
             rw [hpa] at z2
             omega
           have e8 : pst mp g (k + 1) = pst mp g k := by rw [e1]; exact if_neg e9
           rw [e8] at K
           exact K hk _ _ hf hk3 hcp htr hou)
        | (have k9 : tryS mp g k = -4 := c_123
           have e9 : ¬ pcd mp g k (pst mp g k) = true := fun z => by
             have z2 := (tk_iff.mp (pcd_iff.mp z).2.2).1
             omega
           have e8 : pst mp g (k + 1) = pst mp g k := by rw [e1]; exact if_neg e9
           rw [e8] at K
           exact K (hr hk (s + 1) f_109) _ _ (fun x hx => by rw [hr_n (by omega)]; exact hf x hx) (by rw [hr_s]; exact k_109) (fun c c0 c1 => by rw [hr_n (by omega)]; exact hcp c c0 c1) (fun c c0 c1 => by rw [hr_n (by omega)]; exact htr c c0 c1) (fun j hj => by rw [hr_n (by omega), hr_n (by omega)]; exact hou j hj))
        | (have k9 : ¬ mb mp g (tryS mp g k) = true := c_133
           have e9 : ¬ pcd mp g k (pst mp g k) = true := fun z => k9 (tk_iff.mp (pcd_iff.mp z).2.2).2.1
           have e8 : pst mp g (k + 1) = pst mp g k := by rw [e1]; exact if_neg e9
           rw [e8] at K
           exact K (hr hk (s + 1) f_109) _ _ (fun x hx => by rw [hr_n (by omega)]; exact hf x hx) (by rw [hr_s]; exact k_109) (fun c c0 c1 => by rw [hr_n (by omega)]; exact hcp c c0 c1) (fun c c0 c1 => by rw [hr_n (by omega)]; exact htr c c0 c1) (fun j hj => by rw [hr_n (by omega), hr_n (by omega)]; exact hou j hj))
        | (have k9 : ¬ apL mp (pst mp g k).1 (tryS mp g k) (-4) = true := c_145
           rw [a4] at k9
           have e9 : ¬ pcd mp g k (pst mp g k) = true := fun z => k9 (tk_iff.mp (pcd_iff.mp z).2.2).2.2
           have e8 : pst mp g (k + 1) = pst mp g k := by rw [e1]; exact if_neg e9
           rw [e8] at K
           exact K (hr hk (s + 1) f_109) _ _ (fun x hx => by rw [hr_n (by omega)]; exact hf x hx) (by rw [hr_s]; exact k_109) (fun c c0 c1 => by rw [hr_n (by omega)]; exact hcp c c0 c1) (fun c c0 c1 => by rw [hr_n (by omega)]; exact htr c c0 c1) (fun j hj => by rw [hr_n (by omega), hr_n (by omega)]; exact hou j hj))
        | (have k9 : apL mp (pst mp g k).1 (tryS mp g k) (-4) = true := c_145
           rw [a4] at k9
           have e9 : pcd mp g k (pst mp g k) = true := pcd_iff.mpr ⟨hpc, by rw [hpa]; omega, tk_iff.mpr ⟨by omega, c_133, k9⟩⟩
           have e8 : pst mp g (k + 1) = (up (pst mp g k).1 a (tryS mp g k), up (pst mp g k).2.1 a k, (pst mp g k).2.2 + 1) := by
             rw [e1]
             unfold pstep
             rw [if_pos e9, hpa]
           rw [e8] at K
           refine K _ _ _ (fun x hx => by rw [hr_n (by omega), hr_n (by omega), hr_n (by omega)]; exact hf x hx) (by rw [hr_n (by omega), hr_n (by omega), hr_s]; exact k_109) (fun c c0 c1 => ?_) (fun c c0 c1 => ?_) (fun j hj => ?_)
           · rw [hr_n (by omega), hr_s]
             dsimp only
             by_cases e : c = a
             · rw [e, up_s, up_s]
             · rw [up_n e, up_n (by omega)]; exact hcp c c0 c1
           · rw [hr_s]
             dsimp only
             by_cases e : c = a
             · rw [e, up_s, up_s]
             · rw [up_n e, up_n (by omega)]; exact htr c c0 c1
           · rw [hr_n (by omega), hr_s, up_n (by omega), hr_s, up_n (by omega)]; exact hou j hj)
      · have TR2 : PTr (hr hk (s + 1) f_109) p mp := TR.of (hr_n (by omega)) (hr_n (by omega)) (hr_n (by omega))
        have RL2 : PRl (hr hk (s + 1) f_109) p mp := RL.of (hr_n (by omega)) (hr_n (by omega)) (hr_n (by omega)) (hr_n (by omega)) (hr_n (by omega)) (hr_n (by omega)) (hr_n (by omega))
        have CO2 : ∀ c, 0 ≤ c → c < 4 → hr hk (s + 1) f_109 (p + 11) (4 * g + c) = (pst mp g k).1 c := fun c c0 c1 => by rw [hr_n (by omega)]; exact hcp c c0 c1
        refine r_aload_0 (pc := 126) dX3_settleGroup_126 ?_
        refine r_iload_2 (pc := 127) dX3_settleGroup_127 ?_
        refine r_iload_7 (pc := 128) dX3_settleGroup_128 ?_
        refine k_VI2 (pc := 130) c_X3_isAcceptable lk_X3_103 ⟨Nat.le_of_ble_eq_true rfl, Nat.le_of_ble_eq_true rfl⟩ ⟨rfl, rfl⟩ ⟨Nat.le_of_ble_eq_true rfl, Nat.le_of_ble_eq_true rfl⟩ (k := 3) rfl (by decide) (by assumption) dX3_settleGroup_130 (Nat.le_of_ble_eq_true rfl) ?_
        refine ⟨_, _, _, _, rfl, by assumption, by assumption, by assumption, by assumption, by assumption, by omega, by omega, ?_⟩
        refine r_ifeq_b (pc := 133) (tgt := 169) dX3_settleGroup_133 (by decide) (fun c_133 => ?_) (fun c_133 => ?_)
        · refine r_iinc_5 (pc := 169) dX3_settleGroup_169 rfl ?_
          refine r_goto (pc := 172) (tgt := 47) dX3_settleGroup_172 (by decide) ?_
          first
          | (have k9 : ¬ (pst mp g k).1 a = -4 := c_98
             have e9 : ¬ pcd mp g k (pst mp g k) = true := fun z => by
               have z2 := (pcd_iff.mp z).2.1
               rw [hpa] at z2
               omega
             have e8 : pst mp g (k + 1) = pst mp g k := by rw [e1]; exact if_neg e9
             rw [e8] at K
             exact K hk _ _ hf hk3 hcp htr hou)
          | (have k9 : tryS mp g k = -4 := c_123
             have e9 : ¬ pcd mp g k (pst mp g k) = true := fun z => by
               have z2 := (tk_iff.mp (pcd_iff.mp z).2.2).1
               omega
             have e8 : pst mp g (k + 1) = pst mp g k := by rw [e1]; exact if_neg e9
             rw [e8] at K
             exact K (hr hk (s + 1) f_109) _ _ (fun x hx => by rw [hr_n (by omega)]; exact hf x hx) (by rw [hr_s]; exact k_109) (fun c c0 c1 => by rw [hr_n (by omega)]; exact hcp c c0 c1) (fun c c0 c1 => by rw [hr_n (by omega)]; exact htr c c0 c1) (fun j hj => by rw [hr_n (by omega), hr_n (by omega)]; exact hou j hj))
          | (have k9 : ¬ mb mp g (tryS mp g k) = true := c_133
             have e9 : ¬ pcd mp g k (pst mp g k) = true := fun z => k9 (tk_iff.mp (pcd_iff.mp z).2.2).2.1
             have e8 : pst mp g (k + 1) = pst mp g k := by rw [e1]; exact if_neg e9
             rw [e8] at K
             exact K (hr hk (s + 1) f_109) _ _ (fun x hx => by rw [hr_n (by omega)]; exact hf x hx) (by rw [hr_s]; exact k_109) (fun c c0 c1 => by rw [hr_n (by omega)]; exact hcp c c0 c1) (fun c c0 c1 => by rw [hr_n (by omega)]; exact htr c c0 c1) (fun j hj => by rw [hr_n (by omega), hr_n (by omega)]; exact hou j hj))
          | (have k9 : ¬ apL mp (pst mp g k).1 (tryS mp g k) (-4) = true := c_145
             rw [a4] at k9
             have e9 : ¬ pcd mp g k (pst mp g k) = true := fun z => k9 (tk_iff.mp (pcd_iff.mp z).2.2).2.2
             have e8 : pst mp g (k + 1) = pst mp g k := by rw [e1]; exact if_neg e9
             rw [e8] at K
             exact K (hr hk (s + 1) f_109) _ _ (fun x hx => by rw [hr_n (by omega)]; exact hf x hx) (by rw [hr_s]; exact k_109) (fun c c0 c1 => by rw [hr_n (by omega)]; exact hcp c c0 c1) (fun c c0 c1 => by rw [hr_n (by omega)]; exact htr c c0 c1) (fun j hj => by rw [hr_n (by omega), hr_n (by omega)]; exact hou j hj))
          | (have k9 : apL mp (pst mp g k).1 (tryS mp g k) (-4) = true := c_145
             rw [a4] at k9
             have e9 : pcd mp g k (pst mp g k) = true := pcd_iff.mpr ⟨hpc, by rw [hpa]; omega, tk_iff.mpr ⟨by omega, c_133, k9⟩⟩
             have e8 : pst mp g (k + 1) = (up (pst mp g k).1 a (tryS mp g k), up (pst mp g k).2.1 a k, (pst mp g k).2.2 + 1) := by
               rw [e1]
               unfold pstep
               rw [if_pos e9, hpa]
             rw [e8] at K
             refine K _ _ _ (fun x hx => by rw [hr_n (by omega), hr_n (by omega), hr_n (by omega)]; exact hf x hx) (by rw [hr_n (by omega), hr_n (by omega), hr_s]; exact k_109) (fun c c0 c1 => ?_) (fun c c0 c1 => ?_) (fun j hj => ?_)
             · rw [hr_n (by omega), hr_s]
               dsimp only
               by_cases e : c = a
               · rw [e, up_s, up_s]
               · rw [up_n e, up_n (by omega)]; exact hcp c c0 c1
             · rw [hr_s]
               dsimp only
               by_cases e : c = a
               · rw [e, up_s, up_s]
               · rw [up_n e, up_n (by omega)]; exact htr c c0 c1
             · rw [hr_n (by omega), hr_s, up_n (by omega), hr_s, up_n (by omega)]; exact hou j hj)
        · refine r_aload_0 (pc := 136) dX3_settleGroup_136 ?_
          refine r_iload_3 (pc := 137) dX3_settleGroup_137 ?_
          refine r_iload_7 (pc := 138) dX3_settleGroup_138 ?_
          refine r_bipush (pc := 140) dX3_settleGroup_140 (by decide) ?_
          refine k_VI3 (pc := 142) c_X3_isApart lk_X3_106 ⟨Nat.le_of_ble_eq_true rfl, Nat.le_of_ble_eq_true rfl⟩ ⟨rfl, rfl⟩ ⟨Nat.le_of_ble_eq_true rfl, Nat.le_of_ble_eq_true rfl⟩ (k := 3) rfl (by decide) (by assumption) dX3_settleGroup_142 (Nat.le_of_ble_eq_true rfl) ?_
          refine ⟨_, _, _, _, _, _, rfl, by assumption, by assumption, by assumption, by assumption, by assumption, by assumption, by assumption, by omega, by omega, by omega, ?_⟩
          refine r_ifeq_b (pc := 145) (tgt := 169) dX3_settleGroup_145 (by decide) (fun c_145 => ?_) (fun c_145 => ?_)
          · refine r_iinc_5 (pc := 169) dX3_settleGroup_169 rfl ?_
            refine r_goto (pc := 172) (tgt := 47) dX3_settleGroup_172 (by decide) ?_
            first
            | (have k9 : ¬ (pst mp g k).1 a = -4 := c_98
               have e9 : ¬ pcd mp g k (pst mp g k) = true := fun z => by
                 have z2 := (pcd_iff.mp z).2.1
                 rw [hpa] at z2
                 omega
               have e8 : pst mp g (k + 1) = pst mp g k := by rw [e1]; exact if_neg e9
               rw [e8] at K
               exact K hk _ _ hf hk3 hcp htr hou)
            | (have k9 : tryS mp g k = -4 := c_123
               have e9 : ¬ pcd mp g k (pst mp g k) = true := fun z => by
                 have z2 := (tk_iff.mp (pcd_iff.mp z).2.2).1
                 omega
               have e8 : pst mp g (k + 1) = pst mp g k := by rw [e1]; exact if_neg e9
               rw [e8] at K
               exact K (hr hk (s + 1) f_109) _ _ (fun x hx => by rw [hr_n (by omega)]; exact hf x hx) (by rw [hr_s]; exact k_109) (fun c c0 c1 => by rw [hr_n (by omega)]; exact hcp c c0 c1) (fun c c0 c1 => by rw [hr_n (by omega)]; exact htr c c0 c1) (fun j hj => by rw [hr_n (by omega), hr_n (by omega)]; exact hou j hj))
            | (have k9 : ¬ mb mp g (tryS mp g k) = true := c_133
               have e9 : ¬ pcd mp g k (pst mp g k) = true := fun z => k9 (tk_iff.mp (pcd_iff.mp z).2.2).2.1
               have e8 : pst mp g (k + 1) = pst mp g k := by rw [e1]; exact if_neg e9
               rw [e8] at K
               exact K (hr hk (s + 1) f_109) _ _ (fun x hx => by rw [hr_n (by omega)]; exact hf x hx) (by rw [hr_s]; exact k_109) (fun c c0 c1 => by rw [hr_n (by omega)]; exact hcp c c0 c1) (fun c c0 c1 => by rw [hr_n (by omega)]; exact htr c c0 c1) (fun j hj => by rw [hr_n (by omega), hr_n (by omega)]; exact hou j hj))
            | (have k9 : ¬ apL mp (pst mp g k).1 (tryS mp g k) (-4) = true := c_145
               rw [a4] at k9
               have e9 : ¬ pcd mp g k (pst mp g k) = true := fun z => k9 (tk_iff.mp (pcd_iff.mp z).2.2).2.2
               have e8 : pst mp g (k + 1) = pst mp g k := by rw [e1]; exact if_neg e9
               rw [e8] at K
               exact K (hr hk (s + 1) f_109) _ _ (fun x hx => by rw [hr_n (by omega)]; exact hf x hx) (by rw [hr_s]; exact k_109) (fun c c0 c1 => by rw [hr_n (by omega)]; exact hcp c c0 c1) (fun c c0 c1 => by rw [hr_n (by omega)]; exact htr c c0 c1) (fun j hj => by rw [hr_n (by omega), hr_n (by omega)]; exact hou j hj))
            | (have k9 : apL mp (pst mp g k).1 (tryS mp g k) (-4) = true := c_145
               rw [a4] at k9
               have e9 : pcd mp g k (pst mp g k) = true := pcd_iff.mpr ⟨hpc, by rw [hpa]; omega, tk_iff.mpr ⟨by omega, c_133, k9⟩⟩
               have e8 : pst mp g (k + 1) = (up (pst mp g k).1 a (tryS mp g k), up (pst mp g k).2.1 a k, (pst mp g k).2.2 + 1) := by
                 rw [e1]
                 unfold pstep
                 rw [if_pos e9, hpa]
               rw [e8] at K
               refine K _ _ _ (fun x hx => by rw [hr_n (by omega), hr_n (by omega), hr_n (by omega)]; exact hf x hx) (by rw [hr_n (by omega), hr_n (by omega), hr_s]; exact k_109) (fun c c0 c1 => ?_) (fun c c0 c1 => ?_) (fun j hj => ?_)
               · rw [hr_n (by omega), hr_s]
                 dsimp only
                 by_cases e : c = a
                 · rw [e, up_s, up_s]
                 · rw [up_n e, up_n (by omega)]; exact hcp c c0 c1
               · rw [hr_s]
                 dsimp only
                 by_cases e : c = a
                 · rw [e, up_s, up_s]
                 · rw [up_n e, up_n (by omega)]; exact htr c c0 c1
               · rw [hr_n (by omega), hr_s, up_n (by omega), hr_s, up_n (by omega)]; exact hou j hj)
          · refine r_aload_0 (pc := 148) dX3_settleGroup_148 ?_
            refine gf_X3_32 (pc := 149) rfl (by assumption) dX3_settleGroup_149 (by assumption) ?_
            refine r_iload_6 (pc := 152) dX3_settleGroup_152 ?_
            refine r_iload_7 (pc := 154) dX3_settleGroup_154 ?_
            refine r_iastE (pc := 156) (by assumption) (hr_n (by omega)) dX3_settleGroup_156 (by omega) (by omega) (by omega) ?_
            refine r_aload_0 (pc := 157) dX3_settleGroup_157 ?_
            refine gf_X3_35 (pc := 158) rfl (by assumption) dX3_settleGroup_158 (by assumption) ?_
            refine r_iload_6 (pc := 161) dX3_settleGroup_161 ?_
            refine r_iload_5 (pc := 163) dX3_settleGroup_163 ?_
            refine r_iastE (pc := 165) (by assumption) ((hr_n (by omega)).trans (hr_n (by omega))) dX3_settleGroup_165 (by omega) (by omega) (by omega) ?_
            refine r_iinc_4 (pc := 166) dX3_settleGroup_166 rfl ?_
            refine r_iinc_5 (pc := 169) dX3_settleGroup_169 rfl ?_
            refine r_goto (pc := 172) (tgt := 47) dX3_settleGroup_172 (by decide) ?_
            first
            | (have k9 : ¬ (pst mp g k).1 a = -4 := c_98
               have e9 : ¬ pcd mp g k (pst mp g k) = true := fun z => by
                 have z2 := (pcd_iff.mp z).2.1
                 rw [hpa] at z2
                 omega
               have e8 : pst mp g (k + 1) = pst mp g k := by rw [e1]; exact if_neg e9
               rw [e8] at K
               exact K hk _ _ hf hk3 hcp htr hou)
            | (have k9 : tryS mp g k = -4 := c_123
               have e9 : ¬ pcd mp g k (pst mp g k) = true := fun z => by
                 have z2 := (tk_iff.mp (pcd_iff.mp z).2.2).1
                 omega
               have e8 : pst mp g (k + 1) = pst mp g k := by rw [e1]; exact if_neg e9
               rw [e8] at K
               exact K (hr hk (s + 1) f_109) _ _ (fun x hx => by rw [hr_n (by omega)]; exact hf x hx) (by rw [hr_s]; exact k_109) (fun c c0 c1 => by rw [hr_n (by omega)]; exact hcp c c0 c1) (fun c c0 c1 => by rw [hr_n (by omega)]; exact htr c c0 c1) (fun j hj => by rw [hr_n (by omega), hr_n (by omega)]; exact hou j hj))
            | (have k9 : ¬ mb mp g (tryS mp g k) = true := c_133
               have e9 : ¬ pcd mp g k (pst mp g k) = true := fun z => k9 (tk_iff.mp (pcd_iff.mp z).2.2).2.1
               have e8 : pst mp g (k + 1) = pst mp g k := by rw [e1]; exact if_neg e9
               rw [e8] at K
               exact K (hr hk (s + 1) f_109) _ _ (fun x hx => by rw [hr_n (by omega)]; exact hf x hx) (by rw [hr_s]; exact k_109) (fun c c0 c1 => by rw [hr_n (by omega)]; exact hcp c c0 c1) (fun c c0 c1 => by rw [hr_n (by omega)]; exact htr c c0 c1) (fun j hj => by rw [hr_n (by omega), hr_n (by omega)]; exact hou j hj))
            | (have k9 : ¬ apL mp (pst mp g k).1 (tryS mp g k) (-4) = true := c_145
               rw [a4] at k9
               have e9 : ¬ pcd mp g k (pst mp g k) = true := fun z => k9 (tk_iff.mp (pcd_iff.mp z).2.2).2.2
               have e8 : pst mp g (k + 1) = pst mp g k := by rw [e1]; exact if_neg e9
               rw [e8] at K
               exact K (hr hk (s + 1) f_109) _ _ (fun x hx => by rw [hr_n (by omega)]; exact hf x hx) (by rw [hr_s]; exact k_109) (fun c c0 c1 => by rw [hr_n (by omega)]; exact hcp c c0 c1) (fun c c0 c1 => by rw [hr_n (by omega)]; exact htr c c0 c1) (fun j hj => by rw [hr_n (by omega), hr_n (by omega)]; exact hou j hj))
            | (have k9 : apL mp (pst mp g k).1 (tryS mp g k) (-4) = true := c_145
               rw [a4] at k9
               have e9 : pcd mp g k (pst mp g k) = true := pcd_iff.mpr ⟨hpc, by rw [hpa]; omega, tk_iff.mpr ⟨by omega, c_133, k9⟩⟩
               have e8 : pst mp g (k + 1) = (up (pst mp g k).1 a (tryS mp g k), up (pst mp g k).2.1 a k, (pst mp g k).2.2 + 1) := by
                 rw [e1]
                 unfold pstep
                 rw [if_pos e9, hpa]
               rw [e8] at K
               refine K _ _ _ (fun x hx => by rw [hr_n (by omega), hr_n (by omega), hr_n (by omega)]; exact hf x hx) (by rw [hr_n (by omega), hr_n (by omega), hr_s]; exact k_109) (fun c c0 c1 => ?_) (fun c c0 c1 => ?_) (fun j hj => ?_)
               · rw [hr_n (by omega), hr_s]
                 dsimp only
                 by_cases e : c = a
                 · rw [e, up_s, up_s]
                 · rw [up_n e, up_n (by omega)]; exact hcp c c0 c1
               · rw [hr_s]
                 dsimp only
                 by_cases e : c = a
                 · rw [e, up_s, up_s]
                 · rw [up_n e, up_n (by omega)]; exact htr c c0 c1
               · rw [hr_n (by omega), hr_s, up_n (by omega), hr_s, up_n (by omega)]; exact hou j hj)
  have lp2 : ∀ (n_ : Nat) (t : Int) (m : Int) (hk : HpT) (x6 : Option Value) (x7 : Option Value), (24 - t).toNat = n_ → (0 ≤ t ∧ t ≤ mp 134) → (m = (pst mp g t.toNat).2.2) → (Fr h hk (fun x => x = p + 11 ∨ x = p + 12 ∨ x = s + 1)) → (StK (hk (s + 1))) → (∀ c, 0 ≤ c → c < 4 → hk (p + 11) (4 * g + c) = (pst mp g t.toNat).1 c) → (∀ c, 0 ≤ c → c < 4 → hk (p + 12) (4 * g + c) = (pst mp g t.toNat).2.1 c) → (∀ j, ¬ (4 * g ≤ j ∧ j < 4 * g + 4) → hk (p + 11) j = h (p + 11) j ∧ hk (p + 12) j = h (p + 12) j) → St E mX3_settleGroup 47 [some (.ref p), some (.ref s), some (vI g), some (vI (4 * g)), some (vI m), some (vI t), x6, x7] [] (0, 0) N lay r hk := by
    intro  n_
    induction n_ using Nat.strongRecOn with
    | ind n_ ih =>
      intro t m hk x6 x7 hn_ ht hm hf hk3 hcp htr hou
      obtain ⟨k, rfl⟩ : ∃ k : Nat, t = k := ⟨t.toNat, by omega⟩
      simp only [show ((k : Int)).toNat = k by omega] at hcp htr hm
      have TR : PTr hk p mp := hN.of (hf _ (by omega)) (hf _ (by omega)) (hf _ (by omega))
      have RL : PRl hk p mp := hL.of (hf _ (by omega)) (hf _ (by omega)) (hf _ (by omega)) (hf _ (by omega)) (hf _ (by omega)) (hf _ (by omega)) (hf _ (by omega))
      have WT : PWt hk p mp := hW.of (hf _ (by omega))
      obtain ⟨i1, i2, i3, i4, i5, i6⟩ := pst_I hT hR g k (by omega)
      have e1 : pst mp g (k + 1) = pstep mp g k (pst mp g k) := rfl
      have en5 : hk p 5 = mp 131 := RL.1.1
      have en7 : hk p 7 = mp 133 := RL.1.2.2.1
      have en8 : hk p 8 = mp 134 := RL.1.2.2.2
      have md1 := Int.emod_nonneg (k : Int) (show mp 131 ≠ 0 by omega)
      have md2 := Int.emod_lt_of_pos (k : Int) (show 0 < mp 131 by omega)
      have pl := pst_le hT hR g k (by omega)
      refine r_iload_5 (pc := 47) dX3_settleGroup_47 ?_
      refine r_aload_0 (pc := 49) dX3_settleGroup_49 ?_
      refine gf_X3_55 (pc := 50) rfl (by assumption) dX3_settleGroup_50 (fun i_50 => ?_)
      refine r_icmp_ge (pc := 53) (tgt := 175) dX3_settleGroup_53 (by decide) (by omega) (by omega) (fun c_53 => ?_) (fun c_53 => ?_)
      · have e9 : pst mp g (mp 134).toNat = pst mp g k := by
          first
          | (have k9 : mp 134 = k := by omega
             rw [k9, show ((k : Int)).toNat = k by omega])
          | (have k9 := pst_stop hT hR g (t := k) (by omega) ((mp 134).toNat - k) (by omega)
             rw [show k + ((mp 134).toNat - k) = (mp 134).toNat by omega] at k9
             exact k9)
        exact K175 hk _ _ _ _ hf hk3 (fun c c0 c1 => by unfold co0; rw [e9]; exact hcp c c0 c1) (fun c c0 c1 => by unfold trs; rw [e9]; exact htr c c0 c1) hou
      · refine r_iload_4 (pc := 56) dX3_settleGroup_56 ?_
        refine r_aload_0 (pc := 58) dX3_settleGroup_58 ?_
        refine gf_X3_71 (pc := 59) rfl (by assumption) dX3_settleGroup_59 (fun i_59 => ?_)
        refine r_icmp_ge (pc := 62) (tgt := 175) dX3_settleGroup_62 (by decide) (by omega) (by omega) (fun c_62 => ?_) (fun c_62 => ?_)
        · have e9 : pst mp g (mp 134).toNat = pst mp g k := by
            first
            | (have k9 : mp 134 = k := by omega
               rw [k9, show ((k : Int)).toNat = k by omega])
            | (have k9 := pst_stop hT hR g (t := k) (by omega) ((mp 134).toNat - k) (by omega)
               rw [show k + ((mp 134).toNat - k) = (mp 134).toNat by omega] at k9
               exact k9)
          exact K175 hk _ _ _ _ hf hk3 (fun c c0 c1 => by unfold co0; rw [e9]; exact hcp c c0 c1) (fun c c0 c1 => by unfold trs; rw [e9]; exact htr c c0 c1) hou
        · refine r_iload_3 (pc := 65) dX3_settleGroup_65 ?_
          refine r_aload_0 (pc := 66) dX3_settleGroup_66 ?_
          refine gf_X3_77 (pc := 67) rfl (by assumption) dX3_settleGroup_67 (fun i_67 => ?_)
          refine r_iconst (pc := 70) dX3_settleGroup_70 ?_
          refine r_icmp_ne (pc := 71) (tgt := 84) dX3_settleGroup_71 (by decide) (by omega) (by omega) (fun c_71 => ?_) (fun c_71 => ?_)
          · refine r_iload_4 (pc := 84) dX3_settleGroup_84 ?_
            refine r_iadd (pc := 86) dX3_settleGroup_86 ?_
            refine r_istore_6 (pc := 87) dX3_settleGroup_87 rfl ?_
            have q9 := step k hk x7 (by omega) (by omega) hf hk3 hcp htr hou (fun h3 y6 y7 g1 g2 g3 g4 g5 => ih _ (by omega) ((k : Int) + 1) _ h3 y6 y7 rfl (by omega) (by rw [show ((k : Int) + 1).toNat = k + 1 by omega]) g1 g2 (by rw [show ((k : Int) + 1).toNat = k + 1 by omega]; exact g3) (by rw [show ((k : Int) + 1).toNat = k + 1 by omega]; exact g4) g5)
            first
            | (have k9 : mp 133 = 1 := by omega
               have pe : pat mp k (pst mp g k) = (k : Int) % mp 131 := if_pos k9
               rw [pe, ← hm, ← en5] at q9
               exact q9)
            | (have k9 : ¬ mp 133 = 1 := by omega
               have pe : pat mp k (pst mp g k) = (pst mp g k).2.2 := if_neg k9
               rw [pe, ← hm] at q9
               exact q9)
          · refine r_iload_5 (pc := 74) dX3_settleGroup_74 ?_
            refine r_aload_0 (pc := 76) dX3_settleGroup_76 ?_
            refine gf_X3_71 (pc := 77) rfl (by assumption) dX3_settleGroup_77 (fun i_77 => ?_)
            refine r_irem (pc := 80) dX3_settleGroup_80 (by omega) (by omega) ?_
            refine r_goto (pc := 81) (tgt := 86) dX3_settleGroup_81 (by decide) ?_
            refine r_iadd (pc := 86) dX3_settleGroup_86 ?_
            refine r_istore_6 (pc := 87) dX3_settleGroup_87 rfl ?_
            have q9 := step k hk x7 (by omega) (by omega) hf hk3 hcp htr hou (fun h3 y6 y7 g1 g2 g3 g4 g5 => ih _ (by omega) ((k : Int) + 1) _ h3 y6 y7 rfl (by omega) (by rw [show ((k : Int) + 1).toNat = k + 1 by omega]) g1 g2 (by rw [show ((k : Int) + 1).toNat = k + 1 by omega]; exact g3) (by rw [show ((k : Int) + 1).toNat = k + 1 by omega]; exact g4) g5)
            first
            | (have k9 : mp 133 = 1 := by omega
               have pe : pat mp k (pst mp g k) = (k : Int) % mp 131 := if_pos k9
               rw [pe, ← hm, ← en5] at q9
               exact q9)
            | (have k9 : ¬ mp 133 = 1 := by omega
               have pe : pat mp k (pst mp g k) = (pst mp g k).2.2 := if_neg k9
               rw [pe, ← hm] at q9
               exact q9)
  have lp1 : ∀ (n_ : Nat) (c : Int) (hk : HpT), (4 - c).toNat = n_ → (0 ≤ c ∧ c ≤ 4) → (Fr h hk (fun x => x = p + 11 ∨ x = p + 12)) → (∀ q, 0 ≤ q → q < c → hk (p + 11) (4 * g + q) = -4) → (∀ q, 0 ≤ q → q < c → hk (p + 12) (4 * g + q) = -4) → (∀ j, ¬ (4 * g ≤ j ∧ j < 4 * g + 4) → hk (p + 11) j = h (p + 11) j ∧ hk (p + 12) j = h (p + 12) j) → St E mX3_settleGroup 7 [some (.ref p), some (.ref s), some (vI g), some (vI (4 * g)), some (vI c), none, none, none] [] (0, 0) N lay r hk := by
    intro  n_
    induction n_ using Nat.strongRecOn with
    | ind n_ ih =>
      intro c hk hn_ hc hf hco htr hou
      refine r_iload_4 (pc := 7) dX3_settleGroup_7 ?_
      refine r_iconst (pc := 9) dX3_settleGroup_9 ?_
      refine r_icmp_ge (pc := 10) (tgt := 41) dX3_settleGroup_10 (by decide) (by omega) (by omega) (fun c_10 => ?_) (fun c_10 => ?_)
      · refine r_iconst (pc := 41) dX3_settleGroup_41 ?_
        refine r_istore_4 (pc := 42) dX3_settleGroup_42 rfl ?_
        refine r_iconst (pc := 44) dX3_settleGroup_44 ?_
        refine r_istore_5 (pc := 45) dX3_settleGroup_45 rfl ?_
        exact lp2 _ 0 0 hk _ _ rfl (by omega) (by simp [pst]) (fun x hx => hf x (by omega)) (by rw [hf _ (by omega)]; exact hK) (fun q q0 q4 => hco q q0 (by omega)) (fun q q0 q4 => htr q q0 (by omega)) hou
      · refine r_aload_0 (pc := 13) dX3_settleGroup_13 ?_
        refine gf_X3_32 (pc := 14) rfl (by assumption) dX3_settleGroup_14 (by assumption) ?_
        refine r_iload_3 (pc := 17) dX3_settleGroup_17 ?_
        refine r_iload_4 (pc := 18) dX3_settleGroup_18 ?_
        refine r_iadd (pc := 20) dX3_settleGroup_20 ?_
        refine r_bipush (pc := 21) dX3_settleGroup_21 (by decide) ?_
        refine r_iastE (pc := 23) (by assumption) (by first | assumption | exact rfl) dX3_settleGroup_23 (by omega) (by omega) (by omega) ?_
        refine r_aload_0 (pc := 24) dX3_settleGroup_24 ?_
        refine gf_X3_35 (pc := 25) rfl (by assumption) dX3_settleGroup_25 (by assumption) ?_
        refine r_iload_3 (pc := 28) dX3_settleGroup_28 ?_
        refine r_iload_4 (pc := 29) dX3_settleGroup_29 ?_
        refine r_iadd (pc := 31) dX3_settleGroup_31 ?_
        refine r_bipush (pc := 32) dX3_settleGroup_32 (by decide) ?_
        refine r_iastE (pc := 34) (by assumption) (by first | assumption | exact rfl) dX3_settleGroup_34 (by omega) (by omega) (by omega) ?_
        refine r_iinc_4 (pc := 35) dX3_settleGroup_35 rfl ?_
        refine r_goto (pc := 38) (tgt := 7) dX3_settleGroup_38 (by decide) ?_
        refine ih _ (by omega) (c + 1) _ rfl (by omega) (fun x hx => by rw [hr_n (by omega), hr_n (by omega)]; exact hf x hx) (fun q q0 q1 => ?_) (fun q q0 q1 => ?_) (fun j hj => ?_)
        · rw [hr_n (by omega), hr_s]
          by_cases e : q = c
          · rw [e, up_s]
          · rw [up_n (by omega)]; exact hco q q0 (by omega)
        · rw [hr_s]
          by_cases e : q = c
          · rw [e, up_s]
          · rw [up_n (by omega), hr_n (by omega)]; exact htr q q0 (by omega)
        · rw [hr_n (by omega), hr_s, up_n (by omega), hr_s, up_n (by omega), hr_n (by omega)]; exact hou j hj
  refine r_iconst (pc := 0) dX3_settleGroup_0 ?_
  refine r_iload_2 (pc := 1) dX3_settleGroup_1 ?_
  refine r_imul (pc := 2) dX3_settleGroup_2 ?_
  refine r_istore_3 (pc := 3) dX3_settleGroup_3 rfl ?_
  refine r_iconst (pc := 4) dX3_settleGroup_4 ?_
  refine r_istore_4 (pc := 5) dX3_settleGroup_5 rfl ?_
  exact lp1 _ 0 h rfl (by omega) (fun _ _ => rfl) (fun q q0 q1 => by omega) (fun q q0 q1 => by omega) (fun _ _ => ⟨rfl, rfl⟩)

theorem dX3_settleAll_0 : decode cX3_settleAll 0 = .ok (.aload_n 0, 1) := by decide +kernel
theorem dX3_settleAll_1 : decode cX3_settleAll 1 = .ok (.getfield 12, 3) := by decide +kernel
theorem dX3_settleAll_4 : decode cX3_settleAll 4 = .ok (.invokevirtual 92, 3) := by decide +kernel
theorem dX3_settleAll_7 : decode cX3_settleAll 7 = .ok (.iconst 0, 1) := by decide +kernel
theorem dX3_settleAll_8 : decode cX3_settleAll 8 = .ok (.istore_n 2, 1) := by decide +kernel
theorem dX3_settleAll_9 : decode cX3_settleAll 9 = .ok (.iload_n 2, 1) := by decide +kernel
theorem dX3_settleAll_10 : decode cX3_settleAll 10 = .ok (.bipush 16, 2) := by decide +kernel
theorem dX3_settleAll_12 : decode cX3_settleAll 12 = .ok (.if_icmp .ge 15, 3) := by decide +kernel
theorem dX3_settleAll_15 : decode cX3_settleAll 15 = .ok (.aload_n 0, 1) := by decide +kernel
theorem dX3_settleAll_16 : decode cX3_settleAll 16 = .ok (.aload_n 1, 1) := by decide +kernel
theorem dX3_settleAll_17 : decode cX3_settleAll 17 = .ok (.iload_n 2, 1) := by decide +kernel
theorem dX3_settleAll_18 : decode cX3_settleAll 18 = .ok (.invokevirtual 95, 3) := by decide +kernel
theorem dX3_settleAll_21 : decode cX3_settleAll 21 = .ok (.iinc 2 1, 3) := by decide +kernel
theorem dX3_settleAll_24 : decode cX3_settleAll 24 = .ok (.goto (-15), 3) := by decide +kernel
theorem dX3_settleAll_27 : decode cX3_settleAll 27 = .ok (.return_, 1) := by decide +kernel
set_option maxHeartbeats 4000000 in
set_option maxRecDepth 20000 in
theorem c_X3_settleAll : ConV mX3_settleAll (fun args N lay r h Q => ∃ (p : Nat) (mp : Int → Int) (s : Nat), args = [.ref p, .ref s] ∧ PlAt lay r p ∧ StAt lay r s ∧ (s + 2 ≤ p ∨ p + 14 ≤ s) ∧ TrM mp ∧ RlM mp ∧ PTr h p mp ∧ PRl h p mp ∧ StK (h (s + 1)) ∧ ∀ h2, Fr h h2 (fun x => x = p + 3 ∨ x = p + 8 ∨ x = p + 11 ∨ x = p + 12 ∨ x = p + 13 ∨ x = s + 1) → PTr h2 p mp → PWt h2 p mp → PRl h2 p mp → PSt h2 p mp → StK (h2 (s + 1)) → Q N lay r h2) := by
  refine ConV.of (by decide) (by rintro _ N lay r h Q ⟨p, mp, s, rfl, hA, hS, hP, hT, hR, hN, hL, hK, hQ⟩; exact ⟨rfl, Nat.le_of_ble_eq_true rfl⟩) ?_
  rintro E _ N lay r h Q ⟨p, mp, s, rfl, hA, hS, hP, hT, hR, hN, hL, hK, hQ⟩ hret
  obtain ⟨pl0, pl1, pl2, pl3, pl4, pl5, pl6, pl7, pl8, pl9, pl10, pl11, pl12, pl13, pr0, pr1, pr2, pr3, pr9, pr10, pr11, qr3, qr4, vr1, vr2, vr3, vr4⟩ := id hA
  obtain ⟨sl0, sl1, sr0⟩ := id hS
  obtain ⟨⟨rl5, rl6, rl7, rl8⟩, rfu, rca, rre, rnu, rdv⟩ := id hL
  obtain ⟨r1, r2, r3, r4, r5, r6, r7⟩ := id hR
  have t3 := hT.2.2.1
  show St E mX3_settleAll 0 [some (.ref p), some (.ref s), none] [] (0, 0) N lay r h
  have lp : ∀ (n_ : Nat) (g : Int) (hk : HpT), (16 - g).toNat = n_ → (0 ≤ g ∧ g ≤ 16) → (Fr h hk (fun x => x = p + 3 ∨ x = p + 8 ∨ x = p + 11 ∨ x = p + 12 ∨ x = p + 13 ∨ x = s + 1)) → (PTr hk p mp) → (PWt hk p mp) → (StK (hk (s + 1))) → (∀ j, 0 ≤ j → j < 4 * g → hk (p + 11) j = plr mp j) → (∀ j, 0 ≤ j → j < 4 * g → hk (p + 12) j = trs mp (j / 4) (j % 4)) → (∀ q, 0 ≤ q → q < g → hk (p + 13) q = pb (plr mp) q) → (∀ i, 0 ≤ i → i < mp 135 → mp (110 + 3 * i) < g → hk (p + 8) i = std mp (mp (110 + 3 * i)) i.toNat) → (∀ d, 10 ≤ d → hk (p + 3) d = h (p + 3) d) → St E mX3_settleAll 9 [some (.ref p), some (.ref s), some (vI g)] [] (0, 0) N lay r hk := by
    intro  n_
    induction n_ using Nat.strongRecOn with
    | ind n_ ih =>
      intro g hk hn_ hg hf TR WT hk3 s1 s2 s3 s4 hw3
      have RL : PRl hk p mp := hL.of (hf _ (by omega)) (hf _ (by omega)) (hf _ (by omega)) (hf _ (by omega)) (hf _ (by omega)) (hf _ (by omega)) (hf _ (by omega))
      refine r_iload_2 (pc := 9) dX3_settleAll_9 ?_
      refine r_bipush (pc := 10) dX3_settleAll_10 (by decide) ?_
      refine r_icmp_ge (pc := 12) (tgt := 27) dX3_settleAll_12 (by decide) (by omega) (by omega) (fun c_12 => ?_) (fun c_12 => ?_)
      · refine r_ret (pc := 27) hret dX3_settleAll_27 rfl rfl rfl ?_
        have hg9 : g = 16 := by omega
        subst hg9
        exact hQ hk hf TR WT RL ⟨fun j j0 j1 => s1 j j0 (by omega), fun j j0 j1 => s2 j j0 (by omega), s3, fun i i0 i1 => s4 i i0 i1 (by have := (r7 i i0 i1).1; omega)⟩ hk3
      · refine r_aload_0 (pc := 15) dX3_settleAll_15 ?_
        refine r_aload_1 (pc := 16) dX3_settleAll_16 ?_
        refine r_iload_2 (pc := 17) dX3_settleAll_17 ?_
        refine k_VV2 (pc := 18) c_X3_settleGroup lk_X3_95 ⟨Nat.le_of_ble_eq_true rfl, Nat.le_of_ble_eq_true rfl⟩ ⟨rfl, rfl⟩ ⟨Nat.le_of_ble_eq_true rfl, Nat.le_of_ble_eq_true rfl⟩ (k := 3) rfl (by decide) (by assumption) dX3_settleAll_18 (Nat.le_of_ble_eq_true rfl) ?_
        refine ⟨_, mp, _, _, rfl, hA, hS, hP, hT, hR, by assumption, by assumption, by assumption, by assumption, by omega, fun h_18 f_18 k_18 a_18 b_18 d_18 e_18 g_18 w_18 => ?_⟩
        refine r_iinc_2 (pc := 21) dX3_settleAll_21 rfl ?_
        refine r_goto (pc := 24) (tgt := 9) dX3_settleAll_24 (by decide) ?_
        refine ih _ (by omega) (g + 1) h_18 rfl (by omega) (fun x hx => (f_18 x (by omega)).trans (hf x (by omega))) (TR.of (f_18 _ (by omega)) (f_18 _ (by omega)) (f_18 _ (by omega))) (WT.of (f_18 _ (by omega))) k_18 (fun j j0 j1 => ?_) (fun j j0 j1 => ?_) (fun q q0 q1 => ?_) (fun i i0 i1 i2 => ?_) (fun d hd => by rw [f_18 _ (by omega)]; exact hw3 d hd)
        · by_cases e : j < 4 * g
          · rw [(e_18 j (by omega)).1]; exact s1 j j0 e
          · have q := a_18 (j - 4 * g) (by omega) (by omega)
            rw [show 4 * g + (j - 4 * g) = j by omega] at q
            rw [q]
            unfold plr
            rw [show j / 4 = g by omega, show j % 4 = j - 4 * g by omega]
        · by_cases e : j < 4 * g
          · rw [(e_18 j (by omega)).2]; exact s2 j j0 e
          · have q := b_18 (j - 4 * g) (by omega) (by omega)
            rw [show 4 * g + (j - 4 * g) = j by omega] at q
            rw [q, show j / 4 = g by omega, show j % 4 = j - 4 * g by omega]
        · by_cases e : q = g
          · rw [e]; exact d_18
          · rw [g_18 q e]; exact s3 q q0 (by omega)
        · rw [w_18 i i0 i1]
          by_cases e : mp (110 + 3 * i) = g
          · rw [if_pos e, e]
          · rw [if_neg e]; exact s4 i i0 i1 (by omega)
  refine r_aload_0 (pc := 0) dX3_settleAll_0 ?_
  refine gf_X3_12 (pc := 1) rfl (by assumption) dX3_settleAll_1 (by assumption) ?_
  refine k_VV0 (pc := 4) c_X6_sumWeights lk_X3_92 ⟨Nat.le_of_ble_eq_true rfl, Nat.le_of_ble_eq_true rfl⟩ ⟨rfl, rfl⟩ ⟨Nat.le_of_ble_eq_true rfl, Nat.le_of_ble_eq_true rfl⟩ (k := 6) rfl (by decide) (by assumption) dX3_settleAll_4 (Nat.le_of_ble_eq_true rfl) ?_
  refine ⟨_, _, rfl, by assumption, by assumption, by assumption, fun f_4 a_4 b_4 => ?_⟩
  refine r_iconst (pc := 7) dX3_settleAll_7 ?_
  refine r_istore_2 (pc := 8) dX3_settleAll_8 rfl ?_
  refine lp _ 0 _ rfl (by omega) (fun x hx => by rw [hr_n (by omega)]) ?_ (fun n n0 n1 => by rw [hr_s]; exact a_4 n n0 n1) (by rw [hr_n (by omega)]; exact hK) (fun j j0 j1 => by omega) (fun j j0 j1 => by omega) (fun j j0 j1 => by omega) (fun i i0 i1 i2 => by have := (r7 i i0 i1).1; omega) (fun d hd => by rw [hr_s]; exact b_4 d hd)
  obtain ⟨x1, x2, x3, x4, x5, x6⟩ := hN
  refine ⟨by rw [hr_n (by omega)]; exact x1, by rw [hr_n (by omega)]; exact x2, by rw [hr_n (by omega)]; exact x3, fun d d0 d1 => by rw [hr_s, b_4 d d0]; exact x4 d d0 d1, by rw [hr_n (by omega)]; exact x5, by rw [hr_n (by omega)]; exact x6⟩

