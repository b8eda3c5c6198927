/-! THE REFERENCE: storm -/
def svv (k n : Int) : Int := (7919 * k + 6151 * n + 1) * (7919 * k + 6151 * n + 1) % 65521
theorem svv_r (k n : Int) : 0 ≤ svv k n ∧ svv k n < 65521 := by
  unfold svv
  omega
theorem y2_r {y : Int} (h0 : 0 ≤ y) (h1 : y ≤ 100000000) : 0 ≤ y * y ∧ y * y < 9223372036854775808 := by
  have h2 : 0 ≤ y * y := Int.mul_nonneg h0 h0
  have h3 : y * y ≤ 100000000 * 100000000 := Int.mul_le_mul h1 h1 h0 (by omega)
  omega
def sta (mp : Int → Int) (v : Int) (s : (Int → Int) × Int) : (Int → Int) × Int := if v / 16 % 4 = 0 then (flr s.1 (10 + v % mp 130) 16, iA s.2 (iX (iSl 1 (10 + v % mp 130 - 10)) (-1))) else if v / 16 % 4 = 1 then (s.1, iO s.2 (iSl 1 (10 + v % mp 130 - 10))) else s
def stm (mp f sz ho : Int → Int) (ux k : Int) : Nat → (Int → Int) × Int × Int
  | 0 => (ho, ux, 0)
  | n + 1 => ((tix f (sta mp (svv k n) ((stm mp f sz ho ux k n).1, (stm mp f sz ho ux k n).2.1)).2 sz (sta mp (svv k n) ((stm mp f sz ho ux k n).1, (stm mp f sz ho ux k n).2.1)).1 2).1, (sta mp (svv k n) ((stm mp f sz ho ux k n).1, (stm mp f sz ho ux k n).2.1)).2, (stm mp f sz ho ux k n).2.2 + (tix f (sta mp (svv k n) ((stm mp f sz ho ux k n).1, (stm mp f sz ho ux k n).2.1)).2 sz (sta mp (svv k n) ((stm mp f sz ho ux k n).1, (stm mp f sz ho ux k n).2.1)).1 2).2)
theorem cpy_o {f : Int → Int} {ux : Int} {ho : Int → Int} {g j : Int} (hg : 0 ≤ g ∧ g < 16) (hj : ¬ (0 ≤ j ∧ j < 16)) : cpy f ux ho g j = ho j := by
  unfold cpy
  split
  · rfl
  · exact up_n (by omega)
theorem tkk_o {f : Int → Int} {ux : Int} {sz ho : Int → Int} {j : Int} (hj : ¬ (0 ≤ j ∧ j < 16)) : ∀ m, (tkk f ux sz ho m).1 j = ho j
  | 0 => rfl
  | m + 1 => by
    have po := prs_or f ux (tkk f ux sz ho m).1 sz 16
    simp only [tkk]
    split
    · exact tkk_o hj m
    · dsimp only
      rw [cpy_o (by omega) hj]
      exact tkk_o hj m
theorem tix_o {f : Int → Int} {ux : Int} {sz ho : Int → Int} {j : Int} (hj : ¬ (0 ≤ j ∧ j < 16)) (m : Nat) : (tix f ux sz ho m).1 j = ho j := by
  unfold tix drp
  dsimp only
  rw [if_neg (fun z => hj ⟨z.1, z.2.1⟩)]
  exact tkk_o hj m
theorem sta_o {mp : Int → Int} {v : Int} {s : (Int → Int) × Int} {j : Int} (hj : ¬ (0 ≤ j ∧ j < 16)) : (sta mp v s).1 j = s.1 j := by
  unfold sta
  split
  · exact if_neg hj
  · split <;> rfl
theorem stm_o {mp f sz ho : Int → Int} {ux k j : Int} (hj : ¬ (0 ≤ j ∧ j < 16)) : ∀ n, (stm mp f sz ho ux k n).1 j = ho j
  | 0 => rfl
  | n + 1 => by
    simp only [stm]
    rw [tix_o hj, sta_o hj]
    exact stm_o hj n
theorem dX8_storm_0 : decode cX8_storm 0 = .ok (.aload_n 0, 1) := by decide +kernel
theorem dX8_storm_1 : decode cX8_storm 1 = .ok (.iload_n 1, 1) := by decide +kernel
theorem dX8_storm_2 : decode cX8_storm 2 = .ok (.iconst 0, 1) := by decide +kernel
theorem dX8_storm_3 : decode cX8_storm 3 = .ok (.sipush 9999, 3) := by decide +kernel
theorem dX8_storm_6 : decode cX8_storm 6 = .ok (.invokevirtual 137, 3) := by decide +kernel
theorem dX8_storm_9 : decode cX8_storm 9 = .ok (.ifCond .eq 24, 3) := by decide +kernel
theorem dX8_storm_12 : decode cX8_storm 12 = .ok (.aload_n 0, 1) := by decide +kernel
theorem dX8_storm_13 : decode cX8_storm 13 = .ok (.iload_n 2, 1) := by decide +kernel
theorem dX8_storm_14 : decode cX8_storm 14 = .ok (.iconst 1, 1) := by decide +kernel
theorem dX8_storm_15 : decode cX8_storm 15 = .ok (.bipush 30, 2) := by decide +kernel
theorem dX8_storm_17 : decode cX8_storm 17 = .ok (.invokevirtual 137, 3) := by decide +kernel
theorem dX8_storm_20 : decode cX8_storm 20 = .ok (.ifCond .eq 13, 3) := by decide +kernel
theorem dX8_storm_23 : decode cX8_storm 23 = .ok (.aload_n 0, 1) := by decide +kernel
theorem dX8_storm_24 : decode cX8_storm 24 = .ok (.iload_n 3, 1) := by decide +kernel
theorem dX8_storm_25 : decode cX8_storm 25 = .ok (.iconst 0, 1) := by decide +kernel
theorem dX8_storm_26 : decode cX8_storm 26 = .ok (.iconst 2, 1) := by decide +kernel
theorem dX8_storm_27 : decode cX8_storm 27 = .ok (.invokevirtual 137, 3) := by decide +kernel
theorem dX8_storm_30 : decode cX8_storm 30 = .ok (.ifCond .ne 5, 3) := by decide +kernel
theorem dX8_storm_33 : decode cX8_storm 33 = .ok (.iconst (-1), 1) := by decide +kernel
theorem dX8_storm_34 : decode cX8_storm 34 = .ok (.ireturn, 1) := by decide +kernel
theorem dX8_storm_35 : decode cX8_storm 35 = .ok (.aload_n 0, 1) := by decide +kernel
theorem dX8_storm_36 : decode cX8_storm 36 = .ok (.getfield 125, 3) := by decide +kernel
theorem dX8_storm_39 : decode cX8_storm 39 = .ok (.istore 4, 2) := by decide +kernel
theorem dX8_storm_41 : decode cX8_storm 41 = .ok (.iconst 0, 1) := by decide +kernel
theorem dX8_storm_42 : decode cX8_storm 42 = .ok (.istore 5, 2) := by decide +kernel
theorem dX8_storm_44 : decode cX8_storm 44 = .ok (.iload 5, 2) := by decide +kernel
theorem dX8_storm_46 : decode cX8_storm 46 = .ok (.bipush 16, 2) := by decide +kernel
theorem dX8_storm_48 : decode cX8_storm 48 = .ok (.if_icmp .ge 23, 3) := by decide +kernel
theorem dX8_storm_51 : decode cX8_storm 51 = .ok (.aload_n 0, 1) := by decide +kernel
theorem dX8_storm_52 : decode cX8_storm 52 = .ok (.getfield 55, 3) := by decide +kernel
theorem dX8_storm_55 : decode cX8_storm 55 = .ok (.iload 5, 2) := by decide +kernel
theorem dX8_storm_57 : decode cX8_storm 57 = .ok (.aload_n 0, 1) := by decide +kernel
theorem dX8_storm_58 : decode cX8_storm 58 = .ok (.getfield 49, 3) := by decide +kernel
theorem dX8_storm_61 : decode cX8_storm 61 = .ok (.iload 5, 2) := by decide +kernel
theorem dX8_storm_63 : decode cX8_storm 63 = .ok (.iaload, 1) := by decide +kernel
theorem dX8_storm_64 : decode cX8_storm 64 = .ok (.iastore, 1) := by decide +kernel
theorem dX8_storm_65 : decode cX8_storm 65 = .ok (.iinc 5 1, 3) := by decide +kernel
theorem dX8_storm_68 : decode cX8_storm 68 = .ok (.goto (-24), 3) := by decide +kernel
theorem dX8_storm_71 : decode cX8_storm 71 = .ok (.iconst 0, 1) := by decide +kernel
theorem dX8_storm_72 : decode cX8_storm 72 = .ok (.istore 5, 2) := by decide +kernel
theorem dX8_storm_74 : decode cX8_storm 74 = .ok (.iconst 0, 1) := by decide +kernel
theorem dX8_storm_75 : decode cX8_storm 75 = .ok (.istore 6, 2) := by decide +kernel
theorem dX8_storm_77 : decode cX8_storm 77 = .ok (.iload 6, 2) := by decide +kernel
theorem dX8_storm_79 : decode cX8_storm 79 = .ok (.iload_n 2, 1) := by decide +kernel
theorem dX8_storm_80 : decode cX8_storm 80 = .ok (.if_icmp .ge 111, 3) := by decide +kernel
theorem dX8_storm_83 : decode cX8_storm 83 = .ok (.ldc2_w 167, 3) := by decide +kernel
theorem dX8_storm_86 : decode cX8_storm 86 = .ok (.iload_n 1, 1) := by decide +kernel
theorem dX8_storm_87 : decode cX8_storm 87 = .ok (.i2l, 1) := by decide +kernel
theorem dX8_storm_88 : decode cX8_storm 88 = .ok (.lmul, 1) := by decide +kernel
theorem dX8_storm_89 : decode cX8_storm 89 = .ok (.ldc2_w 257, 3) := by decide +kernel
theorem dX8_storm_92 : decode cX8_storm 92 = .ok (.iload 6, 2) := by decide +kernel
theorem dX8_storm_94 : decode cX8_storm 94 = .ok (.i2l, 1) := by decide +kernel
theorem dX8_storm_95 : decode cX8_storm 95 = .ok (.lmul, 1) := by decide +kernel
theorem dX8_storm_96 : decode cX8_storm 96 = .ok (.ladd, 1) := by decide +kernel
theorem dX8_storm_97 : decode cX8_storm 97 = .ok (.lconst 1, 1) := by decide +kernel
theorem dX8_storm_98 : decode cX8_storm 98 = .ok (.ladd, 1) := by decide +kernel
theorem dX8_storm_99 : decode cX8_storm 99 = .ok (.lstore 7, 2) := by decide +kernel
theorem dX8_storm_101 : decode cX8_storm 101 = .ok (.lload 7, 2) := by decide +kernel
theorem dX8_storm_103 : decode cX8_storm 103 = .ok (.lload 7, 2) := by decide +kernel
theorem dX8_storm_105 : decode cX8_storm 105 = .ok (.lmul, 1) := by decide +kernel
theorem dX8_storm_106 : decode cX8_storm 106 = .ok (.ldc2_w 173, 3) := by decide +kernel
theorem dX8_storm_109 : decode cX8_storm 109 = .ok (.lrem, 1) := by decide +kernel
theorem dX8_storm_110 : decode cX8_storm 110 = .ok (.l2i, 1) := by decide +kernel
theorem dX8_storm_111 : decode cX8_storm 111 = .ok (.istore 9, 2) := by decide +kernel
theorem dX8_storm_113 : decode cX8_storm 113 = .ok (.bipush 10, 2) := by decide +kernel
theorem dX8_storm_115 : decode cX8_storm 115 = .ok (.iload 9, 2) := by decide +kernel
theorem dX8_storm_117 : decode cX8_storm 117 = .ok (.aload_n 0, 1) := by decide +kernel
theorem dX8_storm_118 : decode cX8_storm 118 = .ok (.getfield 13, 3) := by decide +kernel
theorem dX8_storm_121 : decode cX8_storm 121 = .ok (.sipush 130, 3) := by decide +kernel
theorem dX8_storm_124 : decode cX8_storm 124 = .ok (.iaload, 1) := by decide +kernel
theorem dX8_storm_125 : decode cX8_storm 125 = .ok (.irem, 1) := by decide +kernel
theorem dX8_storm_126 : decode cX8_storm 126 = .ok (.iadd, 1) := by decide +kernel
theorem dX8_storm_127 : decode cX8_storm 127 = .ok (.istore 10, 2) := by decide +kernel
theorem dX8_storm_129 : decode cX8_storm 129 = .ok (.iload 9, 2) := by decide +kernel
theorem dX8_storm_131 : decode cX8_storm 131 = .ok (.bipush 16, 2) := by decide +kernel
theorem dX8_storm_133 : decode cX8_storm 133 = .ok (.idiv, 1) := by decide +kernel
theorem dX8_storm_134 : decode cX8_storm 134 = .ok (.iconst 4, 1) := by decide +kernel
theorem dX8_storm_135 : decode cX8_storm 135 = .ok (.irem, 1) := by decide +kernel
theorem dX8_storm_136 : decode cX8_storm 136 = .ok (.istore 11, 2) := by decide +kernel
theorem dX8_storm_138 : decode cX8_storm 138 = .ok (.iload 11, 2) := by decide +kernel
theorem dX8_storm_140 : decode cX8_storm 140 = .ok (.ifCond .ne 13, 3) := by decide +kernel
theorem dX8_storm_143 : decode cX8_storm 143 = .ok (.aload_n 0, 1) := by decide +kernel
theorem dX8_storm_144 : decode cX8_storm 144 = .ok (.iload 10, 2) := by decide +kernel
theorem dX8_storm_146 : decode cX8_storm 146 = .ok (.invokevirtual 254, 3) := by decide +kernel
theorem dX8_storm_149 : decode cX8_storm 149 = .ok (.pop, 1) := by decide +kernel
theorem dX8_storm_150 : decode cX8_storm 150 = .ok (.goto 25, 3) := by decide +kernel
theorem dX8_storm_153 : decode cX8_storm 153 = .ok (.iload 11, 2) := by decide +kernel
theorem dX8_storm_155 : decode cX8_storm 155 = .ok (.iconst 1, 1) := by decide +kernel
theorem dX8_storm_156 : decode cX8_storm 156 = .ok (.if_icmp .ne 19, 3) := by decide +kernel
theorem dX8_storm_159 : decode cX8_storm 159 = .ok (.aload_n 0, 1) := by decide +kernel
theorem dX8_storm_160 : decode cX8_storm 160 = .ok (.dup, 1) := by decide +kernel
theorem dX8_storm_161 : decode cX8_storm 161 = .ok (.getfield 125, 3) := by decide +kernel
theorem dX8_storm_164 : decode cX8_storm 164 = .ok (.iconst 1, 1) := by decide +kernel
theorem dX8_storm_165 : decode cX8_storm 165 = .ok (.iload 10, 2) := by decide +kernel
theorem dX8_storm_167 : decode cX8_storm 167 = .ok (.bipush 10, 2) := by decide +kernel
theorem dX8_storm_169 : decode cX8_storm 169 = .ok (.isub, 1) := by decide +kernel
theorem dX8_storm_170 : decode cX8_storm 170 = .ok (.ishl, 1) := by decide +kernel
theorem dX8_storm_171 : decode cX8_storm 171 = .ok (.ior, 1) := by decide +kernel
theorem dX8_storm_172 : decode cX8_storm 172 = .ok (.putfield 125, 3) := by decide +kernel
theorem dX8_storm_175 : decode cX8_storm 175 = .ok (.iload 5, 2) := by decide +kernel
theorem dX8_storm_177 : decode cX8_storm 177 = .ok (.aload_n 0, 1) := by decide +kernel
theorem dX8_storm_178 : decode cX8_storm 178 = .ok (.iconst 2, 1) := by decide +kernel
theorem dX8_storm_179 : decode cX8_storm 179 = .ok (.invokevirtual 251, 3) := by decide +kernel
theorem dX8_storm_182 : decode cX8_storm 182 = .ok (.iadd, 1) := by decide +kernel
theorem dX8_storm_183 : decode cX8_storm 183 = .ok (.istore 5, 2) := by decide +kernel
theorem dX8_storm_185 : decode cX8_storm 185 = .ok (.iinc 6 1, 3) := by decide +kernel
theorem dX8_storm_188 : decode cX8_storm 188 = .ok (.goto (-111), 3) := by decide +kernel
theorem dX8_storm_191 : decode cX8_storm 191 = .ok (.iload_n 3, 1) := by decide +kernel
theorem dX8_storm_192 : decode cX8_storm 192 = .ok (.ifCond .ne 10, 3) := by decide +kernel
theorem dX8_storm_195 : decode cX8_storm 195 = .ok (.aload_n 0, 1) := by decide +kernel
theorem dX8_storm_196 : decode cX8_storm 196 = .ok (.invokevirtual 259, 3) := by decide +kernel
theorem dX8_storm_199 : decode cX8_storm 199 = .ok (.goto 20, 3) := by decide +kernel
theorem dX8_storm_202 : decode cX8_storm 202 = .ok (.iload_n 3, 1) := by decide +kernel
theorem dX8_storm_203 : decode cX8_storm 203 = .ok (.iconst 1, 1) := by decide +kernel
theorem dX8_storm_204 : decode cX8_storm 204 = .ok (.if_icmp .ne 8, 3) := by decide +kernel
theorem dX8_storm_207 : decode cX8_storm 207 = .ok (.iload 5, 2) := by decide +kernel
theorem dX8_storm_209 : decode cX8_storm 209 = .ok (.goto 10, 3) := by decide +kernel
theorem dX8_storm_212 : decode cX8_storm 212 = .ok (.aload_n 0, 1) := by decide +kernel
theorem dX8_storm_213 : decode cX8_storm 213 = .ok (.getfield 125, 3) := by decide +kernel
theorem dX8_storm_216 : decode cX8_storm 216 = .ok (.invokestatic 242, 3) := by decide +kernel
theorem dX8_storm_219 : decode cX8_storm 219 = .ok (.istore 6, 2) := by decide +kernel
theorem dX8_storm_221 : decode cX8_storm 221 = .ok (.aload_n 0, 1) := by decide +kernel
theorem dX8_storm_222 : decode cX8_storm 222 = .ok (.iload 4, 2) := by decide +kernel
theorem dX8_storm_224 : decode cX8_storm 224 = .ok (.putfield 125, 3) := by decide +kernel
theorem dX8_storm_227 : decode cX8_storm 227 = .ok (.iconst 0, 1) := by decide +kernel
theorem dX8_storm_228 : decode cX8_storm 228 = .ok (.istore 7, 2) := by decide +kernel
theorem dX8_storm_230 : decode cX8_storm 230 = .ok (.iload 7, 2) := by decide +kernel
theorem dX8_storm_232 : decode cX8_storm 232 = .ok (.bipush 16, 2) := by decide +kernel
theorem dX8_storm_234 : decode cX8_storm 234 = .ok (.if_icmp .ge 23, 3) := by decide +kernel
theorem dX8_storm_237 : decode cX8_storm 237 = .ok (.aload_n 0, 1) := by decide +kernel
theorem dX8_storm_238 : decode cX8_storm 238 = .ok (.getfield 49, 3) := by decide +kernel
theorem dX8_storm_241 : decode cX8_storm 241 = .ok (.iload 7, 2) := by decide +kernel
theorem dX8_storm_243 : decode cX8_storm 243 = .ok (.aload_n 0, 1) := by decide +kernel
theorem dX8_storm_244 : decode cX8_storm 244 = .ok (.getfield 55, 3) := by decide +kernel
theorem dX8_storm_247 : decode cX8_storm 247 = .ok (.iload 7, 2) := by decide +kernel
theorem dX8_storm_249 : decode cX8_storm 249 = .ok (.iaload, 1) := by decide +kernel
theorem dX8_storm_250 : decode cX8_storm 250 = .ok (.iastore, 1) := by decide +kernel
theorem dX8_storm_251 : decode cX8_storm 251 = .ok (.iinc 7 1, 3) := by decide +kernel
theorem dX8_storm_254 : decode cX8_storm 254 = .ok (.goto (-24), 3) := by decide +kernel
theorem dX8_storm_257 : decode cX8_storm 257 = .ok (.iload 6, 2) := by decide +kernel
theorem dX8_storm_259 : decode cX8_storm 259 = .ok (.ireturn, 1) := by decide +kernel
set_option maxHeartbeats 4000000 in
set_option maxRecDepth 20000 in
theorem c_X8_storm : ConI mX8_storm (fun args N lay r h Q => ∃ (b : Nat) (mp : Int → Int) (k n p : Int), args = [.ref b, vI k, vI n, vI p] ∧ MdAt lay r b ∧ h (b + 2) = mp ∧ TrM mp ∧ RlM mp ∧ (-2147483648 ≤ k ∧ k < 2147483648) ∧ (-2147483648 ≤ n ∧ n < 2147483648) ∧ (-2147483648 ≤ p ∧ p < 2147483648) ∧ 1 ≤ mp 130 ∧ (¬ ((0 ≤ k ∧ k ≤ 9999) ∧ (1 ≤ n ∧ n ≤ 30) ∧ (0 ≤ p ∧ p ≤ 2)) → Q (-1) N lay r h) ∧ (((0 ≤ k ∧ k ≤ 9999) ∧ (1 ≤ n ∧ n ≤ 30) ∧ (0 ≤ p ∧ p ≤ 2)) → ∀ h2, Fr h h2 (fun x => x = b + 16) → (p = 0 → Q (sm (fun g => bI ((stm mp (h (b + 12)) (h (b + 15)) (h (b + 14)) (h b 17) k n.toNat).1 g = 0)) 16) N lay r h2) ∧ (p = 1 → Q (stm mp (h (b + 12)) (h (b + 15)) (h (b + 14)) (h b 17) k n.toNat).2.2 N lay r h2) ∧ (p = 2 → Q (bts (stm mp (h (b + 12)) (h (b + 15)) (h (b + 14)) (h b 17) k n.toNat).2.1) N lay r h2))) := by
  refine ConI.of (by decide) (by rintro _ N lay r h Q ⟨b, mp, k, n, p, rfl, hM, hmp, hT, hR, hk, hn, hp, h130, hB, hQ⟩; exact ⟨rfl, Nat.le_of_ble_eq_true rfl⟩) ?_
  rintro E _ N lay r h Q ⟨b, mp, k, n, p, rfl, hM, hmp, hT, hR, hk, hn, hp, h130, hB, hQ⟩ hret
  obtain ⟨ml0, ml1, ml2, ml3, ml4, ml5, ml6, ml7, ml8, ml9, ml10, ml11, ml12, ml13, ml14, ml15, ml16, ml17, ml18, ml19, ml20, mr1, mr2, mr3, mr4, mr5, mr6, mr7, mr8, mr9, mr10, mr11, mr12, mr13, mr14, mr15, mr16, mr17, mr18, mr19, mr20⟩ := id hM
  obtain ⟨t1, t2, t3, t4, t5, t6, t7⟩ := id hT
  obtain ⟨r1, r2, r3, r4, r5, r6, r7⟩ := id hR
  show St E mX8_storm 0 [some (.ref b), some (vI k), some (vI n), some (vI p), none, none, none, none, none, none, none, none] [] (0, 0) N lay r h
  have cp : ∀ (K : St E mX8_storm 71 [some (.ref b), some (vI k), some (vI n), some (vI p), some (vI (h b 17)), some (vI 16), none, none, none, none, none, none] [] (0, 0) N lay r (hr h (b + 16) (cpR (h (b + 14)) (h (b + 16)) 16))) (n_ : Nat) (i : Int), (16 - i).toNat = n_ → (0 ≤ i ∧ i ≤ 16) → St E mX8_storm 44 [some (.ref b), some (vI k), some (vI n), some (vI p), some (vI (h b 17)), some (vI i), none, none, none, none, none, none] [] (0, 0) N lay r (hr h (b + 16) (cpR (h (b + 14)) (h (b + 16)) i)) := by
    intro K n_
    induction n_ using Nat.strongRecOn with
    | ind n_ ih =>
      intro i hn_ hi
      have eA : (hr h (b + 16) (cpR (h (b + 14)) (h (b + 16)) i)) (b + 16) = cpR (h (b + 14)) (h (b + 16)) i := hr_s
      have eH : (hr h (b + 16) (cpR (h (b + 14)) (h (b + 16)) i)) (b + 14) = h (b + 14) := hr_n (by omega)
      refine r_iload_5 (pc := 44) dX8_storm_44 ?_
      refine r_bipush (pc := 46) dX8_storm_46 (by decide) ?_
      refine r_icmp_ge (pc := 48) (tgt := 71) dX8_storm_48 (by decide) (by omega) (by omega) (fun c_48 => ?_) (fun c_48 => ?_)
      · have hi9 : i = 16 := by omega
        subst hi9
        exact K
      · refine r_aload_0 (pc := 51) dX8_storm_51 ?_
        refine gf_X8_55 (pc := 52) rfl (by assumption) dX8_storm_52 (by assumption) ?_
        refine r_iload_5 (pc := 55) dX8_storm_55 ?_
        refine r_aload_0 (pc := 57) dX8_storm_57 ?_
        refine gf_X8_49 (pc := 58) rfl (by assumption) dX8_storm_58 (by assumption) ?_
        refine r_iload_5 (pc := 61) dX8_storm_61 ?_
        refine r_ialdE (pc := 63) (by assumption) (by first | assumption | exact rfl) dX8_storm_63 (by omega) (by omega) (fun i_63 => ?_)
        refine r_iastE (pc := 64) (by assumption) (by first | assumption | exact rfl) dX8_storm_64 (by omega) (by omega) (by omega) ?_
        refine r_iinc_5 (pc := 65) dX8_storm_65 rfl ?_
        refine r_goto (pc := 68) (tgt := 44) dX8_storm_68 (by decide) ?_
        rw [hr_hr, cpR_s hi.1]
        exact ih _ (by omega) (i + 1) rfl (by omega)
  have rs : ∀ (hk : HpT) (y5 : Int) (V : Int) (x8 : Option Value) (x9 : Option Value) (x10 : Option Value) (x11 : Option Value) (K : Q V N lay r (hr hk (b + 14) (cpR (hk (b + 16)) (hk (b + 14)) 16))) (n_ : Nat) (i : Int), (16 - i).toNat = n_ → (0 ≤ i ∧ i ≤ 16) → St E mX8_storm 230 [some (.ref b), some (vI k), some (vI n), some (vI p), some (vI (h b 17)), some (vI y5), some (vI V), some (vI i), x8, x9, x10, x11] [] (0, 0) N lay r (hr hk (b + 14) (cpR (hk (b + 16)) (hk (b + 14)) i)) := by
    intro hk y5 V x8 x9 x10 x11 K n_
    induction n_ using Nat.strongRecOn with
    | ind n_ ih =>
      intro i hn_ hi
      have eA : (hr hk (b + 14) (cpR (hk (b + 16)) (hk (b + 14)) i)) (b + 14) = cpR (hk (b + 16)) (hk (b + 14)) i := hr_s
      have eH : (hr hk (b + 14) (cpR (hk (b + 16)) (hk (b + 14)) i)) (b + 16) = hk (b + 16) := hr_n (by omega)
      refine r_iload_7 (pc := 230) dX8_storm_230 ?_
      refine r_bipush (pc := 232) dX8_storm_232 (by decide) ?_
      refine r_icmp_ge (pc := 234) (tgt := 257) dX8_storm_234 (by decide) (by omega) (by omega) (fun c_234 => ?_) (fun c_234 => ?_)
      · refine r_iload_6 (pc := 257) dX8_storm_257 ?_
        refine r_iret (pc := 259) hret dX8_storm_259 rfl rfl rfl ?_
        have hi9 : i = 16 := by omega
        subst hi9
        exact K
      · refine r_aload_0 (pc := 237) dX8_storm_237 ?_
        refine gf_X8_49 (pc := 238) rfl (by assumption) dX8_storm_238 (by assumption) ?_
        refine r_iload_7 (pc := 241) dX8_storm_241 ?_
        refine r_aload_0 (pc := 243) dX8_storm_243 ?_
        refine gf_X8_55 (pc := 244) rfl (by assumption) dX8_storm_244 (by assumption) ?_
        refine r_iload_7 (pc := 247) dX8_storm_247 ?_
        refine r_ialdE (pc := 249) (by assumption) (by first | assumption | exact rfl) dX8_storm_249 (by omega) (by omega) (fun i_249 => ?_)
        refine r_iastE (pc := 250) (by assumption) (by first | assumption | exact rfl) dX8_storm_250 (by omega) (by omega) (by omega) ?_
        refine r_iinc_7 (pc := 251) dX8_storm_251 rfl ?_
        refine r_goto (pc := 254) (tgt := 230) dX8_storm_254 (by decide) ?_
        rw [hr_hr, cpR_s hi.1]
        exact ih _ (by omega) (i + 1) rfl (by omega)
  have en : ∀ (hk : HpT) (y5 y6 V : Int) (x7 x8 x9 x10 x11 : Option Value), (-2147483648 ≤ h b 17 ∧ h b 17 < 2147483648) → Fr h hk (fun x => x = b ∨ x = b + 14 ∨ x = b + 16) → hk b = up (h b) 17 (hk b 17) → (∀ j, 0 ≤ j → j < 16 → hk (b + 16) j = h (b + 14) j) → (∀ j, ¬ (0 ≤ j ∧ j < 16) → hk (b + 14) j = h (b + 14) j) → (∀ h2, Fr h h2 (fun x => x = b + 16) → Q V N lay r h2) → St E mX8_storm 219 [some (.ref b), some (vI k), some (vI n), some (vI p), some (vI (h b 17)), some (vI y5), some (vI y6), x7, x8, x9, x10, x11] [vI V] (0, 0) N lay r hk := by
    intro hk y5 y6 V x7 x8 x9 x10 x11 hur hf g3 g4 g5 K
    have eb : (hr hk b (up (hk b) 17 (h b 17))) b = h b := by rw [hr_s, g3, up_up, up_id]
    have e14 : (hr hk b (up (hk b) 17 (h b 17))) (b + 14) = hk (b + 14) := hr_n (by omega)
    have e16 : (hr hk b (up (hk b) 17 (h b 17))) (b + 16) = hk (b + 16) := hr_n (by omega)
    have er : cpR ((hr hk b (up (hk b) 17 (h b 17))) (b + 16)) ((hr hk b (up (hk b) 17 (h b 17))) (b + 14)) 16 = h (b + 14) := by
      rw [e14, e16]
      funext j
      unfold cpR
      split
      · rename_i q; exact g4 j q.1 q.2
      · rename_i q; exact g5 j q
    refine r_istore_6 (pc := 219) dX8_storm_219 rfl ?_
    refine r_aload_0 (pc := 221) dX8_storm_221 ?_
    refine r_iload_4 (pc := 222) dX8_storm_222 ?_
    refine pf_X8_125 (pc := 224) rfl (by assumption) dX8_storm_224 (by omega) ?_
    refine r_iconst (pc := 227) dX8_storm_227 ?_
    refine r_istore_7 (pc := 228) dX8_storm_228 rfl ?_
    have hK : Q V N lay r (hr (hr hk b (up (hk b) 17 (h b 17))) (b + 14) (cpR ((hr hk b (up (hk b) 17 (h b 17))) (b + 16)) ((hr hk b (up (hk b) 17 (h b 17))) (b + 14)) 16)) := by
      rw [er]
      refine K _ (fun x hx => ?_)
      by_cases e1 : x = b + 14
      · rw [e1, hr_s]
      · rw [hr_n e1]
        by_cases e2 : x = b
        · rw [e2, eb]
        · rw [hr_n e2]
          exact hf x (by omega)
    have hz := rs (hr hk b (up (hk b) 17 (h b 17))) y5 V x8 x9 x10 x11 hK _ 0 rfl (by omega)
    rw [cpR_0, hr_id] at hz
    exact hz
  have lp : ∀ (hc0 : (0 ≤ k ∧ k ≤ 9999) ∧ (1 ≤ n ∧ n ≤ 30) ∧ (0 ≤ p ∧ p ≤ 2)) (hur : -2147483648 ≤ h b 17 ∧ h b 17 < 2147483648) (n_ : Nat) (m : Int) (cp_ : Int) (hk : HpT) (x7 : Option Value) (x8 : Option Value) (x9 : Option Value) (x10 : Option Value) (x11 : Option Value), (n - m).toNat = n_ → (0 ≤ m ∧ m ≤ n) → (Fr h hk (fun x => x = b ∨ x = b + 14 ∨ x = b + 16)) → (hk (b + 14) = (stm mp (h (b + 12)) (h (b + 15)) (h (b + 14)) (h b 17) k m.toNat).1) → (hk b = up (h b) 17 (stm mp (h (b + 12)) (h (b + 15)) (h (b + 14)) (h b 17) k m.toNat).2.1) → (∀ j, 0 ≤ j → j < 16 → hk (b + 16) j = h (b + 14) j) → (cp_ = (stm mp (h (b + 12)) (h (b + 15)) (h (b + 14)) (h b 17) k m.toNat).2.2) → St E mX8_storm 77 [some (.ref b), some (vI k), some (vI n), some (vI p), some (vI (h b 17)), some (vI cp_), some (vI m), x7, x8, x9, x10, x11] [] (0, 0) N lay r hk := by
    intro hc0 hur n_
    induction n_ using Nat.strongRecOn with
    | ind n_ ih =>
      intro m cp_ hk x7 x8 x9 x10 x11 hn_ hm hf h14 hb has hcp
      obtain ⟨i, rfl⟩ : ∃ i : Nat, m = i := ⟨m.toNat, by omega⟩
      rw [show ((i : Int)).toNat = i by omega] at h14 hb hcp
      have em : hk (b + 2) = mp := (hf _ (by omega)).trans hmp
      have e9 : ((i : Int) + 1).toNat = i + 1 := by omega
      have hu : hk b 17 = (stm mp (h (b + 12)) (h (b + 15)) (h (b + 14)) (h b 17) k i).2.1 := by rw [hb, up_s]
      have sv := svv_r k i
      have tl : ∀ (hk2 : HpT) (x7 x8 x9 x10 x11 : Option Value), (i : Int) < n → Fr h hk2 (fun x => x = b ∨ x = b + 14 ∨ x = b + 16) → hk2 (b + 14) = (sta mp (svv k i) ((stm mp (h (b + 12)) (h (b + 15)) (h (b + 14)) (h b 17) k i).1, (stm mp (h (b + 12)) (h (b + 15)) (h (b + 14)) (h b 17) k i).2.1)).1 → hk2 b = up (h b) 17 (sta mp (svv k i) ((stm mp (h (b + 12)) (h (b + 15)) (h (b + 14)) (h b 17) k i).1, (stm mp (h (b + 12)) (h (b + 15)) (h (b + 14)) (h b 17) k i).2.1)).2 → (∀ j, 0 ≤ j → j < 16 → hk2 (b + 16) j = h (b + 14) j) → St E mX8_storm 175 [some (.ref b), some (vI k), some (vI n), some (vI p), some (vI (h b 17)), some (vI cp_), some (vI (i : Int)), x7, x8, x9, x10, x11] [] (0, 0) N lay r hk2 := by
        intro hk2 x7 x8 x9 x10 x11 g0 g1 g2 g3 g4
        refine r_iload_5 (pc := 175) dX8_storm_175 ?_
        refine r_aload_0 (pc := 177) dX8_storm_177 ?_
        refine r_iconst (pc := 178) dX8_storm_178 ?_
        refine k_VI1 (pc := 179) c_X8_ticks lk_X8_251 ⟨Nat.le_of_ble_eq_true rfl, Nat.le_of_ble_eq_true rfl⟩ ⟨rfl, rfl⟩ ⟨Nat.le_of_ble_eq_true rfl, Nat.le_of_ble_eq_true rfl⟩ (k := 8) rfl (by decide) (by assumption) dX8_storm_179 (Nat.le_of_ble_eq_true rfl) ?_
        refine ⟨_, _, rfl, by assumption, by omega, ?_⟩
        rw [g2, g3, up_s, g1 (b + 12) (by omega), g1 (b + 15) (by omega), show (2 : Int).toNat = 2 from rfl]
        refine r_iadd (pc := 182) dX8_storm_182 ?_
        refine r_istore_5 (pc := 183) dX8_storm_183 rfl ?_
        refine r_iinc_6 (pc := 185) dX8_storm_185 rfl ?_
        refine r_goto (pc := 188) (tgt := 77) dX8_storm_188 (by decide) ?_
        exact ih _ (by omega) ((i : Int) + 1) _ _ _ _ _ _ _ rfl (by omega) (fun x hx => (hr_n (by omega)).trans (g1 x hx)) (by rw [hr_s, e9]; exact rfl) (by rw [hr_n (by omega), g3, e9]; exact rfl) (fun j j0 j1 => by rw [hr_n (by omega)]; exact g4 j j0 j1) (by rw [e9, hcp]; exact rfl)
      refine r_iload_6 (pc := 77) dX8_storm_77 ?_
      refine r_iload_2 (pc := 79) dX8_storm_79 ?_
      refine r_icmp_ge (pc := 80) (tgt := 191) dX8_storm_80 (by decide) (by omega) (by omega) (fun c_80 => ?_) (fun c_80 => ?_)
      · refine r_iload_3 (pc := 191) dX8_storm_191 ?_
        refine r_if_ne (pc := 192) (tgt := 202) dX8_storm_192 (by decide) (by omega) (fun c_192 => ?_) (fun c_192 => ?_)
        · refine r_iload_3 (pc := 202) dX8_storm_202 ?_
          refine r_iconst (pc := 203) dX8_storm_203 ?_
          refine r_icmp_ne (pc := 204) (tgt := 212) dX8_storm_204 (by decide) (by omega) (by omega) (fun c_204 => ?_) (fun c_204 => ?_)
          · refine r_aload_0 (pc := 212) dX8_storm_212 ?_
            refine gf_X8_125 (pc := 213) rfl (by assumption) dX8_storm_213 (fun i_213 => ?_)
            refine k_SI1 (pc := 216) c_X8_bitsIn lk_X8_242 ⟨Nat.le_of_ble_eq_true rfl, Nat.le_of_ble_eq_true rfl⟩ ⟨rfl, rfl⟩ ⟨Nat.le_of_ble_eq_true rfl, Nat.le_of_ble_eq_true rfl⟩ dX8_storm_216 (Nat.le_of_ble_eq_true rfl) ?_
            refine ⟨_, rfl, ?_⟩
            have hi9 : n.toNat = i := by omega
            refine en hk _ _ _ _ _ _ _ _ hur hf (by rw [hb, up_s]) has (fun j hj => by rw [h14]; exact stm_o hj i) (fun h2 f2 => ?_)
            have z := hQ hc0 h2 f2
            rw [hi9] at z
            first
            | (rw [h14]; exact z.1 (by omega))
            | (rw [hcp]; exact z.2.1 (by omega))
            | (rw [hu]; exact z.2.2 (by omega))
          · refine r_iload_5 (pc := 207) dX8_storm_207 ?_
            refine r_goto (pc := 209) (tgt := 219) dX8_storm_209 (by decide) ?_
            have hi9 : n.toNat = i := by omega
            refine en hk _ _ _ _ _ _ _ _ hur hf (by rw [hb, up_s]) has (fun j hj => by rw [h14]; exact stm_o hj i) (fun h2 f2 => ?_)
            have z := hQ hc0 h2 f2
            rw [hi9] at z
            first
            | (rw [h14]; exact z.1 (by omega))
            | (rw [hcp]; exact z.2.1 (by omega))
            | (rw [hu]; exact z.2.2 (by omega))
        · refine r_aload_0 (pc := 195) dX8_storm_195 ?_
          refine k_VI0 (pc := 196) c_X8_lost lk_X8_259 ⟨Nat.le_of_ble_eq_true rfl, Nat.le_of_ble_eq_true rfl⟩ ⟨rfl, rfl⟩ ⟨Nat.le_of_ble_eq_true rfl, Nat.le_of_ble_eq_true rfl⟩ (k := 8) rfl (by decide) (by assumption) dX8_storm_196 (Nat.le_of_ble_eq_true rfl) ?_
          refine ⟨_, rfl, by assumption, ?_⟩
          refine r_goto (pc := 199) (tgt := 219) dX8_storm_199 (by decide) ?_
          have hi9 : n.toNat = i := by omega
          refine en hk _ _ _ _ _ _ _ _ hur hf (by rw [hb, up_s]) has (fun j hj => by rw [h14]; exact stm_o hj i) (fun h2 f2 => ?_)
          have z := hQ hc0 h2 f2
          rw [hi9] at z
          first
          | (rw [h14]; exact z.1 (by omega))
          | (rw [hcp]; exact z.2.1 (by omega))
          | (rw [hu]; exact z.2.2 (by omega))
      · refine r_ldc2 (pc := 83) (v := 7919) (z := 7919) dX8_storm_83 (w_cL 919 (by decide +kernel)) (by decide) ?_
        refine r_iload_1 (pc := 86) dX8_storm_86 ?_
        refine r_i2l (pc := 87) dX8_storm_87 (by omega) ?_
        refine r_lmul (pc := 88) dX8_storm_88 ?_
        refine r_ldc2 (pc := 89) (v := 6151) (z := 6151) dX8_storm_89 (w_cL 1335 (by decide +kernel)) (by decide) ?_
        refine r_iload_6 (pc := 92) dX8_storm_92 ?_
        refine r_i2l (pc := 94) dX8_storm_94 (by omega) ?_
        refine r_lmul (pc := 95) dX8_storm_95 ?_
        refine r_ladd (pc := 96) dX8_storm_96 ?_
        refine r_lconst (pc := 97) (z := 1) dX8_storm_97 (by decide) ?_
        refine r_ladd (pc := 98) dX8_storm_98 ?_
        refine r_lstore_7 (pc := 99) dX8_storm_99 rfl ?_
        refine r_lload_7 (pc := 101) dX8_storm_101 ?_
        refine r_lload_7 (pc := 103) dX8_storm_103 ?_
        refine r_lmul (pc := 105) dX8_storm_105 ?_
        refine r_ldc2 (pc := 106) (v := 65521) (z := 65521) dX8_storm_106 (w_cL 922 (by decide +kernel)) (by decide) ?_
        refine r_lrem (pc := 109) dX8_storm_109 (y2_r (by omega) (by omega)) (by omega) ?_
        rw [show (7919 * k + 6151 * (i : Int) + 1) * (7919 * k + 6151 * (i : Int) + 1) % 65521 = svv k i from rfl]
        refine r_l2i (pc := 110) dX8_storm_110 ?_
        refine r_istore_9 (pc := 111) dX8_storm_111 rfl ?_
        refine r_bipush (pc := 113) dX8_storm_113 (by decide) ?_
        refine r_iload_9 (pc := 115) dX8_storm_115 ?_
        refine r_aload_0 (pc := 117) dX8_storm_117 ?_
        refine gf_X8_13 (pc := 118) rfl (by assumption) dX8_storm_118 (by assumption) ?_
        refine r_sipush (pc := 121) dX8_storm_121 (by decide) ?_
        refine r_ialdE (pc := 124) (by assumption) (by first | assumption | exact rfl) dX8_storm_124 (by omega) (by omega) (fun i_124 => ?_)
        have v0 := Int.emod_nonneg (svv k i) (show mp 130 ≠ 0 by omega)
        have v1 := Int.emod_lt_of_pos (svv k i) (show 0 < mp 130 by omega)
        refine r_irem (pc := 125) dX8_storm_125 (by omega) (by omega) ?_
        refine r_iadd (pc := 126) dX8_storm_126 ?_
        refine r_istore_10 (pc := 127) dX8_storm_127 rfl ?_
        refine r_iload_9 (pc := 129) dX8_storm_129 ?_
        refine r_bipush (pc := 131) dX8_storm_131 (by decide) ?_
        refine r_idiv (pc := 133) dX8_storm_133 (by omega) (by omega) ?_
        refine r_iconst (pc := 134) dX8_storm_134 ?_
        refine r_irem (pc := 135) dX8_storm_135 (by omega) (by omega) ?_
        refine r_istore_11 (pc := 136) dX8_storm_136 rfl ?_
        refine r_iload_11 (pc := 138) dX8_storm_138 ?_
        refine r_if_ne (pc := 140) (tgt := 153) dX8_storm_140 (by decide) (by omega) (fun c_140 => ?_) (fun c_140 => ?_)
        · refine r_iload_11 (pc := 153) dX8_storm_153 ?_
          refine r_iconst (pc := 155) dX8_storm_155 ?_
          refine r_icmp_ne (pc := 156) (tgt := 175) dX8_storm_156 (by decide) (by omega) (by omega) (fun c_156 => ?_) (fun c_156 => ?_)
          · first
            | (have ea : (sta mp (svv k i) ((stm mp (h (b + 12)) (h (b + 15)) (h (b + 14)) (h b 17) k i).1, (stm mp (h (b + 12)) (h (b + 15)) (h (b + 14)) (h b 17) k i).2.1)) = (flr (stm mp (h (b + 12)) (h (b + 15)) (h (b + 14)) (h b 17) k i).1 (10 + svv k i % mp 130) 16, iA (stm mp (h (b + 12)) (h (b + 15)) (h (b + 14)) (h b 17) k i).2.1 (iX (iSl 1 (10 + svv k i % mp 130 - 10)) (-1))) := if_pos c_140
               refine tl _ _ _ _ _ _ (by omega) (fun x hx => ?_) ?_ ?_ (fun j j0 j1 => ?_)
               · rw [hr_n (by omega), hr_n (by omega)]; exact hf x hx
               · rw [ea, hr_n (by omega), hr_s, h14]
               · rw [ea, hr_s, hb, up_up, up_s]
               · rw [hr_n (by omega), hr_n (by omega)]; exact has j j0 j1)
            | (have ea : (sta mp (svv k i) ((stm mp (h (b + 12)) (h (b + 15)) (h (b + 14)) (h b 17) k i).1, (stm mp (h (b + 12)) (h (b + 15)) (h (b + 14)) (h b 17) k i).2.1)) = ((stm mp (h (b + 12)) (h (b + 15)) (h (b + 14)) (h b 17) k i).1, iO (stm mp (h (b + 12)) (h (b + 15)) (h (b + 14)) (h b 17) k i).2.1 (iSl 1 (10 + svv k i % mp 130 - 10))) := (if_neg c_140).trans (if_pos c_156)
               refine tl _ _ _ _ _ _ (by omega) (fun x hx => ?_) ?_ ?_ (fun j j0 j1 => ?_)
               · rw [hr_n (by omega)]; exact hf x hx
               · rw [ea, hr_n (by omega), h14]
               · rw [ea, hr_s, hb, up_up, up_s]
               · rw [hr_n (by omega)]; exact has j j0 j1)
            | (have ea : (sta mp (svv k i) ((stm mp (h (b + 12)) (h (b + 15)) (h (b + 14)) (h b 17) k i).1, (stm mp (h (b + 12)) (h (b + 15)) (h (b + 14)) (h b 17) k i).2.1)) = ((stm mp (h (b + 12)) (h (b + 15)) (h (b + 14)) (h b 17) k i).1, (stm mp (h (b + 12)) (h (b + 15)) (h (b + 14)) (h b 17) k i).2.1) := (if_neg c_140).trans (if_neg c_156)
               refine tl _ _ _ _ _ _ (by omega) hf ?_ ?_ has
               · rw [ea, h14]
               · rw [ea, hb])
          · refine r_aload_0 (pc := 159) dX8_storm_159 ?_
            first | refine r_dupI (pc := 160) dX8_storm_160 ?_ | refine r_dupA (pc := 160) dX8_storm_160 ?_
            refine gf_X8_125 (pc := 161) rfl (by assumption) dX8_storm_161 (fun i_161 => ?_)
            refine r_iconst (pc := 164) dX8_storm_164 ?_
            refine r_iload_10 (pc := 165) dX8_storm_165 ?_
            refine r_bipush (pc := 167) dX8_storm_167 (by decide) ?_
            refine r_isub (pc := 169) dX8_storm_169 ?_
            refine r_ishl (pc := 170) dX8_storm_170 (fun i_170 => ?_)
            refine r_ior (pc := 171) dX8_storm_171 (fun i_171 => ?_)
            refine pf_X8_125 (pc := 172) rfl (by assumption) dX8_storm_172 (by omega) ?_
            first
            | (have ea : (sta mp (svv k i) ((stm mp (h (b + 12)) (h (b + 15)) (h (b + 14)) (h b 17) k i).1, (stm mp (h (b + 12)) (h (b + 15)) (h (b + 14)) (h b 17) k i).2.1)) = (flr (stm mp (h (b + 12)) (h (b + 15)) (h (b + 14)) (h b 17) k i).1 (10 + svv k i % mp 130) 16, iA (stm mp (h (b + 12)) (h (b + 15)) (h (b + 14)) (h b 17) k i).2.1 (iX (iSl 1 (10 + svv k i % mp 130 - 10)) (-1))) := if_pos c_140
               refine tl _ _ _ _ _ _ (by omega) (fun x hx => ?_) ?_ ?_ (fun j j0 j1 => ?_)
               · rw [hr_n (by omega), hr_n (by omega)]; exact hf x hx
               · rw [ea, hr_n (by omega), hr_s, h14]
               · rw [ea, hr_s, hb, up_up, up_s]
               · rw [hr_n (by omega), hr_n (by omega)]; exact has j j0 j1)
            | (have ea : (sta mp (svv k i) ((stm mp (h (b + 12)) (h (b + 15)) (h (b + 14)) (h b 17) k i).1, (stm mp (h (b + 12)) (h (b + 15)) (h (b + 14)) (h b 17) k i).2.1)) = ((stm mp (h (b + 12)) (h (b + 15)) (h (b + 14)) (h b 17) k i).1, iO (stm mp (h (b + 12)) (h (b + 15)) (h (b + 14)) (h b 17) k i).2.1 (iSl 1 (10 + svv k i % mp 130 - 10))) := (if_neg c_140).trans (if_pos c_156)
               refine tl _ _ _ _ _ _ (by omega) (fun x hx => ?_) ?_ ?_ (fun j j0 j1 => ?_)
               · rw [hr_n (by omega)]; exact hf x hx
               · rw [ea, hr_n (by omega), h14]
               · rw [ea, hr_s, hb, up_up, up_s]
               · rw [hr_n (by omega)]; exact has j j0 j1)
            | (have ea : (sta mp (svv k i) ((stm mp (h (b + 12)) (h (b + 15)) (h (b + 14)) (h b 17) k i).1, (stm mp (h (b + 12)) (h (b + 15)) (h (b + 14)) (h b 17) k i).2.1)) = ((stm mp (h (b + 12)) (h (b + 15)) (h (b + 14)) (h b 17) k i).1, (stm mp (h (b + 12)) (h (b + 15)) (h (b + 14)) (h b 17) k i).2.1) := (if_neg c_140).trans (if_neg c_156)
               refine tl _ _ _ _ _ _ (by omega) hf ?_ ?_ has
               · rw [ea, h14]
               · rw [ea, hb])
        · refine r_aload_0 (pc := 143) dX8_storm_143 ?_
          refine r_iload_10 (pc := 144) dX8_storm_144 ?_
          refine k_VI1 (pc := 146) c_X8_fails lk_X8_254 ⟨Nat.le_of_ble_eq_true rfl, Nat.le_of_ble_eq_true rfl⟩ ⟨rfl, rfl⟩ ⟨Nat.le_of_ble_eq_true rfl, Nat.le_of_ble_eq_true rfl⟩ (k := 8) rfl (by decide) (by assumption) dX8_storm_146 (Nat.le_of_ble_eq_true rfl) ?_
          refine ⟨_, _, rfl, by assumption, by omega, ?_⟩
          refine r_popI (pc := 149) dX8_storm_149 ?_
          refine r_goto (pc := 150) (tgt := 175) dX8_storm_150 (by decide) ?_
          first
          | (have ea : (sta mp (svv k i) ((stm mp (h (b + 12)) (h (b + 15)) (h (b + 14)) (h b 17) k i).1, (stm mp (h (b + 12)) (h (b + 15)) (h (b + 14)) (h b 17) k i).2.1)) = (flr (stm mp (h (b + 12)) (h (b + 15)) (h (b + 14)) (h b 17) k i).1 (10 + svv k i % mp 130) 16, iA (stm mp (h (b + 12)) (h (b + 15)) (h (b + 14)) (h b 17) k i).2.1 (iX (iSl 1 (10 + svv k i % mp 130 - 10)) (-1))) := if_pos c_140
             refine tl _ _ _ _ _ _ (by omega) (fun x hx => ?_) ?_ ?_ (fun j j0 j1 => ?_)
             · rw [hr_n (by omega), hr_n (by omega)]; exact hf x hx
             · rw [ea, hr_n (by omega), hr_s, h14]
             · rw [ea, hr_s, hb, up_up, up_s]
             · rw [hr_n (by omega), hr_n (by omega)]; exact has j j0 j1)
          | (have ea : (sta mp (svv k i) ((stm mp (h (b + 12)) (h (b + 15)) (h (b + 14)) (h b 17) k i).1, (stm mp (h (b + 12)) (h (b + 15)) (h (b + 14)) (h b 17) k i).2.1)) = ((stm mp (h (b + 12)) (h (b + 15)) (h (b + 14)) (h b 17) k i).1, iO (stm mp (h (b + 12)) (h (b + 15)) (h (b + 14)) (h b 17) k i).2.1 (iSl 1 (10 + svv k i % mp 130 - 10))) := (if_neg c_140).trans (if_pos c_156)
             refine tl _ _ _ _ _ _ (by omega) (fun x hx => ?_) ?_ ?_ (fun j j0 j1 => ?_)
             · rw [hr_n (by omega)]; exact hf x hx
             · rw [ea, hr_n (by omega), h14]
             · rw [ea, hr_s, hb, up_up, up_s]
             · rw [hr_n (by omega)]; exact has j j0 j1)
          | (have ea : (sta mp (svv k i) ((stm mp (h (b + 12)) (h (b + 15)) (h (b + 14)) (h b 17) k i).1, (stm mp (h (b + 12)) (h (b + 15)) (h (b + 14)) (h b 17) k i).2.1)) = ((stm mp (h (b + 12)) (h (b + 15)) (h (b + 14)) (h b 17) k i).1, (stm mp (h (b + 12)) (h (b + 15)) (h (b + 14)) (h b 17) k i).2.1) := (if_neg c_140).trans (if_neg c_156)
             refine tl _ _ _ _ _ _ (by omega) hf ?_ ?_ has
             · rw [ea, h14]
             · rw [ea, hb])
  refine r_aload_0 (pc := 0) dX8_storm_0 ?_
  refine r_iload_1 (pc := 1) dX8_storm_1 ?_
  refine r_iconst (pc := 2) dX8_storm_2 ?_
  refine r_sipush (pc := 3) dX8_storm_3 (by decide) ?_
  refine k_VI3 (pc := 6) c_X8_isIn lk_X8_137 ⟨Nat.le_of_ble_eq_true rfl, Nat.le_of_ble_eq_true rfl⟩ ⟨rfl, rfl⟩ ⟨Nat.le_of_ble_eq_true rfl, Nat.le_of_ble_eq_true rfl⟩ (k := 8) rfl (by decide) (by assumption) dX8_storm_6 (Nat.le_of_ble_eq_true rfl) ?_
  refine ⟨_, _, _, _, rfl, by omega, by omega, by omega, ?_⟩
  refine r_ifeq_b (pc := 9) (tgt := 33) dX8_storm_9 (by decide) (fun c_9 => ?_) (fun c_9 => ?_)
  · refine r_iconst (pc := 33) dX8_storm_33 ?_
    refine r_iret (pc := 34) hret dX8_storm_34 rfl rfl rfl ?_
    first | exact hB (by omega) | exact hQ (by omega)
  · refine r_aload_0 (pc := 12) dX8_storm_12 ?_
    refine r_iload_2 (pc := 13) dX8_storm_13 ?_
    refine r_iconst (pc := 14) dX8_storm_14 ?_
    refine r_bipush (pc := 15) dX8_storm_15 (by decide) ?_
    refine k_VI3 (pc := 17) c_X8_isIn lk_X8_137 ⟨Nat.le_of_ble_eq_true rfl, Nat.le_of_ble_eq_true rfl⟩ ⟨rfl, rfl⟩ ⟨Nat.le_of_ble_eq_true rfl, Nat.le_of_ble_eq_true rfl⟩ (k := 8) rfl (by decide) (by assumption) dX8_storm_17 (Nat.le_of_ble_eq_true rfl) ?_
    refine ⟨_, _, _, _, rfl, by omega, by omega, by omega, ?_⟩
    refine r_ifeq_b (pc := 20) (tgt := 33) dX8_storm_20 (by decide) (fun c_20 => ?_) (fun c_20 => ?_)
    · refine r_iconst (pc := 33) dX8_storm_33 ?_
      refine r_iret (pc := 34) hret dX8_storm_34 rfl rfl rfl ?_
      first | exact hB (by omega) | exact hQ (by omega)
    · refine r_aload_0 (pc := 23) dX8_storm_23 ?_
      refine r_iload_3 (pc := 24) dX8_storm_24 ?_
      refine r_iconst (pc := 25) dX8_storm_25 ?_
      refine r_iconst (pc := 26) dX8_storm_26 ?_
      refine k_VI3 (pc := 27) c_X8_isIn lk_X8_137 ⟨Nat.le_of_ble_eq_true rfl, Nat.le_of_ble_eq_true rfl⟩ ⟨rfl, rfl⟩ ⟨Nat.le_of_ble_eq_true rfl, Nat.le_of_ble_eq_true rfl⟩ (k := 8) rfl (by decide) (by assumption) dX8_storm_27 (Nat.le_of_ble_eq_true rfl) ?_
      refine ⟨_, _, _, _, rfl, by omega, by omega, by omega, ?_⟩
      refine r_ifne_b (pc := 30) (tgt := 35) dX8_storm_30 (by decide) (fun c_30 => ?_) (fun c_30 => ?_)
      · refine r_aload_0 (pc := 35) dX8_storm_35 ?_
        refine gf_X8_125 (pc := 36) rfl (by assumption) dX8_storm_36 (fun i_36 => ?_)
        refine r_istore_4 (pc := 39) dX8_storm_39 rfl ?_
        refine r_iconst (pc := 41) dX8_storm_41 ?_
        refine r_istore_5 (pc := 42) dX8_storm_42 rfl ?_
        have hz := cp ?_ _ 0 rfl (by omega)
        · rw [cpR_0, hr_id] at hz
          exact hz
        · refine r_iconst (pc := 71) dX8_storm_71 ?_
          refine r_istore_5 (pc := 72) dX8_storm_72 rfl ?_
          refine r_iconst (pc := 74) dX8_storm_74 ?_
          refine r_istore_6 (pc := 75) dX8_storm_75 rfl ?_
          refine lp (by omega) i_36 _ 0 0 _ _ _ _ _ _ rfl (by omega) (fun x hx => hr_n (by omega)) (hr_n (by omega)) ?_ (fun j j0 j1 => ?_) rfl
          · rw [hr_n (by omega)]
            exact up_id.symm
          · rw [hr_s]
            exact if_pos ⟨j0, j1⟩
      · refine r_iconst (pc := 33) dX8_storm_33 ?_
        refine r_iret (pc := 34) hret dX8_storm_34 rfl rfl rfl ?_
        first | exact hB (by omega) | exact hQ (by omega)

