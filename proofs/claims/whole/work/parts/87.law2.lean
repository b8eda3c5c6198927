/-! THE LAW: one call on both sides, second part -/
theorem MI.g {lay : LyT} {r : RfT} {h h3 : HpT} {b : Nat} {n n' : Int} {tx tx' : Int → Int} {ep : Int} {km : Int → Int → Int} {mp F : Int → Int} {ux ux' : Int} {sz ho sz' ho' : Int → Int} {sn sn' : Int} {row row' : Int → Int} (q : MI lay r h b n tx ep km mp F ux sz ho sn row) (a0 : h3 b 0 = n' ∧ h3 b 5 = ep ∧ h3 b 17 = ux' ∧ h3 b 19 = sn') (a1 : h3 (b + 1) = tx') (a14 : h3 (b + 14) = ho') (a15 : h3 (b + 15) = sz') (a17 : h3 (b + 17) = row') (e : ∀ x, b < x → x < b + 21 → ¬ (x = b + 1 ∨ x = b + 14 ∨ x = b + 15 ∨ x = b + 17) → h3 x = h x) : MI lay r h3 b n' tx' ep km mp F ux' sz' ho' sn' row' := by
  obtain ⟨q1, q2, q3, q4, q5, q6, q7⟩ := q
  unfold MI
  rw [e (b + 2) (by omega) (by omega) (by omega), e (b + 12) (by omega) (by omega) (by omega), e (b + 7) (by omega) (by omega) (by omega), e (b + 3) (by omega) (by omega) (by omega), e (b + 4) (by omega) (by omega) (by omega)]
  exact ⟨q1, a0, ⟨a1, q3.2.1, q3.2.2.1, a14, a15, a17⟩, q4, q5, q6, q7⟩
theorem kn_cnt {ep : Int} {f : Int → Int} (he : 1 ≤ ep) (h : ∀ q, 0 ≤ q → q < 5 → f q = eps ep q) : sm (fun k => bI (0 < f k)) 5 = if 5 < ep then 5 else ep := by
  have e : ∀ k : Nat, k < 5 → bI (0 < f k) = bI (0 < eps ep k) := fun k hk => by rw [h k (by omega) (by omega)]
  rw [sm_c (g := fun k => bI (0 < eps ep k)) e]
  have x : sm (fun k => bI (0 < eps ep k)) 5 = bI (0 < eps ep 0) + bI (0 < eps ep 1) + bI (0 < eps ep 2) + bI (0 < eps ep 3) + bI (0 < eps ep 4) := by
    show 0 + bI (0 < eps ep (0 : Nat)) + bI (0 < eps ep (1 : Nat)) + bI (0 < eps ep (2 : Nat)) + bI (0 < eps ep (3 : Nat)) + bI (0 < eps ep (4 : Nat)) = _
    simp
  rw [x]
  have y : ∀ k, 0 ≤ k → k < 5 → bI (0 < eps ep k) = if 1 ≤ ep - (ep - k) % 5 then 1 else 0 := fun k k0 k1 => by
    unfold eps bI
    by_cases z : 1 ≤ ep - (ep - k) % 5
    · rw [if_pos z, if_pos z, if_pos (by omega)]
    · rw [if_neg z, if_neg z, if_neg (by omega)]
  rw [y 0 (by omega) (by omega), y 1 (by omega) (by omega), y 2 (by omega) (by omega), y 3 (by omega) (by omega), y 4 (by omega) (by omega)]
  by_cases z : 5 < ep
  · rw [if_pos z, if_pos (by omega), if_pos (by omega), if_pos (by omega), if_pos (by omega), if_pos (by omega)]; omega
  · rcases (show ep = 1 ∨ ep = 2 ∨ ep = 3 ∨ ep = 4 ∨ ep = 5 by omega) with rfl | rfl | rfl | rfl | rfl <;> decide
theorem Z136.u {f : Int → Int} (h : Z136 f) {k z : Int} (hk : 0 ≤ k ∧ k < 136) : Z136 (up f k z) := fun j hj => by rw [up_n (by omega)]; exact h j hj
theorem dL_law_216 : decode code 216 = .ok (.aload_n 1, 1) := by decide +kernel
theorem dL_law_217 : decode code 217 = .ok (.aload_n 0, 1) := by decide +kernel
theorem dL_law_218 : decode code 218 = .ok (.iload_n 3, 1) := by decide +kernel
theorem dL_law_219 : decode code 219 = .ok (.iconst 1, 1) := by decide +kernel
theorem dL_law_220 : decode code 220 = .ok (.iadd, 1) := by decide +kernel
theorem dL_law_221 : decode code 221 = .ok (.iaload, 1) := by decide +kernel
theorem dL_law_222 : decode code 222 = .ok (.invokevirtual 13, 3) := by decide +kernel
theorem dL_law_225 : decode code 225 = .ok (.aload_n 2, 1) := by decide +kernel
theorem dL_law_226 : decode code 226 = .ok (.aload_n 0, 1) := by decide +kernel
theorem dL_law_227 : decode code 227 = .ok (.iload_n 3, 1) := by decide +kernel
theorem dL_law_228 : decode code 228 = .ok (.iconst 1, 1) := by decide +kernel
theorem dL_law_229 : decode code 229 = .ok (.iadd, 1) := by decide +kernel
theorem dL_law_230 : decode code 230 = .ok (.iaload, 1) := by decide +kernel
theorem dL_law_231 : decode code 231 = .ok (.invokevirtual 17, 3) := by decide +kernel
theorem dL_law_234 : decode code 234 = .ok (.if_icmp .eq 1228, 3) := by decide +kernel
set_option maxHeartbeats 4000000 in
set_option maxRecDepth 20000 in
theorem law_write {E : EnT} {nm : String} {lay : LyT} {r : RfT} {h : HpT} {c b b0 L N : Nat} {sx : Int → Int} {i : Int} (hX : ScE E b0 L sx) (hi : 0 ≤ i ∧ i + 4 ≤ L) (hL : L ≤ 2048) (hcb : b = c + 101) (hLI : LI lay c b i r h) (K : ∀ r' h', LI lay c b (i + 4) r' h' → St E (mL_law nm) 1462 [some (.ref b0), some (.ref c), some (.ref b), some (vI i)] [] (122, 20801) N lay r' h') : St E (mL_law nm) 216 [some (.ref b0), some (.ref c), some (.ref b), some (vI i)] [] (122, 20801) N lay r h := by
  obtain ⟨q, n, tx, ep, km, mp, F, ux, sz, ho, sn, row, hI, hM, hle⟩ := hLI
  have hP0 := hI.2.2.2.2.2.1 0 (by omega) (by omega) (by have := hI.2.2.2.2.1.2.1; omega)
  rw [hI.2.2.2.2.2.2.1.1] at hP0
  have hT := hP0.1
  have hR := hP0.2.1
  have hep := hI.2.2.2.2.1
  have cl0 : lay c = (8, 0) := hI.1.1
  obtain ⟨a1, ha1⟩ : ∃ z, sx (i + 1) = z := ⟨_, rfl⟩
  have g1 := sc_rng hX (i + 1)
  rw [ha1] at g1
  by_cases hc : 32 ≤ a1 ∧ a1 ≤ 126
  · by_cases hn : n = 200
    · refine r_aload_1 (pc := 216) dL_law_216 ?_
      refine r_aload_0 (pc := 217) dL_law_217 ?_
      refine r_iload_3 (pc := 218) dL_law_218 ?_
      refine r_iconst (pc := 219) dL_law_219 ?_
      refine r_iadd (pc := 220) dL_law_220 ?_
      refine r_sld (pc := 221) hX dL_law_221 (by omega) (by omega) (fun i_221 => ?_)
      rw [ha1]
      refine k_VI1 (pc := 222) c_X7_write lk_L_13 ⟨(Nat.le_of_ble_eq_true rfl), (Nat.le_of_ble_eq_true rfl)⟩ ⟨rfl, rfl⟩ ⟨(Nat.le_of_ble_eq_true rfl), (Nat.le_of_ble_eq_true rfl)⟩ (k := 7) rfl (by decide) cl0 dL_law_222 (Nat.le_of_ble_eq_true rfl) ?_
      refine ⟨c, q, n, tx, ep, km, mp, F, ux, sz, ho, sn, row, a1, rfl, hI, g1, fun z => absurd hc z, fun _ => ⟨fun _ => ?_, fun z => absurd hn z⟩⟩
      have hM2 := hM
      obtain ⟨hMd2, ⟨e0, e5, e17, e19⟩, ⟨e1, e2, e12, e14, e15, e17r⟩, hWa2, hz2, hkp2, hes2⟩ := id hM2
      refine r_aload_2 (pc := 225) dL_law_225 ?_
      refine r_aload_0 (pc := 226) dL_law_226 ?_
      refine r_iload_3 (pc := 227) dL_law_227 ?_
      refine r_iconst (pc := 228) dL_law_228 ?_
      refine r_iadd (pc := 229) dL_law_229 ?_
      refine r_sld (pc := 230) hX dL_law_230 (by omega) (by omega) (fun i_230 => ?_)
      rw [ha1]
      refine k_VI1 (pc := 231) c_X8_write lk_L_17 ⟨(Nat.le_of_ble_eq_true rfl), (Nat.le_of_ble_eq_true rfl)⟩ ⟨rfl, rfl⟩ ⟨(Nat.le_of_ble_eq_true rfl), (Nat.le_of_ble_eq_true rfl)⟩ (k := 8) rfl (by decide) hMd2.1 dL_law_231 (Nat.le_of_ble_eq_true rfl) ?_
      refine ⟨b, mp, a1, rfl, hMd2, e2, hT, hR, g1, (by rw [e0]; exact hI.2.2.1.1.2.1), fun z => absurd hc z, fun _ => ⟨fun _ => ?_, fun z => absurd (e0.trans hn) z⟩⟩
      refine r_same (pc := 234) (tgt := 1462) (by first | rfl | (simp only [e0, e5, e17, e19, e1, e2, e12, e14, e15, e17r])) dL_law_234 (by decide) ?_
      exact K r h ⟨q, n, tx, ep, km, mp, F, ux, sz, ho, sn, row, hI, hM2, by omega⟩
    · refine r_aload_1 (pc := 216) dL_law_216 ?_
      refine r_aload_0 (pc := 217) dL_law_217 ?_
      refine r_iload_3 (pc := 218) dL_law_218 ?_
      refine r_iconst (pc := 219) dL_law_219 ?_
      refine r_iadd (pc := 220) dL_law_220 ?_
      refine r_sld (pc := 221) hX dL_law_221 (by omega) (by omega) (fun i_221 => ?_)
      rw [ha1]
      refine k_VI1 (pc := 222) c_X7_write lk_L_13 ⟨(Nat.le_of_ble_eq_true rfl), (Nat.le_of_ble_eq_true rfl)⟩ ⟨rfl, rfl⟩ ⟨(Nat.le_of_ble_eq_true rfl), (Nat.le_of_ble_eq_true rfl)⟩ (k := 7) rfl (by decide) cl0 dL_law_222 (Nat.le_of_ble_eq_true rfl) ?_
      refine ⟨c, q, n, tx, ep, km, mp, F, ux, sz, ho, sn, row, a1, rfl, hI, g1, fun z => absurd hc z, fun _ => ⟨fun z => absurd z hn, fun _ h2 f2 hI2 => ?_⟩⟩
      have hM2 : MI lay r h2 b n tx ep km mp F ux sz ho sn row := hM.of (rfl) (fun x x0 x1 => f2 x (by omega))
      obtain ⟨hMd2, ⟨e0, e5, e17, e19⟩, ⟨e1, e2, e12, e14, e15, e17r⟩, hWa2, hz2, hkp2, hes2⟩ := id hM2
      refine r_aload_2 (pc := 225) dL_law_225 ?_
      refine r_aload_0 (pc := 226) dL_law_226 ?_
      refine r_iload_3 (pc := 227) dL_law_227 ?_
      refine r_iconst (pc := 228) dL_law_228 ?_
      refine r_iadd (pc := 229) dL_law_229 ?_
      refine r_sld (pc := 230) hX dL_law_230 (by omega) (by omega) (fun i_230 => ?_)
      rw [ha1]
      refine k_VI1 (pc := 231) c_X8_write lk_L_17 ⟨(Nat.le_of_ble_eq_true rfl), (Nat.le_of_ble_eq_true rfl)⟩ ⟨rfl, rfl⟩ ⟨(Nat.le_of_ble_eq_true rfl), (Nat.le_of_ble_eq_true rfl)⟩ (k := 8) rfl (by decide) hMd2.1 dL_law_231 (Nat.le_of_ble_eq_true rfl) ?_
      refine ⟨b, mp, a1, rfl, hMd2, e2, hT, hR, g1, (by rw [e0]; exact hI.2.2.1.1.2.1), fun z => absurd hc z, fun _ => ⟨fun z => absurd (e0.symm.trans z) hn, fun _ => ?_⟩⟩
      refine r_same (pc := 234) (tgt := 1462) (by first | rfl | (simp only [e0, e5, e17, e19, e1, e2, e12, e14, e15, e17r])) dL_law_234 (by decide) ?_
      exact K r (hr (hr h2 (b + 1) (up (h2 (b + 1)) (h2 b 0) a1)) b (up (h2 b) 0 (h2 b 0 + 1))) ⟨q, n + 1, up tx n a1, ep, km, mp, F, ux, sz, ho, sn, row, hI2.fr (fun x x0 x1 => by rw [hr_n (by omega), hr_n (by omega)]), hM2.g ⟨by rw [hr_s, up_s, e0], by rw [hr_s, up_n (by omega)]; exact e5, by rw [hr_s, up_n (by omega)]; exact e17, by rw [hr_s, up_n (by omega)]; exact e19⟩ (by rw [hr_n (by omega), hr_s, e1, e0]) (by rw [hr_n (by omega), hr_n (by omega)]; exact e14) (by rw [hr_n (by omega), hr_n (by omega)]; exact e15) (by rw [hr_n (by omega), hr_n (by omega)]; exact e17r) (fun x x0 x1 hx => by rw [hr_n (by omega), hr_n (by omega)]), by omega⟩
  · refine r_aload_1 (pc := 216) dL_law_216 ?_
    refine r_aload_0 (pc := 217) dL_law_217 ?_
    refine r_iload_3 (pc := 218) dL_law_218 ?_
    refine r_iconst (pc := 219) dL_law_219 ?_
    refine r_iadd (pc := 220) dL_law_220 ?_
    refine r_sld (pc := 221) hX dL_law_221 (by omega) (by omega) (fun i_221 => ?_)
    rw [ha1]
    refine k_VI1 (pc := 222) c_X7_write lk_L_13 ⟨(Nat.le_of_ble_eq_true rfl), (Nat.le_of_ble_eq_true rfl)⟩ ⟨rfl, rfl⟩ ⟨(Nat.le_of_ble_eq_true rfl), (Nat.le_of_ble_eq_true rfl)⟩ (k := 7) rfl (by decide) cl0 dL_law_222 (Nat.le_of_ble_eq_true rfl) ?_
    refine ⟨c, q, n, tx, ep, km, mp, F, ux, sz, ho, sn, row, a1, rfl, hI, g1, fun _ => ?_, fun z => absurd z hc⟩
    have hM2 := hM
    obtain ⟨hMd2, ⟨e0, e5, e17, e19⟩, ⟨e1, e2, e12, e14, e15, e17r⟩, hWa2, hz2, hkp2, hes2⟩ := id hM2
    refine r_aload_2 (pc := 225) dL_law_225 ?_
    refine r_aload_0 (pc := 226) dL_law_226 ?_
    refine r_iload_3 (pc := 227) dL_law_227 ?_
    refine r_iconst (pc := 228) dL_law_228 ?_
    refine r_iadd (pc := 229) dL_law_229 ?_
    refine r_sld (pc := 230) hX dL_law_230 (by omega) (by omega) (fun i_230 => ?_)
    rw [ha1]
    refine k_VI1 (pc := 231) c_X8_write lk_L_17 ⟨(Nat.le_of_ble_eq_true rfl), (Nat.le_of_ble_eq_true rfl)⟩ ⟨rfl, rfl⟩ ⟨(Nat.le_of_ble_eq_true rfl), (Nat.le_of_ble_eq_true rfl)⟩ (k := 8) rfl (by decide) hMd2.1 dL_law_231 (Nat.le_of_ble_eq_true rfl) ?_
    refine ⟨b, mp, a1, rfl, hMd2, e2, hT, hR, g1, (by rw [e0]; exact hI.2.2.1.1.2.1), fun _ => ?_, fun z => absurd z hc⟩
    refine r_same (pc := 234) (tgt := 1462) (by first | rfl | (simp only [e0, e5, e17, e19, e1, e2, e12, e14, e15, e17r])) dL_law_234 (by decide) ?_
    exact K r h ⟨q, n, tx, ep, km, mp, F, ux, sz, ho, sn, row, hI, hM2, by omega⟩
theorem dL_law_239 : decode code 239 = .ok (.aload_n 1, 1) := by decide +kernel
theorem dL_law_240 : decode code 240 = .ok (.invokevirtual 18, 3) := by decide +kernel
theorem dL_law_243 : decode code 243 = .ok (.aload_n 2, 1) := by decide +kernel
theorem dL_law_244 : decode code 244 = .ok (.invokevirtual 22, 3) := by decide +kernel
theorem dL_law_247 : decode code 247 = .ok (.if_icmp .eq 1215, 3) := by decide +kernel
set_option maxHeartbeats 4000000 in
set_option maxRecDepth 20000 in
theorem law_wipe {E : EnT} {nm : String} {lay : LyT} {r : RfT} {h : HpT} {c b b0 L N : Nat} {sx : Int → Int} {i : Int} (hX : ScE E b0 L sx) (hi : 0 ≤ i ∧ i + 4 ≤ L) (hL : L ≤ 2048) (hcb : b = c + 101) (hLI : LI lay c b i r h) (K : ∀ r' h', LI lay c b (i + 4) r' h' → St E (mL_law nm) 1462 [some (.ref b0), some (.ref c), some (.ref b), some (vI i)] [] (122, 20801) N lay r' h') : St E (mL_law nm) 239 [some (.ref b0), some (.ref c), some (.ref b), some (vI i)] [] (122, 20801) N lay r h := by
  obtain ⟨q, n, tx, ep, km, mp, F, ux, sz, ho, sn, row, hI, hM, hle⟩ := hLI
  have hP0 := hI.2.2.2.2.2.1 0 (by omega) (by omega) (by have := hI.2.2.2.2.1.2.1; omega)
  rw [hI.2.2.2.2.2.2.1.1] at hP0
  have hT := hP0.1
  have hR := hP0.2.1
  have hep := hI.2.2.2.2.1
  have cl0 : lay c = (8, 0) := hI.1.1
  refine r_aload_1 (pc := 239) dL_law_239 ?_
  refine k_VI0 (pc := 240) c_X7_wipe lk_L_18 ⟨(Nat.le_of_ble_eq_true rfl), (Nat.le_of_ble_eq_true rfl)⟩ ⟨rfl, rfl⟩ ⟨(Nat.le_of_ble_eq_true rfl), (Nat.le_of_ble_eq_true rfl)⟩ (k := 7) rfl (by decide) cl0 dL_law_240 (Nat.le_of_ble_eq_true rfl) ?_
  refine ⟨c, q, n, tx, ep, km, mp, F, ux, sz, ho, sn, row, rfl, hI, fun h2 f2 hI2 => ?_⟩
  have hM2 : MI lay r h2 b n tx ep km mp F ux sz ho sn row := hM.of (rfl) (fun x x0 x1 => f2 x (by omega))
  obtain ⟨hMd2, ⟨e0, e5, e17, e19⟩, ⟨e1, e2, e12, e14, e15, e17r⟩, hWa2, hz2, hkp2, hes2⟩ := id hM2
  refine r_aload_2 (pc := 243) dL_law_243 ?_
  refine k_VI0 (pc := 244) c_X8_wipe lk_L_22 ⟨(Nat.le_of_ble_eq_true rfl), (Nat.le_of_ble_eq_true rfl)⟩ ⟨rfl, rfl⟩ ⟨(Nat.le_of_ble_eq_true rfl), (Nat.le_of_ble_eq_true rfl)⟩ (k := 8) rfl (by decide) hMd2.1 dL_law_244 (Nat.le_of_ble_eq_true rfl) ?_
  refine ⟨b, mp, rfl, hMd2, e2, hT, hR, ?_⟩
  refine r_same (pc := 247) (tgt := 1462) (by first | rfl | (simp only [e0, e5, e17, e19, e1, e2, e12, e14, e15, e17r])) dL_law_247 (by decide) ?_
  exact K r (hr h2 b (up (h2 b) 0 0)) ⟨q, 0, tx, ep, km, mp, F, ux, sz, ho, sn, row, hI2.fr (fun x x0 x1 => hr_n (by omega)), hM2.g ⟨by rw [hr_s, up_s], by rw [hr_s, up_n (by omega)]; exact e5, by rw [hr_s, up_n (by omega)]; exact e17, by rw [hr_s, up_n (by omega)]; exact e19⟩ (by rw [hr_n (by omega)]; exact e1) (by rw [hr_n (by omega)]; exact e14) (by rw [hr_n (by omega)]; exact e15) (by rw [hr_n (by omega)]; exact e17r) (fun x x0 x1 hx => hr_n (by omega)), by omega⟩
theorem dL_law_1393 : decode code 1393 = .ok (.aload_n 1, 1) := by decide +kernel
theorem dL_law_1394 : decode code 1394 = .ok (.invokevirtual 173, 3) := by decide +kernel
theorem dL_law_1397 : decode code 1397 = .ok (.aload_n 2, 1) := by decide +kernel
theorem dL_law_1398 : decode code 1398 = .ok (.invokevirtual 176, 3) := by decide +kernel
theorem dL_law_1401 : decode code 1401 = .ok (.if_icmp .eq 61, 3) := by decide +kernel
set_option maxHeartbeats 4000000 in
set_option maxRecDepth 20000 in
theorem law_forget {E : EnT} {nm : String} {lay : LyT} {r : RfT} {h : HpT} {c b b0 L N : Nat} {sx : Int → Int} {i : Int} (hX : ScE E b0 L sx) (hi : 0 ≤ i ∧ i + 4 ≤ L) (hL : L ≤ 2048) (hcb : b = c + 101) (hLI : LI lay c b i r h) (K : ∀ r' h', LI lay c b (i + 4) r' h' → St E (mL_law nm) 1462 [some (.ref b0), some (.ref c), some (.ref b), some (vI i)] [] (122, 20801) N lay r' h') : St E (mL_law nm) 1393 [some (.ref b0), some (.ref c), some (.ref b), some (vI i)] [] (122, 20801) N lay r h := by
  obtain ⟨q, n, tx, ep, km, mp, F, ux, sz, ho, sn, row, hI, hM, hle⟩ := hLI
  have hP0 := hI.2.2.2.2.2.1 0 (by omega) (by omega) (by have := hI.2.2.2.2.1.2.1; omega)
  rw [hI.2.2.2.2.2.2.1.1] at hP0
  have hT := hP0.1
  have hR := hP0.2.1
  have hep := hI.2.2.2.2.1
  have cl0 : lay c = (8, 0) := hI.1.1
  refine r_aload_1 (pc := 1393) dL_law_1393 ?_
  refine k_VI0 (pc := 1394) c_X7_forget lk_L_173 ⟨(Nat.le_of_ble_eq_true rfl), (Nat.le_of_ble_eq_true rfl)⟩ ⟨rfl, rfl⟩ ⟨(Nat.le_of_ble_eq_true rfl), (Nat.le_of_ble_eq_true rfl)⟩ (k := 7) rfl (by decide) cl0 dL_law_1394 (Nat.le_of_ble_eq_true rfl) ?_
  refine ⟨c, q, n, tx, ep, km, mp, F, ux, sz, ho, sn, row, rfl, hI, fun h2 f2 hI2 => ?_⟩
  have hM2 : MI lay r h2 b n tx ep km mp F ux sz ho sn row := hM.of (rfl) (fun x x0 x1 => f2 x (by omega))
  obtain ⟨hMd2, ⟨e0, e5, e17, e19⟩, ⟨e1, e2, e12, e14, e15, e17r⟩, hWa2, hz2, hkp2, hes2⟩ := id hM2
  refine r_aload_2 (pc := 1397) dL_law_1397 ?_
  refine k_VI0 (pc := 1398) c_X8_forget lk_L_176 ⟨(Nat.le_of_ble_eq_true rfl), (Nat.le_of_ble_eq_true rfl)⟩ ⟨rfl, rfl⟩ ⟨(Nat.le_of_ble_eq_true rfl), (Nat.le_of_ble_eq_true rfl)⟩ (k := 8) rfl (by decide) hMd2.1 dL_law_1398 (Nat.le_of_ble_eq_true rfl) ?_
  refine ⟨b, mp, rfl, hMd2, e2, hT, hR, ?_⟩
  refine r_same (pc := 1401) (tgt := 1462) (by first | rfl | (simp only [e0, e5, e17, e19, e1, e2, e12, e14, e15, e17r])) dL_law_1401 (by decide) ?_
  exact K r (hr h2 b (up (h2 b) 19 0)) ⟨q, n, tx, ep, km, mp, F, ux, sz, ho, 0, row, hI2.fr (fun x x0 x1 => hr_n (by omega)), hM2.g ⟨by rw [hr_s, up_n (by omega)]; exact e0, by rw [hr_s, up_n (by omega)]; exact e5, by rw [hr_s, up_n (by omega)]; exact e17, by rw [hr_s, up_s]⟩ (by rw [hr_n (by omega)]; exact e1) (by rw [hr_n (by omega)]; exact e14) (by rw [hr_n (by omega)]; exact e15) (by rw [hr_n (by omega)]; exact e17r) (fun x x0 x1 hx => hr_n (by omega)), by omega⟩
theorem dL_law_252 : decode code 252 = .ok (.aload_n 1, 1) := by decide +kernel
theorem dL_law_253 : decode code 253 = .ok (.invokevirtual 23, 3) := by decide +kernel
theorem dL_law_256 : decode code 256 = .ok (.aload_n 2, 1) := by decide +kernel
theorem dL_law_257 : decode code 257 = .ok (.invokevirtual 26, 3) := by decide +kernel
theorem dL_law_260 : decode code 260 = .ok (.if_icmp .eq 1202, 3) := by decide +kernel
set_option maxHeartbeats 4000000 in
set_option maxRecDepth 20000 in
theorem law_fault {E : EnT} {nm : String} {lay : LyT} {r : RfT} {h : HpT} {c b b0 L N : Nat} {sx : Int → Int} {i : Int} (hX : ScE E b0 L sx) (hi : 0 ≤ i ∧ i + 4 ≤ L) (hL : L ≤ 2048) (hcb : b = c + 101) (hLI : LI lay c b i r h) (K : ∀ r' h', LI lay c b (i + 4) r' h' → St E (mL_law nm) 1462 [some (.ref b0), some (.ref c), some (.ref b), some (vI i)] [] (122, 20801) N lay r' h') : St E (mL_law nm) 252 [some (.ref b0), some (.ref c), some (.ref b), some (vI i)] [] (122, 20801) N lay r h := by
  obtain ⟨q, n, tx, ep, km, mp, F, ux, sz, ho, sn, row, hI, hM, hle⟩ := hLI
  have hP0 := hI.2.2.2.2.2.1 0 (by omega) (by omega) (by have := hI.2.2.2.2.1.2.1; omega)
  rw [hI.2.2.2.2.2.2.1.1] at hP0
  have hT := hP0.1
  have hR := hP0.2.1
  have hep := hI.2.2.2.2.1
  have cl0 : lay c = (8, 0) := hI.1.1
  refine r_aload_1 (pc := 252) dL_law_252 ?_
  refine k_VI0 (pc := 253) c_X7_fault lk_L_23 ⟨(Nat.le_of_ble_eq_true rfl), (Nat.le_of_ble_eq_true rfl)⟩ ⟨rfl, rfl⟩ ⟨(Nat.le_of_ble_eq_true rfl), (Nat.le_of_ble_eq_true rfl)⟩ (k := 7) rfl (by decide) cl0 dL_law_253 (Nat.le_of_ble_eq_true rfl) ?_
  refine ⟨c, q, n, tx, ep, km, mp, F, ux, sz, ho, sn, row, h (b + 6), rfl, hI, fun h2 f2 hI2 => ?_⟩
  have hM2 : MI lay r h2 b n tx ep km mp F ux sz ho sn row := hM.of (rfl) (fun x x0 x1 => f2 x (by omega))
  obtain ⟨hMd2, ⟨e0, e5, e17, e19⟩, ⟨e1, e2, e12, e14, e15, e17r⟩, hWa2, hz2, hkp2, hes2⟩ := id hM2
  refine r_aload_2 (pc := 256) dL_law_256 ?_
  refine k_VI0 (pc := 257) c_X8_fault lk_L_26 ⟨(Nat.le_of_ble_eq_true rfl), (Nat.le_of_ble_eq_true rfl)⟩ ⟨rfl, rfl⟩ ⟨(Nat.le_of_ble_eq_true rfl), (Nat.le_of_ble_eq_true rfl)⟩ (k := 8) rfl (by decide) hMd2.1 dL_law_257 (Nat.le_of_ble_eq_true rfl) ?_
  refine ⟨b, n, tx, rfl, hMd2, e0, e1, hI.2.2.1.1.2.1, fun h3 f3 o3 => ?_⟩
  refine r_same (pc := 260) (tgt := 1462) (by rw [f2 (b + 6) (by omega)]) dL_law_260 (by decide) ?_
  exact K r h3 ⟨q, n, tx, ep, km, mp, F, ux, sz, ho, sn, row, hI2.fr (fun x x0 x1 => f3 x (by omega)), hM2.s (fun j hj => by rw [o3, up_n hj]) (fun x x0 x1 hx => f3 x (by omega)), by omega⟩
theorem dL_law_1129 : decode code 1129 = .ok (.aload_n 1, 1) := by decide +kernel
theorem dL_law_1130 : decode code 1130 = .ok (.aload_n 0, 1) := by decide +kernel
theorem dL_law_1131 : decode code 1131 = .ok (.iload_n 3, 1) := by decide +kernel
theorem dL_law_1132 : decode code 1132 = .ok (.iconst 1, 1) := by decide +kernel
theorem dL_law_1133 : decode code 1133 = .ok (.iadd, 1) := by decide +kernel
theorem dL_law_1134 : decode code 1134 = .ok (.iaload, 1) := by decide +kernel
theorem dL_law_1135 : decode code 1135 = .ok (.invokevirtual 141, 3) := by decide +kernel
theorem dL_law_1138 : decode code 1138 = .ok (.aload_n 2, 1) := by decide +kernel
theorem dL_law_1139 : decode code 1139 = .ok (.aload_n 0, 1) := by decide +kernel
theorem dL_law_1140 : decode code 1140 = .ok (.iload_n 3, 1) := by decide +kernel
theorem dL_law_1141 : decode code 1141 = .ok (.iconst 1, 1) := by decide +kernel
theorem dL_law_1142 : decode code 1142 = .ok (.iadd, 1) := by decide +kernel
theorem dL_law_1143 : decode code 1143 = .ok (.iaload, 1) := by decide +kernel
theorem dL_law_1144 : decode code 1144 = .ok (.invokevirtual 144, 3) := by decide +kernel
theorem dL_law_1147 : decode code 1147 = .ok (.if_icmp .eq 315, 3) := by decide +kernel
set_option maxHeartbeats 4000000 in
set_option maxRecDepth 20000 in
theorem law_tick {E : EnT} {nm : String} {lay : LyT} {r : RfT} {h : HpT} {c b b0 L N : Nat} {sx : Int → Int} {i : Int} (hX : ScE E b0 L sx) (hi : 0 ≤ i ∧ i + 4 ≤ L) (hL : L ≤ 2048) (hcb : b = c + 101) (hLI : LI lay c b i r h) (K : ∀ r' h', LI lay c b (i + 4) r' h' → St E (mL_law nm) 1462 [some (.ref b0), some (.ref c), some (.ref b), some (vI i)] [] (122, 20801) N lay r' h') : St E (mL_law nm) 1129 [some (.ref b0), some (.ref c), some (.ref b), some (vI i)] [] (122, 20801) N lay r h := by
  obtain ⟨q, n, tx, ep, km, mp, F, ux, sz, ho, sn, row, hI, hM, hle⟩ := hLI
  have hP0 := hI.2.2.2.2.2.1 0 (by omega) (by omega) (by have := hI.2.2.2.2.1.2.1; omega)
  rw [hI.2.2.2.2.2.2.1.1] at hP0
  have hT := hP0.1
  have hR := hP0.2.1
  have hep := hI.2.2.2.2.1
  have cl0 : lay c = (8, 0) := hI.1.1
  obtain ⟨a1, ha1⟩ : ∃ z, sx (i + 1) = z := ⟨_, rfl⟩
  have g1 := sc_rng hX (i + 1)
  rw [ha1] at g1
  by_cases hc : 1 ≤ a1 ∧ a1 ≤ 8
  · refine r_aload_1 (pc := 1129) dL_law_1129 ?_
    refine r_aload_0 (pc := 1130) dL_law_1130 ?_
    refine r_iload_3 (pc := 1131) dL_law_1131 ?_
    refine r_iconst (pc := 1132) dL_law_1132 ?_
    refine r_iadd (pc := 1133) dL_law_1133 ?_
    refine r_sld (pc := 1134) hX dL_law_1134 (by omega) (by omega) (fun i_1134 => ?_)
    rw [ha1]
    refine k_VI1 (pc := 1135) c_X7_tick lk_L_141 ⟨(Nat.le_of_ble_eq_true rfl), (Nat.le_of_ble_eq_true rfl)⟩ ⟨rfl, rfl⟩ ⟨(Nat.le_of_ble_eq_true rfl), (Nat.le_of_ble_eq_true rfl)⟩ (k := 7) rfl (by decide) cl0 dL_law_1135 (Nat.le_of_ble_eq_true rfl) ?_
    refine ⟨c, q, n, tx, ep, km, mp, F, ux, sz, ho, sn, row, a1, rfl, hI, g1, fun z => absurd hc z, fun _ h2 f2 hI2 => ?_⟩
    have hM2 : MI lay r h2 b n tx ep km mp F ux sz ho sn row := hM.of (rfl) (fun x x0 x1 => f2 x (by omega))
    obtain ⟨hMd2, ⟨e0, e5, e17, e19⟩, ⟨e1, e2, e12, e14, e15, e17r⟩, hWa2, hz2, hkp2, hes2⟩ := id hM2
    refine r_aload_2 (pc := 1138) dL_law_1138 ?_
    refine r_aload_0 (pc := 1139) dL_law_1139 ?_
    refine r_iload_3 (pc := 1140) dL_law_1140 ?_
    refine r_iconst (pc := 1141) dL_law_1141 ?_
    refine r_iadd (pc := 1142) dL_law_1142 ?_
    refine r_sld (pc := 1143) hX dL_law_1143 (by omega) (by omega) (fun i_1143 => ?_)
    rw [ha1]
    refine k_VI1 (pc := 1144) c_X8_tick lk_L_144 ⟨(Nat.le_of_ble_eq_true rfl), (Nat.le_of_ble_eq_true rfl)⟩ ⟨rfl, rfl⟩ ⟨(Nat.le_of_ble_eq_true rfl), (Nat.le_of_ble_eq_true rfl)⟩ (k := 8) rfl (by decide) hMd2.1 dL_law_1144 (Nat.le_of_ble_eq_true rfl) ?_
    refine ⟨b, mp, a1, rfl, hMd2, e2, hT, hR, g1, fun z => absurd hc z, fun _ => ?_⟩
    refine r_same (pc := 1147) (tgt := 1462) (by first | rfl | (simp only [e0, e5, e17, e19, e1, e2, e12, e14, e15, e17r])) dL_law_1147 (by decide) ?_
    exact K r (hr h2 (b + 14) (tix (h2 (b + 12)) (h2 b 17) (h2 (b + 15)) (h2 (b + 14)) a1.toNat).1) ⟨q, n, tx, ep, km, mp, F, ux, sz, (tix F ux sz ho a1.toNat).1, sn, row, hI2.fr (fun x x0 x1 => hr_n (by omega)), hM2.g ⟨by rw [hr_n (by omega)]; exact e0, by rw [hr_n (by omega)]; exact e5, by rw [hr_n (by omega)]; exact e17, by rw [hr_n (by omega)]; exact e19⟩ (by rw [hr_n (by omega)]; exact e1) (by rw [hr_s, e12, e17, e15, e14]) (by rw [hr_n (by omega)]; exact e15) (by rw [hr_n (by omega)]; exact e17r) (fun x x0 x1 hx => by rw [hr_n (by omega)]), by omega⟩
  · refine r_aload_1 (pc := 1129) dL_law_1129 ?_
    refine r_aload_0 (pc := 1130) dL_law_1130 ?_
    refine r_iload_3 (pc := 1131) dL_law_1131 ?_
    refine r_iconst (pc := 1132) dL_law_1132 ?_
    refine r_iadd (pc := 1133) dL_law_1133 ?_
    refine r_sld (pc := 1134) hX dL_law_1134 (by omega) (by omega) (fun i_1134 => ?_)
    rw [ha1]
    refine k_VI1 (pc := 1135) c_X7_tick lk_L_141 ⟨(Nat.le_of_ble_eq_true rfl), (Nat.le_of_ble_eq_true rfl)⟩ ⟨rfl, rfl⟩ ⟨(Nat.le_of_ble_eq_true rfl), (Nat.le_of_ble_eq_true rfl)⟩ (k := 7) rfl (by decide) cl0 dL_law_1135 (Nat.le_of_ble_eq_true rfl) ?_
    refine ⟨c, q, n, tx, ep, km, mp, F, ux, sz, ho, sn, row, a1, rfl, hI, g1, fun _ => ?_, fun z => absurd z hc⟩
    have hM2 := hM
    obtain ⟨hMd2, ⟨e0, e5, e17, e19⟩, ⟨e1, e2, e12, e14, e15, e17r⟩, hWa2, hz2, hkp2, hes2⟩ := id hM2
    refine r_aload_2 (pc := 1138) dL_law_1138 ?_
    refine r_aload_0 (pc := 1139) dL_law_1139 ?_
    refine r_iload_3 (pc := 1140) dL_law_1140 ?_
    refine r_iconst (pc := 1141) dL_law_1141 ?_
    refine r_iadd (pc := 1142) dL_law_1142 ?_
    refine r_sld (pc := 1143) hX dL_law_1143 (by omega) (by omega) (fun i_1143 => ?_)
    rw [ha1]
    refine k_VI1 (pc := 1144) c_X8_tick lk_L_144 ⟨(Nat.le_of_ble_eq_true rfl), (Nat.le_of_ble_eq_true rfl)⟩ ⟨rfl, rfl⟩ ⟨(Nat.le_of_ble_eq_true rfl), (Nat.le_of_ble_eq_true rfl)⟩ (k := 8) rfl (by decide) hMd2.1 dL_law_1144 (Nat.le_of_ble_eq_true rfl) ?_
    refine ⟨b, mp, a1, rfl, hMd2, e2, hT, hR, g1, fun _ => ?_, fun z => absurd z hc⟩
    refine r_same (pc := 1147) (tgt := 1462) (by first | rfl | (simp only [e0, e5, e17, e19, e1, e2, e12, e14, e15, e17r])) dL_law_1147 (by decide) ?_
    exact K r h ⟨q, n, tx, ep, km, mp, F, ux, sz, ho, sn, row, hI, hM2, by omega⟩
theorem dL_law_1185 : decode code 1185 = .ok (.aload_n 1, 1) := by decide +kernel
theorem dL_law_1186 : decode code 1186 = .ok (.aload_n 0, 1) := by decide +kernel
theorem dL_law_1187 : decode code 1187 = .ok (.iload_n 3, 1) := by decide +kernel
theorem dL_law_1188 : decode code 1188 = .ok (.iconst 1, 1) := by decide +kernel
theorem dL_law_1189 : decode code 1189 = .ok (.iadd, 1) := by decide +kernel
theorem dL_law_1190 : decode code 1190 = .ok (.iaload, 1) := by decide +kernel
theorem dL_law_1191 : decode code 1191 = .ok (.invokevirtual 149, 3) := by decide +kernel
theorem dL_law_1194 : decode code 1194 = .ok (.aload_n 2, 1) := by decide +kernel
theorem dL_law_1195 : decode code 1195 = .ok (.aload_n 0, 1) := by decide +kernel
theorem dL_law_1196 : decode code 1196 = .ok (.iload_n 3, 1) := by decide +kernel
theorem dL_law_1197 : decode code 1197 = .ok (.iconst 1, 1) := by decide +kernel
theorem dL_law_1198 : decode code 1198 = .ok (.iadd, 1) := by decide +kernel
theorem dL_law_1199 : decode code 1199 = .ok (.iaload, 1) := by decide +kernel
theorem dL_law_1200 : decode code 1200 = .ok (.invokevirtual 152, 3) := by decide +kernel
theorem dL_law_1203 : decode code 1203 = .ok (.if_icmp .eq 259, 3) := by decide +kernel
set_option maxHeartbeats 4000000 in
set_option maxRecDepth 20000 in
theorem law_fail {E : EnT} {nm : String} {lay : LyT} {r : RfT} {h : HpT} {c b b0 L N : Nat} {sx : Int → Int} {i : Int} (hX : ScE E b0 L sx) (hi : 0 ≤ i ∧ i + 4 ≤ L) (hL : L ≤ 2048) (hcb : b = c + 101) (hLI : LI lay c b i r h) (K : ∀ r' h', LI lay c b (i + 4) r' h' → St E (mL_law nm) 1462 [some (.ref b0), some (.ref c), some (.ref b), some (vI i)] [] (122, 20801) N lay r' h') : St E (mL_law nm) 1185 [some (.ref b0), some (.ref c), some (.ref b), some (vI i)] [] (122, 20801) N lay r h := by
  obtain ⟨q, n, tx, ep, km, mp, F, ux, sz, ho, sn, row, hI, hM, hle⟩ := hLI
  have hP0 := hI.2.2.2.2.2.1 0 (by omega) (by omega) (by have := hI.2.2.2.2.1.2.1; omega)
  rw [hI.2.2.2.2.2.2.1.1] at hP0
  have hT := hP0.1
  have hR := hP0.2.1
  have hep := hI.2.2.2.2.1
  have cl0 : lay c = (8, 0) := hI.1.1
  obtain ⟨a1, ha1⟩ : ∃ z, sx (i + 1) = z := ⟨_, rfl⟩
  have g1 := sc_rng hX (i + 1)
  rw [ha1] at g1
  by_cases hc : 10 ≤ a1 ∧ a1 ≤ 9 + mp 130
  · refine r_aload_1 (pc := 1185) dL_law_1185 ?_
    refine r_aload_0 (pc := 1186) dL_law_1186 ?_
    refine r_iload_3 (pc := 1187) dL_law_1187 ?_
    refine r_iconst (pc := 1188) dL_law_1188 ?_
    refine r_iadd (pc := 1189) dL_law_1189 ?_
    refine r_sld (pc := 1190) hX dL_law_1190 (by omega) (by omega) (fun i_1190 => ?_)
    rw [ha1]
    refine k_VI1 (pc := 1191) c_X7_fail lk_L_149 ⟨(Nat.le_of_ble_eq_true rfl), (Nat.le_of_ble_eq_true rfl)⟩ ⟨rfl, rfl⟩ ⟨(Nat.le_of_ble_eq_true rfl), (Nat.le_of_ble_eq_true rfl)⟩ (k := 7) rfl (by decide) cl0 dL_law_1191 (Nat.le_of_ble_eq_true rfl) ?_
    refine ⟨c, q, n, tx, ep, km, mp, F, ux, sz, ho, sn, row, a1, rfl, hI, g1, fun z => absurd hc z, fun _ h2 f2 hI2 => ?_⟩
    have hM2 : MI lay r h2 b n tx ep km mp F ux sz ho sn row := hM.of (rfl) (fun x x0 x1 => f2 x (by omega))
    obtain ⟨hMd2, ⟨e0, e5, e17, e19⟩, ⟨e1, e2, e12, e14, e15, e17r⟩, hWa2, hz2, hkp2, hes2⟩ := id hM2
    refine r_aload_2 (pc := 1194) dL_law_1194 ?_
    refine r_aload_0 (pc := 1195) dL_law_1195 ?_
    refine r_iload_3 (pc := 1196) dL_law_1196 ?_
    refine r_iconst (pc := 1197) dL_law_1197 ?_
    refine r_iadd (pc := 1198) dL_law_1198 ?_
    refine r_sld (pc := 1199) hX dL_law_1199 (by omega) (by omega) (fun i_1199 => ?_)
    rw [ha1]
    refine k_VI1 (pc := 1200) c_X8_fail lk_L_152 ⟨(Nat.le_of_ble_eq_true rfl), (Nat.le_of_ble_eq_true rfl)⟩ ⟨rfl, rfl⟩ ⟨(Nat.le_of_ble_eq_true rfl), (Nat.le_of_ble_eq_true rfl)⟩ (k := 8) rfl (by decide) hMd2.1 dL_law_1200 (Nat.le_of_ble_eq_true rfl) ?_
    refine ⟨b, mp, a1, rfl, hMd2, e2, hT, hR, g1, fun z => absurd hc z, fun _ => ?_⟩
    refine r_same (pc := 1203) (tgt := 1462) (by first | rfl | (simp only [e0, e5, e17, e19, e1, e2, e12, e14, e15, e17r])) dL_law_1203 (by decide) ?_
    exact K r (hr (hr h2 (b + 14) (flr (h2 (b + 14)) a1 16)) b (up (h2 b) 17 (iA (h2 b 17) (iX (iSl 1 (a1 - 10)) (-1))))) ⟨q, n, tx, ep, km, mp, F, iA ux (iX (iSl 1 (a1 - 10)) (-1)), sz, flr ho a1 16, sn, row, hI2.fr (fun x x0 x1 => by rw [hr_n (by omega), hr_n (by omega)]), hM2.g ⟨by rw [hr_s, up_n (by omega)]; exact e0, by rw [hr_s, up_n (by omega)]; exact e5, by rw [hr_s, up_s, e17], by rw [hr_s, up_n (by omega)]; exact e19⟩ (by rw [hr_n (by omega), hr_n (by omega)]; exact e1) (by rw [hr_n (by omega), hr_s, e14]) (by rw [hr_n (by omega), hr_n (by omega)]; exact e15) (by rw [hr_n (by omega), hr_n (by omega)]; exact e17r) (fun x x0 x1 hx => by rw [hr_n (by omega), hr_n (by omega)]), by omega⟩
  · refine r_aload_1 (pc := 1185) dL_law_1185 ?_
    refine r_aload_0 (pc := 1186) dL_law_1186 ?_
    refine r_iload_3 (pc := 1187) dL_law_1187 ?_
    refine r_iconst (pc := 1188) dL_law_1188 ?_
    refine r_iadd (pc := 1189) dL_law_1189 ?_
    refine r_sld (pc := 1190) hX dL_law_1190 (by omega) (by omega) (fun i_1190 => ?_)
    rw [ha1]
    refine k_VI1 (pc := 1191) c_X7_fail lk_L_149 ⟨(Nat.le_of_ble_eq_true rfl), (Nat.le_of_ble_eq_true rfl)⟩ ⟨rfl, rfl⟩ ⟨(Nat.le_of_ble_eq_true rfl), (Nat.le_of_ble_eq_true rfl)⟩ (k := 7) rfl (by decide) cl0 dL_law_1191 (Nat.le_of_ble_eq_true rfl) ?_
    refine ⟨c, q, n, tx, ep, km, mp, F, ux, sz, ho, sn, row, a1, rfl, hI, g1, fun _ => ?_, fun z => absurd z hc⟩
    have hM2 := hM
    obtain ⟨hMd2, ⟨e0, e5, e17, e19⟩, ⟨e1, e2, e12, e14, e15, e17r⟩, hWa2, hz2, hkp2, hes2⟩ := id hM2
    refine r_aload_2 (pc := 1194) dL_law_1194 ?_
    refine r_aload_0 (pc := 1195) dL_law_1195 ?_
    refine r_iload_3 (pc := 1196) dL_law_1196 ?_
    refine r_iconst (pc := 1197) dL_law_1197 ?_
    refine r_iadd (pc := 1198) dL_law_1198 ?_
    refine r_sld (pc := 1199) hX dL_law_1199 (by omega) (by omega) (fun i_1199 => ?_)
    rw [ha1]
    refine k_VI1 (pc := 1200) c_X8_fail lk_L_152 ⟨(Nat.le_of_ble_eq_true rfl), (Nat.le_of_ble_eq_true rfl)⟩ ⟨rfl, rfl⟩ ⟨(Nat.le_of_ble_eq_true rfl), (Nat.le_of_ble_eq_true rfl)⟩ (k := 8) rfl (by decide) hMd2.1 dL_law_1200 (Nat.le_of_ble_eq_true rfl) ?_
    refine ⟨b, mp, a1, rfl, hMd2, e2, hT, hR, g1, fun _ => ?_, fun z => absurd z hc⟩
    refine r_same (pc := 1203) (tgt := 1462) (by first | rfl | (simp only [e0, e5, e17, e19, e1, e2, e12, e14, e15, e17r])) dL_law_1203 (by decide) ?_
    exact K r h ⟨q, n, tx, ep, km, mp, F, ux, sz, ho, sn, row, hI, hM2, by omega⟩
theorem dL_law_1152 : decode code 1152 = .ok (.aload_n 1, 1) := by decide +kernel
theorem dL_law_1153 : decode code 1153 = .ok (.aload_n 0, 1) := by decide +kernel
theorem dL_law_1154 : decode code 1154 = .ok (.iload_n 3, 1) := by decide +kernel
theorem dL_law_1155 : decode code 1155 = .ok (.iconst 1, 1) := by decide +kernel
theorem dL_law_1156 : decode code 1156 = .ok (.iadd, 1) := by decide +kernel
theorem dL_law_1157 : decode code 1157 = .ok (.iaload, 1) := by decide +kernel
theorem dL_law_1158 : decode code 1158 = .ok (.aload_n 0, 1) := by decide +kernel
theorem dL_law_1159 : decode code 1159 = .ok (.iload_n 3, 1) := by decide +kernel
theorem dL_law_1160 : decode code 1160 = .ok (.iconst 2, 1) := by decide +kernel
theorem dL_law_1161 : decode code 1161 = .ok (.iadd, 1) := by decide +kernel
theorem dL_law_1162 : decode code 1162 = .ok (.iaload, 1) := by decide +kernel
theorem dL_law_1163 : decode code 1163 = .ok (.invokevirtual 145, 3) := by decide +kernel
theorem dL_law_1166 : decode code 1166 = .ok (.aload_n 2, 1) := by decide +kernel
theorem dL_law_1167 : decode code 1167 = .ok (.aload_n 0, 1) := by decide +kernel
theorem dL_law_1168 : decode code 1168 = .ok (.iload_n 3, 1) := by decide +kernel
theorem dL_law_1169 : decode code 1169 = .ok (.iconst 1, 1) := by decide +kernel
theorem dL_law_1170 : decode code 1170 = .ok (.iadd, 1) := by decide +kernel
theorem dL_law_1171 : decode code 1171 = .ok (.iaload, 1) := by decide +kernel
theorem dL_law_1172 : decode code 1172 = .ok (.aload_n 0, 1) := by decide +kernel
theorem dL_law_1173 : decode code 1173 = .ok (.iload_n 3, 1) := by decide +kernel
theorem dL_law_1174 : decode code 1174 = .ok (.iconst 2, 1) := by decide +kernel
theorem dL_law_1175 : decode code 1175 = .ok (.iadd, 1) := by decide +kernel
theorem dL_law_1176 : decode code 1176 = .ok (.iaload, 1) := by decide +kernel
theorem dL_law_1177 : decode code 1177 = .ok (.invokevirtual 148, 3) := by decide +kernel
theorem dL_law_1180 : decode code 1180 = .ok (.if_icmp .eq 282, 3) := by decide +kernel
set_option maxHeartbeats 4000000 in
set_option maxRecDepth 20000 in
theorem law_up {E : EnT} {nm : String} {lay : LyT} {r : RfT} {h : HpT} {c b b0 L N : Nat} {sx : Int → Int} {i : Int} (hX : ScE E b0 L sx) (hi : 0 ≤ i ∧ i + 4 ≤ L) (hL : L ≤ 2048) (hcb : b = c + 101) (hLI : LI lay c b i r h) (K : ∀ r' h', LI lay c b (i + 4) r' h' → St E (mL_law nm) 1462 [some (.ref b0), some (.ref c), some (.ref b), some (vI i)] [] (122, 20801) N lay r' h') : St E (mL_law nm) 1152 [some (.ref b0), some (.ref c), some (.ref b), some (vI i)] [] (122, 20801) N lay r h := by
  obtain ⟨q, n, tx, ep, km, mp, F, ux, sz, ho, sn, row, hI, hM, hle⟩ := hLI
  have hP0 := hI.2.2.2.2.2.1 0 (by omega) (by omega) (by have := hI.2.2.2.2.1.2.1; omega)
  rw [hI.2.2.2.2.2.2.1.1] at hP0
  have hT := hP0.1
  have hR := hP0.2.1
  have hep := hI.2.2.2.2.1
  have cl0 : lay c = (8, 0) := hI.1.1
  obtain ⟨a1, ha1⟩ : ∃ z, sx (i + 1) = z := ⟨_, rfl⟩
  have g1 := sc_rng hX (i + 1)
  rw [ha1] at g1
  obtain ⟨a2, ha2⟩ : ∃ z, sx (i + 2) = z := ⟨_, rfl⟩
  have g2 := sc_rng hX (i + 2)
  rw [ha2] at g2
  by_cases hc : (10 ≤ a1 ∧ a1 ≤ 9 + mp 130) ∧ (0 ≤ a2 ∧ a2 ≤ 1)
  · by_cases hu : iA (iSr ux (a1 - 10)) 1 = a2
    · refine r_aload_1 (pc := 1152) dL_law_1152 ?_
      refine r_aload_0 (pc := 1153) dL_law_1153 ?_
      refine r_iload_3 (pc := 1154) dL_law_1154 ?_
      refine r_iconst (pc := 1155) dL_law_1155 ?_
      refine r_iadd (pc := 1156) dL_law_1156 ?_
      refine r_sld (pc := 1157) hX dL_law_1157 (by omega) (by omega) (fun i_1157 => ?_)
      rw [ha1]
      refine r_aload_0 (pc := 1158) dL_law_1158 ?_
      refine r_iload_3 (pc := 1159) dL_law_1159 ?_
      refine r_iconst (pc := 1160) dL_law_1160 ?_
      refine r_iadd (pc := 1161) dL_law_1161 ?_
      refine r_sld (pc := 1162) hX dL_law_1162 (by omega) (by omega) (fun i_1162 => ?_)
      rw [ha2]
      refine k_VI2 (pc := 1163) c_X7_up lk_L_145 ⟨(Nat.le_of_ble_eq_true rfl), (Nat.le_of_ble_eq_true rfl)⟩ ⟨rfl, rfl⟩ ⟨(Nat.le_of_ble_eq_true rfl), (Nat.le_of_ble_eq_true rfl)⟩ (k := 7) rfl (by decide) cl0 dL_law_1163 (Nat.le_of_ble_eq_true rfl) ?_
      refine ⟨c, q, n, tx, ep, km, mp, F, ux, sz, ho, sn, row, a1, a2, rfl, hI, g1, g2, fun z => absurd hc z, fun _ => ⟨fun _ => ?_, fun z => absurd hu z⟩⟩
      have hM2 := hM
      obtain ⟨hMd2, ⟨e0, e5, e17, e19⟩, ⟨e1, e2, e12, e14, e15, e17r⟩, hWa2, hz2, hkp2, hes2⟩ := id hM2
      refine r_aload_2 (pc := 1166) dL_law_1166 ?_
      refine r_aload_0 (pc := 1167) dL_law_1167 ?_
      refine r_iload_3 (pc := 1168) dL_law_1168 ?_
      refine r_iconst (pc := 1169) dL_law_1169 ?_
      refine r_iadd (pc := 1170) dL_law_1170 ?_
      refine r_sld (pc := 1171) hX dL_law_1171 (by omega) (by omega) (fun i_1171 => ?_)
      rw [ha1]
      refine r_aload_0 (pc := 1172) dL_law_1172 ?_
      refine r_iload_3 (pc := 1173) dL_law_1173 ?_
      refine r_iconst (pc := 1174) dL_law_1174 ?_
      refine r_iadd (pc := 1175) dL_law_1175 ?_
      refine r_sld (pc := 1176) hX dL_law_1176 (by omega) (by omega) (fun i_1176 => ?_)
      rw [ha2]
      refine k_VI2 (pc := 1177) c_X8_up lk_L_148 ⟨(Nat.le_of_ble_eq_true rfl), (Nat.le_of_ble_eq_true rfl)⟩ ⟨rfl, rfl⟩ ⟨(Nat.le_of_ble_eq_true rfl), (Nat.le_of_ble_eq_true rfl)⟩ (k := 8) rfl (by decide) hMd2.1 dL_law_1177 (Nat.le_of_ble_eq_true rfl) ?_
      refine ⟨b, mp, a1, a2, rfl, hMd2, e2, hT, hR, g1, g2, fun z => absurd hc z, fun _ => ⟨fun _ => ?_, fun z => absurd hu (by rw [e17] at z; exact z)⟩⟩
      refine r_same (pc := 1180) (tgt := 1462) (by first | rfl | (simp only [e0, e5, e17, e19, e1, e2, e12, e14, e15, e17r])) dL_law_1180 (by decide) ?_
      exact K r h ⟨q, n, tx, ep, km, mp, F, ux, sz, ho, sn, row, hI, hM2, by omega⟩
    · refine r_aload_1 (pc := 1152) dL_law_1152 ?_
      refine r_aload_0 (pc := 1153) dL_law_1153 ?_
      refine r_iload_3 (pc := 1154) dL_law_1154 ?_
      refine r_iconst (pc := 1155) dL_law_1155 ?_
      refine r_iadd (pc := 1156) dL_law_1156 ?_
      refine r_sld (pc := 1157) hX dL_law_1157 (by omega) (by omega) (fun i_1157 => ?_)
      rw [ha1]
      refine r_aload_0 (pc := 1158) dL_law_1158 ?_
      refine r_iload_3 (pc := 1159) dL_law_1159 ?_
      refine r_iconst (pc := 1160) dL_law_1160 ?_
      refine r_iadd (pc := 1161) dL_law_1161 ?_
      refine r_sld (pc := 1162) hX dL_law_1162 (by omega) (by omega) (fun i_1162 => ?_)
      rw [ha2]
      refine k_VI2 (pc := 1163) c_X7_up lk_L_145 ⟨(Nat.le_of_ble_eq_true rfl), (Nat.le_of_ble_eq_true rfl)⟩ ⟨rfl, rfl⟩ ⟨(Nat.le_of_ble_eq_true rfl), (Nat.le_of_ble_eq_true rfl)⟩ (k := 7) rfl (by decide) cl0 dL_law_1163 (Nat.le_of_ble_eq_true rfl) ?_
      refine ⟨c, q, n, tx, ep, km, mp, F, ux, sz, ho, sn, row, a1, a2, rfl, hI, g1, g2, fun z => absurd hc z, fun _ => ⟨fun z => absurd z hu, fun _ h2 f2 hI2 => ?_⟩⟩
      have hM2 : MI lay r h2 b n tx ep km mp F ux sz ho sn row := hM.of (rfl) (fun x x0 x1 => f2 x (by omega))
      obtain ⟨hMd2, ⟨e0, e5, e17, e19⟩, ⟨e1, e2, e12, e14, e15, e17r⟩, hWa2, hz2, hkp2, hes2⟩ := id hM2
      refine r_aload_2 (pc := 1166) dL_law_1166 ?_
      refine r_aload_0 (pc := 1167) dL_law_1167 ?_
      refine r_iload_3 (pc := 1168) dL_law_1168 ?_
      refine r_iconst (pc := 1169) dL_law_1169 ?_
      refine r_iadd (pc := 1170) dL_law_1170 ?_
      refine r_sld (pc := 1171) hX dL_law_1171 (by omega) (by omega) (fun i_1171 => ?_)
      rw [ha1]
      refine r_aload_0 (pc := 1172) dL_law_1172 ?_
      refine r_iload_3 (pc := 1173) dL_law_1173 ?_
      refine r_iconst (pc := 1174) dL_law_1174 ?_
      refine r_iadd (pc := 1175) dL_law_1175 ?_
      refine r_sld (pc := 1176) hX dL_law_1176 (by omega) (by omega) (fun i_1176 => ?_)
      rw [ha2]
      refine k_VI2 (pc := 1177) c_X8_up lk_L_148 ⟨(Nat.le_of_ble_eq_true rfl), (Nat.le_of_ble_eq_true rfl)⟩ ⟨rfl, rfl⟩ ⟨(Nat.le_of_ble_eq_true rfl), (Nat.le_of_ble_eq_true rfl)⟩ (k := 8) rfl (by decide) hMd2.1 dL_law_1177 (Nat.le_of_ble_eq_true rfl) ?_
      refine ⟨b, mp, a1, a2, rfl, hMd2, e2, hT, hR, g1, g2, fun z => absurd hc z, fun _ => ⟨fun z => absurd (by rw [e17] at z; exact z) hu, fun _ => ?_⟩⟩
      refine r_same (pc := 1180) (tgt := 1462) (by first | rfl | (simp only [e0, e5, e17, e19, e1, e2, e12, e14, e15, e17r])) dL_law_1180 (by decide) ?_
      exact K r (hr h2 b (up (h2 b) 17 (iX (h2 b 17) (iSl 1 (a1 - 10))))) ⟨q, n, tx, ep, km, mp, F, (iX ux (iSl 1 (a1 - 10))), sz, ho, sn, row, hI2.fr (fun x x0 x1 => hr_n (by omega)), hM2.g ⟨by rw [hr_s, up_n (by omega)]; exact e0, by rw [hr_s, up_n (by omega)]; exact e5, by rw [hr_s, up_s, e17], by rw [hr_s, up_n (by omega)]; exact e19⟩ (by rw [hr_n (by omega)]; exact e1) (by rw [hr_n (by omega)]; exact e14) (by rw [hr_n (by omega)]; exact e15) (by rw [hr_n (by omega)]; exact e17r) (fun x x0 x1 hx => by rw [hr_n (by omega)]), by omega⟩
  · refine r_aload_1 (pc := 1152) dL_law_1152 ?_
    refine r_aload_0 (pc := 1153) dL_law_1153 ?_
    refine r_iload_3 (pc := 1154) dL_law_1154 ?_
    refine r_iconst (pc := 1155) dL_law_1155 ?_
    refine r_iadd (pc := 1156) dL_law_1156 ?_
    refine r_sld (pc := 1157) hX dL_law_1157 (by omega) (by omega) (fun i_1157 => ?_)
    rw [ha1]
    refine r_aload_0 (pc := 1158) dL_law_1158 ?_
    refine r_iload_3 (pc := 1159) dL_law_1159 ?_
    refine r_iconst (pc := 1160) dL_law_1160 ?_
    refine r_iadd (pc := 1161) dL_law_1161 ?_
    refine r_sld (pc := 1162) hX dL_law_1162 (by omega) (by omega) (fun i_1162 => ?_)
    rw [ha2]
    refine k_VI2 (pc := 1163) c_X7_up lk_L_145 ⟨(Nat.le_of_ble_eq_true rfl), (Nat.le_of_ble_eq_true rfl)⟩ ⟨rfl, rfl⟩ ⟨(Nat.le_of_ble_eq_true rfl), (Nat.le_of_ble_eq_true rfl)⟩ (k := 7) rfl (by decide) cl0 dL_law_1163 (Nat.le_of_ble_eq_true rfl) ?_
    refine ⟨c, q, n, tx, ep, km, mp, F, ux, sz, ho, sn, row, a1, a2, rfl, hI, g1, g2, fun _ => ?_, fun z => absurd z hc⟩
    have hM2 := hM
    obtain ⟨hMd2, ⟨e0, e5, e17, e19⟩, ⟨e1, e2, e12, e14, e15, e17r⟩, hWa2, hz2, hkp2, hes2⟩ := id hM2
    refine r_aload_2 (pc := 1166) dL_law_1166 ?_
    refine r_aload_0 (pc := 1167) dL_law_1167 ?_
    refine r_iload_3 (pc := 1168) dL_law_1168 ?_
    refine r_iconst (pc := 1169) dL_law_1169 ?_
    refine r_iadd (pc := 1170) dL_law_1170 ?_
    refine r_sld (pc := 1171) hX dL_law_1171 (by omega) (by omega) (fun i_1171 => ?_)
    rw [ha1]
    refine r_aload_0 (pc := 1172) dL_law_1172 ?_
    refine r_iload_3 (pc := 1173) dL_law_1173 ?_
    refine r_iconst (pc := 1174) dL_law_1174 ?_
    refine r_iadd (pc := 1175) dL_law_1175 ?_
    refine r_sld (pc := 1176) hX dL_law_1176 (by omega) (by omega) (fun i_1176 => ?_)
    rw [ha2]
    refine k_VI2 (pc := 1177) c_X8_up lk_L_148 ⟨(Nat.le_of_ble_eq_true rfl), (Nat.le_of_ble_eq_true rfl)⟩ ⟨rfl, rfl⟩ ⟨(Nat.le_of_ble_eq_true rfl), (Nat.le_of_ble_eq_true rfl)⟩ (k := 8) rfl (by decide) hMd2.1 dL_law_1177 (Nat.le_of_ble_eq_true rfl) ?_
    refine ⟨b, mp, a1, a2, rfl, hMd2, e2, hT, hR, g1, g2, fun _ => ?_, fun z => absurd z hc⟩
    refine r_same (pc := 1180) (tgt := 1462) (by first | rfl | (simp only [e0, e5, e17, e19, e1, e2, e12, e14, e15, e17r])) dL_law_1180 (by decide) ?_
    exact K r h ⟨q, n, tx, ep, km, mp, F, ux, sz, ho, sn, row, hI, hM2, by omega⟩
theorem dL_law_1096 : decode code 1096 = .ok (.aload_n 1, 1) := by decide +kernel
theorem dL_law_1097 : decode code 1097 = .ok (.aload_n 0, 1) := by decide +kernel
theorem dL_law_1098 : decode code 1098 = .ok (.iload_n 3, 1) := by decide +kernel
theorem dL_law_1099 : decode code 1099 = .ok (.iconst 1, 1) := by decide +kernel
theorem dL_law_1100 : decode code 1100 = .ok (.iadd, 1) := by decide +kernel
theorem dL_law_1101 : decode code 1101 = .ok (.iaload, 1) := by decide +kernel
theorem dL_law_1102 : decode code 1102 = .ok (.aload_n 0, 1) := by decide +kernel
theorem dL_law_1103 : decode code 1103 = .ok (.iload_n 3, 1) := by decide +kernel
theorem dL_law_1104 : decode code 1104 = .ok (.iconst 2, 1) := by decide +kernel
theorem dL_law_1105 : decode code 1105 = .ok (.iadd, 1) := by decide +kernel
theorem dL_law_1106 : decode code 1106 = .ok (.iaload, 1) := by decide +kernel
theorem dL_law_1107 : decode code 1107 = .ok (.invokevirtual 137, 3) := by decide +kernel
theorem dL_law_1110 : decode code 1110 = .ok (.aload_n 2, 1) := by decide +kernel
theorem dL_law_1111 : decode code 1111 = .ok (.aload_n 0, 1) := by decide +kernel
theorem dL_law_1112 : decode code 1112 = .ok (.iload_n 3, 1) := by decide +kernel
theorem dL_law_1113 : decode code 1113 = .ok (.iconst 1, 1) := by decide +kernel
theorem dL_law_1114 : decode code 1114 = .ok (.iadd, 1) := by decide +kernel
theorem dL_law_1115 : decode code 1115 = .ok (.iaload, 1) := by decide +kernel
theorem dL_law_1116 : decode code 1116 = .ok (.aload_n 0, 1) := by decide +kernel
theorem dL_law_1117 : decode code 1117 = .ok (.iload_n 3, 1) := by decide +kernel
theorem dL_law_1118 : decode code 1118 = .ok (.iconst 2, 1) := by decide +kernel
theorem dL_law_1119 : decode code 1119 = .ok (.iadd, 1) := by decide +kernel
theorem dL_law_1120 : decode code 1120 = .ok (.iaload, 1) := by decide +kernel
theorem dL_law_1121 : decode code 1121 = .ok (.invokevirtual 140, 3) := by decide +kernel
theorem dL_law_1124 : decode code 1124 = .ok (.if_icmp .eq 338, 3) := by decide +kernel
set_option maxHeartbeats 4000000 in
set_option maxRecDepth 20000 in
theorem law_put {E : EnT} {nm : String} {lay : LyT} {r : RfT} {h : HpT} {c b b0 L N : Nat} {sx : Int → Int} {i : Int} (hX : ScE E b0 L sx) (hi : 0 ≤ i ∧ i + 4 ≤ L) (hL : L ≤ 2048) (hcb : b = c + 101) (hLI : LI lay c b i r h) (K : ∀ r' h', LI lay c b (i + 4) r' h' → St E (mL_law nm) 1462 [some (.ref b0), some (.ref c), some (.ref b), some (vI i)] [] (122, 20801) N lay r' h') : St E (mL_law nm) 1096 [some (.ref b0), some (.ref c), some (.ref b), some (vI i)] [] (122, 20801) N lay r h := by
  obtain ⟨q, n, tx, ep, km, mp, F, ux, sz, ho, sn, row, hI, hM, hle⟩ := hLI
  have hP0 := hI.2.2.2.2.2.1 0 (by omega) (by omega) (by have := hI.2.2.2.2.1.2.1; omega)
  rw [hI.2.2.2.2.2.2.1.1] at hP0
  have hT := hP0.1
  have hR := hP0.2.1
  have hep := hI.2.2.2.2.1
  have cl0 : lay c = (8, 0) := hI.1.1
  obtain ⟨a1, ha1⟩ : ∃ z, sx (i + 1) = z := ⟨_, rfl⟩
  have g1 := sc_rng hX (i + 1)
  rw [ha1] at g1
  obtain ⟨a2, ha2⟩ : ∃ z, sx (i + 2) = z := ⟨_, rfl⟩
  have g2 := sc_rng hX (i + 2)
  rw [ha2] at g2
  by_cases hc : (0 ≤ a1 ∧ a1 ≤ 9999) ∧ (1 ≤ a2 ∧ a2 ≤ 99)
  · by_cases hp : iA (iA (pb F (7919 * a1 % 65521 % 16)) ux) (ho (7919 * a1 % 65521 % 16)) = 0
    · refine r_aload_1 (pc := 1096) dL_law_1096 ?_
      refine r_aload_0 (pc := 1097) dL_law_1097 ?_
      refine r_iload_3 (pc := 1098) dL_law_1098 ?_
      refine r_iconst (pc := 1099) dL_law_1099 ?_
      refine r_iadd (pc := 1100) dL_law_1100 ?_
      refine r_sld (pc := 1101) hX dL_law_1101 (by omega) (by omega) (fun i_1101 => ?_)
      rw [ha1]
      refine r_aload_0 (pc := 1102) dL_law_1102 ?_
      refine r_iload_3 (pc := 1103) dL_law_1103 ?_
      refine r_iconst (pc := 1104) dL_law_1104 ?_
      refine r_iadd (pc := 1105) dL_law_1105 ?_
      refine r_sld (pc := 1106) hX dL_law_1106 (by omega) (by omega) (fun i_1106 => ?_)
      rw [ha2]
      refine k_VI2 (pc := 1107) c_X7_put lk_L_137 ⟨(Nat.le_of_ble_eq_true rfl), (Nat.le_of_ble_eq_true rfl)⟩ ⟨rfl, rfl⟩ ⟨(Nat.le_of_ble_eq_true rfl), (Nat.le_of_ble_eq_true rfl)⟩ (k := 7) rfl (by decide) cl0 dL_law_1107 (Nat.le_of_ble_eq_true rfl) ?_
      refine ⟨c, q, n, tx, ep, km, mp, F, ux, sz, ho, sn, row, a1, a2, rfl, hI, g1, g2, fun z => absurd hc z, fun _ => ⟨fun _ => ?_, fun z => absurd hp z⟩⟩
      have hM2 := hM
      obtain ⟨hMd2, ⟨e0, e5, e17, e19⟩, ⟨e1, e2, e12, e14, e15, e17r⟩, hWa2, hz2, hkp2, hes2⟩ := id hM2
      refine r_aload_2 (pc := 1110) dL_law_1110 ?_
      refine r_aload_0 (pc := 1111) dL_law_1111 ?_
      refine r_iload_3 (pc := 1112) dL_law_1112 ?_
      refine r_iconst (pc := 1113) dL_law_1113 ?_
      refine r_iadd (pc := 1114) dL_law_1114 ?_
      refine r_sld (pc := 1115) hX dL_law_1115 (by omega) (by omega) (fun i_1115 => ?_)
      rw [ha1]
      refine r_aload_0 (pc := 1116) dL_law_1116 ?_
      refine r_iload_3 (pc := 1117) dL_law_1117 ?_
      refine r_iconst (pc := 1118) dL_law_1118 ?_
      refine r_iadd (pc := 1119) dL_law_1119 ?_
      refine r_sld (pc := 1120) hX dL_law_1120 (by omega) (by omega) (fun i_1120 => ?_)
      rw [ha2]
      refine k_VI2 (pc := 1121) c_X8_put lk_L_140 ⟨(Nat.le_of_ble_eq_true rfl), (Nat.le_of_ble_eq_true rfl)⟩ ⟨rfl, rfl⟩ ⟨(Nat.le_of_ble_eq_true rfl), (Nat.le_of_ble_eq_true rfl)⟩ (k := 8) rfl (by decide) hMd2.1 dL_law_1121 (Nat.le_of_ble_eq_true rfl) ?_
      refine ⟨b, mp, a1, a2, rfl, hMd2, e2, hT, hR, g1, g2, (by rw [e15]; exact hI.2.2.2.2.2.2.2.2.1.2.2), fun z => absurd hc z, fun _ => ⟨fun _ => ?_, fun z => absurd hp (by simp only [e12, e17, e14] at z; exact z)⟩⟩
      refine r_same (pc := 1124) (tgt := 1462) (by first | rfl | (simp only [e0, e5, e17, e19, e1, e2, e12, e14, e15, e17r])) dL_law_1124 (by decide) ?_
      exact K r h ⟨q, n, tx, ep, km, mp, F, ux, sz, ho, sn, row, hI, hM2, by omega⟩
    · by_cases hs : 9999 < sz (7919 * a1 % 65521 % 16) + a2
      · refine r_aload_1 (pc := 1096) dL_law_1096 ?_
        refine r_aload_0 (pc := 1097) dL_law_1097 ?_
        refine r_iload_3 (pc := 1098) dL_law_1098 ?_
        refine r_iconst (pc := 1099) dL_law_1099 ?_
        refine r_iadd (pc := 1100) dL_law_1100 ?_
        refine r_sld (pc := 1101) hX dL_law_1101 (by omega) (by omega) (fun i_1101 => ?_)
        rw [ha1]
        refine r_aload_0 (pc := 1102) dL_law_1102 ?_
        refine r_iload_3 (pc := 1103) dL_law_1103 ?_
        refine r_iconst (pc := 1104) dL_law_1104 ?_
        refine r_iadd (pc := 1105) dL_law_1105 ?_
        refine r_sld (pc := 1106) hX dL_law_1106 (by omega) (by omega) (fun i_1106 => ?_)
        rw [ha2]
        refine k_VI2 (pc := 1107) c_X7_put lk_L_137 ⟨(Nat.le_of_ble_eq_true rfl), (Nat.le_of_ble_eq_true rfl)⟩ ⟨rfl, rfl⟩ ⟨(Nat.le_of_ble_eq_true rfl), (Nat.le_of_ble_eq_true rfl)⟩ (k := 7) rfl (by decide) cl0 dL_law_1107 (Nat.le_of_ble_eq_true rfl) ?_
        refine ⟨c, q, n, tx, ep, km, mp, F, ux, sz, ho, sn, row, a1, a2, rfl, hI, g1, g2, fun z => absurd hc z, fun _ => ⟨fun z => absurd z hp, fun _ => ⟨fun _ => ?_, fun z => absurd z (by omega)⟩⟩⟩
        have hM2 := hM
        obtain ⟨hMd2, ⟨e0, e5, e17, e19⟩, ⟨e1, e2, e12, e14, e15, e17r⟩, hWa2, hz2, hkp2, hes2⟩ := id hM2
        refine r_aload_2 (pc := 1110) dL_law_1110 ?_
        refine r_aload_0 (pc := 1111) dL_law_1111 ?_
        refine r_iload_3 (pc := 1112) dL_law_1112 ?_
        refine r_iconst (pc := 1113) dL_law_1113 ?_
        refine r_iadd (pc := 1114) dL_law_1114 ?_
        refine r_sld (pc := 1115) hX dL_law_1115 (by omega) (by omega) (fun i_1115 => ?_)
        rw [ha1]
        refine r_aload_0 (pc := 1116) dL_law_1116 ?_
        refine r_iload_3 (pc := 1117) dL_law_1117 ?_
        refine r_iconst (pc := 1118) dL_law_1118 ?_
        refine r_iadd (pc := 1119) dL_law_1119 ?_
        refine r_sld (pc := 1120) hX dL_law_1120 (by omega) (by omega) (fun i_1120 => ?_)
        rw [ha2]
        refine k_VI2 (pc := 1121) c_X8_put lk_L_140 ⟨(Nat.le_of_ble_eq_true rfl), (Nat.le_of_ble_eq_true rfl)⟩ ⟨rfl, rfl⟩ ⟨(Nat.le_of_ble_eq_true rfl), (Nat.le_of_ble_eq_true rfl)⟩ (k := 8) rfl (by decide) hMd2.1 dL_law_1121 (Nat.le_of_ble_eq_true rfl) ?_
        refine ⟨b, mp, a1, a2, rfl, hMd2, e2, hT, hR, g1, g2, (by rw [e15]; exact hI.2.2.2.2.2.2.2.2.1.2.2), fun z => absurd hc z, fun _ => ⟨fun z => absurd (by simp only [e12, e17, e14] at z; exact z) hp, fun _ => ⟨fun _ => ?_, fun z => absurd (by rw [e15] at z; exact z) (show ¬ sz (7919 * a1 % 65521 % 16) + a2 ≤ 9999 by omega)⟩⟩⟩
        refine r_same (pc := 1124) (tgt := 1462) (by first | rfl | (simp only [e0, e5, e17, e19, e1, e2, e12, e14, e15, e17r])) dL_law_1124 (by decide) ?_
        exact K r h ⟨q, n, tx, ep, km, mp, F, ux, sz, ho, sn, row, hI, hM2, by omega⟩
      · refine r_aload_1 (pc := 1096) dL_law_1096 ?_
        refine r_aload_0 (pc := 1097) dL_law_1097 ?_
        refine r_iload_3 (pc := 1098) dL_law_1098 ?_
        refine r_iconst (pc := 1099) dL_law_1099 ?_
        refine r_iadd (pc := 1100) dL_law_1100 ?_
        refine r_sld (pc := 1101) hX dL_law_1101 (by omega) (by omega) (fun i_1101 => ?_)
        rw [ha1]
        refine r_aload_0 (pc := 1102) dL_law_1102 ?_
        refine r_iload_3 (pc := 1103) dL_law_1103 ?_
        refine r_iconst (pc := 1104) dL_law_1104 ?_
        refine r_iadd (pc := 1105) dL_law_1105 ?_
        refine r_sld (pc := 1106) hX dL_law_1106 (by omega) (by omega) (fun i_1106 => ?_)
        rw [ha2]
        refine k_VI2 (pc := 1107) c_X7_put lk_L_137 ⟨(Nat.le_of_ble_eq_true rfl), (Nat.le_of_ble_eq_true rfl)⟩ ⟨rfl, rfl⟩ ⟨(Nat.le_of_ble_eq_true rfl), (Nat.le_of_ble_eq_true rfl)⟩ (k := 7) rfl (by decide) cl0 dL_law_1107 (Nat.le_of_ble_eq_true rfl) ?_
        refine ⟨c, q, n, tx, ep, km, mp, F, ux, sz, ho, sn, row, a1, a2, rfl, hI, g1, g2, fun z => absurd hc z, fun _ => ⟨fun z => absurd z hp, fun _ => ⟨fun z => absurd z (by omega), fun _ h2 f2 hI2 => ?_⟩⟩⟩
        have hM2 : MI lay r h2 b n tx ep km mp F ux sz ho sn row := hM.of (rfl) (fun x x0 x1 => f2 x (by omega))
        obtain ⟨hMd2, ⟨e0, e5, e17, e19⟩, ⟨e1, e2, e12, e14, e15, e17r⟩, hWa2, hz2, hkp2, hes2⟩ := id hM2
        refine r_aload_2 (pc := 1110) dL_law_1110 ?_
        refine r_aload_0 (pc := 1111) dL_law_1111 ?_
        refine r_iload_3 (pc := 1112) dL_law_1112 ?_
        refine r_iconst (pc := 1113) dL_law_1113 ?_
        refine r_iadd (pc := 1114) dL_law_1114 ?_
        refine r_sld (pc := 1115) hX dL_law_1115 (by omega) (by omega) (fun i_1115 => ?_)
        rw [ha1]
        refine r_aload_0 (pc := 1116) dL_law_1116 ?_
        refine r_iload_3 (pc := 1117) dL_law_1117 ?_
        refine r_iconst (pc := 1118) dL_law_1118 ?_
        refine r_iadd (pc := 1119) dL_law_1119 ?_
        refine r_sld (pc := 1120) hX dL_law_1120 (by omega) (by omega) (fun i_1120 => ?_)
        rw [ha2]
        refine k_VI2 (pc := 1121) c_X8_put lk_L_140 ⟨(Nat.le_of_ble_eq_true rfl), (Nat.le_of_ble_eq_true rfl)⟩ ⟨rfl, rfl⟩ ⟨(Nat.le_of_ble_eq_true rfl), (Nat.le_of_ble_eq_true rfl)⟩ (k := 8) rfl (by decide) hMd2.1 dL_law_1121 (Nat.le_of_ble_eq_true rfl) ?_
        refine ⟨b, mp, a1, a2, rfl, hMd2, e2, hT, hR, g1, g2, (by rw [e15]; exact hI.2.2.2.2.2.2.2.2.1.2.2), fun z => absurd hc z, fun _ => ⟨fun z => absurd (by simp only [e12, e17, e14] at z; exact z) hp, fun _ => ⟨fun z => absurd (by rw [e15] at z; exact z) (show ¬ 9999 < sz (7919 * a1 % 65521 % 16) + a2 by omega), fun _ => ?_⟩⟩⟩
        refine r_same (pc := 1124) (tgt := 1462) (by first | rfl | (simp only [e0, e5, e17, e19, e1, e2, e12, e14, e15, e17r])) dL_law_1124 (by decide) ?_
        exact K r (hr (hr h2 (b + 15) (up (h2 (b + 15)) (7919 * a1 % 65521 % 16) (h2 (b + 15) (7919 * a1 % 65521 % 16) + a2))) (b + 14) (up (h2 (b + 14)) (7919 * a1 % 65521 % 16) (iA (h2 (b + 14) (7919 * a1 % 65521 % 16)) (h2 b 17)))) ⟨q, n, tx, ep, km, mp, F, ux, up sz (7919 * a1 % 65521 % 16) (sz (7919 * a1 % 65521 % 16) + a2), up ho (7919 * a1 % 65521 % 16) (iA (ho (7919 * a1 % 65521 % 16)) ux), sn, row, hI2.fr (fun x x0 x1 => by rw [hr_n (by omega), hr_n (by omega)]), hM2.g ⟨by rw [hr_n (by omega), hr_n (by omega)]; exact e0, by rw [hr_n (by omega), hr_n (by omega)]; exact e5, by rw [hr_n (by omega), hr_n (by omega)]; exact e17, by rw [hr_n (by omega), hr_n (by omega)]; exact e19⟩ (by rw [hr_n (by omega), hr_n (by omega)]; exact e1) (by rw [hr_s, e14, e17]) (by rw [hr_n (by omega), hr_s, e15]) (by rw [hr_n (by omega), hr_n (by omega)]; exact e17r) (fun x x0 x1 hx => by rw [hr_n (by omega), hr_n (by omega)]), by omega⟩
  · refine r_aload_1 (pc := 1096) dL_law_1096 ?_
    refine r_aload_0 (pc := 1097) dL_law_1097 ?_
    refine r_iload_3 (pc := 1098) dL_law_1098 ?_
    refine r_iconst (pc := 1099) dL_law_1099 ?_
    refine r_iadd (pc := 1100) dL_law_1100 ?_
    refine r_sld (pc := 1101) hX dL_law_1101 (by omega) (by omega) (fun i_1101 => ?_)
    rw [ha1]
    refine r_aload_0 (pc := 1102) dL_law_1102 ?_
    refine r_iload_3 (pc := 1103) dL_law_1103 ?_
    refine r_iconst (pc := 1104) dL_law_1104 ?_
    refine r_iadd (pc := 1105) dL_law_1105 ?_
    refine r_sld (pc := 1106) hX dL_law_1106 (by omega) (by omega) (fun i_1106 => ?_)
    rw [ha2]
    refine k_VI2 (pc := 1107) c_X7_put lk_L_137 ⟨(Nat.le_of_ble_eq_true rfl), (Nat.le_of_ble_eq_true rfl)⟩ ⟨rfl, rfl⟩ ⟨(Nat.le_of_ble_eq_true rfl), (Nat.le_of_ble_eq_true rfl)⟩ (k := 7) rfl (by decide) cl0 dL_law_1107 (Nat.le_of_ble_eq_true rfl) ?_
    refine ⟨c, q, n, tx, ep, km, mp, F, ux, sz, ho, sn, row, a1, a2, rfl, hI, g1, g2, fun _ => ?_, fun z => absurd z hc⟩
    have hM2 := hM
    obtain ⟨hMd2, ⟨e0, e5, e17, e19⟩, ⟨e1, e2, e12, e14, e15, e17r⟩, hWa2, hz2, hkp2, hes2⟩ := id hM2
    refine r_aload_2 (pc := 1110) dL_law_1110 ?_
    refine r_aload_0 (pc := 1111) dL_law_1111 ?_
    refine r_iload_3 (pc := 1112) dL_law_1112 ?_
    refine r_iconst (pc := 1113) dL_law_1113 ?_
    refine r_iadd (pc := 1114) dL_law_1114 ?_
    refine r_sld (pc := 1115) hX dL_law_1115 (by omega) (by omega) (fun i_1115 => ?_)
    rw [ha1]
    refine r_aload_0 (pc := 1116) dL_law_1116 ?_
    refine r_iload_3 (pc := 1117) dL_law_1117 ?_
    refine r_iconst (pc := 1118) dL_law_1118 ?_
    refine r_iadd (pc := 1119) dL_law_1119 ?_
    refine r_sld (pc := 1120) hX dL_law_1120 (by omega) (by omega) (fun i_1120 => ?_)
    rw [ha2]
    refine k_VI2 (pc := 1121) c_X8_put lk_L_140 ⟨(Nat.le_of_ble_eq_true rfl), (Nat.le_of_ble_eq_true rfl)⟩ ⟨rfl, rfl⟩ ⟨(Nat.le_of_ble_eq_true rfl), (Nat.le_of_ble_eq_true rfl)⟩ (k := 8) rfl (by decide) hMd2.1 dL_law_1121 (Nat.le_of_ble_eq_true rfl) ?_
    refine ⟨b, mp, a1, a2, rfl, hMd2, e2, hT, hR, g1, g2, (by rw [e15]; exact hI.2.2.2.2.2.2.2.2.1.2.2), fun _ => ?_, fun z => absurd z hc⟩
    refine r_same (pc := 1124) (tgt := 1462) (by first | rfl | (simp only [e0, e5, e17, e19, e1, e2, e12, e14, e15, e17r])) dL_law_1124 (by decide) ?_
    exact K r h ⟨q, n, tx, ep, km, mp, F, ux, sz, ho, sn, row, hI, hM2, by omega⟩
theorem dL_law_1350 : decode code 1350 = .ok (.aload_n 1, 1) := by decide +kernel
theorem dL_law_1351 : decode code 1351 = .ok (.aload_n 0, 1) := by decide +kernel
theorem dL_law_1352 : decode code 1352 = .ok (.iload_n 3, 1) := by decide +kernel
theorem dL_law_1353 : decode code 1353 = .ok (.iconst 1, 1) := by decide +kernel
theorem dL_law_1354 : decode code 1354 = .ok (.iadd, 1) := by decide +kernel
theorem dL_law_1355 : decode code 1355 = .ok (.iaload, 1) := by decide +kernel
theorem dL_law_1356 : decode code 1356 = .ok (.aload_n 0, 1) := by decide +kernel
theorem dL_law_1357 : decode code 1357 = .ok (.iload_n 3, 1) := by decide +kernel
theorem dL_law_1358 : decode code 1358 = .ok (.iconst 2, 1) := by decide +kernel
theorem dL_law_1359 : decode code 1359 = .ok (.iadd, 1) := by decide +kernel
theorem dL_law_1360 : decode code 1360 = .ok (.iaload, 1) := by decide +kernel
theorem dL_law_1361 : decode code 1361 = .ok (.aload_n 0, 1) := by decide +kernel
theorem dL_law_1362 : decode code 1362 = .ok (.iload_n 3, 1) := by decide +kernel
theorem dL_law_1363 : decode code 1363 = .ok (.iconst 3, 1) := by decide +kernel
theorem dL_law_1364 : decode code 1364 = .ok (.iadd, 1) := by decide +kernel
theorem dL_law_1365 : decode code 1365 = .ok (.iaload, 1) := by decide +kernel
theorem dL_law_1366 : decode code 1366 = .ok (.invokevirtual 169, 3) := by decide +kernel
theorem dL_law_1369 : decode code 1369 = .ok (.aload_n 2, 1) := by decide +kernel
theorem dL_law_1370 : decode code 1370 = .ok (.aload_n 0, 1) := by decide +kernel
theorem dL_law_1371 : decode code 1371 = .ok (.iload_n 3, 1) := by decide +kernel
theorem dL_law_1372 : decode code 1372 = .ok (.iconst 1, 1) := by decide +kernel
theorem dL_law_1373 : decode code 1373 = .ok (.iadd, 1) := by decide +kernel
theorem dL_law_1374 : decode code 1374 = .ok (.iaload, 1) := by decide +kernel
theorem dL_law_1375 : decode code 1375 = .ok (.aload_n 0, 1) := by decide +kernel
theorem dL_law_1376 : decode code 1376 = .ok (.iload_n 3, 1) := by decide +kernel
theorem dL_law_1377 : decode code 1377 = .ok (.iconst 2, 1) := by decide +kernel
theorem dL_law_1378 : decode code 1378 = .ok (.iadd, 1) := by decide +kernel
theorem dL_law_1379 : decode code 1379 = .ok (.iaload, 1) := by decide +kernel
theorem dL_law_1380 : decode code 1380 = .ok (.aload_n 0, 1) := by decide +kernel
theorem dL_law_1381 : decode code 1381 = .ok (.iload_n 3, 1) := by decide +kernel
theorem dL_law_1382 : decode code 1382 = .ok (.iconst 3, 1) := by decide +kernel
theorem dL_law_1383 : decode code 1383 = .ok (.iadd, 1) := by decide +kernel
theorem dL_law_1384 : decode code 1384 = .ok (.iaload, 1) := by decide +kernel
theorem dL_law_1385 : decode code 1385 = .ok (.invokevirtual 172, 3) := by decide +kernel
theorem dL_law_1388 : decode code 1388 = .ok (.if_icmp .eq 74, 3) := by decide +kernel
set_option maxHeartbeats 4000000 in
set_option maxRecDepth 20000 in
theorem law_seen {E : EnT} {nm : String} {lay : LyT} {r : RfT} {h : HpT} {c b b0 L N : Nat} {sx : Int → Int} {i : Int} (hX : ScE E b0 L sx) (hi : 0 ≤ i ∧ i + 4 ≤ L) (hL : L ≤ 2048) (hcb : b = c + 101) (hLI : LI lay c b i r h) (K : ∀ r' h', LI lay c b (i + 4) r' h' → St E (mL_law nm) 1462 [some (.ref b0), some (.ref c), some (.ref b), some (vI i)] [] (122, 20801) N lay r' h') : St E (mL_law nm) 1350 [some (.ref b0), some (.ref c), some (.ref b), some (vI i)] [] (122, 20801) N lay r h := by
  obtain ⟨q, n, tx, ep, km, mp, F, ux, sz, ho, sn, row, hI, hM, hle⟩ := hLI
  have hP0 := hI.2.2.2.2.2.1 0 (by omega) (by omega) (by have := hI.2.2.2.2.1.2.1; omega)
  rw [hI.2.2.2.2.2.2.1.1] at hP0
  have hT := hP0.1
  have hR := hP0.2.1
  have hep := hI.2.2.2.2.1
  have cl0 : lay c = (8, 0) := hI.1.1
  obtain ⟨a1, ha1⟩ : ∃ z, sx (i + 1) = z := ⟨_, rfl⟩
  have g1 := sc_rng hX (i + 1)
  rw [ha1] at g1
  obtain ⟨a2, ha2⟩ : ∃ z, sx (i + 2) = z := ⟨_, rfl⟩
  have g2 := sc_rng hX (i + 2)
  rw [ha2] at g2
  obtain ⟨a3, ha3⟩ : ∃ z, sx (i + 3) = z := ⟨_, rfl⟩
  have g3 := sc_rng hX (i + 3)
  rw [ha3] at g3
  by_cases hc : (0 ≤ a1 ∧ a1 < 16) ∧ (10 ≤ a2 ∧ a2 ≤ 9 + mp 130) ∧ (0 ≤ a3 ∧ a3 ≤ 1)
  · by_cases hn : sn = 6
    · refine r_aload_1 (pc := 1350) dL_law_1350 ?_
      refine r_aload_0 (pc := 1351) dL_law_1351 ?_
      refine r_iload_3 (pc := 1352) dL_law_1352 ?_
      refine r_iconst (pc := 1353) dL_law_1353 ?_
      refine r_iadd (pc := 1354) dL_law_1354 ?_
      refine r_sld (pc := 1355) hX dL_law_1355 (by omega) (by omega) (fun i_1355 => ?_)
      rw [ha1]
      refine r_aload_0 (pc := 1356) dL_law_1356 ?_
      refine r_iload_3 (pc := 1357) dL_law_1357 ?_
      refine r_iconst (pc := 1358) dL_law_1358 ?_
      refine r_iadd (pc := 1359) dL_law_1359 ?_
      refine r_sld (pc := 1360) hX dL_law_1360 (by omega) (by omega) (fun i_1360 => ?_)
      rw [ha2]
      refine r_aload_0 (pc := 1361) dL_law_1361 ?_
      refine r_iload_3 (pc := 1362) dL_law_1362 ?_
      refine r_iconst (pc := 1363) dL_law_1363 ?_
      refine r_iadd (pc := 1364) dL_law_1364 ?_
      refine r_sld (pc := 1365) hX dL_law_1365 (by omega) (by omega) (fun i_1365 => ?_)
      rw [ha3]
      refine k_VI3 (pc := 1366) c_X7_seen lk_L_169 ⟨(Nat.le_of_ble_eq_true rfl), (Nat.le_of_ble_eq_true rfl)⟩ ⟨rfl, rfl⟩ ⟨(Nat.le_of_ble_eq_true rfl), (Nat.le_of_ble_eq_true rfl)⟩ (k := 7) rfl (by decide) cl0 dL_law_1366 (Nat.le_of_ble_eq_true rfl) ?_
      refine ⟨c, q, n, tx, ep, km, mp, F, ux, sz, ho, sn, row, a1, a2, a3, rfl, hI, g1, g2, g3, fun z => absurd hc z, fun _ => ⟨fun _ => ?_, fun z => absurd hn z⟩⟩
      have hM2 := hM
      obtain ⟨hMd2, ⟨e0, e5, e17, e19⟩, ⟨e1, e2, e12, e14, e15, e17r⟩, hWa2, hz2, hkp2, hes2⟩ := id hM2
      refine r_aload_2 (pc := 1369) dL_law_1369 ?_
      refine r_aload_0 (pc := 1370) dL_law_1370 ?_
      refine r_iload_3 (pc := 1371) dL_law_1371 ?_
      refine r_iconst (pc := 1372) dL_law_1372 ?_
      refine r_iadd (pc := 1373) dL_law_1373 ?_
      refine r_sld (pc := 1374) hX dL_law_1374 (by omega) (by omega) (fun i_1374 => ?_)
      rw [ha1]
      refine r_aload_0 (pc := 1375) dL_law_1375 ?_
      refine r_iload_3 (pc := 1376) dL_law_1376 ?_
      refine r_iconst (pc := 1377) dL_law_1377 ?_
      refine r_iadd (pc := 1378) dL_law_1378 ?_
      refine r_sld (pc := 1379) hX dL_law_1379 (by omega) (by omega) (fun i_1379 => ?_)
      rw [ha2]
      refine r_aload_0 (pc := 1380) dL_law_1380 ?_
      refine r_iload_3 (pc := 1381) dL_law_1381 ?_
      refine r_iconst (pc := 1382) dL_law_1382 ?_
      refine r_iadd (pc := 1383) dL_law_1383 ?_
      refine r_sld (pc := 1384) hX dL_law_1384 (by omega) (by omega) (fun i_1384 => ?_)
      rw [ha3]
      refine k_VI3 (pc := 1385) c_X8_seen lk_L_172 ⟨(Nat.le_of_ble_eq_true rfl), (Nat.le_of_ble_eq_true rfl)⟩ ⟨rfl, rfl⟩ ⟨(Nat.le_of_ble_eq_true rfl), (Nat.le_of_ble_eq_true rfl)⟩ (k := 8) rfl (by decide) hMd2.1 dL_law_1385 (Nat.le_of_ble_eq_true rfl) ?_
      refine ⟨b, mp, a1, a2, a3, rfl, hMd2, e2, hT, hR, g1, g2, g3, (by rw [e19]; exact hI.2.2.2.2.2.2.2.2.2.2.1), fun z => absurd hc z, fun _ => ⟨fun _ => ?_, fun z => absurd (e19.trans hn) z⟩⟩
      refine r_same (pc := 1388) (tgt := 1462) (by first | rfl | (simp only [e0, e5, e17, e19, e1, e2, e12, e14, e15, e17r])) dL_law_1388 (by decide) ?_
      exact K r h ⟨q, n, tx, ep, km, mp, F, ux, sz, ho, sn, row, hI, hM2, by omega⟩
    · refine r_aload_1 (pc := 1350) dL_law_1350 ?_
      refine r_aload_0 (pc := 1351) dL_law_1351 ?_
      refine r_iload_3 (pc := 1352) dL_law_1352 ?_
      refine r_iconst (pc := 1353) dL_law_1353 ?_
      refine r_iadd (pc := 1354) dL_law_1354 ?_
      refine r_sld (pc := 1355) hX dL_law_1355 (by omega) (by omega) (fun i_1355 => ?_)
      rw [ha1]
      refine r_aload_0 (pc := 1356) dL_law_1356 ?_
      refine r_iload_3 (pc := 1357) dL_law_1357 ?_
      refine r_iconst (pc := 1358) dL_law_1358 ?_
      refine r_iadd (pc := 1359) dL_law_1359 ?_
      refine r_sld (pc := 1360) hX dL_law_1360 (by omega) (by omega) (fun i_1360 => ?_)
      rw [ha2]
      refine r_aload_0 (pc := 1361) dL_law_1361 ?_
      refine r_iload_3 (pc := 1362) dL_law_1362 ?_
      refine r_iconst (pc := 1363) dL_law_1363 ?_
      refine r_iadd (pc := 1364) dL_law_1364 ?_
      refine r_sld (pc := 1365) hX dL_law_1365 (by omega) (by omega) (fun i_1365 => ?_)
      rw [ha3]
      refine k_VI3 (pc := 1366) c_X7_seen lk_L_169 ⟨(Nat.le_of_ble_eq_true rfl), (Nat.le_of_ble_eq_true rfl)⟩ ⟨rfl, rfl⟩ ⟨(Nat.le_of_ble_eq_true rfl), (Nat.le_of_ble_eq_true rfl)⟩ (k := 7) rfl (by decide) cl0 dL_law_1366 (Nat.le_of_ble_eq_true rfl) ?_
      refine ⟨c, q, n, tx, ep, km, mp, F, ux, sz, ho, sn, row, a1, a2, a3, rfl, hI, g1, g2, g3, fun z => absurd hc z, fun _ => ⟨fun z => absurd z hn, fun _ h2 f2 hI2 => ?_⟩⟩
      have hM2 : MI lay r h2 b n tx ep km mp F ux sz ho sn row := hM.of (rfl) (fun x x0 x1 => f2 x (by omega))
      obtain ⟨hMd2, ⟨e0, e5, e17, e19⟩, ⟨e1, e2, e12, e14, e15, e17r⟩, hWa2, hz2, hkp2, hes2⟩ := id hM2
      refine r_aload_2 (pc := 1369) dL_law_1369 ?_
      refine r_aload_0 (pc := 1370) dL_law_1370 ?_
      refine r_iload_3 (pc := 1371) dL_law_1371 ?_
      refine r_iconst (pc := 1372) dL_law_1372 ?_
      refine r_iadd (pc := 1373) dL_law_1373 ?_
      refine r_sld (pc := 1374) hX dL_law_1374 (by omega) (by omega) (fun i_1374 => ?_)
      rw [ha1]
      refine r_aload_0 (pc := 1375) dL_law_1375 ?_
      refine r_iload_3 (pc := 1376) dL_law_1376 ?_
      refine r_iconst (pc := 1377) dL_law_1377 ?_
      refine r_iadd (pc := 1378) dL_law_1378 ?_
      refine r_sld (pc := 1379) hX dL_law_1379 (by omega) (by omega) (fun i_1379 => ?_)
      rw [ha2]
      refine r_aload_0 (pc := 1380) dL_law_1380 ?_
      refine r_iload_3 (pc := 1381) dL_law_1381 ?_
      refine r_iconst (pc := 1382) dL_law_1382 ?_
      refine r_iadd (pc := 1383) dL_law_1383 ?_
      refine r_sld (pc := 1384) hX dL_law_1384 (by omega) (by omega) (fun i_1384 => ?_)
      rw [ha3]
      refine k_VI3 (pc := 1385) c_X8_seen lk_L_172 ⟨(Nat.le_of_ble_eq_true rfl), (Nat.le_of_ble_eq_true rfl)⟩ ⟨rfl, rfl⟩ ⟨(Nat.le_of_ble_eq_true rfl), (Nat.le_of_ble_eq_true rfl)⟩ (k := 8) rfl (by decide) hMd2.1 dL_law_1385 (Nat.le_of_ble_eq_true rfl) ?_
      refine ⟨b, mp, a1, a2, a3, rfl, hMd2, e2, hT, hR, g1, g2, g3, (by rw [e19]; exact hI.2.2.2.2.2.2.2.2.2.2.1), fun z => absurd hc z, fun _ => ⟨fun z => absurd (e19.symm.trans z) hn, fun _ => ?_⟩⟩
      refine r_same (pc := 1388) (tgt := 1462) (by first | rfl | (simp only [e0, e5, e17, e19, e1, e2, e12, e14, e15, e17r])) dL_law_1388 (by decide) ?_
      exact K r (hr (hr h2 (b + 17) (up (up (up (h2 (b + 17)) (3 * h2 b 19) a1) (3 * h2 b 19 + 1) a2) (3 * h2 b 19 + 2) a3)) b (up (h2 b) 19 (h2 b 19 + 1))) ⟨q, n, tx, ep, km, mp, F, ux, sz, ho, sn + 1, (up (up (up row (3 * sn) a1) (3 * sn + 1) a2) (3 * sn + 2) a3), hI2.fr (fun x x0 x1 => by rw [hr_n (by omega), hr_n (by omega)]), hM2.g ⟨by rw [hr_s, up_n (by omega)]; exact e0, by rw [hr_s, up_n (by omega)]; exact e5, by rw [hr_s, up_n (by omega)]; exact e17, by rw [hr_s, up_s, e19]⟩ (by rw [hr_n (by omega), hr_n (by omega)]; exact e1) (by rw [hr_n (by omega), hr_n (by omega)]; exact e14) (by rw [hr_n (by omega), hr_n (by omega)]; exact e15) (by rw [hr_n (by omega), hr_s, e17r, e19]) (fun x x0 x1 hx => by rw [hr_n (by omega), hr_n (by omega)]), by omega⟩
  · refine r_aload_1 (pc := 1350) dL_law_1350 ?_
    refine r_aload_0 (pc := 1351) dL_law_1351 ?_
    refine r_iload_3 (pc := 1352) dL_law_1352 ?_
    refine r_iconst (pc := 1353) dL_law_1353 ?_
    refine r_iadd (pc := 1354) dL_law_1354 ?_
    refine r_sld (pc := 1355) hX dL_law_1355 (by omega) (by omega) (fun i_1355 => ?_)
    rw [ha1]
    refine r_aload_0 (pc := 1356) dL_law_1356 ?_
    refine r_iload_3 (pc := 1357) dL_law_1357 ?_
    refine r_iconst (pc := 1358) dL_law_1358 ?_
    refine r_iadd (pc := 1359) dL_law_1359 ?_
    refine r_sld (pc := 1360) hX dL_law_1360 (by omega) (by omega) (fun i_1360 => ?_)
    rw [ha2]
    refine r_aload_0 (pc := 1361) dL_law_1361 ?_
    refine r_iload_3 (pc := 1362) dL_law_1362 ?_
    refine r_iconst (pc := 1363) dL_law_1363 ?_
    refine r_iadd (pc := 1364) dL_law_1364 ?_
    refine r_sld (pc := 1365) hX dL_law_1365 (by omega) (by omega) (fun i_1365 => ?_)
    rw [ha3]
    refine k_VI3 (pc := 1366) c_X7_seen lk_L_169 ⟨(Nat.le_of_ble_eq_true rfl), (Nat.le_of_ble_eq_true rfl)⟩ ⟨rfl, rfl⟩ ⟨(Nat.le_of_ble_eq_true rfl), (Nat.le_of_ble_eq_true rfl)⟩ (k := 7) rfl (by decide) cl0 dL_law_1366 (Nat.le_of_ble_eq_true rfl) ?_
    refine ⟨c, q, n, tx, ep, km, mp, F, ux, sz, ho, sn, row, a1, a2, a3, rfl, hI, g1, g2, g3, fun _ => ?_, fun z => absurd z hc⟩
    have hM2 := hM
    obtain ⟨hMd2, ⟨e0, e5, e17, e19⟩, ⟨e1, e2, e12, e14, e15, e17r⟩, hWa2, hz2, hkp2, hes2⟩ := id hM2
    refine r_aload_2 (pc := 1369) dL_law_1369 ?_
    refine r_aload_0 (pc := 1370) dL_law_1370 ?_
    refine r_iload_3 (pc := 1371) dL_law_1371 ?_
    refine r_iconst (pc := 1372) dL_law_1372 ?_
    refine r_iadd (pc := 1373) dL_law_1373 ?_
    refine r_sld (pc := 1374) hX dL_law_1374 (by omega) (by omega) (fun i_1374 => ?_)
    rw [ha1]
    refine r_aload_0 (pc := 1375) dL_law_1375 ?_
    refine r_iload_3 (pc := 1376) dL_law_1376 ?_
    refine r_iconst (pc := 1377) dL_law_1377 ?_
    refine r_iadd (pc := 1378) dL_law_1378 ?_
    refine r_sld (pc := 1379) hX dL_law_1379 (by omega) (by omega) (fun i_1379 => ?_)
    rw [ha2]
    refine r_aload_0 (pc := 1380) dL_law_1380 ?_
    refine r_iload_3 (pc := 1381) dL_law_1381 ?_
    refine r_iconst (pc := 1382) dL_law_1382 ?_
    refine r_iadd (pc := 1383) dL_law_1383 ?_
    refine r_sld (pc := 1384) hX dL_law_1384 (by omega) (by omega) (fun i_1384 => ?_)
    rw [ha3]
    refine k_VI3 (pc := 1385) c_X8_seen lk_L_172 ⟨(Nat.le_of_ble_eq_true rfl), (Nat.le_of_ble_eq_true rfl)⟩ ⟨rfl, rfl⟩ ⟨(Nat.le_of_ble_eq_true rfl), (Nat.le_of_ble_eq_true rfl)⟩ (k := 8) rfl (by decide) hMd2.1 dL_law_1385 (Nat.le_of_ble_eq_true rfl) ?_
    refine ⟨b, mp, a1, a2, a3, rfl, hMd2, e2, hT, hR, g1, g2, g3, (by rw [e19]; exact hI.2.2.2.2.2.2.2.2.2.2.1), fun _ => ?_, fun z => absurd z hc⟩
    refine r_same (pc := 1388) (tgt := 1462) (by first | rfl | (simp only [e0, e5, e17, e19, e1, e2, e12, e14, e15, e17r])) dL_law_1388 (by decide) ?_
    exact K r h ⟨q, n, tx, ep, km, mp, F, ux, sz, ho, sn, row, hI, hM2, by omega⟩
