/-! THE REFERENCE: its constructor, the wants -/
def WaP (f : Int → Int) (k : Int) : Prop := ∀ g n t : Int, 0 ≤ g → g < 16 → 0 ≤ n → n < 22 → 0 ≤ t → t < 24 → 550 * g + 25 * n + t < k → f (550 * g + 25 * n + t) = wn (dr g n t)
theorem WaP_s {f : Int → Int} {g n t : Int} (hg : 0 ≤ g ∧ g < 16) (hn : 0 ≤ n ∧ n < 22) (ht : 0 ≤ t ∧ t < 24) (h : WaP f (550 * g + 25 * n + t)) : WaP (up f (550 * g + 25 * n + t) (wn (dr g n t))) (550 * g + 25 * n + (t + 1)) := by
  intro g' n' t' a1 a2 a3 a4 a5 a6 a7
  by_cases e : 550 * g' + 25 * n' + t' = 550 * g + 25 * n + t
  · have e1 : g' = g := by omega
    have e2 : n' = n := by omega
    have e3 : t' = t := by omega
    rw [e1, e2, e3, up_s]
  · rw [up_n e]
    exact h g' n' t' a1 a2 a3 a4 a5 a6 (by omega)
theorem WaP_n {f : Int → Int} {g n : Int} (h : WaP f (550 * g + 25 * n + 24)) : WaP f (550 * g + 25 * (n + 1) + 0) := by
  intro g' n' t' a1 a2 a3 a4 a5 a6 a7
  exact h g' n' t' a1 a2 a3 a4 a5 a6 (by omega)
theorem WaP_g {f : Int → Int} {g : Int} (h : WaP f (550 * g + 25 * 22 + 0)) : WaP f (550 * (g + 1) + 25 * 0 + 0) := by
  intro g' n' t' a1 a2 a3 a4 a5 a6 a7
  exact h g' n' t' a1 a2 a3 a4 a5 a6 (by omega)
theorem WaP_0 {f : Int → Int} : WaP f (550 * 0 + 25 * 0 + 0) := by
  intro g' n' t' a1 a2 a3 a4 a5 a6 a7
  omega
theorem WaP_T {f : Int → Int} (h : WaP f (550 * 16 + 25 * 0 + 0)) : WaT f := fun g' n' t' a1 a2 a3 a4 a5 a6 => h g' n' t' a1 a2 a3 a4 a5 a6 (by omega)
set_option maxHeartbeats 4000000 in
set_option maxRecDepth 20000 in
theorem X8_init_B {E : EnT} {N : Nat} {lay : LyT} {r : RfT} {h : HpT} {b : Nat} (hM : MdAt lay r b) (K : ∀ f x2 x3, WaT f → St E mX8_init 339 [some (.ref b), some (vI 16), x2, x3] [] (20, 10346) N lay r (hr h (b + 7) f)) : St E mX8_init 271 [some (.ref b), none, none, none] [] (20, 10346) N lay r h := by
  obtain ⟨ml0, ml1, ml2, ml3, ml4, ml5, ml6, ml7, ml8, ml9, ml10, ml11, ml12, ml13, ml14, ml15, ml16, ml17, ml18, ml19, ml20, mr1, mr2, mr3, mr4, mr5, mr6, mr7, mr8, mr9, mr10, mr11, mr12, mr13, mr14, mr15, mr16, mr17, mr18, mr19, mr20⟩ := id hM
  have lt : ∀ (g : Int) (n : Int) (hg : 0 ≤ g ∧ g < 16) (hn : 0 ≤ n ∧ n < 22) (K : ∀ f, WaP f (550 * g + 25 * n + 24) → St E mX8_init 327 [some (.ref b), some (vI g), some (vI n), some (vI 24)] [] (20, 10346) N lay r (hr h (b + 7) f)) (n_ : Nat) (t : Int) (f : Int → Int), (24 - t).toNat = n_ → (0 ≤ t ∧ t ≤ 24) → (WaP f (550 * g + 25 * n + t)) → St E mX8_init 289 [some (.ref b), some (vI g), some (vI n), some (vI t)] [] (20, 10346) N lay r (hr h (b + 7) f) := by
    intro g n hg hn K n_
    induction n_ using Nat.strongRecOn with
    | ind n_ ih =>
      intro t f hn_ ht hP
      have eW : (hr h (b + 7) f) (b + 7) = f := hr_s
      have dq := dr_r g n t
      have wq := wn_r dq
      refine r_iload_3 (pc := 289) dX8_init_289 ?_
      refine r_bipush (pc := 290) dX8_init_290 (by decide) ?_
      refine r_icmp_ge (pc := 292) (tgt := 327) dX8_init_292 (by decide) (by omega) (by omega) (fun c_292 => ?_) (fun c_292 => ?_)
      · have ht9 : t = 24 := by omega
        subst ht9
        exact K f hP
      · refine r_aload_0 (pc := 295) dX8_init_295 ?_
        refine gf_X8_28 (pc := 296) rfl (by assumption) dX8_init_296 (by assumption) ?_
        refine r_sipush (pc := 299) dX8_init_299 (by decide) ?_
        refine r_iload_1 (pc := 302) dX8_init_302 ?_
        refine r_imul (pc := 303) dX8_init_303 ?_
        refine r_bipush (pc := 304) dX8_init_304 (by decide) ?_
        refine r_iload_2 (pc := 306) dX8_init_306 ?_
        refine r_imul (pc := 307) dX8_init_307 ?_
        refine r_iadd (pc := 308) dX8_init_308 ?_
        refine r_iload_3 (pc := 309) dX8_init_309 ?_
        refine r_iadd (pc := 310) dX8_init_310 ?_
        refine r_iload_1 (pc := 311) dX8_init_311 ?_
        refine r_iload_2 (pc := 312) dX8_init_312 ?_
        refine r_iload_3 (pc := 313) dX8_init_313 ?_
        refine k_SI3 (pc := 314) c_X8_drawn lk_X8_70 ⟨Nat.le_of_ble_eq_true rfl, Nat.le_of_ble_eq_true rfl⟩ ⟨rfl, rfl⟩ ⟨Nat.le_of_ble_eq_true rfl, Nat.le_of_ble_eq_true rfl⟩ dX8_init_314 (Nat.le_of_ble_eq_true rfl) ?_
        refine ⟨_, _, _, rfl, by omega, by omega, by omega, ?_⟩
        refine k_SI1 (pc := 317) c_X8_wanted lk_X8_74 ⟨Nat.le_of_ble_eq_true rfl, Nat.le_of_ble_eq_true rfl⟩ ⟨rfl, rfl⟩ ⟨Nat.le_of_ble_eq_true rfl, Nat.le_of_ble_eq_true rfl⟩ dX8_init_317 (Nat.le_of_ble_eq_true rfl) ?_
        refine ⟨_, rfl, by omega, ?_⟩
        refine r_iastE (pc := 320) (by assumption) (by first | assumption | exact rfl) dX8_init_320 (by omega) (by omega) (by omega) ?_
        refine r_iinc_3 (pc := 321) dX8_init_321 rfl ?_
        refine r_goto (pc := 324) (tgt := 289) dX8_init_324 (by decide) ?_
        rw [hr_hr]
        exact ih _ (by omega) (t + 1) _ rfl (by omega) (WaP_s hg hn (by omega) hP)
  have ln : ∀ (g : Int) (hg : 0 ≤ g ∧ g < 16) (K : ∀ f x3, WaP f (550 * g + 25 * 22 + 0) → St E mX8_init 333 [some (.ref b), some (vI g), some (vI 22), x3] [] (20, 10346) N lay r (hr h (b + 7) f)) (n_ : Nat) (n : Int) (f : Int → Int) (x3 : Option Value), (22 - n).toNat = n_ → (0 ≤ n ∧ n ≤ 22) → (WaP f (550 * g + 25 * n + 0)) → St E mX8_init 281 [some (.ref b), some (vI g), some (vI n), x3] [] (20, 10346) N lay r (hr h (b + 7) f) := by
    intro g hg K n_
    induction n_ using Nat.strongRecOn with
    | ind n_ ih =>
      intro n f x3 hn_ hn hP
      refine r_iload_2 (pc := 281) dX8_init_281 ?_
      refine r_bipush (pc := 282) dX8_init_282 (by decide) ?_
      refine r_icmp_ge (pc := 284) (tgt := 333) dX8_init_284 (by decide) (by omega) (by omega) (fun c_284 => ?_) (fun c_284 => ?_)
      · have hn9 : n = 22 := by omega
        subst hn9
        exact K f _ hP
      · refine r_iconst (pc := 287) dX8_init_287 ?_
        refine r_istore_3 (pc := 288) dX8_init_288 rfl ?_
        refine lt g n hg (by omega) (fun f2 hP2 => ?_) _ 0 f rfl (by omega) hP
        refine r_iinc_2 (pc := 327) dX8_init_327 rfl ?_
        refine r_goto (pc := 330) (tgt := 281) dX8_init_330 (by decide) ?_
        exact ih _ (by omega) (n + 1) _ _ rfl (by omega) (WaP_n hP2)
  have lg : ∀ (n_ : Nat) (g : Int) (f : Int → Int) (x2 : Option Value) (x3 : Option Value), (16 - g).toNat = n_ → (0 ≤ g ∧ g ≤ 16) → (WaP f (550 * g + 25 * 0 + 0)) → St E mX8_init 273 [some (.ref b), some (vI g), x2, x3] [] (20, 10346) N lay r (hr h (b + 7) f) := by
    intro  n_
    induction n_ using Nat.strongRecOn with
    | ind n_ ih =>
      intro g f x2 x3 hn_ hg hP
      refine r_iload_1 (pc := 273) dX8_init_273 ?_
      refine r_bipush (pc := 274) dX8_init_274 (by decide) ?_
      refine r_icmp_ge (pc := 276) (tgt := 339) dX8_init_276 (by decide) (by omega) (by omega) (fun c_276 => ?_) (fun c_276 => ?_)
      · have hg9 : g = 16 := by omega
        subst hg9
        exact K f _ _ (WaP_T hP)
      · refine r_iconst (pc := 279) dX8_init_279 ?_
        refine r_istore_2 (pc := 280) dX8_init_280 rfl ?_
        refine ln g (by omega) (fun f2 y3 hP2 => ?_) _ 0 f _ rfl (by omega) hP
        refine r_iinc_1 (pc := 333) dX8_init_333 rfl ?_
        refine r_goto (pc := 336) (tgt := 273) dX8_init_336 (by decide) ?_
        exact ih _ (by omega) (g + 1) _ _ _ rfl (by omega) (WaP_g hP2)
  refine r_iconst (pc := 271) dX8_init_271 ?_
  refine r_istore_1 (pc := 272) dX8_init_272 rfl ?_
  have hz := lg _ 0 (h (b + 7)) none none rfl (by omega) WaP_0
  rw [hr_id] at hz
  exact hz
