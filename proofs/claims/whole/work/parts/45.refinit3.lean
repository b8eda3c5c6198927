/-! THE REFERENCE: its constructor, the first map -/
def m0b : Int → Int := up (up (up (up (bgn (fun _ => 0)) 128 3) 129 5) 130 9) 131 3
def m0r (i : Int) : Int → Int := fun q => if 4 ≤ q ∧ q < 4 + i then fRk (q - 4) else m0b q
def m0d (i : Int) : Int → Int := fun q => if 10 ≤ q ∧ q < 10 + i then fDk (q - 10) else if 32 ≤ q ∧ q < 32 + i then fWt (q - 32) else if 54 ≤ q ∧ q < 54 + i then 90 else if 76 ≤ q ∧ q < 76 + i then 16 else m0r 5 q
theorem m0r_0 : m0r 0 = m0b := funext (fun q => if_neg (by omega))
theorem m0r_s {i : Int} (h : 0 ≤ i) : up (m0r i) (4 + i) (fRk i) = m0r (i + 1) := by
  funext q
  by_cases e : q = 4 + i
  · rw [e, up_s]
    unfold m0r
    rw [if_pos (by omega), show 4 + i - 4 = i by omega]
  · rw [up_n e]
    unfold m0r
    by_cases e2 : 4 ≤ q ∧ q < 4 + i
    · rw [if_pos e2, if_pos (by omega)]
    · rw [if_neg e2, if_neg (by omega)]
theorem m0d_0 : m0d 0 = m0r 5 := by
  funext q
  unfold m0d
  rw [if_neg (by omega), if_neg (by omega), if_neg (by omega), if_neg (by omega)]
theorem m0d_s {i : Int} (h : 0 ≤ i ∧ i < 9) : up (up (up (up (m0d i) (10 + i) (fDk i)) (32 + i) (fWt i)) (54 + i) 90) (76 + i) 16 = m0d (i + 1) := by
  funext q
  by_cases e4 : q = 76 + i
  · rw [e4, up_s]; unfold m0d
    rw [if_neg (by omega), if_neg (by omega), if_neg (by omega), if_pos (by omega)]
  · rw [up_n e4]
    by_cases e3 : q = 54 + i
    · rw [e3, up_s]; unfold m0d
      rw [if_neg (by omega), if_neg (by omega), if_pos (by omega)]
    · rw [up_n e3]
      by_cases e2 : q = 32 + i
      · rw [e2, up_s]; unfold m0d
        rw [if_neg (by omega), if_pos (by omega), show 32 + i - 32 = i by omega]
      · rw [up_n e2]
        by_cases e1 : q = 10 + i
        · rw [e1, up_s]; unfold m0d
          rw [if_pos (by omega), show 10 + i - 10 = i by omega]
        · rw [up_n e1]
          unfold m0d
          simp only [show (10 ≤ q ∧ q < 10 + i) = (10 ≤ q ∧ q < 10 + (i + 1)) by apply propext; omega, show (32 ≤ q ∧ q < 32 + i) = (32 ≤ q ∧ q < 32 + (i + 1)) by apply propext; omega, show (54 ≤ q ∧ q < 54 + i) = (54 ≤ q ∧ q < 54 + (i + 1)) by apply propext; omega, show (76 ≤ q ∧ q < 76 + i) = (76 ≤ q ∧ q < 76 + (i + 1)) by apply propext; omega]
theorem m0_T : TrM (m0d 9) := by
  have e8 : m0d 9 128 = 3 := by decide
  have e9 : m0d 9 129 = 5 := by decide
  have e0 : m0d 9 130 = 9 := by decide
  refine ⟨by omega, by omega, by omega, fun n n0 n1 => ?_, fun n n0 n1 => ?_, fun n n0 n1 => ?_, fun n n0 n1 => ?_⟩
  · rcases (show n = 0 ∨ n = 1 ∨ n = 2 ∨ n = 3 by omega) with rfl | rfl | rfl | rfl <;> decide
  · rcases (show n = 4 ∨ n = 5 ∨ n = 6 ∨ n = 7 ∨ n = 8 by omega) with rfl | rfl | rfl | rfl | rfl <;> decide
  · rcases (show n = 10 ∨ n = 11 ∨ n = 12 ∨ n = 13 ∨ n = 14 ∨ n = 15 ∨ n = 16 ∨ n = 17 ∨ n = 18 by omega) with rfl | rfl | rfl | rfl | rfl | rfl | rfl | rfl | rfl <;> decide
  · rcases (show n = 10 ∨ n = 11 ∨ n = 12 ∨ n = 13 ∨ n = 14 ∨ n = 15 ∨ n = 16 ∨ n = 17 ∨ n = 18 by omega) with rfl | rfl | rfl | rfl | rfl | rfl | rfl | rfl | rfl <;> decide
theorem m0_R : RlM (m0d 9) := by
  have e0 : m0d 9 130 = 9 := by decide
  have e5 : m0d 9 135 = 0 := by decide
  refine ⟨by decide, by decide, by decide, by decide, by decide, fun n n0 n1 => ?_, fun n n0 n1 => by omega⟩
  rcases (show n = 10 ∨ n = 11 ∨ n = 12 ∨ n = 13 ∨ n = 14 ∨ n = 15 ∨ n = 16 ∨ n = 17 ∨ n = 18 by omega) with rfl | rfl | rfl | rfl | rfl | rfl | rfl | rfl | rfl <;> decide
set_option maxHeartbeats 4000000 in
set_option maxRecDepth 20000 in
theorem X8_init_C {E : EnT} {lay : LyT} {r : RfT} {h : HpT} {b : Nat} {N0 N : Nat} {Q : PstV} {x1 x2 x3 : Option Value} (hret : RetV E mX8_init N0 Q) (hN : N = N0 + 20) (hM : MdAt lay r b) (h2 : h (b + 2) = fun _ => 0) (hwa : WaT (h (b + 7))) (ft18 : h (b + 18) = fRk) (ft19 : h (b + 19) = fDk) (ft20 : h (b + 20) = fWt)
    (K : ∀ h2, Fr (hr h (b + 2) (m0d 9)) h2 (fun x => x = b ∨ x = b + 3 ∨ x = b + 4 ∨ x = b + 8 ∨ x = b + 9 ∨ x = b + 10 ∨ x = b + 11 ∨ x = b + 12 ∨ x = b + 14 ∨ x = b + 15) → h2 (b + 2) = m0d 9 → h2 b = up (up (up ((hr h (b + 2) (m0d 9)) b) 5 1) 17 (iSl 1 (m0d 9 130) - 1)) 19 0 → (∀ q, 0 ≤ q → q < 5 → h2 (b + 4) q = if q = 1 then 1 else 0) → h2 (b + 3) = kpR ((hr h (b + 2) (m0d 9)) (b + 3)) (m0d 9) 1 136 → (∀ j, 0 ≤ j → j < 64 → h2 (b + 12) j = plc (m0d 9) (j / 4) (j % 4)) → (∀ q, 0 ≤ q → q < 16 → h2 (b + 14) q = pb (h2 (b + 12)) q) → (∀ q, 0 ≤ q → q < 16 → h2 (b + 15) q = 0) → Q N lay r h2) : St E mX8_init 339 [some (.ref b), x1, x2, x3] [] (20, 10346) N lay r h := by
  obtain ⟨ml0, ml1, ml2, ml3, ml4, ml5, ml6, ml7, ml8, ml9, ml10, ml11, ml12, ml13, ml14, ml15, ml16, ml17, ml18, ml19, ml20, mr1, mr2, mr3, mr4, mr5, mr6, mr7, mr8, mr9, mr10, mr11, mr12, mr13, mr14, mr15, mr16, mr17, mr18, mr19, mr20⟩ := id hM
  have ld : ∀ (n_ : Nat) (i : Int), (9 - i).toNat = n_ → (0 ≤ i ∧ i ≤ 9) → St E mX8_init 413 [some (.ref b), some (vI i), x2, x3] [] (20, 10346) N lay r (hr h (b + 2) (m0d i)) := by
    intro  n_
    induction n_ using Nat.strongRecOn with
    | ind n_ ih =>
      intro i hn_ hi
      have eM : (hr h (b + 2) (m0d i)) (b + 2) = m0d i := hr_s
      have eD : ∀ f, hr h (b + 2) f (b + 19) = fDk := fun f => (hr_n (by omega)).trans ft19
      have eW : ∀ f, hr h (b + 2) f (b + 20) = fWt := fun f => (hr_n (by omega)).trans ft20
      refine r_iload_1 (pc := 413) dX8_init_413 ?_
      refine r_bipush (pc := 414) dX8_init_414 (by decide) ?_
      refine r_icmp_ge (pc := 416) (tgt := 477) dX8_init_416 (by decide) (by omega) (by omega) (fun c_416 => ?_) (fun c_416 => ?_)
      · refine r_aload_0 (pc := 477) dX8_init_477 ?_
        have hi9 : i = 9 := by omega
        subst hi9
        have em2 : (hr h (b + 2) (m0d 9)) (b + 2) = m0d 9 := hr_s
        have hwa2 : WaT ((hr h (b + 2) (m0d 9)) (b + 7)) := by rw [hr_n (by omega)]; exact hwa
        refine k_VV0 (pc := 478) c_X8_lays lk_X8_82 ⟨Nat.le_of_ble_eq_true rfl, Nat.le_of_ble_eq_true rfl⟩ ⟨rfl, rfl⟩ ⟨Nat.le_of_ble_eq_true rfl, Nat.le_of_ble_eq_true rfl⟩ (k := 8) rfl (by decide) (by assumption) dX8_init_478 (Nat.le_of_ble_eq_true rfl) ?_
        refine ⟨_, _, rfl, hM, em2, m0_T, m0_R, hwa2, fun h_478 f_478 o_478 k_478 q_478 a_478 ho_478 hs_478 => ?_⟩
        have m_478 : h_478 (b + 2) = m0d 9 := (f_478 _ (by omega)).trans em2
        refine r_ret (pc := 481) hret dX8_init_481 rfl rfl hN ?_
        exact K h_478 f_478 m_478 o_478 k_478 q_478 a_478 ho_478 hs_478
      · refine r_aload_0 (pc := 419) dX8_init_419 ?_
        refine gf_X8_13 (pc := 420) rfl (by assumption) dX8_init_420 (by assumption) ?_
        refine r_bipush (pc := 423) dX8_init_423 (by decide) ?_
        refine r_iload_1 (pc := 425) dX8_init_425 ?_
        refine r_iadd (pc := 426) dX8_init_426 ?_
        refine r_aload_0 (pc := 427) dX8_init_427 ?_
        refine gf_X8_64 (pc := 428) rfl (by assumption) dX8_init_428 (by assumption) ?_
        refine r_iload_1 (pc := 431) dX8_init_431 ?_
        refine r_ialdE (pc := 432) (by assumption) (eD _) dX8_init_432 (by omega) (by omega) (fun i_432 => ?_)
        refine r_iastE (pc := 433) (by assumption) hr_s dX8_init_433 (by omega) (by omega) (by omega) ?_
        rw [hr_hr]
        refine r_aload_0 (pc := 434) dX8_init_434 ?_
        refine gf_X8_13 (pc := 435) rfl (by assumption) dX8_init_435 (by assumption) ?_
        refine r_bipush (pc := 438) dX8_init_438 (by decide) ?_
        refine r_iload_1 (pc := 440) dX8_init_440 ?_
        refine r_iadd (pc := 441) dX8_init_441 ?_
        refine r_aload_0 (pc := 442) dX8_init_442 ?_
        refine gf_X8_67 (pc := 443) rfl (by assumption) dX8_init_443 (by assumption) ?_
        refine r_iload_1 (pc := 446) dX8_init_446 ?_
        refine r_ialdE (pc := 447) (by assumption) (eW _) dX8_init_447 (by omega) (by omega) (fun i_447 => ?_)
        refine r_iastE (pc := 448) (by assumption) hr_s dX8_init_448 (by omega) (by omega) (by omega) ?_
        rw [hr_hr]
        refine r_aload_0 (pc := 449) dX8_init_449 ?_
        refine gf_X8_13 (pc := 450) rfl (by assumption) dX8_init_450 (by assumption) ?_
        refine r_bipush (pc := 453) dX8_init_453 (by decide) ?_
        refine r_iload_1 (pc := 455) dX8_init_455 ?_
        refine r_iadd (pc := 456) dX8_init_456 ?_
        refine r_bipush (pc := 457) dX8_init_457 (by decide) ?_
        refine r_iastE (pc := 459) (by assumption) hr_s dX8_init_459 (by omega) (by omega) (by omega) ?_
        rw [hr_hr]
        refine r_aload_0 (pc := 460) dX8_init_460 ?_
        refine gf_X8_13 (pc := 461) rfl (by assumption) dX8_init_461 (by assumption) ?_
        refine r_bipush (pc := 464) dX8_init_464 (by decide) ?_
        refine r_iload_1 (pc := 466) dX8_init_466 ?_
        refine r_iadd (pc := 467) dX8_init_467 ?_
        refine r_bipush (pc := 468) dX8_init_468 (by decide) ?_
        refine r_iastE (pc := 470) (by assumption) hr_s dX8_init_470 (by omega) (by omega) (by omega) ?_
        rw [hr_hr]
        refine r_iinc_1 (pc := 471) dX8_init_471 rfl ?_
        refine r_goto (pc := 474) (tgt := 413) dX8_init_474 (by decide) ?_
        rw [m0d_s (by omega)]
        exact ih _ (by omega) (i + 1) rfl (by omega)
  have lr : ∀ (n_ : Nat) (i : Int), (5 - i).toNat = n_ → (0 ≤ i ∧ i ≤ 5) → St E mX8_init 386 [some (.ref b), some (vI i), x2, x3] [] (20, 10346) N lay r (hr h (b + 2) (m0r i)) := by
    intro  n_
    induction n_ using Nat.strongRecOn with
    | ind n_ ih =>
      intro i hn_ hi
      have eM : (hr h (b + 2) (m0r i)) (b + 2) = m0r i := hr_s
      have eR : ∀ f, hr h (b + 2) f (b + 18) = fRk := fun f => (hr_n (by omega)).trans ft18
      refine r_iload_1 (pc := 386) dX8_init_386 ?_
      refine r_iconst (pc := 387) dX8_init_387 ?_
      refine r_icmp_ge (pc := 388) (tgt := 411) dX8_init_388 (by decide) (by omega) (by omega) (fun c_388 => ?_) (fun c_388 => ?_)
      · refine r_iconst (pc := 411) dX8_init_411 ?_
        refine r_istore_1 (pc := 412) dX8_init_412 rfl ?_
        have hi9 : i = 5 := by omega
        subst hi9
        rw [← m0d_0]
        exact ld _ 0 rfl (by omega)
      · refine r_aload_0 (pc := 391) dX8_init_391 ?_
        refine gf_X8_13 (pc := 392) rfl (by assumption) dX8_init_392 (by assumption) ?_
        refine r_iconst (pc := 395) dX8_init_395 ?_
        refine r_iload_1 (pc := 396) dX8_init_396 ?_
        refine r_iadd (pc := 397) dX8_init_397 ?_
        refine r_aload_0 (pc := 398) dX8_init_398 ?_
        refine gf_X8_61 (pc := 399) rfl (by assumption) dX8_init_399 (by assumption) ?_
        refine r_iload_1 (pc := 402) dX8_init_402 ?_
        refine r_ialdE (pc := 403) (by assumption) (eR _) dX8_init_403 (by omega) (by omega) (fun i_403 => ?_)
        refine r_iastE (pc := 404) (by assumption) hr_s dX8_init_404 (by omega) (by omega) (by omega) ?_
        rw [hr_hr]
        refine r_iinc_1 (pc := 405) dX8_init_405 rfl ?_
        refine r_goto (pc := 408) (tgt := 386) dX8_init_408 (by decide) ?_
        rw [m0r_s (by omega)]
        exact ih _ (by omega) (i + 1) rfl (by omega)
  refine r_aload_0 (pc := 339) dX8_init_339 ?_
  refine r_aload_0 (pc := 340) dX8_init_340 ?_
  refine gf_X8_13 (pc := 341) rfl (by assumption) dX8_init_341 (by assumption) ?_
  refine k_VV1 (pc := 344) c_X8_begins lk_X8_78 ⟨Nat.le_of_ble_eq_true rfl, Nat.le_of_ble_eq_true rfl⟩ ⟨rfl, rfl⟩ ⟨Nat.le_of_ble_eq_true rfl, Nat.le_of_ble_eq_true rfl⟩ (k := 8) rfl (by decide) (by assumption) dX8_init_344 (Nat.le_of_ble_eq_true rfl) ?_
  refine ⟨_, _, rfl, by assumption, ?_⟩
  refine r_aload_0 (pc := 347) dX8_init_347 ?_
  refine gf_X8_13 (pc := 348) rfl (by assumption) dX8_init_348 (by assumption) ?_
  refine r_sipush (pc := 351) dX8_init_351 (by decide) ?_
  refine r_iconst (pc := 354) dX8_init_354 ?_
  refine r_iastE (pc := 355) (by assumption) hr_s dX8_init_355 (by omega) (by omega) (by omega) ?_
  rw [hr_hr]
  refine r_aload_0 (pc := 356) dX8_init_356 ?_
  refine gf_X8_13 (pc := 357) rfl (by assumption) dX8_init_357 (by assumption) ?_
  refine r_sipush (pc := 360) dX8_init_360 (by decide) ?_
  refine r_iconst (pc := 363) dX8_init_363 ?_
  refine r_iastE (pc := 364) (by assumption) hr_s dX8_init_364 (by omega) (by omega) (by omega) ?_
  rw [hr_hr]
  refine r_aload_0 (pc := 365) dX8_init_365 ?_
  refine gf_X8_13 (pc := 366) rfl (by assumption) dX8_init_366 (by assumption) ?_
  refine r_sipush (pc := 369) dX8_init_369 (by decide) ?_
  refine r_bipush (pc := 372) dX8_init_372 (by decide) ?_
  refine r_iastE (pc := 374) (by assumption) hr_s dX8_init_374 (by omega) (by omega) (by omega) ?_
  rw [hr_hr]
  refine r_aload_0 (pc := 375) dX8_init_375 ?_
  refine gf_X8_13 (pc := 376) rfl (by assumption) dX8_init_376 (by assumption) ?_
  refine r_sipush (pc := 379) dX8_init_379 (by decide) ?_
  refine r_iconst (pc := 382) dX8_init_382 ?_
  refine r_iastE (pc := 383) (by assumption) hr_s dX8_init_383 (by omega) (by omega) (by omega) ?_
  rw [hr_hr]
  refine r_iconst (pc := 384) dX8_init_384 ?_
  refine r_istore_1 (pc := 385) dX8_init_385 rfl ?_
  rw [h2, show up (up (up (up (bgn (fun _ => 0)) 128 3) 129 5) 130 9) 131 3 = m0r 0 from m0r_0.symm]
  exact lr _ 0 rfl (by omega)
