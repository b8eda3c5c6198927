/-! THE REFERENCE: its constructor -/
theorem c_X8_init : ConV mX8_init (fun args N lay r h Q => ∃ (b : Nat), args = [.ref b] ∧ N = b + 1 ∧ lay b = (9, 0) ∧ h b = (fun _ => 0) ∧ ∀ (la : LyT) (ra : RfT) (ha : HpT), MdAt la ra b → (∀ x, x < b → la x = lay x ∧ ra x = r x ∧ ha x = h x) → WaT (ha (b + 7)) → ha (b + 2) = m0d 9 → ha b = up (up (up (fun _ => 0) 5 1) 17 (iSl 1 9 - 1)) 19 0 → (∀ q, 0 ≤ q → q < 5 → ha (b + 4) q = if q = 1 then 1 else 0) → ha (b + 3) = kpR (fun _ => 0) (m0d 9) 1 136 → (∀ j, 0 ≤ j → j < 64 → ha (b + 12) j = plc (m0d 9) (j / 4) (j % 4)) → (∀ q, 0 ≤ q → q < 16 → ha (b + 14) q = pb (ha (b + 12)) q) → (∀ q, 0 ≤ q → q < 16 → ha (b + 15) q = 0) → Q (b + 21) la ra ha) := by
  refine ConV.of (by decide) (by rintro _ N lay r h Q ⟨b, rfl, rfl, hl0, h0, hQ⟩; exact ⟨rfl, Nat.le_of_ble_eq_true rfl⟩) ?_
  rintro E _ N lay r h Q ⟨b, rfl, rfl, hl0, h0, hQ⟩ hret
  show St E mX8_init 0 [some (.ref b), none, none, none] [] (0, 0) (b + 1) lay r h
  refine X8_init_A hl0 h0 (fun la ra ha hM hz f18 f19 f20 fr => ?_)
  refine X8_init_B hM (fun f x2 x3 hwa => ?_)
  refine X8_init_C hret (by omega) hM ((hr_n (by omega)).trans (hz _ (by omega) (by omega))) (by rw [hr_s]; exact hwa) ((hr_n (by omega)).trans f18) ((hr_n (by omega)).trans f19) ((hr_n (by omega)).trans f20) (fun h2 g1 g2 g3 g4 g5 g6 g7 g8 => ?_)
  refine hQ la ra h2 hM (fun x hx => ⟨(fr x hx).1, (fr x hx).2.1, ?_⟩) ?_ g2 ?_ g4 ?_ g6 g7 g8
  · rw [g1 x (by omega), hr_n (by omega), hr_n (by omega)]; exact (fr x hx).2.2
  · rw [g1 _ (by omega), hr_n (by omega), hr_s]; exact hwa
  · rw [hr_n (by omega), hr_n (by omega), hz b (by omega) (by omega), show m0d 9 130 = 9 by decide] at g3
    exact g3
  · rw [hr_n (by omega), hr_n (by omega), hz _ (by omega) (by omega)] at g5
    exact g5
